/-! ===== the pens who wrote drafts ===== -/
/-- how often p is among w 0 .. w (m - 1) -/
def z_cw (w : Int → Int) (m p : Int) : Int := z_sm m.toNat (fun i => if w i = p then 1 else 0)
theorem z_cw_nn (w : Int → Int) (m p : Int) : 0 ≤ z_cw w m p := z_sm_nn fun i _ => by split <;> omega
/-- of the pens 0 .. n - 1 that aren't taken the one with the greatest f above 0, the first of several; -1: none -/
def z_nx (f u : Int → Int) : Nat → Int
  | 0 => -1
  | n + 1 => if 0 < f n ∧ u n = 0 ∧ (z_nx f u n = -1 ∨ f (z_nx f u n) < f n) then n else z_nx f u n
theorem z_nx_rg (f u : Int → Int) : ∀ n : Nat, -1 ≤ z_nx f u n ∧ z_nx f u n < n := by
  intro n
  induction n with
  | zero => exact ⟨Int.le_refl _, by show (-1 : Int) < 0; decide⟩
  | succ n ih => unfold z_nx; split <;> omega
def z_wst (f : Int → Int) (n : Nat) : Nat → (Int → Int) × Int → (Int → Int) × Int
  | 0, x => x
  | i + 1, x => if z_nx f (z_cw (z_wst f n i x).1 (z_wst f n i x).2) n = -1 then z_wst f n i x else (z_uf (z_wst f n i x).1 (z_wst f n i x).2 (z_nx f (z_cw (z_wst f n i x).1 (z_wst f n i x).2) n), (z_wst f n i x).2 + 1)
theorem z_wst_m (f : Int → Int) (n : Nat) (w : Int → Int) : ∀ i : Nat, 0 ≤ (z_wst f n i (w, 0)).2 ∧ (z_wst f n i (w, 0)).2 ≤ i ∧ ∀ j, 0 ≤ j → j < (z_wst f n i (w, 0)).2 → 0 ≤ (z_wst f n i (w, 0)).1 j ∧ (z_wst f n i (w, 0)).1 j < n := by
  intro i
  induction i with
  | zero => exact ⟨Int.le_refl _, Int.le_refl _, fun j h0 h1 => by change j < 0 at h1; omega⟩
  | succ i ih =>
    have hr := z_nx_rg f (z_cw (z_wst f n i (w, 0)).1 (z_wst f n i (w, 0)).2) n
    unfold z_wst
    split
    · exact ⟨ih.1, by omega, ih.2.2⟩
    · refine ⟨by show 0 ≤ (z_wst f n i (w, 0)).2 + 1; omega, by show (z_wst f n i (w, 0)).2 + 1 ≤ _; omega, fun j h0 h1 => ?_⟩
      show 0 ≤ z_uf _ _ _ j ∧ z_uf _ _ _ j < n
      change j < (z_wst f n i (w, 0)).2 + 1 at h1
      unfold z_uf
      split
      · omega
      · exact ih.2.2 j h0 (by omega)
/-- a step of the sorting: places i, i + 1 -/
def z_sw (w : Int → Int) (m i : Int) : Int → Int := if i + 1 < m ∧ w (i + 1) < w i then z_uf (z_uf w i (w (i + 1))) (i + 1) (w i) else w
def z_bb (m : Int) : Nat → (Int → Int) → Int → Int
  | 0, w => w
  | k + 1, w => z_sw (z_bb m k w) m ((k : Int) % m)
theorem z_sw_rg {w : Int → Int} {m i : Int} {P : Int → Prop} (i0 : 0 ≤ i) (h : ∀ j, 0 ≤ j → j < m → P (w j)) : ∀ j, 0 ≤ j → j < m → P (z_sw w m i j) := by
  intro j j0 j1
  unfold z_sw
  split
  · rename_i q
    unfold z_uf
    split
    · exact h i i0 (by omega)
    · split
      · exact h (i + 1) (by omega) q.1
      · exact h j j0 j1
  · exact h j j0 j1
theorem z_bb_rg {m : Int} {P : Int → Prop} (m0 : 0 < m) : ∀ (k : Nat) (w : Int → Int), (∀ j, 0 ≤ j → j < m → P (w j)) → ∀ j, 0 ≤ j → j < m → P (z_bb m k w j) := by
  intro k
  induction k with
  | zero => intro w h; exact h
  | succ k ih => intro w h; exact z_sw_rg (Int.emod_nonneg _ (by omega)) (ih w h)
abbrev z_dr (b : Int → Int) (k : Int) : Int → Int := fun p => b (186 + 12 * k + p)
def z_WR (b : Int → Int) (k : Int) (w0 : Int → Int) : (Int → Int) × Int := z_wst (z_dr b k) (b 0).toNat 4 (w0, 0)
def z_WS (b : Int → Int) (k : Int) (w0 : Int → Int) : Int → Int := z_bb (z_WR b k w0).2 ((z_WR b k w0).2 * (z_WR b k w0).2).toNat (z_WR b k w0).1
