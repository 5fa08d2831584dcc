/-! ===== the class: the fairest parts ===== -/
abbrev z_f4 (M : z_M) (r7 p w d : Int → Int) : z_M := z_sR (z_sR (z_sR (z_sR M 7 r7) 12 p) 13 w) 14 d
theorem z_f4_id (M : z_M) : M = z_f4 M (M 7) (M 12) (M 13) (M 14) := by
  show M = z_sR (z_sR (z_sR (z_sR M 7 (M 7)) 12 (M 12)) 13 (M 13)) 14 (M 14)
  rw [z_sR_id, z_sR_id, z_sR_id, z_sR_id]
theorem z_f4_7 (M : z_M) (r7 p w d : Int → Int) (i v : Int) : z_sM (z_f4 M r7 p w d) 7 i v = z_f4 M (z_uf r7 i v) p w d := by
  show z_sM (z_sR (z_sR (z_sR (z_sR M 7 r7) 12 p) 13 w) 14 d) 7 i v = _
  rw [← z_sR_sM _ _ _ _ (by decide), ← z_sR_sM _ _ _ _ (by decide), ← z_sR_sM _ _ _ _ (by decide), z_sM_sR]
theorem z_f4_12 (M : z_M) (r7 p w d : Int → Int) (i v : Int) : z_sM (z_f4 M r7 p w d) 12 i v = z_f4 M r7 (z_uf p i v) w d := by
  show z_sM (z_sR (z_sR (z_sR (z_sR M 7 r7) 12 p) 13 w) 14 d) 12 i v = _
  rw [← z_sR_sM _ _ _ _ (by decide), ← z_sR_sM _ _ _ _ (by decide), z_sM_sR]
theorem z_f4_13 (M : z_M) (r7 p w d : Int → Int) (i v : Int) : z_sM (z_f4 M r7 p w d) 13 i v = z_f4 M r7 p (z_uf w i v) d := by
  show z_sM (z_sR (z_sR (z_sR (z_sR M 7 r7) 12 p) 13 w) 14 d) 13 i v = _
  rw [← z_sR_sM _ _ _ _ (by decide), z_sM_sR]
theorem z_f4_14 (M : z_M) (r7 p w d : Int → Int) (i v : Int) : z_sM (z_f4 M r7 p w d) 14 i v = z_f4 M r7 p w (z_uf d i v) := z_sM_sR _ _ _ _ _
theorem z_f4_g {M : z_M} {r7 p w d : Int → Int} {g : Nat} (h : g ≠ 7 ∧ g ≠ 12 ∧ g ≠ 13 ∧ g ≠ 14) : z_f4 M r7 p w d g = M g := by
  show z_sR (z_sR (z_sR (z_sR M 7 r7) 12 p) 13 w) 14 d g = _
  rw [z_sR_ne _ _ h.2.2.2, z_sR_ne _ _ h.2.2.1, z_sR_ne _ _ h.2.1, z_sR_ne _ _ h.1]
/-- the writers of the bits x, with their f: places, f, how many, all of f -/
def z_fg (f : Int → Int) (x : Int) (w0 d0 : Int → Int) : Nat → (Int → Int) × (Int → Int) × Int × Int
  | 0 => (w0, d0, 0, 0)
  | i + 1 => if z_bit x i = 1 ∧ (z_fg f x w0 d0 i).2.2.1 < 4 then (z_uf (z_fg f x w0 d0 i).1 (z_fg f x w0 d0 i).2.2.1 i, z_uf (z_fg f x w0 d0 i).2.1 (z_fg f x w0 d0 i).2.2.1 (f i), (z_fg f x w0 d0 i).2.2.1 + 1, (z_fg f x w0 d0 i).2.2.2 + f i) else z_fg f x w0 d0 i
theorem z_fg_rg {f : Int → Int} {x : Int} {w0 d0 : Int → Int} (hf : ∀ p, 0 ≤ p → p < 12 → 0 ≤ f p ∧ f p ≤ 9) : ∀ n : Nat, n ≤ 12 → (0 ≤ (z_fg f x w0 d0 n).2.2.1 ∧ (z_fg f x w0 d0 n).2.2.1 ≤ 4) ∧ (0 ≤ (z_fg f x w0 d0 n).2.2.2 ∧ (z_fg f x w0 d0 n).2.2.2 ≤ 9 * (z_fg f x w0 d0 n).2.2.1) ∧ ∀ j, 0 ≤ j → j < (z_fg f x w0 d0 n).2.2.1 → (0 ≤ (z_fg f x w0 d0 n).1 j ∧ (z_fg f x w0 d0 n).1 j < n) ∧ (z_fg f x w0 d0 n).2.1 j = f ((z_fg f x w0 d0 n).1 j) := by
  intro n
  induction n with
  | zero => intro _; exact ⟨⟨Int.le_refl 0, by show (0 : Int) ≤ 4; decide⟩, ⟨Int.le_refl 0, by show (0 : Int) ≤ 9 * 0; decide⟩, fun j j0 j1 => by change j < 0 at j1; omega⟩
  | succ n ih =>
    intro hn
    obtain ⟨i1, i2, i3⟩ := ih (by omega)
    have hq := hf n (by omega) (by omega)
    unfold z_fg
    by_cases c : z_bit x n = 1 ∧ (z_fg f x w0 d0 n).2.2.1 < 4
    · rw [if_pos c]
      refine ⟨?_, ?_, fun j j0 j1 => ?_⟩
      · show 0 ≤ (z_fg f x w0 d0 n).2.2.1 + 1 ∧ (z_fg f x w0 d0 n).2.2.1 + 1 ≤ 4
        omega
      · show 0 ≤ (z_fg f x w0 d0 n).2.2.2 + f n ∧ (z_fg f x w0 d0 n).2.2.2 + f n ≤ 9 * ((z_fg f x w0 d0 n).2.2.1 + 1)
        omega
      · change j < (z_fg f x w0 d0 n).2.2.1 + 1 at j1
        show (0 ≤ z_uf (z_fg f x w0 d0 n).1 (z_fg f x w0 d0 n).2.2.1 n j ∧ z_uf (z_fg f x w0 d0 n).1 (z_fg f x w0 d0 n).2.2.1 n j < ((n + 1 : Nat) : Int)) ∧ z_uf (z_fg f x w0 d0 n).2.1 (z_fg f x w0 d0 n).2.2.1 (f n) j = f (z_uf (z_fg f x w0 d0 n).1 (z_fg f x w0 d0 n).2.2.1 n j)
        by_cases e : j = (z_fg f x w0 d0 n).2.2.1
        · subst e
          rw [z_uf_self, z_uf_self]
          exact ⟨by omega, rfl⟩
        · rw [z_uf_ne _ _ e, z_uf_ne _ _ e]
          have h := i3 j j0 (by omega)
          exact ⟨by omega, h.2⟩
    · rw [if_neg c]
      exact ⟨i1, i2, fun j j0 j1 => by have h := i3 j j0 j1; exact ⟨by omega, h.2⟩⟩
def z_kt (w f : Int → Int) : Nat → (Int → Int) → Int → Int
  | 0, r => r
  | n + 1, r => z_uf (z_kt w f n r) (w n) (f n)
def z_ffs (m : Nat) (d : Int → Int) (D : Int) (w R0 : Int → Int) : Nat → Int × Int × (Int → Int)
  | 0 => (0, 1, R0)
  | n + 1 => if 0 < (z_ffs m d D w R0 n).2.1 ∧ (z_ug (z_dg m n) d D (z_ts m n) m * (z_ffs m d D w R0 n).1 - (z_ffs m d D w R0 n).2.1 * z_ts m n < 0 ∨ (z_ug (z_dg m n) d D (z_ts m n) m * (z_ffs m d D w R0 n).1 - (z_ffs m d D w R0 n).2.1 * z_ts m n = 0 ∧ z_ts m n < (z_ffs m d D w R0 n).1)) then (z_ts m n, z_ug (z_dg m n) d D (z_ts m n) m, z_kt w (z_dg m n) m (z_ffs m d D w R0 n).2.2) else z_ffs m d D w R0 n
def z_fe (m : Nat) (d : Int → Int) (D : Int) (w R0 : Int → Int) : Nat → Nat
  | 0 => 0
  | n + 1 => if 0 < (z_ffs m d D w R0 n).2.1 then n + 1 else z_fe m d D w R0 n
theorem z_ffs_fix {m : Nat} {d : Int → Int} {D : Int} {w R0 : Int → Int} {i : Nat} (h : ¬ 0 < (z_ffs m d D w R0 i).2.1) : ∀ j : Nat, z_ffs m d D w R0 (i + j) = z_ffs m d D w R0 i ∧ z_fe m d D w R0 (i + j) = z_fe m d D w R0 i := by
  intro j
  induction j with
  | zero => exact ⟨rfl, rfl⟩
  | succ j ih =>
    have e1 : z_ffs m d D w R0 (i + (j + 1)) = z_ffs m d D w R0 (i + j) := by
      show z_ffs m d D w R0 (i + j + 1) = _
      conv => lhs; unfold z_ffs
      rw [if_neg (fun q => by rw [ih.1] at q; exact h q.1)]
    have e2 : z_fe m d D w R0 (i + (j + 1)) = z_fe m d D w R0 (i + j) := by
      show z_fe m d D w R0 (i + j + 1) = _
      conv => lhs; unfold z_fe
      rw [if_neg (fun q => by rw [ih.1] at q; exact h q)]
    exact ⟨e1.trans ih.1, e2.trans ih.2⟩
theorem z_ffs_rg {m : Nat} {d : Int → Int} {D : Int} {w R0 : Int → Int} (m4 : m ≤ 4) (hd : ∀ j, 0 ≤ j → j < (m : Int) → 0 ≤ d j ∧ d j ≤ 9) (D0 : 0 ≤ D) (D1 : D ≤ 36) : ∀ n : Nat, 0 ≤ (z_ffs m d D w R0 n).1 ∧ (z_ffs m d D w R0 n).1 ≤ 16 ∧ 0 ≤ (z_ffs m d D w R0 n).2.1 ∧ (z_ffs m d D w R0 n).2.1 ≤ 144 := by
  intro n
  induction n with
  | zero => exact ⟨Int.le_refl 0, by show (0 : Int) ≤ 16; decide, by show (0 : Int) ≤ 1; decide, by show (1 : Int) ≤ 144; decide⟩
  | succ n ih =>
    unfold z_ffs
    have a := z_ts_rg n m4
    have b := z_ug_rg (fun j _ _ => z_dg_rg m n j) hd D0 D1 (show 0 ≤ z_ts m n by omega) a.2 m (Nat.le_refl m)
    split
    · exact ⟨by show 0 ≤ z_ts m n; omega, a.2, b.1, b.2⟩
    · exact ih
theorem z_b4 (m : Nat) : ((2 ^ (2 * (m : Int)).toNat : Nat) : Int) = ((4 ^ m : Nat) : Int) := by
  rw [show (2 * (m : Int)).toNat = 2 * m by omega, Nat.pow_mul]
/-- what find leaves -/
abbrev z_fgS (M : z_M) (g : Nat) (k : Int) : (Int → Int) × (Int → Int) × Int × Int := z_fg (z_dr (M g) k) (z_wbs (z_dr (M g) k) 4) (M 13) (M 14) 12
def z_fgm (M : z_M) (g : Nat) (k : Int) : Nat := (z_fgS M g k).2.2.1.toNat
def z_fgn (M : z_M) (g : Nat) (k : Int) : Nat := if z_fgm M g k = 0 then 0 else 4 ^ z_fgm M g k
def z_fgF (M : z_M) (g : Nat) (k : Int) : Int × Int × (Int → Int) := z_ffs (z_fgm M g k) (z_fgS M g k).2.1 (z_fgS M g k).2.2.2 (z_fgS M g k).1 (z_cp (M 12) (fun _ => 0) 0 0 12) (z_fgn M g k)
def z_fgE (M : z_M) (g : Nat) (k : Int) : Nat := z_fe (z_fgm M g k) (z_fgS M g k).2.1 (z_fgS M g k).2.2.2 (z_fgS M g k).1 (z_cp (M 12) (fun _ => 0) 0 0 12) (z_fgn M g k)
def z_fg7 (M : z_M) (g : Nat) (k : Int) : Int → Int := z_uf (z_uf (M 7) 12 (z_fgS M g k).2.2.1) 13 (z_fgS M g k).2.2.2
def z_fiM (M : z_M) (g : Nat) (k : Int) : z_M := z_sR (z_f4 M (z_fg7 M g k) (z_fgF M g k).2.2 (z_fgS M g k).1 (z_fgS M g k).2.1) 15 (z_rw (z_fgm M g k) (M 15) (z_fgE M g k) ((z_fgE M g k : Int) - 1))
theorem z_uf_cm (b : Int → Int) {i j : Int} (v w : Int) (h : i ≠ j) : z_uf (z_uf b i v) j w = z_uf (z_uf b j w) i v := by
  funext q
  unfold z_uf
  by_cases e : q = j
  · rw [if_pos e]; subst e; rw [if_neg (fun c => h c.symm), if_pos rfl]
  · rw [if_neg e]
    by_cases e2 : q = i
    · rw [if_pos e2, if_pos e2]
    · rw [if_neg e2, if_neg e2, if_neg e]
theorem tX1_setTrial {G : z_G} {M : z_M} {c : Int} {m : Nat} (c0 : 0 ≤ c) (c1 : c < 256) (m4 : m ≤ 4) (hm : M 7 12 = (m : Int)) : KX1_setTrial G [.ref (z_ad G 0 28), z_I c] M (.inl (some (z_I (z_ts m c)))) (z_sR M 15 (z_cp (M 15) (z_dg m c) 0 0 m)) := by
  refine z_con (ls := [some (.ref (z_ad G 0 28)), some (z_I c), none, none, none]) (by decide +kernel) (Nat.le_of_ble_eq_true rfl) rfl ?_
  intro Z htb
  refine z_rng fun hr => ?_
  refine z_iloadn dX1_setTrial_0 rfl ?_
  refine z_istoren_2 dX1_setTrial_1 (Nat.le_of_ble_eq_true rfl) rfl ?_
  refine z_iconst dX1_setTrial_2 ?_
  refine z_istoren_3 dX1_setTrial_3 (Nat.le_of_ble_eq_true rfl) rfl ?_
  refine z_aloadn dX1_setTrial_4 rfl ?_
  refine gX1_28 rfl dX1_setTrial_5 ?_
  refine z_iconst dX1_setTrial_8 ?_
  refine z_isub dX1_setTrial_9 ?_
  refine z_istore_4 dX1_setTrial_10 (Nat.le_of_ble_eq_true rfl) rfl ?_
  refine z_mem (M' := z_sR M 15 (z_cp (M 15) (z_dg m c) ((m : Int) - ((0 : Nat) : Int)) ((m : Int) - ((0 : Nat) : Int)) ((0 : Nat) : Int))) (by rw [show ((0 : Nat) : Int) = 0 from rfl, z_cp_0, z_sR_id]) ?_
  have y_e : (m : Int) - 1 = (m : Int) - 1 - ((0 : Nat) : Int) := by omega
  rw [hm, y_e]
  refine z_upn (P := fun i : Nat => z_J G Z _ _ 12 [some (.ref (z_ad G 0 28)), some (z_I c), some (z_I (z_rst c i)), some (z_I (z_sm i (fun t => z_dg m c ((m : Int) - 1 - t)))), some (z_I ((m : Int) - 1 - i))] [] (z_sR M 15 (z_cp (M 15) (z_dg m c) ((m : Int) - i) ((m : Int) - i) i)) 0 0) m ?_ ?_
  · refine z_rng fun hr => ?_
    refine z_iload dX1_setTrial_12 rfl ?_
    refine z_if_lt (tgt := 49) (by first | (exact hr _ _ (by decide)) | (exact hr _ _ (by omega)) | omega) dX1_setTrial_14 (by decide) (fun h14 => ?_) (fun h14 => ?_)
    · refine z_iloadn dX1_setTrial_49 rfl ?_
      exact z_iret dX1_setTrial_50 (by first | rfl | omega) (by rw [show (m : Int) - m = 0 by omega])
    · exfalso; omega
  · intro i hi y_ih
    refine z_rng fun hr => ?_
    have y_r := z_rst_rg c0 i
    refine z_iload dX1_setTrial_12 rfl ?_
    refine z_if_lt (tgt := 49) (by first | (exact hr _ _ (by decide)) | (exact hr _ _ (by omega)) | omega) dX1_setTrial_14 (by decide) (fun h14 => ?_) (fun h14 => ?_)
    · exfalso; omega
    · refine z_aloadn dX1_setTrial_17 rfl ?_
      refine gX1_21 rfl dX1_setTrial_18 ?_
      refine z_iload dX1_setTrial_21 rfl ?_
      refine z_iloadn dX1_setTrial_23 rfl ?_
      refine z_iconst dX1_setTrial_24 ?_
      refine z_irem (by omega) (by omega) (by omega) (by omega) dX1_setTrial_25 ?_
      refine z_iconst dX1_setTrial_26 ?_
      refine z_iadd dX1_setTrial_27 ?_
      refine z_top (v' := 1 + z_rst c i % 4) (Int.add_comm _ _) ?_
      refine z_iast (by rfl) (by first | exact Or.inl (by decide) | exact Or.inl (Or.inl ⟨by decide, hg⟩)) (by omega) (by omega) (by decide) (by first | (exact hr _ _ (by decide)) | (exact hr _ _ (by omega)) | omega) dX1_setTrial_28 ?_
      refine z_rng fun hr => ?_
      refine z_iloadn dX1_setTrial_29 rfl ?_
      refine z_iconst dX1_setTrial_30 ?_
      refine z_idiv (by omega) (by omega) (by omega) (by omega) dX1_setTrial_31 ?_
      refine z_istoren_2 dX1_setTrial_32 (Nat.le_of_ble_eq_true rfl) rfl ?_
      refine z_iloadn dX1_setTrial_33 rfl ?_
      refine z_aloadn dX1_setTrial_34 rfl ?_
      refine gX1_21 rfl dX1_setTrial_35 ?_
      refine z_iload dX1_setTrial_38 rfl ?_
      refine z_iald (by rfl) (by first | exact Or.inl (by decide) | exact Or.inl (Or.inl ⟨by decide, hg⟩)) (by omega) (by omega) (by decide) dX1_setTrial_40 ?_
      refine z_top (v' := z_dg m c ((m : Int) - 1 - i)) ((z_sM_self _ _ _ _).trans (z_dg_at c (by omega))) ?_
      refine z_iadd dX1_setTrial_41 ?_
      refine z_istoren_3 dX1_setTrial_42 (Nat.le_of_ble_eq_true rfl) rfl ?_
      refine z_iinc_4 dX1_setTrial_43 (Nat.le_of_ble_eq_true rfl) rfl ?_
      refine z_goto (tgt := 12) dX1_setTrial_46 (by decide) ?_
      rw [show (m : Int) - 1 - ((i + 1 : Nat) : Int) = (m : Int) - 1 - i + -1 by omega] at y_ih
      refine z_mem ?_ y_ih
      rw [z_sM_sR]
      congr 1
      exact z_cp_p _ _ i (by omega) (by omega) (by rw [z_dg_at c (by omega)]; congr 1; omega)
theorem tX1_gap {G : z_G} {M : z_M} {m : Nat} {S D : Int} {f d : Int → Int} (m4 : m ≤ 4) (hm : M 7 12 = (m : Int)) (hD : M 7 13 = D) (S0 : 0 ≤ S) (S1 : S ≤ 16) (D0 : 0 ≤ D) (D1 : D ≤ 36) (hf : ∀ j, 0 ≤ j → j < (m : Int) → M 15 j = f j) (hf1 : ∀ j, 0 ≤ j → j < (m : Int) → 1 ≤ f j ∧ f j ≤ 4) (hd : ∀ j, 0 ≤ j → j < (m : Int) → M 14 j = d j) (hd1 : ∀ j, 0 ≤ j → j < (m : Int) → 0 ≤ d j ∧ d j ≤ 9) : KX1_gap G [.ref (z_ad G 0 28), z_I S] M (.inl (some (z_I (z_ug f d D S m)))) M := by
  refine z_con (ls := [some (.ref (z_ad G 0 28)), some (z_I S), none, none]) (by decide +kernel) (Nat.le_of_ble_eq_true rfl) rfl ?_
  intro Z htb
  refine z_rng fun hr => ?_
  refine z_iconst dX1_gap_0 ?_
  refine z_istoren_2 dX1_gap_1 (Nat.le_of_ble_eq_true rfl) rfl ?_
  refine z_iconst dX1_gap_2 ?_
  refine z_istoren_3 dX1_gap_3 (Nat.le_of_ble_eq_true rfl) rfl ?_
  refine z_upn (P := fun i : Nat => z_J G Z _ _ 4 [some (.ref (z_ad G 0 28)), some (z_I S), some (z_I (z_ug f d D S i)), some (z_I i)] [] M 0 0) m ?_ ?_
  · refine z_rng fun hr => ?_
    refine z_iloadn dX1_gap_4 rfl ?_
    refine z_aloadn dX1_gap_5 rfl ?_
    refine gX1_28 rfl dX1_gap_6 ?_
    refine z_icmp_ge (tgt := 46) (by first | (exact hr _ _ (by decide)) | (exact hr _ _ (by omega)) | omega) (by first | (exact hr _ _ (by decide)) | (exact hr _ _ (by omega)) | omega) dX1_gap_9 (by decide) (fun h9 => ?_) (fun h9 => ?_)
    · refine z_iloadn dX1_gap_46 rfl ?_
      exact z_iret dX1_gap_47 (by first | rfl | omega) rfl
    · exfalso; omega
  · intro i hi y_ih
    refine z_rng fun hr => ?_
    have y_f := hf1 i (by omega) (by omega)
    have y_d := hd1 i (by omega) (by omega)
    have y_a := z_ab_rg y_f.1 y_f.2 y_d.1 y_d.2 D0 D1 S0 S1
    have y_u := z_ug_rg hf1 hd1 D0 D1 S0 S1 i (by omega)
    have y_s : z_mx (z_ug f d D S i) (z_ab (f i * D - d i * S)) = z_ug f d D S (i + 1) := rfl
    refine z_iloadn dX1_gap_4 rfl ?_
    refine z_aloadn dX1_gap_5 rfl ?_
    refine gX1_28 rfl dX1_gap_6 ?_
    refine z_icmp_ge (tgt := 46) (by first | (exact hr _ _ (by decide)) | (exact hr _ _ (by omega)) | omega) (by first | (exact hr _ _ (by decide)) | (exact hr _ _ (by omega)) | omega) dX1_gap_9 (by decide) (fun h9 => ?_) (fun h9 => ?_)
    · exfalso; omega
    · refine z_iloadn dX1_gap_12 rfl ?_
      refine z_aloadn dX1_gap_13 rfl ?_
      refine gX1_21 rfl dX1_gap_14 ?_
      refine z_iloadn dX1_gap_17 rfl ?_
      refine z_iald (by rfl) (by first | exact Or.inl (by decide) | exact Or.inl (Or.inl ⟨by decide, hg⟩)) (by omega) (by omega) (by decide) dX1_gap_18 ?_
      refine z_top (v' := f i) (hf i (by omega) (by omega)) ?_
      refine z_aloadn dX1_gap_19 rfl ?_
      refine gX1_46 rfl dX1_gap_20 ?_
      refine z_top (v' := D) hD ?_
      refine z_imul dX1_gap_23 ?_
      refine z_aloadn dX1_gap_24 rfl ?_
      refine gX1_18 rfl dX1_gap_25 ?_
      refine z_iloadn dX1_gap_28 rfl ?_
      refine z_iald (by rfl) (by first | exact Or.inl (by decide) | exact Or.inl (Or.inl ⟨by decide, hg⟩)) (by omega) (by omega) (by decide) dX1_gap_29 ?_
      refine z_top (v' := d i) (hd i (by omega) (by omega)) ?_
      refine z_iloadn dX1_gap_30 rfl ?_
      refine z_imul dX1_gap_31 ?_
      refine z_isub dX1_gap_32 ?_
      refine z_mabs (by first | (exact hr _ _ (by decide)) | (exact hr _ _ (by omega)) | omega) rfl wmX1_58 (Nat.le_of_ble_eq_true rfl) (Nat.le_of_ble_eq_true rfl) dX1_gap_33 ?_
      refine z_mmax (by first | (exact hr _ _ (by decide)) | (exact hr _ _ (by omega)) | omega) (by first | (exact hr _ _ (by decide)) | (exact hr _ _ (by omega)) | omega) rfl wmX1_63 (Nat.le_of_ble_eq_true rfl) (Nat.le_of_ble_eq_true rfl) dX1_gap_36 ?_
      rw [y_s]
      refine z_istoren_2 dX1_gap_39 (Nat.le_of_ble_eq_true rfl) rfl ?_
      refine z_iinc_3 dX1_gap_40 (Nat.le_of_ble_eq_true rfl) rfl ?_
      refine z_goto (tgt := 4) dX1_gap_43 (by decide) ?_
      exact y_ih
theorem tX1_keepTrial {G : z_G} {M : z_M} {m : Nat} {w f : Int → Int} (m4 : m ≤ 4) (hm : M 7 12 = (m : Int)) (hw : ∀ j, 0 ≤ j → j < (m : Int) → M 13 j = w j ∧ 0 ≤ w j ∧ w j < 12) (hf : ∀ j, 0 ≤ j → j < (m : Int) → M 15 j = f j) : KX1_keepTrial G [.ref (z_ad G 0 28)] M (.inl none) (z_sR M 12 (z_kt w f m (M 12))) := by
  refine z_con (ls := [some (.ref (z_ad G 0 28)), none]) (by decide +kernel) (Nat.le_of_ble_eq_true rfl) rfl ?_
  intro Z htb
  refine z_rng fun hr => ?_
  refine z_iconst dX1_keepTrial_0 ?_
  refine z_istoren_1 dX1_keepTrial_1 (Nat.le_of_ble_eq_true rfl) rfl ?_
  refine z_mem (M' := z_sR M 12 (z_kt w f 0 (M 12))) (z_sR_id _ _).symm ?_
  refine z_upn (P := fun i : Nat => z_J G Z _ _ 2 [some (.ref (z_ad G 0 28)), some (z_I i)] [] (z_sR M 12 (z_kt w f i (M 12))) 0 0) m ?_ ?_
  · refine z_rng fun hr => ?_
    refine z_iloadn dX1_keepTrial_2 rfl ?_
    refine z_aloadn dX1_keepTrial_3 rfl ?_
    refine gX1_28 rfl dX1_keepTrial_4 ?_
    refine z_top (v' := (m : Int)) hm ?_
    refine z_icmp_ge (tgt := 33) (by first | (exact hr _ _ (by decide)) | (exact hr _ _ (by omega)) | omega) (by first | (exact hr _ _ (by decide)) | (exact hr _ _ (by omega)) | omega) dX1_keepTrial_7 (by decide) (fun h7 => ?_) (fun h7 => ?_)
    · exact z_vret dX1_keepTrial_33 rfl
    · exfalso; omega
  · intro i hi y_ih
    refine z_rng fun hr => ?_
    have y_w := hw i (by omega) (by omega)
    refine z_iloadn dX1_keepTrial_2 rfl ?_
    refine z_aloadn dX1_keepTrial_3 rfl ?_
    refine gX1_28 rfl dX1_keepTrial_4 ?_
    refine z_top (v' := (m : Int)) hm ?_
    refine z_icmp_ge (tgt := 33) (by first | (exact hr _ _ (by decide)) | (exact hr _ _ (by omega)) | omega) (by first | (exact hr _ _ (by decide)) | (exact hr _ _ (by omega)) | omega) dX1_keepTrial_7 (by decide) (fun h7 => ?_) (fun h7 => ?_)
    · exfalso; omega
    · refine z_aloadn dX1_keepTrial_10 rfl ?_
      refine gX1_9 rfl dX1_keepTrial_11 ?_
      refine z_aloadn dX1_keepTrial_14 rfl ?_
      refine gX1_15 rfl dX1_keepTrial_15 ?_
      refine z_iloadn dX1_keepTrial_18 rfl ?_
      refine z_iald (by rfl) (by first | exact Or.inl (by decide) | exact Or.inl (Or.inl ⟨by decide, hg⟩)) (by omega) (by omega) (by decide) dX1_keepTrial_19 ?_
      refine z_top (v' := w i) y_w.1 ?_
      refine z_aloadn dX1_keepTrial_20 rfl ?_
      refine gX1_21 rfl dX1_keepTrial_21 ?_
      refine z_iloadn dX1_keepTrial_24 rfl ?_
      refine z_iald (by rfl) (by first | exact Or.inl (by decide) | exact Or.inl (Or.inl ⟨by decide, hg⟩)) (by omega) (by omega) (by decide) dX1_keepTrial_25 ?_
      refine z_top (v' := f i) (hf i (by omega) (by omega)) ?_
      refine z_iast (by rfl) (by first | exact Or.inl (by decide) | exact Or.inl (Or.inl ⟨by decide, hg⟩)) (by omega) (by omega) (by decide) (by rw [← hf i (by omega) (by omega)]; exact hr 15 i (by decide)) dX1_keepTrial_26 ?_
      refine z_rng fun hr => ?_
      refine z_iinc_1 dX1_keepTrial_27 (Nat.le_of_ble_eq_true rfl) rfl ?_
      refine z_goto (tgt := 2) dX1_keepTrial_30 (by decide) ?_
      refine z_mem ?_ y_ih
      rw [z_sM_sR]
      rfl
theorem tX1_begin {G : z_G} {M : z_M} {g : Nat} {N k : Int} (hg : g < 7) (hb : z_BI (M g) N) (k0 : 0 ≤ k) (k1 : k < 20) : KX1_begin G [.ref (z_ad G 0 28), .ref (z_ad G g 8), z_I k] M (.inl none) (z_f4 M (z_fg7 M g k) (z_cp (M 12) (fun _ => 0) 0 0 12) (z_fgS M g k).1 (z_fgS M g k).2.1) := by
  refine z_con (ls := [some (.ref (z_ad G 0 28)), some (.ref (z_ad G g 8)), some (z_I k), none, none]) (by decide +kernel) (Nat.le_of_ble_eq_true rfl) rfl ?_
  intro Z htb
  refine z_rng fun hr => ?_
  have hh := z_BI_h hb
  have y_Q := fun p p0 p1 => z_BI_Q hb k p k0 k1 p0 p1
  unfold z_QI at y_Q
  have y_hf : ∀ p, 0 ≤ p → p < 12 → 0 ≤ z_dr (M g) k p ∧ z_dr (M g) k p ≤ 9 := fun p p0 p1 => ⟨(y_Q p p0 p1).1, (y_Q p p0 p1).2.1⟩
  have y_w := z_wbs_rg (z_dr (M g) k) 4
  refine z_aloadn dX1_begin_0 rfl ?_
  refine z_iloadn dX1_begin_1 rfl ?_
  refine kX1_42 hg (tX4_writers hg hb (by omega) (by omega)) rfl ⟨(Nat.le_of_ble_eq_true rfl), (Nat.le_of_ble_eq_true rfl)⟩ (Nat.le_of_ble_eq_true rfl) dX1_begin_2 ?_
  refine z_istoren_3 dX1_begin_5 (Nat.le_of_ble_eq_true rfl) rfl ?_
  refine z_aloadn dX1_begin_6 rfl ?_
  refine z_iconst dX1_begin_7 ?_
  refine pX1_28 (by first | (exact hr _ _ (by decide)) | (exact hr _ _ (by omega)) | omega) rfl dX1_begin_8 ?_
  refine z_rng fun hr => ?_
  refine z_aloadn dX1_begin_11 rfl ?_
  refine z_iconst dX1_begin_12 ?_
  refine pX1_46 (by first | (exact hr _ _ (by decide)) | (exact hr _ _ (by omega)) | omega) rfl dX1_begin_13 ?_
  refine z_rng fun hr => ?_
  refine z_iconst dX1_begin_16 ?_
  refine z_istore_4 dX1_begin_17 (Nat.le_of_ble_eq_true rfl) rfl ?_
  refine z_mem (M' := z_f4 M (z_uf (z_uf (M 7) 12 0) 13 0) (z_cp (M 12) (fun _ => 0) 0 0 ((0 : Nat) : Int)) (M 13) (M 14)) (by
    rw [show ((0 : Nat) : Int) = 0 from rfl, z_cp_0, ← z_f4_7, ← z_f4_7, ← z_f4_id]) ?_
  refine z_upn (P := fun i : Nat => z_J G Z _ _ 19 [some (.ref (z_ad G 0 28)), some (.ref (z_ad G g 8)), some (z_I k), some (z_I (z_wbs (z_dr (M g) k) 4)), some (z_I i)] [] (z_f4 M (z_uf (z_uf (M 7) 12 (z_fg (z_dr (M g) k) (z_wbs (z_dr (M g) k) 4) (M 13) (M 14) i).2.2.1) 13 (z_fg (z_dr (M g) k) (z_wbs (z_dr (M g) k) 4) (M 13) (M 14) i).2.2.2) (z_cp (M 12) (fun _ => 0) 0 0 i) (z_fg (z_dr (M g) k) (z_wbs (z_dr (M g) k) 4) (M 13) (M 14) i).1 (z_fg (z_dr (M g) k) (z_wbs (z_dr (M g) k) 4) (M 13) (M 14) i).2.1) 0 0) 12 ?_ ?_
  · refine z_rng fun hr => ?_
    refine z_iload dX1_begin_19 rfl ?_
    refine z_bipush dX1_begin_21 (by decide) ?_
    refine z_icmp_ge (tgt := 116) (by first | (exact hr _ _ (by decide)) | (exact hr _ _ (by omega)) | omega) (by first | (exact hr _ _ (by decide)) | (exact hr _ _ (by omega)) | omega) dX1_begin_23 (by decide) (fun h23 => ?_) (fun h23 => ?_)
    · exact z_vret dX1_begin_116 rfl
    · exfalso; omega
  · intro i hi y_ih
    refine z_rng fun hr => ?_
    have y_b := z_fg_rg (x := z_wbs (z_dr (M g) k) 4) (w0 := M 13) (d0 := M 14) y_hf i (by omega)
    have y_q : 0 ≤ M g (186 + 12 * k + i) ∧ M g (186 + 12 * k + i) ≤ 9 := y_hf i (by omega) (by omega)
    have y_c : z_uf (z_cp (M 12) (fun _ => 0) 0 0 i) i 0 = z_cp (M 12) (fun _ => 0) 0 0 ((i + 1 : Nat) : Int) := z_cp_s _ _ _ _ i (by omega) rfl
    have y_s : z_fg (z_dr (M g) k) (z_wbs (z_dr (M g) k) 4) (M 13) (M 14) (i + 1) = if z_bit (z_wbs (z_dr (M g) k) 4) i = 1 ∧ (z_fg (z_dr (M g) k) (z_wbs (z_dr (M g) k) 4) (M 13) (M 14) i).2.2.1 < 4 then (z_uf (z_fg (z_dr (M g) k) (z_wbs (z_dr (M g) k) 4) (M 13) (M 14) i).1 (z_fg (z_dr (M g) k) (z_wbs (z_dr (M g) k) 4) (M 13) (M 14) i).2.2.1 i, z_uf (z_fg (z_dr (M g) k) (z_wbs (z_dr (M g) k) 4) (M 13) (M 14) i).2.1 (z_fg (z_dr (M g) k) (z_wbs (z_dr (M g) k) 4) (M 13) (M 14) i).2.2.1 (M g (186 + 12 * k + i)), (z_fg (z_dr (M g) k) (z_wbs (z_dr (M g) k) 4) (M 13) (M 14) i).2.2.1 + 1, (z_fg (z_dr (M g) k) (z_wbs (z_dr (M g) k) 4) (M 13) (M 14) i).2.2.2 + M g (186 + 12 * k + i)) else (z_fg (z_dr (M g) k) (z_wbs (z_dr (M g) k) 4) (M 13) (M 14) i) := rfl
    obtain ⟨F, y_F⟩ : ∃ F, (z_fg (z_dr (M g) k) (z_wbs (z_dr (M g) k) 4) (M 13) (M 14) i) = F := ⟨_, rfl⟩
    rw [y_F] at y_b y_s ⊢
    have y_n := y_b.1
    refine z_rng fun hr => ?_
    refine z_iload dX1_begin_19 rfl ?_
    refine z_bipush dX1_begin_21 (by decide) ?_
    refine z_icmp_ge (tgt := 116) (by first | (exact hr _ _ (by decide)) | (exact hr _ _ (by omega)) | omega) (by first | (exact hr _ _ (by decide)) | (exact hr _ _ (by omega)) | omega) dX1_begin_23 (by decide) (fun h23 => ?_) (fun h23 => ?_)
    · exfalso; omega
    · refine z_aloadn dX1_begin_26 rfl ?_
      refine gX1_9 rfl dX1_begin_27 ?_
      refine z_iload dX1_begin_30 rfl ?_
      refine z_iconst dX1_begin_32 ?_
      refine z_iast (by rfl) (by first | exact Or.inl (by decide) | exact Or.inl (Or.inl ⟨by decide, hg⟩)) (by omega) (by omega) (by decide) (by first | (exact hr _ _ (by decide)) | (exact hr _ _ (by omega)) | omega) dX1_begin_33 ?_
      refine z_rng fun hr => ?_
      refine z_iloadn dX1_begin_34 rfl ?_
      refine z_iload dX1_begin_35 rfl ?_
      refine kX1_49 (tX6_isIn (by omega) (by omega) (by omega) (by omega)) rfl ⟨(Nat.le_of_ble_eq_true rfl), (Nat.le_of_ble_eq_true rfl)⟩ (Nat.le_of_ble_eq_true rfl) dX1_begin_37 ?_
      refine z_ifb_eq (tgt := 110) dX1_begin_40 (by decide) (fun h40 => ?_) (fun h40 => ?_)
      · refine z_iinc_4 dX1_begin_110 (Nat.le_of_ble_eq_true rfl) rfl ?_
        refine z_goto (tgt := 19) dX1_begin_113 (by decide) ?_
        first
          | (rw [y_s, if_neg (fun q => h40 q.1)] at y_ih
             refine z_mem ?_ y_ih
             rw [← y_c, z_f4_12])
          | (rw [y_s, if_neg (by omega)] at y_ih
             refine z_mem ?_ y_ih
             rw [← y_c, z_f4_12])
          | (rw [y_s, if_pos ⟨h40, by omega⟩] at y_ih
             refine z_mem ?_ y_ih
             rw [z_f4_12, z_f4_13, z_f4_14, z_f4_7, z_f4_7, y_c, z_uf_uf, z_uf_cm _ _ _ (show (13 : Int) ≠ 12 by decide), z_uf_uf])
      · refine z_aloadn dX1_begin_43 rfl ?_
        refine gX1_28 rfl dX1_begin_44 ?_
        refine z_top (v' := F.2.2.1) rfl ?_
        refine z_iconst dX1_begin_47 ?_
        refine z_icmp_ge (tgt := 110) (by omega) (by decide) dX1_begin_48 (by decide) (fun h48 => ?_) (fun h48 => ?_)
        · refine z_iinc_4 dX1_begin_110 (Nat.le_of_ble_eq_true rfl) rfl ?_
          refine z_goto (tgt := 19) dX1_begin_113 (by decide) ?_
          first
            | (rw [y_s, if_neg (fun q => h40 q.1)] at y_ih
               refine z_mem ?_ y_ih
               rw [← y_c, z_f4_12])
            | (rw [y_s, if_neg (by omega)] at y_ih
               refine z_mem ?_ y_ih
               rw [← y_c, z_f4_12])
            | (rw [y_s, if_pos ⟨h40, by omega⟩] at y_ih
               refine z_mem ?_ y_ih
               rw [z_f4_12, z_f4_13, z_f4_14, z_f4_7, z_f4_7, y_c, z_uf_uf, z_uf_cm _ _ _ (show (13 : Int) ≠ 12 by decide), z_uf_uf])
        · refine z_aloadn dX1_begin_51 rfl ?_
          refine gX1_15 rfl dX1_begin_52 ?_
          refine z_aloadn dX1_begin_55 rfl ?_
          refine gX1_28 rfl dX1_begin_56 ?_
          refine z_top (v' := F.2.2.1) rfl ?_
          refine z_iload dX1_begin_59 rfl ?_
          refine z_iast (by rfl) (by first | exact Or.inl (by decide) | exact Or.inl (Or.inl ⟨by decide, hg⟩)) (by omega) (by omega) (by decide) (by first | (exact hr _ _ (by decide)) | (exact hr _ _ (by omega)) | omega) dX1_begin_61 ?_
          refine z_rng fun hr => ?_
          refine z_aloadn dX1_begin_62 rfl ?_
          refine gX1_18 rfl dX1_begin_63 ?_
          refine z_aloadn dX1_begin_66 rfl ?_
          refine gX1_28 rfl dX1_begin_67 ?_
          refine z_top (v' := F.2.2.1) rfl ?_
          refine z_aloadn dX1_begin_70 rfl ?_
          refine gX1_53 hg rfl dX1_begin_71 ?_
          refine z_iloadn dX1_begin_74 rfl ?_
          refine z_iload dX1_begin_75 rfl ?_
          refine kX1_54 tX6_at rfl ⟨(Nat.le_of_ble_eq_true rfl), (Nat.le_of_ble_eq_true rfl)⟩ (Nat.le_of_ble_eq_true rfl) dX1_begin_77 ?_
          refine z_iald (by rfl) (by first | exact Or.inl (by decide) | exact Or.inl (Or.inl ⟨by decide, hg⟩)) (by omega) (by omega) (by decide) dX1_begin_80 ?_
          refine z_top (v' := M g (186 + 12 * k + (i : Int))) (by rw [z_sM_row _ _ _ (by omega), z_sM_row _ _ _ (by omega), z_f4_g (by omega)]; congr 1; omega) ?_
          refine z_iast (by rfl) (by first | exact Or.inl (by decide) | exact Or.inl (Or.inl ⟨by decide, hg⟩)) (by omega) (by omega) (by decide) (by omega) dX1_begin_81 ?_
          refine z_rng fun hr => ?_
          refine z_aloadn dX1_begin_82 rfl ?_
          refine z_dup dX1_begin_83 rfl ?_
          refine gX1_46 rfl dX1_begin_84 ?_
          refine z_top (v' := F.2.2.2) rfl ?_
          refine z_aloadn dX1_begin_87 rfl ?_
          refine gX1_18 rfl dX1_begin_88 ?_
          refine z_aloadn dX1_begin_91 rfl ?_
          refine gX1_28 rfl dX1_begin_92 ?_
          refine z_top (v' := F.2.2.1) rfl ?_
          refine z_iald (by rfl) (by first | exact Or.inl (by decide) | exact Or.inl (Or.inl ⟨by decide, hg⟩)) (by omega) (by omega) (by decide) dX1_begin_95 ?_
          refine z_top (v' := M g (186 + 12 * k + (i : Int))) (z_sM_self _ _ _ _) ?_
          refine z_iadd dX1_begin_96 ?_
          refine pX1_46 (by first | (exact hr _ _ (by decide)) | (exact hr _ _ (by omega)) | omega) rfl dX1_begin_97 ?_
          refine z_rng fun hr => ?_
          refine z_aloadn dX1_begin_100 rfl ?_
          refine z_dup dX1_begin_101 rfl ?_
          refine gX1_28 rfl dX1_begin_102 ?_
          refine z_top (v' := F.2.2.1) rfl ?_
          refine z_iconst dX1_begin_105 ?_
          refine z_iadd dX1_begin_106 ?_
          refine pX1_28 (by first | (exact hr _ _ (by decide)) | (exact hr _ _ (by omega)) | omega) rfl dX1_begin_107 ?_
          refine z_rng fun hr => ?_
          refine z_iinc_4 dX1_begin_110 (Nat.le_of_ble_eq_true rfl) rfl ?_
          refine z_goto (tgt := 19) dX1_begin_113 (by decide) ?_
          first
            | (rw [y_s, if_neg (fun q => h40 q.1)] at y_ih
               refine z_mem ?_ y_ih
               rw [← y_c, z_f4_12])
            | (rw [y_s, if_neg (by omega)] at y_ih
               refine z_mem ?_ y_ih
               rw [← y_c, z_f4_12])
            | (rw [y_s, if_pos ⟨h40, by omega⟩] at y_ih
               refine z_mem ?_ y_ih
               rw [z_f4_12, z_f4_13, z_f4_14, z_f4_7, z_f4_7, y_c, z_uf_uf, z_uf_cm _ _ _ (show (13 : Int) ≠ 12 by decide), z_uf_uf])
