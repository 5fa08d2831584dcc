/-! ===== the pens who wrote drafts ===== -/
/-- how often p is among w 0 .. w (m - 1) -/
def z_cw (w : Int → Int) (m p : Int) : Int := z_sm m.toNat (fun i => if w i = p then 1 else 0)
theorem z_cw_nn (w : Int → Int) (m p : Int) : 0 ≤ z_cw w m p := z_sm_nn fun i _ => by split <;> omega
/-- of the pens 0 .. n - 1 that aren't taken the one with the greatest f above 0, the first of several; -1: none -/
def z_nx (f u : Int → Int) : Nat → Int
  | 0 => -1
  | n + 1 => if 0 < f n ∧ u n = 0 ∧ (z_nx f u n = -1 ∨ f (z_nx f u n) < f n) then n else z_nx f u n
theorem z_nx_rg (f u : Int → Int) : ∀ n : Nat, -1 ≤ z_nx f u n ∧ z_nx f u n < n := by
  intro n
  induction n with
  | zero => exact ⟨Int.le_refl _, by show (-1 : Int) < 0; decide⟩
  | succ n ih => unfold z_nx; split <;> omega
def z_wst (f : Int → Int) (n : Nat) : Nat → (Int → Int) × Int → (Int → Int) × Int
  | 0, x => x
  | i + 1, x => if z_nx f (z_cw (z_wst f n i x).1 (z_wst f n i x).2) n = -1 then z_wst f n i x else (z_uf (z_wst f n i x).1 (z_wst f n i x).2 (z_nx f (z_cw (z_wst f n i x).1 (z_wst f n i x).2) n), (z_wst f n i x).2 + 1)
theorem z_wst_fix (f : Int → Int) (n : Nat) {i : Nat} {x y : (Int → Int) × Int} (h : z_wst f n i x = y) (hy : z_nx f (z_cw y.1 y.2) n = -1) : ∀ j : Nat, z_wst f n (i + j) x = y := by
  intro j
  induction j with
  | zero => exact h
  | succ j ih => show z_wst f n (i + j + 1) x = y; unfold z_wst; rw [ih, if_pos hy]
theorem z_wst_m (f : Int → Int) (n : Nat) (w : Int → Int) : ∀ i : Nat, 0 ≤ (z_wst f n i (w, 0)).2 ∧ (z_wst f n i (w, 0)).2 ≤ i ∧ ∀ j, 0 ≤ j → j < (z_wst f n i (w, 0)).2 → 0 ≤ (z_wst f n i (w, 0)).1 j ∧ (z_wst f n i (w, 0)).1 j < n := by
  intro i
  induction i with
  | zero => exact ⟨Int.le_refl _, Int.le_refl _, fun j h0 h1 => by change j < 0 at h1; omega⟩
  | succ i ih =>
    have hr := z_nx_rg f (z_cw (z_wst f n i (w, 0)).1 (z_wst f n i (w, 0)).2) n
    unfold z_wst
    split
    · exact ⟨ih.1, by omega, ih.2.2⟩
    · refine ⟨by show 0 ≤ (z_wst f n i (w, 0)).2 + 1; omega, by show (z_wst f n i (w, 0)).2 + 1 ≤ _; omega, fun j h0 h1 => ?_⟩
      show 0 ≤ z_uf _ _ _ j ∧ z_uf _ _ _ j < n
      change j < (z_wst f n i (w, 0)).2 + 1 at h1
      unfold z_uf
      split
      · omega
      · exact ih.2.2 j h0 (by omega)
/-- a step of the sorting: places i, i + 1 -/
def z_sw (w : Int → Int) (m i : Int) : Int → Int := if i + 1 < m ∧ w (i + 1) < w i then z_uf (z_uf w i (w (i + 1))) (i + 1) (w i) else w
def z_bb (m : Int) : Nat → (Int → Int) → Int → Int
  | 0, w => w
  | k + 1, w => z_sw (z_bb m k w) m ((k : Int) % m)
theorem z_sw_rg {w : Int → Int} {m i : Int} {P : Int → Prop} (i0 : 0 ≤ i) (h : ∀ j, 0 ≤ j → j < m → P (w j)) : ∀ j, 0 ≤ j → j < m → P (z_sw w m i j) := by
  intro j j0 j1
  unfold z_sw
  split
  · rename_i q
    unfold z_uf
    split
    · exact h i i0 (by omega)
    · split
      · exact h (i + 1) (by omega) q.1
      · exact h j j0 j1
  · exact h j j0 j1
theorem z_bb_rg {m : Int} {P : Int → Prop} (m0 : 0 < m) : ∀ (k : Nat) (w : Int → Int), (∀ j, 0 ≤ j → j < m → P (w j)) → ∀ j, 0 ≤ j → j < m → P (z_bb m k w j) := by
  intro k
  induction k with
  | zero => intro w h; exact h
  | succ k ih => intro w h; exact z_sw_rg (Int.emod_nonneg _ (by omega)) (ih w h)
abbrev z_dr (b : Int → Int) (k : Int) : Int → Int := fun p => b (186 + 12 * k + p)
def z_WR (b : Int → Int) (k : Int) (w0 : Int → Int) : (Int → Int) × Int := z_wst (z_dr b k) (b 0).toNat 4 (w0, 0)
def z_WS (b : Int → Int) (k : Int) (w0 : Int → Int) : Int → Int := z_bb (z_WR b k w0).2 ((z_WR b k w0).2 * (z_WR b k w0).2).toNat (z_WR b k w0).1
abbrev z_w9 (M : z_M) (w : Int → Int) (m : Int) : z_M := z_sM (z_sR M 29 w) 21 0 m
theorem z_w9_0 (M : z_M) : z_sM M 21 0 0 = z_w9 M (M 29) 0 := by show _ = z_sM (z_sR M 29 (M 29)) 21 0 0; rw [z_sR_id]
theorem z_w9_w (M : z_M) (w : Int → Int) (m i v : Int) : z_sM (z_w9 M w m) 29 i v = z_w9 M (z_uf w i v) m := by
  show z_sM (z_sM (z_sR M 29 w) 21 0 m) 29 i v = _
  rw [z_sM_cm _ _ _ _ _ (show (21 : Nat) ≠ 29 by decide), z_sM_sR]
theorem z_w9_m (M : z_M) (w : Int → Int) (m v : Int) : z_sM (z_w9 M w m) 21 0 v = z_w9 M w v := z_sM_sM _ _ _ _ _
theorem tX7_isWriter {G : z_G} {M : z_M} {p : Int} (rp : z_rg p) (m0 : 0 ≤ M 21 0) (m1 : M 21 0 ≤ 4) : KX7_isWriter G [.ref (z_ad G 0 40), z_I p] M (.inl (some (z_I (if z_cw (M 29) (M 21 0) p ≠ 0 then 1 else 0)))) M := by
  refine z_con (ls := [some (.ref (z_ad G 0 40)), some (z_I p), none, none]) (by decide +kernel) (Nat.le_of_ble_eq_true rfl) rfl ?_
  intro Z htb
  refine z_rng fun hr => ?_
  have y_m := hr 21 0 (by decide)
  refine z_iconst dX7_isWriter_0 ?_
  refine z_istoren_2 dX7_isWriter_1 (Nat.le_of_ble_eq_true rfl) rfl ?_
  refine z_iconst dX7_isWriter_2 ?_
  refine z_istoren_3 dX7_isWriter_3 (Nat.le_of_ble_eq_true rfl) rfl ?_
  refine z_upn (P := fun i : Nat => ∀ x : Int, (x = 1 ∨ x = 0) → (x = 0 ↔ z_sm i (fun i => if M 29 i = p then 1 else 0) = 0) → z_J G Z _ _ 4 [some (.ref (z_ad G 0 40)), some (z_I p), some (z_I x), some (z_I i)] [] M 0 0) (M 21 0).toNat ?_ ?_ 0 (Or.inr rfl) ⟨fun _ => rfl, fun _ => rfl⟩
  · intro x y_x y_y
    have y_c : z_cw (M 29) (M 21 0) p = z_sm (M 21 0).toNat (fun i => if M 29 i = p then 1 else 0) := rfl
    rw [← y_c] at y_y
    refine z_iloadn dX7_isWriter_4 rfl ?_
    refine z_aloadn dX7_isWriter_5 rfl ?_
    refine gX7_166 rfl dX7_isWriter_6 ?_
    refine z_icmp_ge (tgt := 38) (by first | (exact hr _ _ (by decide)) | omega) (by first | (exact hr _ _ (by decide)) | omega) dX7_isWriter_9 (by decide) (fun h9 => ?_) (fun h9 => ?_)
    · refine z_iloadn dX7_isWriter_38 rfl ?_
      exact z_zret dX7_isWriter_39 (by split <;> omega) rfl (by first | decide | (split <;> simp))
    · exfalso; omega
  · intro i hi y_ih x y_x y_y
    have y_s := z_sm_nn (n := i) (f := (fun i => if M 29 i = p then 1 else 0)) (fun i _ => by split <;> omega)
    have y_v := z_sm_s i (fun i => if M 29 i = p then 1 else 0)
    refine z_iloadn dX7_isWriter_4 rfl ?_
    refine z_aloadn dX7_isWriter_5 rfl ?_
    refine gX7_166 rfl dX7_isWriter_6 ?_
    refine z_icmp_ge (tgt := 38) (by first | (exact hr _ _ (by decide)) | omega) (by first | (exact hr _ _ (by decide)) | omega) dX7_isWriter_9 (by decide) (fun h9 => ?_) (fun h9 => ?_)
    · exfalso; omega
    · refine z_iloadn dX7_isWriter_12 rfl ?_
      refine z_if_ne (tgt := 26) (by first | (exact hr _ _ (by decide)) | omega) dX7_isWriter_13 (by decide) (fun h13 => ?_) (fun h13 => ?_)
      · refine z_iconst dX7_isWriter_26 ?_
        refine z_goto (tgt := 31) dX7_isWriter_27 (by decide) ?_
        refine z_istoren_2 dX7_isWriter_31 (Nat.le_of_ble_eq_true rfl) rfl ?_
        refine z_iinc_3 dX7_isWriter_32 (Nat.le_of_ble_eq_true rfl) rfl ?_
        refine z_goto (tgt := 4) dX7_isWriter_35 (by decide) ?_
        first
          | exact y_ih 1 (Or.inl rfl) (by (split at y_v) <;> omega)
          | exact y_ih 0 (Or.inr rfl) (by (split at y_v) <;> omega)
      · refine z_aloadn dX7_isWriter_16 rfl ?_
        refine gX7_31 rfl dX7_isWriter_17 ?_
        refine z_iloadn dX7_isWriter_20 rfl ?_
        refine z_iald (by rfl) (by first | decide | exact Or.inl ⟨by decide, hg⟩) (by omega) (by omega) (by decide) dX7_isWriter_21 ?_
        refine z_iloadn dX7_isWriter_22 rfl ?_
        refine z_icmp_ne (tgt := 30) (by first | (exact hr _ _ (by decide)) | omega) (by first | (exact hr _ _ (by decide)) | omega) dX7_isWriter_23 (by decide) (fun h23 => ?_) (fun h23 => ?_)
        · refine z_iconst dX7_isWriter_30 ?_
          refine z_istoren_2 dX7_isWriter_31 (Nat.le_of_ble_eq_true rfl) rfl ?_
          refine z_iinc_3 dX7_isWriter_32 (Nat.le_of_ble_eq_true rfl) rfl ?_
          refine z_goto (tgt := 4) dX7_isWriter_35 (by decide) ?_
          first
            | exact y_ih 1 (Or.inl rfl) (by (split at y_v) <;> omega)
            | exact y_ih 0 (Or.inr rfl) (by (split at y_v) <;> omega)
        · refine z_iconst dX7_isWriter_26 ?_
          refine z_goto (tgt := 31) dX7_isWriter_27 (by decide) ?_
          refine z_istoren_2 dX7_isWriter_31 (Nat.le_of_ble_eq_true rfl) rfl ?_
          refine z_iinc_3 dX7_isWriter_32 (Nat.le_of_ble_eq_true rfl) rfl ?_
          refine z_goto (tgt := 4) dX7_isWriter_35 (by decide) ?_
          first
            | exact y_ih 1 (Or.inl rfl) (by (split at y_v) <;> omega)
            | exact y_ih 0 (Or.inr rfl) (by (split at y_v) <;> omega)
theorem tX7_layWriters {G : z_G} {M : z_M} {N k : Int} (hb : z_BI (M 22) N) (k0 : 0 ≤ k) (k1 : k < 20) : KX7_layWriters G [.ref (z_ad G 0 40), z_I k] M (.inl none) (z_w9 M (z_WS (M 22) k (M 29)) (z_WR (M 22) k (M 29)).2) := by
  refine z_con (ls := [some (.ref (z_ad G 0 40)), some (z_I k), none, none, none, none]) (by decide +kernel) (Nat.le_of_ble_eq_true rfl) rfl ?_
  intro Z htb
  refine z_rng fun hr => ?_
  have y_hr := hr
  have hh := z_BI_h hb
  have y_Q := fun p p0 p1 => z_BI_Q hb k p k0 k1 p0 p1
  refine z_aloadn dX7_layWriters_0 rfl ?_
  refine z_iconst dX7_layWriters_1 ?_
  refine pX7_166 (by first | (exact hr _ _ (by decide)) | omega) rfl dX7_layWriters_2 ?_
  refine z_rng fun hr => ?_
  refine z_mem (z_w9_0 M) ?_
  refine z_iconst dX7_layWriters_5 ?_
  refine z_istoren_2 dX7_layWriters_6 (Nat.le_of_ble_eq_true rfl) rfl ?_
  refine z_fgt 3 ?_
  refine z_fgt 4 ?_
  refine z_fgt 5 ?_
  refine z_upn (P := fun i : Nat => ∀ (x : (Int → Int) × Int) (w : Int), -1 ≤ w → w < 12 → z_wst (z_dr (M 22) k) (M 22 0).toNat i (M 29, 0) = x → (w ≠ -1 → x.2 = i) → (w = -1 → z_nx (z_dr (M 22) k) (z_cw x.1 x.2) (M 22 0).toNat = -1) → i ≤ 4 → z_J G Z _ _ 7 [some (.ref (z_ad G 0 40)), some (z_I k), some (z_I w), none, none, none] [] (z_w9 M x.1 x.2) 0 0) 4 ?_ ?_ (M 29, 0) 0 (by decide) (by decide) rfl (fun _ => rfl) (fun h => by cases h) (by decide)
  · intro x w w0 w1 y_x y_n y_f y_i
    have y_m := z_wst_m (z_dr (M 22) k) (M 22 0).toNat (M 29) 4
    rw [y_x] at y_m
    have y_fin : z_WR (M 22) k (M 29) = x := y_x
    refine z_rng fun hr => ?_
    refine z_aloadn dX7_layWriters_7 rfl ?_
    refine gX7_166 rfl dX7_layWriters_8 ?_
    refine z_top (v' := x.2) rfl ?_
    refine z_iconst dX7_layWriters_11 ?_
    refine z_icmp_ge (tgt := 123) (by first | (exact hr _ _ (by decide)) | omega) (by first | (exact hr _ _ (by decide)) | omega) dX7_layWriters_12 (by decide) (fun h12 => ?_) (fun h12 => ?_)
    · have y_fi : z_WR (M 22) k (M 29) = x := by first | exact y_fin | exact y_fin (by omega)
      refine z_fgt 2 ?_
      refine z_fgt 3 ?_
      refine z_fgt 4 ?_
      refine z_fgt 5 ?_
      have y_mm : x.2 * x.2 ≤ 4 * 4 := Int.mul_le_mul (by omega) (by omega) (by omega) (by decide)
      have y_mn : 0 ≤ x.2 * x.2 := Int.mul_nonneg (by omega) (by omega)
      refine z_iconst dX7_layWriters_123 ?_
      refine z_istoren_3 dX7_layWriters_124 (Nat.le_of_ble_eq_true rfl) rfl ?_
      refine z_upn (P := fun q : Nat => z_J G Z _ _ 125 [some (.ref (z_ad G 0 40)), some (z_I k), none, some (z_I q), none, none] [] (z_w9 M (z_bb x.2 q x.1) x.2) 0 0) (x.2 * x.2).toNat ?_ ?_
      · refine z_iloadn dX7_layWriters_125 rfl ?_
        refine z_aloadn dX7_layWriters_126 rfl ?_
        refine gX7_166 rfl dX7_layWriters_127 ?_
        refine z_top (v' := x.2) rfl ?_
        refine z_aloadn dX7_layWriters_130 rfl ?_
        refine gX7_166 rfl dX7_layWriters_131 ?_
        refine z_top (v' := x.2) rfl ?_
        refine z_imul dX7_layWriters_134 ?_
        refine z_icmp_ge (tgt := 218) (by first | (exact hr _ _ (by decide)) | omega) (by first | (exact hr _ _ (by decide)) | omega) dX7_layWriters_135 (by decide) (fun h135 => ?_) (fun h135 => ?_)
        · exact z_vret dX7_layWriters_218 (by unfold z_WS; rw [y_fi])
        · exfalso; omega
      · intro q hq ihq
        have y_m0 : 0 < x.2 := by
          rcases (show x.2 = 0 ∨ 0 < x.2 by omega) with e | e
          · rw [e] at hq; omega
          · exact e
        have y_W := z_bb_rg (P := fun v => 0 ≤ v ∧ v < 12) y_m0 q x.1 (fun j j0 j1 => by have := y_m.2.2 j j0 j1; omega)
        have y_e := Int.emod_nonneg (q : Int) (show x.2 ≠ 0 by omega)
        have y_e2 := Int.emod_lt_of_pos (q : Int) y_m0
        have y_b1 : z_bb x.2 (q + 1) x.1 = z_sw (z_bb x.2 q x.1) x.2 ((q : Int) % x.2) := rfl
        generalize z_bb x.2 q x.1 = W at *
        obtain ⟨e, y_eq⟩ : ∃ e, (q : Int) % x.2 = e := ⟨_, rfl⟩
        rw [y_eq] at y_e y_e2 y_b1
        refine z_rng fun hr => ?_
        have y_W1 := y_W e (by omega) (by omega)
        have y_W2 := fun h : e + 1 < x.2 => y_W (e + 1) (by omega) h
        refine z_iloadn dX7_layWriters_125 rfl ?_
        refine z_aloadn dX7_layWriters_126 rfl ?_
        refine gX7_166 rfl dX7_layWriters_127 ?_
        refine z_top (v' := x.2) rfl ?_
        refine z_aloadn dX7_layWriters_130 rfl ?_
        refine gX7_166 rfl dX7_layWriters_131 ?_
        refine z_top (v' := x.2) rfl ?_
        refine z_imul dX7_layWriters_134 ?_
        refine z_icmp_ge (tgt := 218) (by first | (exact hr _ _ (by decide)) | omega) (by first | (exact hr _ _ (by decide)) | omega) dX7_layWriters_135 (by decide) (fun h135 => ?_) (fun h135 => ?_)
        · exfalso; omega
        · refine z_iloadn dX7_layWriters_138 rfl ?_
          refine z_aloadn dX7_layWriters_139 rfl ?_
          refine gX7_166 rfl dX7_layWriters_140 ?_
          refine z_top (v' := x.2) rfl ?_
          refine z_irem (by omega) (by omega) (by omega) (by omega) dX7_layWriters_143 ?_
          refine z_top (v' := e) y_eq ?_
          refine z_istore_4 dX7_layWriters_144 (Nat.le_of_ble_eq_true rfl) rfl ?_
          refine z_iload dX7_layWriters_146 rfl ?_
          refine z_iconst dX7_layWriters_148 ?_
          refine z_iadd dX7_layWriters_149 ?_
          refine z_aloadn dX7_layWriters_150 rfl ?_
          refine gX7_166 rfl dX7_layWriters_151 ?_
          refine z_top (v' := x.2) rfl ?_
          refine z_icmp_ge (tgt := 212) (by first | (exact hr _ _ (by decide)) | omega) (by first | (exact hr _ _ (by decide)) | omega) dX7_layWriters_154 (by decide) (fun h154 => ?_) (fun h154 => ?_)
          · refine z_iinc_3 dX7_layWriters_212 (Nat.le_of_ble_eq_true rfl) rfl ?_
            refine z_goto (tgt := 125) dX7_layWriters_215 (by decide) ?_
            refine z_fgt 4 ?_
            refine z_fgt 5 ?_
            rw [y_b1] at ihq
            unfold z_sw at ihq
            first
              | (rw [if_neg (by omega)] at ihq; exact ihq)
              | (rw [if_pos (by omega)] at ihq
                 refine z_mem ?_ ihq
                 rw [z_w9_w, z_w9_w])
          · refine z_aloadn dX7_layWriters_157 rfl ?_
            refine gX7_31 rfl dX7_layWriters_158 ?_
            refine z_iload dX7_layWriters_161 rfl ?_
            refine z_iald (by rfl) (by first | decide | exact Or.inl ⟨by decide, hg⟩) (by omega) (by omega) (by decide) dX7_layWriters_163 ?_
            refine z_top (v' := W e) rfl ?_
            refine z_aloadn dX7_layWriters_164 rfl ?_
            refine gX7_31 rfl dX7_layWriters_165 ?_
            refine z_iload dX7_layWriters_168 rfl ?_
            refine z_iconst dX7_layWriters_170 ?_
            refine z_iadd dX7_layWriters_171 ?_
            refine z_iald (by rfl) (by first | decide | exact Or.inl ⟨by decide, hg⟩) (by omega) (by omega) (by decide) dX7_layWriters_172 ?_
            refine z_top (v' := W (e + 1)) rfl ?_
            refine z_icmp_le (tgt := 212) (by first | (exact hr _ _ (by decide)) | omega) (by first | (exact hr _ _ (by decide)) | omega) dX7_layWriters_173 (by decide) (fun h173 => ?_) (fun h173 => ?_)
            · refine z_iinc_3 dX7_layWriters_212 (Nat.le_of_ble_eq_true rfl) rfl ?_
              refine z_goto (tgt := 125) dX7_layWriters_215 (by decide) ?_
              refine z_fgt 4 ?_
              refine z_fgt 5 ?_
              rw [y_b1] at ihq
              unfold z_sw at ihq
              first
                | (rw [if_neg (by omega)] at ihq; exact ihq)
                | (rw [if_pos (by omega)] at ihq
                   refine z_mem ?_ ihq
                   rw [z_w9_w, z_w9_w])
            · refine z_aloadn dX7_layWriters_176 rfl ?_
              refine gX7_31 rfl dX7_layWriters_177 ?_
              refine z_iload dX7_layWriters_180 rfl ?_
              refine z_iald (by rfl) (by first | decide | exact Or.inl ⟨by decide, hg⟩) (by omega) (by omega) (by decide) dX7_layWriters_182 ?_
              refine z_top (v' := W e) rfl ?_
              refine z_istore_5 dX7_layWriters_183 (Nat.le_of_ble_eq_true rfl) rfl ?_
              refine z_aloadn dX7_layWriters_185 rfl ?_
              refine gX7_31 rfl dX7_layWriters_186 ?_
              refine z_iload dX7_layWriters_189 rfl ?_
              refine z_aloadn dX7_layWriters_191 rfl ?_
              refine gX7_31 rfl dX7_layWriters_192 ?_
              refine z_iload dX7_layWriters_195 rfl ?_
              refine z_iconst dX7_layWriters_197 ?_
              refine z_iadd dX7_layWriters_198 ?_
              refine z_iald (by rfl) (by first | decide | exact Or.inl ⟨by decide, hg⟩) (by omega) (by omega) (by decide) dX7_layWriters_199 ?_
              refine z_top (v' := W (e + 1)) rfl ?_
              refine z_iast (by rfl) (by first | decide | exact Or.inl ⟨by decide, hg⟩) (by omega) (by omega) (by decide) (by first | (exact hr _ _ (by decide)) | omega) dX7_layWriters_200 ?_
              refine z_rng fun hr => ?_
              refine z_aloadn dX7_layWriters_201 rfl ?_
              refine gX7_31 rfl dX7_layWriters_202 ?_
              refine z_iload dX7_layWriters_205 rfl ?_
              refine z_iconst dX7_layWriters_207 ?_
              refine z_iadd dX7_layWriters_208 ?_
              refine z_iload dX7_layWriters_209 rfl ?_
              refine z_iast (by rfl) (by first | decide | exact Or.inl ⟨by decide, hg⟩) (by omega) (by omega) (by decide) (by first | (exact hr _ _ (by decide)) | omega) dX7_layWriters_211 ?_
              refine z_rng fun hr => ?_
              refine z_iinc_3 dX7_layWriters_212 (Nat.le_of_ble_eq_true rfl) rfl ?_
              refine z_goto (tgt := 125) dX7_layWriters_215 (by decide) ?_
              refine z_fgt 4 ?_
              refine z_fgt 5 ?_
              rw [y_b1] at ihq
              unfold z_sw at ihq
              first
                | (rw [if_neg (by omega)] at ihq; exact ihq)
                | (rw [if_pos (by omega)] at ihq
                   refine z_mem ?_ ihq
                   rw [z_w9_w, z_w9_w])
    · refine z_iloadn dX7_layWriters_15 rfl ?_
      refine z_iconst dX7_layWriters_16 ?_
      refine z_icmp_eq (tgt := 123) (by first | (exact hr _ _ (by decide)) | omega) (by first | (exact hr _ _ (by decide)) | omega) dX7_layWriters_17 (by decide) (fun h17 => ?_) (fun h17 => ?_)
      · have y_fi : z_WR (M 22) k (M 29) = x := by first | exact y_fin | exact y_fin (by omega)
        refine z_fgt 2 ?_
        refine z_fgt 3 ?_
        refine z_fgt 4 ?_
        refine z_fgt 5 ?_
        have y_mm : x.2 * x.2 ≤ 4 * 4 := Int.mul_le_mul (by omega) (by omega) (by omega) (by decide)
        have y_mn : 0 ≤ x.2 * x.2 := Int.mul_nonneg (by omega) (by omega)
        refine z_iconst dX7_layWriters_123 ?_
        refine z_istoren_3 dX7_layWriters_124 (Nat.le_of_ble_eq_true rfl) rfl ?_
        refine z_upn (P := fun q : Nat => z_J G Z _ _ 125 [some (.ref (z_ad G 0 40)), some (z_I k), none, some (z_I q), none, none] [] (z_w9 M (z_bb x.2 q x.1) x.2) 0 0) (x.2 * x.2).toNat ?_ ?_
        · refine z_iloadn dX7_layWriters_125 rfl ?_
          refine z_aloadn dX7_layWriters_126 rfl ?_
          refine gX7_166 rfl dX7_layWriters_127 ?_
          refine z_top (v' := x.2) rfl ?_
          refine z_aloadn dX7_layWriters_130 rfl ?_
          refine gX7_166 rfl dX7_layWriters_131 ?_
          refine z_top (v' := x.2) rfl ?_
          refine z_imul dX7_layWriters_134 ?_
          refine z_icmp_ge (tgt := 218) (by first | (exact hr _ _ (by decide)) | omega) (by first | (exact hr _ _ (by decide)) | omega) dX7_layWriters_135 (by decide) (fun h135 => ?_) (fun h135 => ?_)
          · exact z_vret dX7_layWriters_218 (by unfold z_WS; rw [y_fi])
          · exfalso; omega
        · intro q hq ihq
          have y_m0 : 0 < x.2 := by
            rcases (show x.2 = 0 ∨ 0 < x.2 by omega) with e | e
            · rw [e] at hq; omega
            · exact e
          have y_W := z_bb_rg (P := fun v => 0 ≤ v ∧ v < 12) y_m0 q x.1 (fun j j0 j1 => by have := y_m.2.2 j j0 j1; omega)
          have y_e := Int.emod_nonneg (q : Int) (show x.2 ≠ 0 by omega)
          have y_e2 := Int.emod_lt_of_pos (q : Int) y_m0
          have y_b1 : z_bb x.2 (q + 1) x.1 = z_sw (z_bb x.2 q x.1) x.2 ((q : Int) % x.2) := rfl
          generalize z_bb x.2 q x.1 = W at *
          obtain ⟨e, y_eq⟩ : ∃ e, (q : Int) % x.2 = e := ⟨_, rfl⟩
          rw [y_eq] at y_e y_e2 y_b1
          refine z_rng fun hr => ?_
          have y_W1 := y_W e (by omega) (by omega)
          have y_W2 := fun h : e + 1 < x.2 => y_W (e + 1) (by omega) h
          refine z_iloadn dX7_layWriters_125 rfl ?_
          refine z_aloadn dX7_layWriters_126 rfl ?_
          refine gX7_166 rfl dX7_layWriters_127 ?_
          refine z_top (v' := x.2) rfl ?_
          refine z_aloadn dX7_layWriters_130 rfl ?_
          refine gX7_166 rfl dX7_layWriters_131 ?_
          refine z_top (v' := x.2) rfl ?_
          refine z_imul dX7_layWriters_134 ?_
          refine z_icmp_ge (tgt := 218) (by first | (exact hr _ _ (by decide)) | omega) (by first | (exact hr _ _ (by decide)) | omega) dX7_layWriters_135 (by decide) (fun h135 => ?_) (fun h135 => ?_)
          · exfalso; omega
          · refine z_iloadn dX7_layWriters_138 rfl ?_
            refine z_aloadn dX7_layWriters_139 rfl ?_
            refine gX7_166 rfl dX7_layWriters_140 ?_
            refine z_top (v' := x.2) rfl ?_
            refine z_irem (by omega) (by omega) (by omega) (by omega) dX7_layWriters_143 ?_
            refine z_top (v' := e) y_eq ?_
            refine z_istore_4 dX7_layWriters_144 (Nat.le_of_ble_eq_true rfl) rfl ?_
            refine z_iload dX7_layWriters_146 rfl ?_
            refine z_iconst dX7_layWriters_148 ?_
            refine z_iadd dX7_layWriters_149 ?_
            refine z_aloadn dX7_layWriters_150 rfl ?_
            refine gX7_166 rfl dX7_layWriters_151 ?_
            refine z_top (v' := x.2) rfl ?_
            refine z_icmp_ge (tgt := 212) (by first | (exact hr _ _ (by decide)) | omega) (by first | (exact hr _ _ (by decide)) | omega) dX7_layWriters_154 (by decide) (fun h154 => ?_) (fun h154 => ?_)
            · refine z_iinc_3 dX7_layWriters_212 (Nat.le_of_ble_eq_true rfl) rfl ?_
              refine z_goto (tgt := 125) dX7_layWriters_215 (by decide) ?_
              refine z_fgt 4 ?_
              refine z_fgt 5 ?_
              rw [y_b1] at ihq
              unfold z_sw at ihq
              first
                | (rw [if_neg (by omega)] at ihq; exact ihq)
                | (rw [if_pos (by omega)] at ihq
                   refine z_mem ?_ ihq
                   rw [z_w9_w, z_w9_w])
            · refine z_aloadn dX7_layWriters_157 rfl ?_
              refine gX7_31 rfl dX7_layWriters_158 ?_
              refine z_iload dX7_layWriters_161 rfl ?_
              refine z_iald (by rfl) (by first | decide | exact Or.inl ⟨by decide, hg⟩) (by omega) (by omega) (by decide) dX7_layWriters_163 ?_
              refine z_top (v' := W e) rfl ?_
              refine z_aloadn dX7_layWriters_164 rfl ?_
              refine gX7_31 rfl dX7_layWriters_165 ?_
              refine z_iload dX7_layWriters_168 rfl ?_
              refine z_iconst dX7_layWriters_170 ?_
              refine z_iadd dX7_layWriters_171 ?_
              refine z_iald (by rfl) (by first | decide | exact Or.inl ⟨by decide, hg⟩) (by omega) (by omega) (by decide) dX7_layWriters_172 ?_
              refine z_top (v' := W (e + 1)) rfl ?_
              refine z_icmp_le (tgt := 212) (by first | (exact hr _ _ (by decide)) | omega) (by first | (exact hr _ _ (by decide)) | omega) dX7_layWriters_173 (by decide) (fun h173 => ?_) (fun h173 => ?_)
              · refine z_iinc_3 dX7_layWriters_212 (Nat.le_of_ble_eq_true rfl) rfl ?_
                refine z_goto (tgt := 125) dX7_layWriters_215 (by decide) ?_
                refine z_fgt 4 ?_
                refine z_fgt 5 ?_
                rw [y_b1] at ihq
                unfold z_sw at ihq
                first
                  | (rw [if_neg (by omega)] at ihq; exact ihq)
                  | (rw [if_pos (by omega)] at ihq
                     refine z_mem ?_ ihq
                     rw [z_w9_w, z_w9_w])
              · refine z_aloadn dX7_layWriters_176 rfl ?_
                refine gX7_31 rfl dX7_layWriters_177 ?_
                refine z_iload dX7_layWriters_180 rfl ?_
                refine z_iald (by rfl) (by first | decide | exact Or.inl ⟨by decide, hg⟩) (by omega) (by omega) (by decide) dX7_layWriters_182 ?_
                refine z_top (v' := W e) rfl ?_
                refine z_istore_5 dX7_layWriters_183 (Nat.le_of_ble_eq_true rfl) rfl ?_
                refine z_aloadn dX7_layWriters_185 rfl ?_
                refine gX7_31 rfl dX7_layWriters_186 ?_
                refine z_iload dX7_layWriters_189 rfl ?_
                refine z_aloadn dX7_layWriters_191 rfl ?_
                refine gX7_31 rfl dX7_layWriters_192 ?_
                refine z_iload dX7_layWriters_195 rfl ?_
                refine z_iconst dX7_layWriters_197 ?_
                refine z_iadd dX7_layWriters_198 ?_
                refine z_iald (by rfl) (by first | decide | exact Or.inl ⟨by decide, hg⟩) (by omega) (by omega) (by decide) dX7_layWriters_199 ?_
                refine z_top (v' := W (e + 1)) rfl ?_
                refine z_iast (by rfl) (by first | decide | exact Or.inl ⟨by decide, hg⟩) (by omega) (by omega) (by decide) (by first | (exact hr _ _ (by decide)) | omega) dX7_layWriters_200 ?_
                refine z_rng fun hr => ?_
                refine z_aloadn dX7_layWriters_201 rfl ?_
                refine gX7_31 rfl dX7_layWriters_202 ?_
                refine z_iload dX7_layWriters_205 rfl ?_
                refine z_iconst dX7_layWriters_207 ?_
                refine z_iadd dX7_layWriters_208 ?_
                refine z_iload dX7_layWriters_209 rfl ?_
                refine z_iast (by rfl) (by first | decide | exact Or.inl ⟨by decide, hg⟩) (by omega) (by omega) (by decide) (by first | (exact hr _ _ (by decide)) | omega) dX7_layWriters_211 ?_
                refine z_rng fun hr => ?_
                refine z_iinc_3 dX7_layWriters_212 (Nat.le_of_ble_eq_true rfl) rfl ?_
                refine z_goto (tgt := 125) dX7_layWriters_215 (by decide) ?_
                refine z_fgt 4 ?_
                refine z_fgt 5 ?_
                rw [y_b1] at ihq
                unfold z_sw at ihq
                first
                  | (rw [if_neg (by omega)] at ihq; exact ihq)
                  | (rw [if_pos (by omega)] at ihq
                     refine z_mem ?_ ihq
                     rw [z_w9_w, z_w9_w])
      · exfalso; omega
  · intro i hi y_ih x w w0 w1 y_x y_n y_f y_i
    have y_m := z_wst_m (z_dr (M 22) k) (M 22 0).toNat (M 29) i
    rw [y_x] at y_m
    have y_st : z_wst (z_dr (M 22) k) (M 22 0).toNat (i + 1) (M 29, 0) = if z_nx (z_dr (M 22) k) (z_cw x.1 x.2) (M 22 0).toNat = -1 then x else (z_uf x.1 x.2 (z_nx (z_dr (M 22) k) (z_cw x.1 x.2) (M 22 0).toNat), x.2 + 1) := by
      show (if z_nx (z_dr (M 22) k) (z_cw (z_wst (z_dr (M 22) k) (M 22 0).toNat i (M 29, 0)).1 (z_wst (z_dr (M 22) k) (M 22 0).toNat i (M 29, 0)).2) (M 22 0).toNat = -1 then _ else _) = _
      rw [y_x]
    have y_fin : w = -1 → z_WR (M 22) k (M 29) = x := fun h => by
      have := z_wst_fix (z_dr (M 22) k) (M 22 0).toNat y_x (y_f h) (4 - i)
      rwa [show i + (4 - i) = 4 by omega] at this
    refine z_rng fun hr => ?_
    refine z_aloadn dX7_layWriters_7 rfl ?_
    refine gX7_166 rfl dX7_layWriters_8 ?_
    refine z_top (v' := x.2) rfl ?_
    refine z_iconst dX7_layWriters_11 ?_
    refine z_icmp_ge (tgt := 123) (by first | (exact hr _ _ (by decide)) | omega) (by first | (exact hr _ _ (by decide)) | omega) dX7_layWriters_12 (by decide) (fun h12 => ?_) (fun h12 => ?_)
    · exfalso; omega
    · refine z_iloadn dX7_layWriters_15 rfl ?_
      refine z_iconst dX7_layWriters_16 ?_
      refine z_icmp_eq (tgt := 123) (by first | (exact hr _ _ (by decide)) | omega) (by first | (exact hr _ _ (by decide)) | omega) dX7_layWriters_17 (by decide) (fun h17 => ?_) (fun h17 => ?_)
      · have y_fi : z_WR (M 22) k (M 29) = x := by first | exact y_fin | exact y_fin (by omega)
        refine z_fgt 2 ?_
        refine z_fgt 3 ?_
        refine z_fgt 4 ?_
        refine z_fgt 5 ?_
        have y_mm : x.2 * x.2 ≤ 4 * 4 := Int.mul_le_mul (by omega) (by omega) (by omega) (by decide)
        have y_mn : 0 ≤ x.2 * x.2 := Int.mul_nonneg (by omega) (by omega)
        refine z_iconst dX7_layWriters_123 ?_
        refine z_istoren_3 dX7_layWriters_124 (Nat.le_of_ble_eq_true rfl) rfl ?_
        refine z_upn (P := fun q : Nat => z_J G Z _ _ 125 [some (.ref (z_ad G 0 40)), some (z_I k), none, some (z_I q), none, none] [] (z_w9 M (z_bb x.2 q x.1) x.2) 0 0) (x.2 * x.2).toNat ?_ ?_
        · refine z_iloadn dX7_layWriters_125 rfl ?_
          refine z_aloadn dX7_layWriters_126 rfl ?_
          refine gX7_166 rfl dX7_layWriters_127 ?_
          refine z_top (v' := x.2) rfl ?_
          refine z_aloadn dX7_layWriters_130 rfl ?_
          refine gX7_166 rfl dX7_layWriters_131 ?_
          refine z_top (v' := x.2) rfl ?_
          refine z_imul dX7_layWriters_134 ?_
          refine z_icmp_ge (tgt := 218) (by first | (exact hr _ _ (by decide)) | omega) (by first | (exact hr _ _ (by decide)) | omega) dX7_layWriters_135 (by decide) (fun h135 => ?_) (fun h135 => ?_)
          · exact z_vret dX7_layWriters_218 (by unfold z_WS; rw [y_fi])
          · exfalso; omega
        · intro q hq ihq
          have y_m0 : 0 < x.2 := by
            rcases (show x.2 = 0 ∨ 0 < x.2 by omega) with e | e
            · rw [e] at hq; omega
            · exact e
          have y_W := z_bb_rg (P := fun v => 0 ≤ v ∧ v < 12) y_m0 q x.1 (fun j j0 j1 => by have := y_m.2.2 j j0 j1; omega)
          have y_e := Int.emod_nonneg (q : Int) (show x.2 ≠ 0 by omega)
          have y_e2 := Int.emod_lt_of_pos (q : Int) y_m0
          have y_b1 : z_bb x.2 (q + 1) x.1 = z_sw (z_bb x.2 q x.1) x.2 ((q : Int) % x.2) := rfl
          generalize z_bb x.2 q x.1 = W at *
          obtain ⟨e, y_eq⟩ : ∃ e, (q : Int) % x.2 = e := ⟨_, rfl⟩
          rw [y_eq] at y_e y_e2 y_b1
          refine z_rng fun hr => ?_
          have y_W1 := y_W e (by omega) (by omega)
          have y_W2 := fun h : e + 1 < x.2 => y_W (e + 1) (by omega) h
          refine z_iloadn dX7_layWriters_125 rfl ?_
          refine z_aloadn dX7_layWriters_126 rfl ?_
          refine gX7_166 rfl dX7_layWriters_127 ?_
          refine z_top (v' := x.2) rfl ?_
          refine z_aloadn dX7_layWriters_130 rfl ?_
          refine gX7_166 rfl dX7_layWriters_131 ?_
          refine z_top (v' := x.2) rfl ?_
          refine z_imul dX7_layWriters_134 ?_
          refine z_icmp_ge (tgt := 218) (by first | (exact hr _ _ (by decide)) | omega) (by first | (exact hr _ _ (by decide)) | omega) dX7_layWriters_135 (by decide) (fun h135 => ?_) (fun h135 => ?_)
          · exfalso; omega
          · refine z_iloadn dX7_layWriters_138 rfl ?_
            refine z_aloadn dX7_layWriters_139 rfl ?_
            refine gX7_166 rfl dX7_layWriters_140 ?_
            refine z_top (v' := x.2) rfl ?_
            refine z_irem (by omega) (by omega) (by omega) (by omega) dX7_layWriters_143 ?_
            refine z_top (v' := e) y_eq ?_
            refine z_istore_4 dX7_layWriters_144 (Nat.le_of_ble_eq_true rfl) rfl ?_
            refine z_iload dX7_layWriters_146 rfl ?_
            refine z_iconst dX7_layWriters_148 ?_
            refine z_iadd dX7_layWriters_149 ?_
            refine z_aloadn dX7_layWriters_150 rfl ?_
            refine gX7_166 rfl dX7_layWriters_151 ?_
            refine z_top (v' := x.2) rfl ?_
            refine z_icmp_ge (tgt := 212) (by first | (exact hr _ _ (by decide)) | omega) (by first | (exact hr _ _ (by decide)) | omega) dX7_layWriters_154 (by decide) (fun h154 => ?_) (fun h154 => ?_)
            · refine z_iinc_3 dX7_layWriters_212 (Nat.le_of_ble_eq_true rfl) rfl ?_
              refine z_goto (tgt := 125) dX7_layWriters_215 (by decide) ?_
              refine z_fgt 4 ?_
              refine z_fgt 5 ?_
              rw [y_b1] at ihq
              unfold z_sw at ihq
              first
                | (rw [if_neg (by omega)] at ihq; exact ihq)
                | (rw [if_pos (by omega)] at ihq
                   refine z_mem ?_ ihq
                   rw [z_w9_w, z_w9_w])
            · refine z_aloadn dX7_layWriters_157 rfl ?_
              refine gX7_31 rfl dX7_layWriters_158 ?_
              refine z_iload dX7_layWriters_161 rfl ?_
              refine z_iald (by rfl) (by first | decide | exact Or.inl ⟨by decide, hg⟩) (by omega) (by omega) (by decide) dX7_layWriters_163 ?_
              refine z_top (v' := W e) rfl ?_
              refine z_aloadn dX7_layWriters_164 rfl ?_
              refine gX7_31 rfl dX7_layWriters_165 ?_
              refine z_iload dX7_layWriters_168 rfl ?_
              refine z_iconst dX7_layWriters_170 ?_
              refine z_iadd dX7_layWriters_171 ?_
              refine z_iald (by rfl) (by first | decide | exact Or.inl ⟨by decide, hg⟩) (by omega) (by omega) (by decide) dX7_layWriters_172 ?_
              refine z_top (v' := W (e + 1)) rfl ?_
              refine z_icmp_le (tgt := 212) (by first | (exact hr _ _ (by decide)) | omega) (by first | (exact hr _ _ (by decide)) | omega) dX7_layWriters_173 (by decide) (fun h173 => ?_) (fun h173 => ?_)
              · refine z_iinc_3 dX7_layWriters_212 (Nat.le_of_ble_eq_true rfl) rfl ?_
                refine z_goto (tgt := 125) dX7_layWriters_215 (by decide) ?_
                refine z_fgt 4 ?_
                refine z_fgt 5 ?_
                rw [y_b1] at ihq
                unfold z_sw at ihq
                first
                  | (rw [if_neg (by omega)] at ihq; exact ihq)
                  | (rw [if_pos (by omega)] at ihq
                     refine z_mem ?_ ihq
                     rw [z_w9_w, z_w9_w])
              · refine z_aloadn dX7_layWriters_176 rfl ?_
                refine gX7_31 rfl dX7_layWriters_177 ?_
                refine z_iload dX7_layWriters_180 rfl ?_
                refine z_iald (by rfl) (by first | decide | exact Or.inl ⟨by decide, hg⟩) (by omega) (by omega) (by decide) dX7_layWriters_182 ?_
                refine z_top (v' := W e) rfl ?_
                refine z_istore_5 dX7_layWriters_183 (Nat.le_of_ble_eq_true rfl) rfl ?_
                refine z_aloadn dX7_layWriters_185 rfl ?_
                refine gX7_31 rfl dX7_layWriters_186 ?_
                refine z_iload dX7_layWriters_189 rfl ?_
                refine z_aloadn dX7_layWriters_191 rfl ?_
                refine gX7_31 rfl dX7_layWriters_192 ?_
                refine z_iload dX7_layWriters_195 rfl ?_
                refine z_iconst dX7_layWriters_197 ?_
                refine z_iadd dX7_layWriters_198 ?_
                refine z_iald (by rfl) (by first | decide | exact Or.inl ⟨by decide, hg⟩) (by omega) (by omega) (by decide) dX7_layWriters_199 ?_
                refine z_top (v' := W (e + 1)) rfl ?_
                refine z_iast (by rfl) (by first | decide | exact Or.inl ⟨by decide, hg⟩) (by omega) (by omega) (by decide) (by first | (exact hr _ _ (by decide)) | omega) dX7_layWriters_200 ?_
                refine z_rng fun hr => ?_
                refine z_aloadn dX7_layWriters_201 rfl ?_
                refine gX7_31 rfl dX7_layWriters_202 ?_
                refine z_iload dX7_layWriters_205 rfl ?_
                refine z_iconst dX7_layWriters_207 ?_
                refine z_iadd dX7_layWriters_208 ?_
                refine z_iload dX7_layWriters_209 rfl ?_
                refine z_iast (by rfl) (by first | decide | exact Or.inl ⟨by decide, hg⟩) (by omega) (by omega) (by decide) (by first | (exact hr _ _ (by decide)) | omega) dX7_layWriters_211 ?_
                refine z_rng fun hr => ?_
                refine z_iinc_3 dX7_layWriters_212 (Nat.le_of_ble_eq_true rfl) rfl ?_
                refine z_goto (tgt := 125) dX7_layWriters_215 (by decide) ?_
                refine z_fgt 4 ?_
                refine z_fgt 5 ?_
                rw [y_b1] at ihq
                unfold z_sw at ihq
                first
                  | (rw [if_neg (by omega)] at ihq; exact ihq)
                  | (rw [if_pos (by omega)] at ihq
                     refine z_mem ?_ ihq
                     rw [z_w9_w, z_w9_w])
      · refine z_iconst dX7_layWriters_20 ?_
        refine z_istoren_2 dX7_layWriters_21 (Nat.le_of_ble_eq_true rfl) rfl ?_
        refine z_iconst dX7_layWriters_22 ?_
        refine z_istoren_3 dX7_layWriters_23 (Nat.le_of_ble_eq_true rfl) rfl ?_
        have y_w4 : ¬ w = -1 := by omega
        have y_xm := y_n y_w4
        refine z_upn (P := fun j : Nat => z_J G Z _ _ 24 [some (.ref (z_ad G 0 40)), some (z_I k), some (z_I (z_nx (z_dr (M 22) k) (z_cw x.1 x.2) j)), some (z_I j), none, none] [] (z_w9 M x.1 x.2) 0 0) (M 22 0).toNat ?_ ?_
        · have y_r := z_nx_rg (z_dr (M 22) k) (z_cw x.1 x.2) (M 22 0).toNat
          refine z_iloadn dX7_layWriters_24 rfl ?_
          refine z_aloadn dX7_layWriters_25 rfl ?_
          refine gX7_7 rfl dX7_layWriters_26 ?_
          refine z_iconst dX7_layWriters_29 ?_
          refine z_iald (by rfl) (by first | decide | exact Or.inl ⟨by decide, hg⟩) (by omega) (by omega) (by decide) dX7_layWriters_30 ?_
          refine z_top (v' := M 22 0) rfl ?_
          refine z_icmp_ge (tgt := 95) (by first | (exact hr _ _ (by decide)) | omega) (by first | (exact hr _ _ (by decide)) | omega) dX7_layWriters_31 (by decide) (fun h31 => ?_) (fun h31 => ?_)
          · refine z_iloadn dX7_layWriters_95 rfl ?_
            refine z_iconst dX7_layWriters_96 ?_
            refine z_icmp_eq (tgt := 7) (by first | (exact hr _ _ (by decide)) | omega) (by first | (exact hr _ _ (by decide)) | omega) dX7_layWriters_97 (by decide) (fun h97 => ?_) (fun h97 => ?_)
            · refine z_fgt 3 ?_
              refine z_fgt 4 ?_
              refine z_fgt 5 ?_
              exact y_ih x _ (by omega) (by omega) (by rw [y_st, if_pos (by omega)]) (fun h => absurd (by omega) h) (fun _ => by omega) (by omega)
            · refine z_aloadn dX7_layWriters_100 rfl ?_
              refine gX7_31 rfl dX7_layWriters_101 ?_
              refine z_aloadn dX7_layWriters_104 rfl ?_
              refine gX7_166 rfl dX7_layWriters_105 ?_
              refine z_top (v' := x.2) rfl ?_
              refine z_iloadn dX7_layWriters_108 rfl ?_
              refine z_iast (by rfl) (by first | decide | exact Or.inl ⟨by decide, hg⟩) (by omega) (by omega) (by decide) (by first | (exact hr _ _ (by decide)) | omega) dX7_layWriters_109 ?_
              refine z_rng fun hr => ?_
              refine z_aloadn dX7_layWriters_110 rfl ?_
              refine z_dup dX7_layWriters_111 rfl ?_
              refine gX7_166 rfl dX7_layWriters_112 ?_
              refine z_top (v' := x.2) rfl ?_
              refine z_iconst dX7_layWriters_115 ?_
              refine z_iadd dX7_layWriters_116 ?_
              refine pX7_166 (by first | (exact hr _ _ (by decide)) | omega) rfl dX7_layWriters_117 ?_
              refine z_rng fun hr => ?_
              refine z_goto (tgt := 7) dX7_layWriters_120 (by decide) ?_
              refine z_fgt 3 ?_
              refine z_fgt 4 ?_
              refine z_fgt 5 ?_
              refine z_mem ?_ (y_ih (z_uf x.1 x.2 (z_nx (z_dr (M 22) k) (z_cw x.1 x.2) (M 22 0).toNat), x.2 + 1) _ (by omega) (by omega) (by rw [y_st, if_neg (by omega)]) (fun _ => by show x.2 + 1 = _; have := y_n (by omega); omega) (fun h => absurd h (by omega)) (by omega))
              rw [z_w9_w, z_w9_m]
          · exfalso; omega
        · intro j hj ihj
          have y_r := z_nx_rg (z_dr (M 22) k) (z_cw x.1 x.2) j
          have y_qj := y_Q j (by omega) (by omega)
          unfold z_QI at y_qj
          have y_nx : z_nx (z_dr (M 22) k) (z_cw x.1 x.2) (j + 1) = if 0 < M 22 (186 + 12 * k + j) ∧ z_cw x.1 x.2 j = 0 ∧ (z_nx (z_dr (M 22) k) (z_cw x.1 x.2) j = -1 ∨ M 22 (186 + 12 * k + z_nx (z_dr (M 22) k) (z_cw x.1 x.2) j) < M 22 (186 + 12 * k + j)) then (j : Int) else z_nx (z_dr (M 22) k) (z_cw x.1 x.2) j := rfl
          have y_cn := z_cw_nn x.1 x.2 j
          refine z_iloadn dX7_layWriters_24 rfl ?_
          refine z_aloadn dX7_layWriters_25 rfl ?_
          refine gX7_7 rfl dX7_layWriters_26 ?_
          refine z_iconst dX7_layWriters_29 ?_
          refine z_iald (by rfl) (by first | decide | exact Or.inl ⟨by decide, hg⟩) (by omega) (by omega) (by decide) dX7_layWriters_30 ?_
          refine z_top (v' := M 22 0) rfl ?_
          refine z_icmp_ge (tgt := 95) (by first | (exact hr _ _ (by decide)) | omega) (by first | (exact hr _ _ (by decide)) | omega) dX7_layWriters_31 (by decide) (fun h31 => ?_) (fun h31 => ?_)
          · exfalso; omega
          · refine z_aloadn dX7_layWriters_34 rfl ?_
            refine z_iloadn dX7_layWriters_35 rfl ?_
            refine z_iloadn dX7_layWriters_36 rfl ?_
            refine kX7_163 (tX7_drafts (by omega) (by omega)) rfl ⟨(Nat.le_of_ble_eq_true rfl), (Nat.le_of_ble_eq_true rfl)⟩ (Nat.le_of_ble_eq_true rfl) dX7_layWriters_37 ?_
            refine z_top (v' := M 22 (186 + 12 * k + j)) rfl ?_
            refine z_if_le (tgt := 55) (by first | (exact hr _ _ (by decide)) | omega) dX7_layWriters_40 (by decide) (fun h40 => ?_) (fun h40 => ?_)
            · try change z_cw x.1 x.2 (j : Int) ≠ 0 at h48
              refine z_iconst dX7_layWriters_55 ?_
              refine z_istore_4 dX7_layWriters_56 (Nat.le_of_ble_eq_true rfl) rfl ?_
              refine z_iload dX7_layWriters_58 rfl ?_
              refine z_if_eq (tgt := 87) (by first | (exact hr _ _ (by decide)) | omega) dX7_layWriters_60 (by decide) (fun h60 => ?_) (fun h60 => ?_)
              · refine z_iloadn dX7_layWriters_87 rfl ?_
                refine z_istoren_2 dX7_layWriters_88 (Nat.le_of_ble_eq_true rfl) rfl ?_
                refine z_iinc_3 dX7_layWriters_89 (Nat.le_of_ble_eq_true rfl) rfl ?_
                refine z_goto (tgt := 24) dX7_layWriters_92 (by decide) ?_
                refine z_fgt 4 ?_
                first
                  | (rw [y_nx, if_pos (by omega)] at ihj; exact ihj)
                  | (rw [y_nx, if_neg (by omega)] at ihj; exact ihj)
              · exact absurd h60 (by decide)
            · refine z_aloadn dX7_layWriters_43 rfl ?_
              refine z_iloadn dX7_layWriters_44 rfl ?_
              refine kX7_169 (tX7_isWriter (by omega) (by show 0 ≤ x.2; omega) (by show x.2 ≤ 4; omega)) rfl ⟨(Nat.le_of_ble_eq_true rfl), (Nat.le_of_ble_eq_true rfl)⟩ (Nat.le_of_ble_eq_true rfl) dX7_layWriters_45 ?_
              refine z_ifb_ne (tgt := 55) dX7_layWriters_48 (by decide) (fun h48 => ?_) (fun h48 => ?_)
              · try change z_cw x.1 x.2 (j : Int) ≠ 0 at h48
                refine z_iconst dX7_layWriters_55 ?_
                refine z_istore_4 dX7_layWriters_56 (Nat.le_of_ble_eq_true rfl) rfl ?_
                refine z_iload dX7_layWriters_58 rfl ?_
                refine z_if_eq (tgt := 87) (by first | (exact hr _ _ (by decide)) | omega) dX7_layWriters_60 (by decide) (fun h60 => ?_) (fun h60 => ?_)
                · refine z_iloadn dX7_layWriters_87 rfl ?_
                  refine z_istoren_2 dX7_layWriters_88 (Nat.le_of_ble_eq_true rfl) rfl ?_
                  refine z_iinc_3 dX7_layWriters_89 (Nat.le_of_ble_eq_true rfl) rfl ?_
                  refine z_goto (tgt := 24) dX7_layWriters_92 (by decide) ?_
                  refine z_fgt 4 ?_
                  first
                    | (rw [y_nx, if_pos (by omega)] at ihj; exact ihj)
                    | (rw [y_nx, if_neg (by omega)] at ihj; exact ihj)
                · exact absurd h60 (by decide)
              · change ¬ (z_cw x.1 x.2 (j : Int) ≠ 0) at h48
                refine z_iconst dX7_layWriters_51 ?_
                refine z_goto (tgt := 56) dX7_layWriters_52 (by decide) ?_
                refine z_istore_4 dX7_layWriters_56 (Nat.le_of_ble_eq_true rfl) rfl ?_
                refine z_iload dX7_layWriters_58 rfl ?_
                refine z_if_eq (tgt := 87) (by first | (exact hr _ _ (by decide)) | omega) dX7_layWriters_60 (by decide) (fun h60 => ?_) (fun h60 => ?_)
                · exact absurd h60 (by decide)
                · refine z_iloadn dX7_layWriters_63 rfl ?_
                  refine z_iconst dX7_layWriters_64 ?_
                  refine z_icmp_eq (tgt := 83) (by first | (exact hr _ _ (by decide)) | omega) (by first | (exact hr _ _ (by decide)) | omega) dX7_layWriters_65 (by decide) (fun h65 => ?_) (fun h65 => ?_)
                  · refine z_iloadn dX7_layWriters_83 rfl ?_
                    refine z_goto (tgt := 88) dX7_layWriters_84 (by decide) ?_
                    refine z_istoren_2 dX7_layWriters_88 (Nat.le_of_ble_eq_true rfl) rfl ?_
                    refine z_iinc_3 dX7_layWriters_89 (Nat.le_of_ble_eq_true rfl) rfl ?_
                    refine z_goto (tgt := 24) dX7_layWriters_92 (by decide) ?_
                    refine z_fgt 4 ?_
                    first
                      | (rw [y_nx, if_pos (by omega)] at ihj; exact ihj)
                      | (rw [y_nx, if_neg (by omega)] at ihj; exact ihj)
                  · refine z_aloadn dX7_layWriters_68 rfl ?_
                    refine z_iloadn dX7_layWriters_69 rfl ?_
                    refine z_iloadn dX7_layWriters_70 rfl ?_
                    refine kX7_163 (tX7_drafts (by omega) (by omega)) rfl ⟨(Nat.le_of_ble_eq_true rfl), (Nat.le_of_ble_eq_true rfl)⟩ (Nat.le_of_ble_eq_true rfl) dX7_layWriters_71 ?_
                    refine z_top (v' := M 22 (186 + 12 * k + j)) rfl ?_
                    refine z_aloadn dX7_layWriters_74 rfl ?_
                    refine z_iloadn dX7_layWriters_75 rfl ?_
                    refine z_iloadn dX7_layWriters_76 rfl ?_
                    refine kX7_163 (tX7_drafts (by omega) (by omega)) rfl ⟨(Nat.le_of_ble_eq_true rfl), (Nat.le_of_ble_eq_true rfl)⟩ (Nat.le_of_ble_eq_true rfl) dX7_layWriters_77 ?_
                    refine z_top (v' := M 22 (186 + 12 * k + z_nx (z_dr (M 22) k) (z_cw x.1 x.2) j)) rfl ?_
                    refine z_icmp_le (tgt := 87) (y_hr 22 _ (by decide)) (y_hr 22 _ (by decide)) dX7_layWriters_80 (by decide) (fun h80 => ?_) (fun h80 => ?_)
                    · refine z_iloadn dX7_layWriters_87 rfl ?_
                      refine z_istoren_2 dX7_layWriters_88 (Nat.le_of_ble_eq_true rfl) rfl ?_
                      refine z_iinc_3 dX7_layWriters_89 (Nat.le_of_ble_eq_true rfl) rfl ?_
                      refine z_goto (tgt := 24) dX7_layWriters_92 (by decide) ?_
                      refine z_fgt 4 ?_
                      first
                        | (rw [y_nx, if_pos (by omega)] at ihj; exact ihj)
                        | (rw [y_nx, if_neg (by omega)] at ihj; exact ihj)
                    · refine z_iloadn dX7_layWriters_83 rfl ?_
                      refine z_goto (tgt := 88) dX7_layWriters_84 (by decide) ?_
                      refine z_istoren_2 dX7_layWriters_88 (Nat.le_of_ble_eq_true rfl) rfl ?_
                      refine z_iinc_3 dX7_layWriters_89 (Nat.le_of_ble_eq_true rfl) rfl ?_
                      refine z_goto (tgt := 24) dX7_layWriters_92 (by decide) ?_
                      refine z_fgt 4 ?_
                      first
                        | (rw [y_nx, if_pos (by omega)] at ihj; exact ihj)
                        | (rw [y_nx, if_neg (by omega)] at ihj; exact ihj)
