/-! ===== the law: small methods ===== -/
theorem tL_at {G : z_G} {M : z_M} {x n : Int} (n0 : 0 < n) (n1 : n ≤ 2147483647) : KL_at G [z_I x, z_I n] M (.inl (some (z_I (z_atv x n)))) M := by
  refine z_con (ls := [some (z_I x), some (z_I n)]) (by decide +kernel) (Nat.le_of_ble_eq_true rfl) rfl ?_
  intro Z htb
  refine z_rng fun hr => ?_
  refine z_iloadn dL_at_0 rfl ?_
  refine z_iconst dL_at_1 ?_
  refine z_iushr (z_ushE x) dL_at_2 ?_
  refine z_iloadn dL_at_3 rfl ?_
  refine z_irem (z_ush_rg x).1 (z_ush_rg x).2 n0 n1 dL_at_4 ?_
  exact z_iret dL_at_5 (by first | rfl | omega) rfl
def z_cell (G : z_G) (k : Int) : Int := if ((z_scp G).2.1 : Int) ≤ k then 1249150122 * (k + 1) else z_y (z_scp G).2.2 k
theorem tL_cell {G : z_G} {M : z_M} {k : Int} (k0 : 0 ≤ k) (k1 : k ≤ 1000) : KL_cell G [.ref (z_scp G).1, z_I k] M (.inl (some (z_I (z_cell G k)))) M := by
  refine z_con (ls := [some (.ref (z_scp G).1), some (z_I k)]) (by decide +kernel) (Nat.le_of_ble_eq_true rfl) rfl ?_
  intro Z htb
  refine z_rng fun hr => ?_
  refine z_slenle fun y_sl => ?_
  refine z_iloadn dL_cell_0 rfl ?_
  refine z_aloadn dL_cell_1 rfl ?_
  refine z_slen dL_cell_2 ?_
  refine z_icmp_ge (tgt := 12) (by first | (exact hr _ _ (by decide)) | omega) (by first | (exact hr _ _ (by decide)) | omega) dL_cell_3 (by decide) (fun h3 => ?_) (fun h3 => ?_)
  · refine z_ldc (i := 1249150122) wk_L_7 dL_cell_12 ?_
    refine z_iloadn dL_cell_14 rfl ?_
    refine z_iconst dL_cell_15 ?_
    refine z_iadd dL_cell_16 ?_
    refine z_imul dL_cell_17 ?_
    exact z_iret dL_cell_18 (by unfold z_cell; first | rw [if_pos (by omega)] | rw [if_neg (by omega)]) rfl
  · refine z_aloadn dL_cell_6 rfl ?_
    refine z_iloadn dL_cell_7 rfl ?_
    refine z_sld (by omega) (by omega) dL_cell_8 ?_
    refine z_goto (tgt := 18) dL_cell_9 (by decide) ?_
    exact z_iret dL_cell_18 (by unfold z_cell; first | rw [if_pos (by omega)] | rw [if_neg (by omega)]) rfl
theorem z_sm4 {f : Int → Int} (h : ∀ p, 4 ≤ p → p < 12 → f p = 0) : z_sm 12 f = f 0 + f 1 + f 2 + f 3 := by
  have e4 := h 4 (by decide) (by decide)
  have e5 := h 5 (by decide) (by decide)
  have e6 := h 6 (by decide) (by decide)
  have e7 := h 7 (by decide) (by decide)
  have e8 := h 8 (by decide) (by decide)
  have e9 := h 9 (by decide) (by decide)
  have e10 := h 10 (by decide) (by decide)
  have e11 := h 11 (by decide) (by decide)
  show 0 + f 0 + f 1 + f 2 + f 3 + f 4 + f 5 + f 6 + f 7 + f 8 + f 9 + f 10 + f 11 = _
  omega
theorem z_aP4 {b : Int → Int} {k : Int} (hz : ∀ p, 4 ≤ p → p < 12 → b (426 + 12 * k + p) = 0) : z_aP b k = b (426 + 12 * k) + b (426 + 12 * k + 1) + b (426 + 12 * k + 2) + b (426 + 12 * k + 3) := by
  have h := z_sm4 (f := fun p => b (426 + 12 * k + p)) hz
  have e : b (426 + 12 * k + 0) = b (426 + 12 * k) := by rw [Int.add_zero]
  unfold z_aP
  rw [h, ← e]
theorem z_aD4 {b : Int → Int} {k : Int} (hz : ∀ p, 4 ≤ p → p < 12 → b (186 + 12 * k + p) = 0) : z_aD b k = b (186 + 12 * k) + b (186 + 12 * k + 1) + b (186 + 12 * k + 2) + b (186 + 12 * k + 3) := by
  have h := z_sm4 (f := fun p => b (186 + 12 * k + p)) hz
  have e : b (186 + 12 * k + 0) = b (186 + 12 * k) := by rw [Int.add_zero]
  unfold z_aD
  rw [h, ← e]
theorem z_paz {b : Int → Int} {N k : Int} (hb : z_BI b N) (h4 : b 0 ≤ 4) (k0 : 0 ≤ k) (k1 : k < 20) : ∀ p, 4 ≤ p → p < 12 → b (426 + 12 * k + p) = 0 := fun p p0 p1 => by
  have h := z_BI_Q hb k p k0 k1 (by omega) p1
  unfold z_QI at h
  have := h.2.2.2.2.2.2
  omega
theorem z_drz {b : Int → Int} {N k : Int} (hb : z_BI b N) (h4 : b 0 ≤ 4) (k0 : 0 ≤ k) (k1 : k < 20) : ∀ p, 4 ≤ p → p < 12 → b (186 + 12 * k + p) = 0 := fun p p0 p1 => by
  have h := z_BI_Q hb k p k0 k1 (by omega) p1
  unfold z_QI at h
  have := h.2.2.2.2.2.2
  omega
theorem z_aP_0 {b : Int → Int} {N k : Int} (hb : z_BI b N) (k0 : 0 ≤ k) (k1 : k < 20) : 0 ≤ z_aP b k := z_sm_nn fun i hi => by
  have h := z_BI_Q hb k i k0 k1 (by omega) (by omega)
  unfold z_QI at h
  exact h.2.2.1
theorem z_aD_0 {b : Int → Int} {N k : Int} (hb : z_BI b N) (k0 : 0 ≤ k) (k1 : k < 20) : 0 ≤ z_aD b k := z_sm_nn fun i hi => by
  have h := z_BI_Q hb k i k0 k1 (by omega) (by omega)
  unfold z_QI at h
  exact h.1
theorem tL_four_dr {G : z_G} {M : z_M} {B : Int → Int} {k : Int} (k0 : 0 ≤ k) (k1 : k < 4) (hz : ∀ p, 4 ≤ p → p < 12 → B (186 + 12 * k + p) = 0) (hv : ∀ q, 0 ≤ q → q < 4 → M 40 (186 + 12 * k + q) = B (186 + 12 * k + q)) : KL_four G [.ref (z_ad G 0 42), z_I k] M (.inl (some (z_I (z_aD B k)))) M := by
  refine z_con (ls := [some (.ref (z_ad G 0 42)), some (z_I k)]) (by decide +kernel) (Nat.le_of_ble_eq_true rfl) rfl ?_
  intro Z htb
  refine z_rng fun hr => ?_
  have y_0 : M 40 (186 + 12 * k) = B (186 + 12 * k) := by have h := hv 0 (by decide) (by decide); rwa [Int.add_zero] at h
  have y_1 := hv 1 (by decide) (by decide)
  have y_2 := hv 2 (by decide) (by decide)
  have y_3 := hv 3 (by decide) (by decide)
  have y_t := z_aD4 hz
  refine z_aloadn dL_four_0 rfl ?_
  refine z_iconst dL_four_1 ?_
  refine z_iloadn dL_four_2 rfl ?_
  refine z_imul dL_four_3 ?_
  refine z_lld (R := 40) (j := 186 + 12 * k) al_dr (Or.inl (by decide)) y_0 (by omega) (by omega) (Nat.le_of_ble_eq_true rfl) (by omega) dL_four_4 ?_
  refine z_aloadn dL_four_5 rfl ?_
  refine z_iconst dL_four_6 ?_
  refine z_iloadn dL_four_7 rfl ?_
  refine z_imul dL_four_8 ?_
  refine z_iconst dL_four_9 ?_
  refine z_iadd dL_four_10 ?_
  refine z_lld (R := 40) (j := 186 + 12 * k + 1) al_dr (Or.inl (by decide)) y_1 (by omega) (by omega) (Nat.le_of_ble_eq_true rfl) (by omega) dL_four_11 ?_
  refine z_iadd dL_four_12 ?_
  refine z_aloadn dL_four_13 rfl ?_
  refine z_iconst dL_four_14 ?_
  refine z_iloadn dL_four_15 rfl ?_
  refine z_imul dL_four_16 ?_
  refine z_iconst dL_four_17 ?_
  refine z_iadd dL_four_18 ?_
  refine z_lld (R := 40) (j := 186 + 12 * k + 2) al_dr (Or.inl (by decide)) y_2 (by omega) (by omega) (Nat.le_of_ble_eq_true rfl) (by omega) dL_four_19 ?_
  refine z_iadd dL_four_20 ?_
  refine z_aloadn dL_four_21 rfl ?_
  refine z_iconst dL_four_22 ?_
  refine z_iloadn dL_four_23 rfl ?_
  refine z_imul dL_four_24 ?_
  refine z_iconst dL_four_25 ?_
  refine z_iadd dL_four_26 ?_
  refine z_lld (R := 40) (j := 186 + 12 * k + 3) al_dr (Or.inl (by decide)) y_3 (by omega) (by omega) (Nat.le_of_ble_eq_true rfl) (by omega) dL_four_27 ?_
  refine z_iadd dL_four_28 ?_
  exact z_iret dL_four_29 (by omega) rfl
theorem tL_four_pa {G : z_G} {M : z_M} {B : Int → Int} {k : Int} (k0 : 0 ≤ k) (k1 : k < 4) (hz : ∀ p, 4 ≤ p → p < 12 → B (426 + 12 * k + p) = 0) (hv : ∀ q, 0 ≤ q → q < 4 → M 40 (426 + 12 * k + q) = B (426 + 12 * k + q)) : KL_four G [.ref (z_ad G 0 43), z_I k] M (.inl (some (z_I (z_aP B k)))) M := by
  refine z_con (ls := [some (.ref (z_ad G 0 43)), some (z_I k)]) (by decide +kernel) (Nat.le_of_ble_eq_true rfl) rfl ?_
  intro Z htb
  refine z_rng fun hr => ?_
  have y_0 : M 40 (426 + 12 * k) = B (426 + 12 * k) := by have h := hv 0 (by decide) (by decide); rwa [Int.add_zero] at h
  have y_1 := hv 1 (by decide) (by decide)
  have y_2 := hv 2 (by decide) (by decide)
  have y_3 := hv 3 (by decide) (by decide)
  have y_t := z_aP4 hz
  refine z_aloadn dL_four_0 rfl ?_
  refine z_iconst dL_four_1 ?_
  refine z_iloadn dL_four_2 rfl ?_
  refine z_imul dL_four_3 ?_
  refine z_lld (R := 40) (j := 426 + 12 * k) al_pa (Or.inl (by decide)) y_0 (by omega) (by omega) (Nat.le_of_ble_eq_true rfl) (by omega) dL_four_4 ?_
  refine z_aloadn dL_four_5 rfl ?_
  refine z_iconst dL_four_6 ?_
  refine z_iloadn dL_four_7 rfl ?_
  refine z_imul dL_four_8 ?_
  refine z_iconst dL_four_9 ?_
  refine z_iadd dL_four_10 ?_
  refine z_lld (R := 40) (j := 426 + 12 * k + 1) al_pa (Or.inl (by decide)) y_1 (by omega) (by omega) (Nat.le_of_ble_eq_true rfl) (by omega) dL_four_11 ?_
  refine z_iadd dL_four_12 ?_
  refine z_aloadn dL_four_13 rfl ?_
  refine z_iconst dL_four_14 ?_
  refine z_iloadn dL_four_15 rfl ?_
  refine z_imul dL_four_16 ?_
  refine z_iconst dL_four_17 ?_
  refine z_iadd dL_four_18 ?_
  refine z_lld (R := 40) (j := 426 + 12 * k + 2) al_pa (Or.inl (by decide)) y_2 (by omega) (by omega) (Nat.le_of_ble_eq_true rfl) (by omega) dL_four_19 ?_
  refine z_iadd dL_four_20 ?_
  refine z_aloadn dL_four_21 rfl ?_
  refine z_iconst dL_four_22 ?_
  refine z_iloadn dL_four_23 rfl ?_
  refine z_imul dL_four_24 ?_
  refine z_iconst dL_four_25 ?_
  refine z_iadd dL_four_26 ?_
  refine z_lld (R := 40) (j := 426 + 12 * k + 3) al_pa (Or.inl (by decide)) y_3 (by omega) (by omega) (Nat.le_of_ble_eq_true rfl) (by omega) dL_four_27 ?_
  refine z_iadd dL_four_28 ?_
  exact z_iret dL_four_29 (by omega) rfl
theorem tL_kill {G : z_G} {M : z_M} {B : Int → Int} {N k : Int} (hb : z_BI B N) (k0 : 0 ≤ k) (k1 : k < 4) (hE : M 40 = B) : KL_kill G [z_I k, .ref (z_ad G 0 41), .ref (z_ad G 0 45)] M (.inl (some (z_I (z_kf B k)))) M := by
  refine z_con (ls := [some (z_I k), some (.ref (z_ad G 0 41)), some (.ref (z_ad G 0 45))]) (by decide +kernel) (Nat.le_of_ble_eq_true rfl) rfl ?_
  intro Z htb
  refine z_rng fun hr => ?_
  have y_k := z_BI_K hb k k0 (by omega)
  unfold z_KI at y_k
  have y_h := z_BI_h hb
  have y_rb : ∀ i, z_rg (B i) := fun i => hE ▸ hr 40 i (by decide)
  refine z_aloadn dL_kill_0 rfl ?_
  refine z_iconst dL_kill_1 ?_
  refine z_iloadn dL_kill_2 rfl ?_
  refine z_imul dL_kill_3 ?_
  refine z_iconst dL_kill_4 ?_
  refine z_iadd dL_kill_5 ?_
  refine z_lld (R := 40) (j := 86 + 5 * k + 2) al_pi (Or.inl (by decide)) (congrFun hE _) (by omega) (by omega) (Nat.le_of_ble_eq_true rfl) (by omega) dL_kill_6 ?_
  refine z_iconst dL_kill_7 ?_
  refine z_icmp_le (tgt := 15) (by first | exact y_rb _ | (exact hr _ _ (by decide)) | omega) (by first | exact y_rb _ | (exact hr _ _ (by decide)) | omega) dL_kill_8 (by decide) (fun h8 => ?_) (fun h8 => ?_)
  · refine z_aloadn dL_kill_15 rfl ?_
    refine z_iconst dL_kill_16 ?_
    refine z_iloadn dL_kill_17 rfl ?_
    refine z_imul dL_kill_18 ?_
    refine z_iconst dL_kill_19 ?_
    refine z_iadd dL_kill_20 ?_
    refine z_lld (R := 40) (j := 86 + 5 * k + 1) al_pi (Or.inl (by decide)) (congrFun hE _) (by omega) (by omega) (Nat.le_of_ble_eq_true rfl) (by omega) dL_kill_21 ?_
    refine z_aloadn dL_kill_22 rfl ?_
    refine z_iconst dL_kill_23 ?_
    refine z_aloadn dL_kill_24 rfl ?_
    refine z_iconst dL_kill_25 ?_
    refine z_iloadn dL_kill_26 rfl ?_
    refine z_imul dL_kill_27 ?_
    refine z_iconst dL_kill_28 ?_
    refine z_iadd dL_kill_29 ?_
    refine z_lld (R := 40) (j := 86 + 5 * k + 2) al_pi (Or.inl (by decide)) (congrFun hE _) (by omega) (by omega) (Nat.le_of_ble_eq_true rfl) (by omega) dL_kill_30 ?_
    refine z_iadd dL_kill_31 ?_
    have y_m : 0 ≤ B (86 + 5 * k + 1) * B (11 + B (86 + 5 * k + 2)) ∧ B (86 + 5 * k + 1) * B (11 + B (86 + 5 * k + 2)) ≤ 100000 * 100 := by
      rcases (show B (86 + 5 * k + 2) = 0 ∨ B (86 + 5 * k + 2) = 1 ∨ B (86 + 5 * k + 2) = 2 by omega) with e | e | e <;> rw [e] <;> exact z_mb (by omega) (by omega) (by first | exact y_h.2.2.2.2.2.2.2.2.2.2.2.2.1.1 | exact y_h.2.2.2.2.2.2.2.2.2.2.2.2.2.1.1 | exact y_h.2.2.2.2.2.2.2.2.2.2.2.2.2.2.1) (by first | exact y_h.2.2.2.2.2.2.2.2.2.2.2.2.1.2 | exact y_h.2.2.2.2.2.2.2.2.2.2.2.2.2.1.2 | exact y_h.2.2.2.2.2.2.2.2.2.2.2.2.2.2.2)
    refine z_lld (R := 40) (j := 11 + B (86 + 5 * k + 2)) al_st (Or.inl (by decide)) (congrFun hE _) (by omega) (by omega) (Nat.le_of_ble_eq_true rfl) (by omega) dL_kill_32 ?_
    refine z_imul dL_kill_33 ?_
    refine z_bipush dL_kill_34 (by decide) ?_
    refine z_idiv (by omega) (by omega) (by omega) (by omega) dL_kill_36 ?_
    exact z_iret dL_kill_37 (by unfold z_kf; first | rw [if_neg (by omega)] | rw [if_pos (by omega)]) rfl
  · refine z_iconst dL_kill_11 ?_
    refine z_goto (tgt := 37) dL_kill_12 (by decide) ?_
    exact z_iret dL_kill_37 (by unfold z_kf; first | rw [if_neg (by omega)] | rw [if_pos (by omega)]) rfl
theorem tL_quarrels {G : z_G} {M : z_M} {B : Int → Int} {N k p : Int} (hb : z_BI B N) (h4 : B 0 ≤ 4) (k0 : 0 ≤ k) (k1 : k < 4) (p0 : 0 ≤ p) (p1 : p < 4) (hE : M 40 = B) : KL_quarrels G [z_I k, z_I p, .ref (z_ad G 0 41), .ref (z_ad G 0 42), .ref (z_ad G 0 43)] M (.inl (some (z_I (if z_cd B k p then 1 else 0)))) M := by
  refine z_con (ls := [some (z_I k), some (z_I p), some (.ref (z_ad G 0 41)), some (.ref (z_ad G 0 42)), some (.ref (z_ad G 0 43))]) (by decide +kernel) (Nat.le_of_ble_eq_true rfl) rfl ?_
  intro Z htb
  refine z_rng fun hr => ?_
  have y_k := z_BI_K hb k k0 (by omega)
  unfold z_KI at y_k
  have y_q := z_BI_Q hb k p k0 (by omega) p0 (by omega)
  unfold z_QI at y_q
  have y_rb : ∀ i, z_rg (B i) := fun i => hE ▸ hr 40 i (by decide)
  have y_aP := z_aP_le (b := B) (k := k) (fun p p0 p1 => by have h := z_BI_Q hb k p k0 (by omega) p0 p1; unfold z_QI at h; omega)
  have y_aP0 := z_aP_0 hb k0 (show k < 20 by omega)
  have y_aD0 := z_aD_0 hb k0 (show k < 20 by omega)
  have y_m1 := z_mb y_q.2.2.1 y_q.2.2.2.1 y_aD0 y_k.2.2.2.2.2.2.2.2.2.2.2.2.1
  have y_m2 := z_mb y_q.1 y_q.2.1 y_aP0 y_aP
  refine z_aloadn dL_quarrels_0 rfl ?_
  refine z_iconst dL_quarrels_1 ?_
  refine z_iloadn dL_quarrels_2 rfl ?_
  refine z_imul dL_quarrels_3 ?_
  refine z_iconst dL_quarrels_4 ?_
  refine z_iadd dL_quarrels_5 ?_
  refine z_lld (R := 40) (j := 86 + 5 * k + 2) al_pi (Or.inl (by decide)) (congrFun hE _) (by omega) (by omega) (Nat.le_of_ble_eq_true rfl) (by omega) dL_quarrels_6 ?_
  refine z_iconst dL_quarrels_7 ?_
  refine z_icmp_ge (tgt := 46) (by first | exact y_rb _ | (exact hr _ _ (by decide)) | omega) (by first | exact y_rb _ | (exact hr _ _ (by decide)) | omega) dL_quarrels_8 (by decide) (fun h8 => ?_) (fun h8 => ?_)
  · refine z_iconst dL_quarrels_46 ?_
    exact z_zret dL_quarrels_47 (by first | rw [if_pos (show z_cd B k p from ⟨by omega, by omega⟩)] | (rw [if_neg (show ¬ z_cd B k p from fun q => by have q1 := q.1; have q2 := q.2; omega)])) rfl (by first | decide | (split <;> simp))
  · refine z_aload dL_quarrels_11 rfl ?_
    refine z_iconst dL_quarrels_13 ?_
    refine z_iloadn dL_quarrels_14 rfl ?_
    refine z_imul dL_quarrels_15 ?_
    refine z_iloadn dL_quarrels_16 rfl ?_
    refine z_iadd dL_quarrels_17 ?_
    refine z_lld (R := 40) (j := 426 + 12 * k + p) al_pa (Or.inl (by decide)) (congrFun hE _) (by omega) (by omega) (Nat.le_of_ble_eq_true rfl) (by omega) dL_quarrels_18 ?_
    refine z_aloadn dL_quarrels_19 rfl ?_
    refine z_iloadn dL_quarrels_20 rfl ?_
    refine kL_8 (tL_four_dr k0 k1 (z_drz hb h4 k0 (by omega)) (fun q _ _ => congrFun hE _)) rfl ⟨(Nat.le_of_ble_eq_true rfl), (Nat.le_of_ble_eq_true rfl)⟩ (Nat.le_of_ble_eq_true rfl) dL_quarrels_21 ?_
    refine z_imul dL_quarrels_24 ?_
    refine z_aloadn dL_quarrels_25 rfl ?_
    refine z_iconst dL_quarrels_26 ?_
    refine z_iloadn dL_quarrels_27 rfl ?_
    refine z_imul dL_quarrels_28 ?_
    refine z_iloadn dL_quarrels_29 rfl ?_
    refine z_iadd dL_quarrels_30 ?_
    refine z_lld (R := 40) (j := 186 + 12 * k + p) al_dr (Or.inl (by decide)) (congrFun hE _) (by omega) (by omega) (Nat.le_of_ble_eq_true rfl) (by omega) dL_quarrels_31 ?_
    refine z_aload dL_quarrels_32 rfl ?_
    refine z_iloadn dL_quarrels_34 rfl ?_
    refine kL_8 (tL_four_pa k0 k1 (z_paz hb h4 k0 (by omega)) (fun q _ _ => congrFun hE _)) rfl ⟨(Nat.le_of_ble_eq_true rfl), (Nat.le_of_ble_eq_true rfl)⟩ (Nat.le_of_ble_eq_true rfl) dL_quarrels_35 ?_
    refine z_imul dL_quarrels_38 ?_
    refine z_icmp_ge (tgt := 46) (by first | exact y_rb _ | (exact hr _ _ (by decide)) | omega) (by first | exact y_rb _ | (exact hr _ _ (by decide)) | omega) dL_quarrels_39 (by decide) (fun h39 => ?_) (fun h39 => ?_)
    · refine z_iconst dL_quarrels_46 ?_
      exact z_zret dL_quarrels_47 (by first | rw [if_pos (show z_cd B k p from ⟨by omega, by omega⟩)] | (rw [if_neg (show ¬ z_cd B k p from fun q => by have q1 := q.1; have q2 := q.2; omega)])) rfl (by first | decide | (split <;> simp))
    · refine z_iconst dL_quarrels_42 ?_
      refine z_goto (tgt := 47) dL_quarrels_43 (by decide) ?_
      exact z_zret dL_quarrels_47 (by first | rw [if_pos (show z_cd B k p from ⟨by omega, by omega⟩)] | (rw [if_neg (show ¬ z_cd B k p from fun q => by have q1 := q.1; have q2 := q.2; omega)])) rfl (by first | decide | (split <;> simp))
theorem tL_sum0 {G : z_G} {M : z_M} {B : Int → Int} {N : Int} (hb : z_BI B N) (h4 : B 0 ≤ 4) (hE : M 40 = B) : KL_sum G [z_I 0, .ref (z_ad G 0 40), .ref (z_ad G 0 46)] M (.inl (some (z_I (z_sumOf B 0)))) M := by
  refine z_con (ls := [some (z_I 0), some (.ref (z_ad G 0 40)), some (.ref (z_ad G 0 46)), none, none]) (by decide +kernel) (Nat.le_of_ble_eq_true rfl) rfl ?_
  intro Z htb
  refine z_rng fun hr => ?_
  have y_h := z_BI_h hb
  have y_rb : ∀ i, z_rg (B i) := fun i => hE ▸ hr 40 i (by decide)
  refine z_iconst dL_sum_0 ?_
  refine z_istoren_3 dL_sum_1 (Nat.le_of_ble_eq_true rfl) rfl ?_
  refine z_iconst dL_sum_2 ?_
  refine z_istore_4 dL_sum_3 (Nat.le_of_ble_eq_true rfl) rfl ?_
  refine z_upn (P := fun i : Nat => z_J G Z _ _ 5 [some (z_I 0), some (.ref (z_ad G 0 40)), some (.ref (z_ad G 0 46)), some (z_I (z_sm i (fun p => B (14 + 6 * p + 0)))), some (z_I i)] [] M 0 0) (B 0).toNat ?_ ?_
  · refine z_rng fun hr => ?_
    refine z_iload dL_sum_5 rfl ?_
    refine z_aloadn dL_sum_7 rfl ?_
    refine z_iconst dL_sum_8 ?_
    refine z_lld (R := 40) (j := 0) al_c (Or.inl (by decide)) (congrFun hE _) (by omega) (by omega) (Nat.le_of_ble_eq_true rfl) (by omega) dL_sum_9 ?_
    refine z_icmp_ge (tgt := 58) (by first | exact y_rb _ | (exact hr _ _ (by decide)) | omega) (by first | exact y_rb _ | (exact hr _ _ (by decide)) | omega) dL_sum_10 (by decide) (fun h10 => ?_) (fun h10 => ?_)
    · refine z_iloadn dL_sum_58 rfl ?_
      exact z_iret dL_sum_59 (by first | rfl | omega) rfl
    · exfalso; omega
  · intro i hi y_ih
    refine z_rng fun hr => ?_
    refine z_iload dL_sum_5 rfl ?_
    refine z_aloadn dL_sum_7 rfl ?_
    refine z_iconst dL_sum_8 ?_
    refine z_lld (R := 40) (j := 0) al_c (Or.inl (by decide)) (congrFun hE _) (by omega) (by omega) (Nat.le_of_ble_eq_true rfl) (by omega) dL_sum_9 ?_
    refine z_icmp_ge (tgt := 58) (by first | exact y_rb _ | (exact hr _ _ (by decide)) | omega) (by first | exact y_rb _ | (exact hr _ _ (by decide)) | omega) dL_sum_10 (by decide) (fun h10 => ?_) (fun h10 => ?_)
    · exfalso; omega
    · refine z_iloadn dL_sum_13 rfl ?_
      refine z_iloadn dL_sum_14 rfl ?_
      refine z_iconst dL_sum_15 ?_
      refine z_icmp_ne (tgt := 41) (by first | exact y_rb _ | (exact hr _ _ (by decide)) | omega) (by first | exact y_rb _ | (exact hr _ _ (by decide)) | omega) dL_sum_16 (by decide) (fun h16 => ?_) (fun h16 => ?_)
      · refine z_aloadn dL_sum_41 rfl ?_
        refine z_bipush dL_sum_42 (by decide) ?_
        refine z_iload dL_sum_44 rfl ?_
        refine z_imul dL_sum_46 ?_
        refine z_iloadn dL_sum_47 rfl ?_
        refine z_iadd dL_sum_48 ?_
        refine z_lld (R := 40) (j := 14 + 6 * (i : Int) + 0) al_pe (Or.inl (by decide)) (congrFun hE _) (by omega) (by omega) (Nat.le_of_ble_eq_true rfl) (by omega) dL_sum_49 ?_
        refine z_iadd dL_sum_50 ?_
        refine z_istoren_3 dL_sum_51 (Nat.le_of_ble_eq_true rfl) rfl ?_
        refine z_iinc_4 dL_sum_52 (Nat.le_of_ble_eq_true rfl) rfl ?_
        refine z_goto (tgt := 5) dL_sum_55 (by decide) ?_
        exact y_ih
      · exact absurd h16 (by decide)
theorem tL_sum1 {G : z_G} {M : z_M} {B : Int → Int} {N : Int} (hb : z_BI B N) (h4 : B 0 ≤ 4) (hE : M 40 = B) : KL_sum G [z_I 1, .ref (z_ad G 0 40), .ref (z_ad G 0 46)] M (.inl (some (z_I (z_sumOf B 1)))) M := by
  refine z_con (ls := [some (z_I 1), some (.ref (z_ad G 0 40)), some (.ref (z_ad G 0 46)), none, none]) (by decide +kernel) (Nat.le_of_ble_eq_true rfl) rfl ?_
  intro Z htb
  refine z_rng fun hr => ?_
  have y_h := z_BI_h hb
  have y_rb : ∀ i, z_rg (B i) := fun i => hE ▸ hr 40 i (by decide)
  refine z_iconst dL_sum_0 ?_
  refine z_istoren_3 dL_sum_1 (Nat.le_of_ble_eq_true rfl) rfl ?_
  refine z_iconst dL_sum_2 ?_
  refine z_istore_4 dL_sum_3 (Nat.le_of_ble_eq_true rfl) rfl ?_
  refine z_upn (P := fun i : Nat => z_J G Z _ _ 5 [some (z_I 1), some (.ref (z_ad G 0 40)), some (.ref (z_ad G 0 46)), some (z_I (z_sm i (fun p => B (14 + 6 * p + 1)))), some (z_I i)] [] M 0 0) (B 0).toNat ?_ ?_
  · refine z_rng fun hr => ?_
    refine z_iload dL_sum_5 rfl ?_
    refine z_aloadn dL_sum_7 rfl ?_
    refine z_iconst dL_sum_8 ?_
    refine z_lld (R := 40) (j := 0) al_c (Or.inl (by decide)) (congrFun hE _) (by omega) (by omega) (Nat.le_of_ble_eq_true rfl) (by omega) dL_sum_9 ?_
    refine z_icmp_ge (tgt := 58) (by first | exact y_rb _ | (exact hr _ _ (by decide)) | omega) (by first | exact y_rb _ | (exact hr _ _ (by decide)) | omega) dL_sum_10 (by decide) (fun h10 => ?_) (fun h10 => ?_)
    · refine z_iloadn dL_sum_58 rfl ?_
      exact z_iret dL_sum_59 (by first | rfl | omega) rfl
    · exfalso; omega
  · intro i hi y_ih
    refine z_rng fun hr => ?_
    refine z_iload dL_sum_5 rfl ?_
    refine z_aloadn dL_sum_7 rfl ?_
    refine z_iconst dL_sum_8 ?_
    refine z_lld (R := 40) (j := 0) al_c (Or.inl (by decide)) (congrFun hE _) (by omega) (by omega) (Nat.le_of_ble_eq_true rfl) (by omega) dL_sum_9 ?_
    refine z_icmp_ge (tgt := 58) (by first | exact y_rb _ | (exact hr _ _ (by decide)) | omega) (by first | exact y_rb _ | (exact hr _ _ (by decide)) | omega) dL_sum_10 (by decide) (fun h10 => ?_) (fun h10 => ?_)
    · exfalso; omega
    · refine z_iloadn dL_sum_13 rfl ?_
      refine z_iloadn dL_sum_14 rfl ?_
      refine z_iconst dL_sum_15 ?_
      refine z_icmp_ne (tgt := 41) (by first | exact y_rb _ | (exact hr _ _ (by decide)) | omega) (by first | exact y_rb _ | (exact hr _ _ (by decide)) | omega) dL_sum_16 (by decide) (fun h16 => ?_) (fun h16 => ?_)
      · refine z_aloadn dL_sum_41 rfl ?_
        refine z_bipush dL_sum_42 (by decide) ?_
        refine z_iload dL_sum_44 rfl ?_
        refine z_imul dL_sum_46 ?_
        refine z_iloadn dL_sum_47 rfl ?_
        refine z_iadd dL_sum_48 ?_
        refine z_lld (R := 40) (j := 14 + 6 * (i : Int) + 1) al_pe (Or.inl (by decide)) (congrFun hE _) (by omega) (by omega) (Nat.le_of_ble_eq_true rfl) (by omega) dL_sum_49 ?_
        refine z_iadd dL_sum_50 ?_
        refine z_istoren_3 dL_sum_51 (Nat.le_of_ble_eq_true rfl) rfl ?_
        refine z_iinc_4 dL_sum_52 (Nat.le_of_ble_eq_true rfl) rfl ?_
        refine z_goto (tgt := 5) dL_sum_55 (by decide) ?_
        exact y_ih
      · exact absurd h16 (by decide)
theorem tL_sum3 {G : z_G} {M : z_M} {B : Int → Int} {N : Int} (hb : z_BI B N) (h4 : B 0 ≤ 4) (hE : M 40 = B) : KL_sum G [z_I 3, .ref (z_ad G 0 40), .ref (z_ad G 0 46)] M (.inl (some (z_I (z_soldN B)))) M := by
  refine z_con (ls := [some (z_I 3), some (.ref (z_ad G 0 40)), some (.ref (z_ad G 0 46)), none, none]) (by decide +kernel) (Nat.le_of_ble_eq_true rfl) rfl ?_
  intro Z htb
  refine z_rng fun hr => ?_
  have y_h := z_BI_h hb
  have y_rb : ∀ i, z_rg (B i) := fun i => hE ▸ hr 40 i (by decide)
  refine z_iconst dL_sum_0 ?_
  refine z_istoren_3 dL_sum_1 (Nat.le_of_ble_eq_true rfl) rfl ?_
  refine z_iconst dL_sum_2 ?_
  refine z_istore_4 dL_sum_3 (Nat.le_of_ble_eq_true rfl) rfl ?_
  refine z_upn (P := fun i : Nat => z_J G Z _ _ 5 [some (z_I 3), some (.ref (z_ad G 0 40)), some (.ref (z_ad G 0 46)), some (z_I (z_sm i (fun p => if B (14 + 6 * p + 3) = p then 0 else 1))), some (z_I i)] [] M 0 0) (B 0).toNat ?_ ?_
  · refine z_rng fun hr => ?_
    refine z_iload dL_sum_5 rfl ?_
    refine z_aloadn dL_sum_7 rfl ?_
    refine z_iconst dL_sum_8 ?_
    refine z_lld (R := 40) (j := 0) al_c (Or.inl (by decide)) (congrFun hE _) (by omega) (by omega) (Nat.le_of_ble_eq_true rfl) (by omega) dL_sum_9 ?_
    refine z_icmp_ge (tgt := 58) (by first | exact y_rb _ | (exact hr _ _ (by decide)) | omega) (by first | exact y_rb _ | (exact hr _ _ (by decide)) | omega) dL_sum_10 (by decide) (fun h10 => ?_) (fun h10 => ?_)
    · refine z_iloadn dL_sum_58 rfl ?_
      exact z_iret dL_sum_59 (by first | rfl | omega) rfl
    · exfalso; omega
  · intro i hi y_ih
    refine z_rng fun hr => ?_
    refine z_iload dL_sum_5 rfl ?_
    refine z_aloadn dL_sum_7 rfl ?_
    refine z_iconst dL_sum_8 ?_
    refine z_lld (R := 40) (j := 0) al_c (Or.inl (by decide)) (congrFun hE _) (by omega) (by omega) (Nat.le_of_ble_eq_true rfl) (by omega) dL_sum_9 ?_
    refine z_icmp_ge (tgt := 58) (by first | exact y_rb _ | (exact hr _ _ (by decide)) | omega) (by first | exact y_rb _ | (exact hr _ _ (by decide)) | omega) dL_sum_10 (by decide) (fun h10 => ?_) (fun h10 => ?_)
    · exfalso; omega
    · refine z_iloadn dL_sum_13 rfl ?_
      refine z_iloadn dL_sum_14 rfl ?_
      refine z_iconst dL_sum_15 ?_
      refine z_icmp_ne (tgt := 41) (by first | exact y_rb _ | (exact hr _ _ (by decide)) | omega) (by first | exact y_rb _ | (exact hr _ _ (by decide)) | omega) dL_sum_16 (by decide) (fun h16 => ?_) (fun h16 => ?_)
      · exact absurd h16 (by decide)
      · refine z_aloadn dL_sum_19 rfl ?_
        refine z_bipush dL_sum_20 (by decide) ?_
        refine z_iload dL_sum_22 rfl ?_
        refine z_imul dL_sum_24 ?_
        refine z_iconst dL_sum_25 ?_
        refine z_iadd dL_sum_26 ?_
        refine z_lld (R := 40) (j := 14 + 6 * (i : Int) + 3) al_pe (Or.inl (by decide)) (congrFun hE _) (by omega) (by omega) (Nat.le_of_ble_eq_true rfl) (by omega) dL_sum_27 ?_
        refine z_iload dL_sum_28 rfl ?_
        refine z_icmp_ne (tgt := 37) (by first | exact y_rb _ | (exact hr _ _ (by decide)) | omega) (by first | exact y_rb _ | (exact hr _ _ (by decide)) | omega) dL_sum_30 (by decide) (fun h30 => ?_) (fun h30 => ?_)
        · refine z_iconst dL_sum_37 ?_
          refine z_goto (tgt := 50) dL_sum_38 (by decide) ?_
          refine z_top (v' := if B (14 + 6 * (i : Int) + 3) = (i : Int) then 0 else 1) (by first | rw [if_pos (by omega)] | rw [if_neg (by omega)]) ?_
          refine z_iadd dL_sum_50 ?_
          refine z_istoren_3 dL_sum_51 (Nat.le_of_ble_eq_true rfl) rfl ?_
          refine z_iinc_4 dL_sum_52 (Nat.le_of_ble_eq_true rfl) rfl ?_
          refine z_goto (tgt := 5) dL_sum_55 (by decide) ?_
          exact y_ih
        · refine z_iconst dL_sum_33 ?_
          refine z_goto (tgt := 50) dL_sum_34 (by decide) ?_
          refine z_top (v' := if B (14 + 6 * (i : Int) + 3) = (i : Int) then 0 else 1) (by first | rw [if_pos (by omega)] | rw [if_neg (by omega)]) ?_
          refine z_iadd dL_sum_50 ?_
          refine z_istoren_3 dL_sum_51 (Nat.le_of_ble_eq_true rfl) rfl ?_
          refine z_iinc_4 dL_sum_52 (Nat.le_of_ble_eq_true rfl) rfl ?_
          refine z_goto (tgt := 5) dL_sum_55 (by decide) ?_
          exact y_ih
