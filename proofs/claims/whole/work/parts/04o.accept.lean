/-- what comesIn wants of the books -/
def z_cF (b : Int → Int) (k : Int) : Prop := (∀ p, 0 ≤ p → p < 12 → 0 ≤ b (426 + 12 * k + p) ∧ b (426 + 12 * k + p) ≤ 9) ∧ 1 ≤ z_aP b k ∧ z_bd b 0 900000000 ∧ (0 ≤ b 0 ∧ b 0 ≤ 12) ∧ (0 ≤ b 4 ∧ b 4 ≤ 100000000) ∧ (0 ≤ b 8 ∧ b 8 ≤ 30) ∧ (0 ≤ b 9 ∧ b 9 ≤ 20) ∧ (0 ≤ b 10 ∧ b 10 ≤ 10000) ∧ (0 ≤ b (86 + 5 * k) ∧ b (86 + 5 * k) < 12) ∧ (0 ≤ b (86 + 5 * k + 4) ∧ b (86 + 5 * k + 4) ≤ 100000000) ∧ (0 ≤ b (14 + 6 * b (86 + 5 * k) + 3) ∧ b (14 + 6 * b (86 + 5 * k) + 3) < 12)
theorem z_BI_cF {b : Int → Int} {N k : Int} (h : z_BI b N) (k0 : 0 ≤ k) (k1 : k < b 1) : z_cF b k := by
  have hh := z_BI_h h
  have hk := z_BI_K h k k0 (by omega)
  unfold z_KI at hk
  have hres := z_BI_res h
  refine ⟨fun p p0 p1 => ?_, hk.2.2.2.2.2.2.2.2.2.2.2.2.2.1 k1, ⟨fun p p0 p1 => ?_, by omega, by omega, by omega, by omega, fun q p q0 q1 p0 p1 => ?_, by decide, by decide⟩, by omega, by omega, by omega, by omega, by omega, by omega, by omega, ?_⟩
  · have := z_BI_Q h k p k0 (by omega) p0 p1
    unfold z_QI at this
    omega
  · have h1 := z_BI_P h p p0 p1
    have h2 := z_BI_bal h p0 p1
    have h3 := z_BI_one h (Or.inl rfl) p0 p1
    unfold z_PI at h1
    omega
  · have h1 := z_BI_Q h q p q0 q1 p0 p1
    have h2 := z_BI_K h q q0 q1
    unfold z_QI at h1
    unfold z_KI at h2
    omega
  · have := z_BI_P h (b (86 + 5 * k)) (by omega) (by omega)
    unfold z_PI at this
    omega
theorem z_cF_st {b : Int → Int} {k v : Int} (k0 : 0 ≤ k) (k1 : k < 20) (h : z_cF b k) : z_cF (z_uf b (86 + 5 * k + 2) v) k := by
  obtain ⟨h1, h2, h3, h4, h5, h6, h7, h8, h9, h10, h11⟩ := h
  obtain ⟨d1, d2, d3, d4, d5, d6, d7, d8⟩ := h3
  have e : ∀ j, j ≠ 86 + 5 * k + 2 → z_uf b (86 + 5 * k + 2) v j = b j := fun j hj => z_uf_ne _ _ hj
  refine ⟨fun p p0 p1 => by rw [e _ (by omega)]; exact h1 p p0 p1, ?_, ⟨fun p p0 p1 => by rw [e _ (by omega), e _ (by omega), e _ (by omega)]; exact d1 p p0 p1, by rw [e _ (by omega)]; exact d2, by rw [e _ (by omega)]; exact d3, by rw [e _ (by omega)]; exact d4, by rw [e _ (by omega)]; exact d5, fun q p q0 q1 p0 p1 => by rw [e _ (by omega)]; exact d6 q p q0 q1 p0 p1, d7, d8⟩, by rw [e _ (by omega)]; exact h4, by rw [e _ (by omega)]; exact h5, by rw [e _ (by omega)]; exact h6, by rw [e _ (by omega)]; exact h7, by rw [e _ (by omega)]; exact h8, by rw [e _ (by omega)]; exact h9, by rw [e _ (by omega)]; exact h10, ?_⟩
  · rw [show z_aP (z_uf b (86 + 5 * k + 2) v) k = z_aP b k from z_sm_eq fun i hi => e _ (by omega)]
    exact h2
  · rw [e (86 + 5 * k) (by omega), e _ (by omega)]
    exact h11
theorem z_m4_sR (M : z_M) (b' b : Int → Int) (t : Int) (s r : Int → Int) : z_m4 (z_sR M 22 b') b t s r = z_m4 M b t s r := by
  show z_sR (z_sR (z_sM (z_sR (z_sR M 22 b') 22 b) 21 1 t) 27 s) 28 r = _
  rw [z_sR_R]
theorem tX7_com0 {G : z_G} {M : z_M} {k a : Int} {b : Int → Int} (k0 : 0 ≤ k) (k1 : k < 20) (a0 : 0 ≤ a) (a1 : a ≤ 100000) (h : z_cF b k) : KX7_comesIn G [.ref (z_ad G 0 40), z_I k, z_I a, z_I 0] (z_sR M 22 b) (.inl none) (z_m4 M (z_com2 b k a 0 (M 27) (M 28)).1 (z_com2 b k a 0 (M 27) (M 28)).2 (z_sh b k (z_rs b a 0) (M 27) (M 28)).1 (z_sh b k (z_rs b a 0) (M 27) (M 28)).2) := by
  obtain ⟨h1, h2, h3, h4, h5, h6, h7, h8, h9, h10, h11⟩ := h
  have e : z_sR M 22 b 22 = b := z_sR_self _ _ _
  have q := tX7_comesIn0 (G := G) (M := z_sR M 22 b) (k := k) (a := a) k0 k1 a0 a1 (by rw [e]; exact h1) (by rw [e]; exact h2) (by rw [e]; exact h3) (by rw [e]; exact h4.1) (by rw [e]; exact h4.2) (by rw [e]; exact h5) (by rw [e]; exact h6) (by rw [e]; exact h7) (by rw [e]; exact h8) (by rw [e]; exact h9) (by rw [e]; exact h10) (by rw [e]; exact h11)
  rwa [z_m4_sR, e, show z_sR M 22 b 27 = M 27 from rfl, show z_sR M 22 b 28 = M 28 from rfl] at q
theorem tX7_com1 {G : z_G} {M : z_M} {k a : Int} (k0 : 0 ≤ k) (k1 : k < 20) (a0 : 0 ≤ a) (a1 : a ≤ 100000) (h : z_cF (M 22) k) : KX7_comesIn G [.ref (z_ad G 0 40), z_I k, z_I a, z_I 1] M (.inl none) (z_m4 M (z_com2 (M 22) k a 1 (M 27) (M 28)).1 (z_com2 (M 22) k a 1 (M 27) (M 28)).2 (z_sh (M 22) k (z_rs (M 22) a 1) (M 27) (M 28)).1 (z_sh (M 22) k (z_rs (M 22) a 1) (M 27) (M 28)).2) := by
  obtain ⟨h1, h2, h3, h4, h5, h6, h7, h8, h9, h10, h11⟩ := h
  exact tX7_comesIn1 (G := G) (M := M) (k := k) (a := a) k0 k1 a0 a1 h1 h2 h3 h4.1 h4.2 h5 h6 h7 h8 h9 h10 h11
def z_c_accept (b : Int → Int) (k : Int) : Int := if ¬ (0 ≤ k ∧ k < b 1) then 1 else if ¬ (1 ≤ b (86 + 5 * k + 2) ∧ b (86 + 5 * k + 2) ≤ 2) then 2 else 0
def z_kf (b : Int → Int) (k : Int) : Int := if b (86 + 5 * k + 2) < 3 then b (86 + 5 * k + 1) * b (11 + b (86 + 5 * k + 2)) / 100 else 0
def z_c_kill (b : Int → Int) (k : Int) : Int := if ¬ (0 ≤ k ∧ k < b 1) then 1 else if 3 ≤ b (86 + 5 * k + 2) then 2 else 0
def z_c_royalty (b : Int → Int) (k a : Int) : Int := if ¬ (0 ≤ k ∧ k < b 1) then 1 else if ¬ (1 ≤ a ∧ a ≤ 100000) then 2 else if b (86 + 5 * k + 2) = 3 then 0 else 3
/-- the memory behind a fee (v: the stage then) -/
abbrev z_Mfee (M : z_M) (k a v : Int) : z_M := z_m4 (z_SV (z_sM M 21 4 0)) (z_com2 (z_uf (M 22) (86 + 5 * k + 2) v) k a 0 (M 27) (M 28)).1 (z_com2 (z_uf (M 22) (86 + 5 * k + 2) v) k a 0 (M 27) (M 28)).2 (z_sh (z_uf (M 22) (86 + 5 * k + 2) v) k (z_rs (z_uf (M 22) (86 + 5 * k + 2) v) a 0) (M 27) (M 28)).1 (z_sh (z_uf (M 22) (86 + 5 * k + 2) v) k (z_rs (z_uf (M 22) (86 + 5 * k + 2) v) a 0) (M 27) (M 28)).2
abbrev z_Mroy (M0 M : z_M) (k a : Int) : z_M := z_m4 M0 (z_com2 (M 22) k a 1 (M 27) (M 28)).1 (z_com2 (M 22) k a 1 (M 27) (M 28)).2 (z_sh (M 22) k (z_rs (M 22) a 1) (M 27) (M 28)).1 (z_sh (M 22) k (z_rs (M 22) a 1) (M 27) (M 28)).2
theorem z_kf_rg {b : Int → Int} {N k : Int} (hb : z_BI b N) (k0 : 0 ≤ k) (k1 : k < 20) : 0 ≤ z_kf b k ∧ z_kf b k ≤ 100000 := by
  have hh := z_BI_h hb
  have y_k := z_BI_K hb k k0 k1
  unfold z_KI at y_k
  unfold z_kf
  split
  · have y_s : 0 ≤ b (11 + b (86 + 5 * k + 2)) ∧ b (11 + b (86 + 5 * k + 2)) ≤ 100 := by
      rcases (show b (86 + 5 * k + 2) = 0 ∨ b (86 + 5 * k + 2) = 1 ∨ b (86 + 5 * k + 2) = 2 by omega) with q | q | q <;> rw [q] <;> first | (rw [show (11 : Int) + 0 = 11 from rfl]; omega) | (rw [show (11 : Int) + 1 = 12 from rfl]; omega) | (rw [show (11 : Int) + 2 = 13 from rfl]; omega)
    have y_m : 0 ≤ b (86 + 5 * k + 1) * b (11 + b (86 + 5 * k + 2)) := Int.mul_nonneg (by omega) y_s.1
    have y_n : b (86 + 5 * k + 1) * b (11 + b (86 + 5 * k + 2)) ≤ 100000 * 100 := Int.mul_le_mul (by omega) y_s.2 y_s.1 (by decide)
    omega
  · omega
/-- can pen p dispute the parts of piece k -/
abbrev z_cd (b : Int → Int) (k p : Int) : Prop := b (86 + 5 * k + 2) ≠ 4 ∧ b (426 + 12 * k + p) * z_aD b k < b (186 + 12 * k + p) * z_aP b k
theorem tX7_accept {G : z_G} {M : z_M} {N c k : Int} (hb : z_BI (M 22) N) (hs0 : 0 ≤ M 21 2) (hs1 : M 21 2 ≤ 6) (rk : z_rg k) (hc : z_c_accept (M 22) k = c) : KX7_accept G [.ref (z_ad G 0 40), z_I k] M (.inl (some (z_I (if c = 0 then (z_com2 (z_uf (M 22) (86 + 5 * k + 2) 3) k (M 22 (86 + 5 * k + 1)) 0 (M 27) (M 28)).2 else 0)))) (if c = 0 then z_Mfee M k (M 22 (86 + 5 * k + 1)) 3 else z_sM M 21 4 c) := by
  refine z_con (ls := [some (.ref (z_ad G 0 40)), some (z_I k)]) (by decide +kernel) (Nat.le_of_ble_eq_true rfl) rfl ?_
  intro Z htb
  refine z_rng fun hr => ?_
  refine z_aloadn dX7_accept_0 rfl ?_
  refine z_iconst dX7_accept_1 ?_
  refine pX7_40 (by first | (exact hr _ _ (by decide)) | omega) rfl dX7_accept_2 ?_
  refine z_rng fun hr => ?_
  generalize hM0 : z_sM M 21 4 0 = M0
  have hz : M0 22 = M 22 := by rw [← hM0]; exact z_sM_row _ _ _ (by decide)
  have hz2 : M0 21 2 = M 21 2 := by rw [← hM0]; exact z_sM_ne _ _ _ (by decide)
  rw [hM0] at hr
  rw [← hz] at hb hc
  rw [← hz2] at hs0 hs1
  have hh := z_BI_h hb
  refine z_aloadn dX7_accept_5 rfl ?_
  refine z_iloadn dX7_accept_6 rfl ?_
  refine kX7_77 (tX7_isPiece (by first | (exact hr _ _ (by decide)) | omega) (by first | assumption | omega)) rfl ⟨(Nat.le_of_ble_eq_true rfl), (Nat.le_of_ble_eq_true rfl)⟩ (Nat.le_of_ble_eq_true rfl) dX7_accept_7 ?_
  refine z_ifb_ne (tgt := 19) dX7_accept_10 (by decide) (fun h10 => ?_) (fun h10 => ?_)
  · have y_k := z_BI_K hb k (by omega) (by omega)
    unfold z_KI at y_k
    refine z_aloadn dX7_accept_19 rfl ?_
    refine z_iloadn dX7_accept_20 rfl ?_
    refine z_iconst dX7_accept_21 ?_
    refine kX7_80 (tX7_in (by omega) (by omega)) rfl ⟨(Nat.le_of_ble_eq_true rfl), (Nat.le_of_ble_eq_true rfl)⟩ (Nat.le_of_ble_eq_true rfl) dX7_accept_22 ?_
    refine z_iconst dX7_accept_25 ?_
    refine z_iconst dX7_accept_26 ?_
    refine kX7_44 (tX7_within (by first | (exact hr _ _ (by decide)) | omega) (by first | (exact hr _ _ (by decide)) | omega) (by first | (exact hr _ _ (by decide)) | omega)) rfl ⟨(Nat.le_of_ble_eq_true rfl), (Nat.le_of_ble_eq_true rfl)⟩ (Nat.le_of_ble_eq_true rfl) dX7_accept_27 ?_
    refine z_ifb_ne (tgt := 39) dX7_accept_30 (by decide) (fun h30 => ?_) (fun h30 => ?_)
    · refine z_aloadn dX7_accept_39 rfl ?_
      refine kX7_58 (tX7_save hs0 hs1) rfl ⟨(Nat.le_of_ble_eq_true rfl), (Nat.le_of_ble_eq_true rfl)⟩ (Nat.le_of_ble_eq_true rfl) dX7_accept_40 ?_
      refine z_rng fun hr => ?_
      generalize hM1 : z_SV M0 = M1
      have hz1 : M1 22 = M0 22 := by rw [← hM1]; exact z_SV_row (by decide) (by decide)
      obtain rfl : c = 0 := by rw [← hc]; unfold z_c_accept; (repeat' split) <;> omega
      have hq := hz1.trans hz
      rw [hM1] at hr
      rw [← hz1] at hb hc
      have hh := z_BI_h hb
      have y_27 : M1 27 = M 27 := by rw [← hM1, z_SV_row (by decide) (by decide), ← hM0]; rfl
      have y_28 : M1 28 = M 28 := by rw [← hM1, z_SV_row (by decide) (by decide), ← hM0]; rfl
      try rw [← hz1] at h10
      try rw [← hz1] at h30
      have y_f := z_BI_cF hb (k := k) (by omega) (by omega)
      have y_k := z_BI_K hb k (by omega) (by omega)
      unfold z_KI at y_k
      refine z_aloadn dX7_accept_43 rfl ?_
      refine gX7_7 rfl dX7_accept_44 ?_
      refine z_bipush dX7_accept_47 (by decide) ?_
      refine z_iconst dX7_accept_49 ?_
      refine z_iloadn dX7_accept_50 rfl ?_
      refine z_imul dX7_accept_51 ?_
      refine z_iadd dX7_accept_52 ?_
      refine z_iconst dX7_accept_53 ?_
      refine z_iadd dX7_accept_54 ?_
      refine z_iconst dX7_accept_55 ?_
      refine z_iast (by rfl) (by first | decide | exact Or.inl ⟨by decide, hg⟩) (by omega) (by omega) (by decide) (by first | (exact hr _ _ (by decide)) | omega) dX7_accept_56 ?_
      refine z_rng fun hr => ?_
      refine z_mem (M' := z_sR M1 22 (z_uf (M1 22) (86 + 5 * k + 2) 3)) (z_sM_R _ _ _ _) ?_
      refine z_aloadn dX7_accept_57 rfl ?_
      refine z_iloadn dX7_accept_58 rfl ?_
      refine z_aloadn dX7_accept_59 rfl ?_
      refine z_iloadn dX7_accept_60 rfl ?_
      refine z_iconst dX7_accept_61 ?_
      refine kX7_80 (tX7_in (by omega) (by omega)) rfl ⟨(Nat.le_of_ble_eq_true rfl), (Nat.le_of_ble_eq_true rfl)⟩ (Nat.le_of_ble_eq_true rfl) dX7_accept_62 ?_
      refine z_top (v' := M1 22 (86 + 5 * k + 1)) (z_uf_ne _ _ (by omega)) ?_
      refine z_iconst dX7_accept_65 ?_
      refine kX7_156 (tX7_com0 (by omega) (by omega) (by omega) (by omega) (z_cF_st (by omega) (by omega) y_f)) rfl ⟨(Nat.le_of_ble_eq_true rfl), (Nat.le_of_ble_eq_true rfl)⟩ (Nat.le_of_ble_eq_true rfl) dX7_accept_66 ?_
      refine z_rng fun hr => ?_
      refine z_aloadn dX7_accept_69 rfl ?_
      refine gX7_136 rfl dX7_accept_70 ?_
      refine z_top (v' := (z_com2 (z_uf (M1 22) (86 + 5 * k + 2) 3) k (M1 22 (86 + 5 * k + 1)) 0 (M1 27) (M1 28)).2) rfl ?_
      exact z_iret dX7_accept_73 (by rw [if_pos rfl, ← hq, ← y_27, ← y_28]) (by rw [if_pos rfl]; unfold z_Mfee; rw [hM0, hM1, ← hq, ← y_27, ← y_28])
    · refine z_aloadn dX7_accept_33 rfl ?_
      refine z_iconst dX7_accept_34 ?_
      refine kX7_55 (tX7_fails (by first | decide | omega)) rfl ⟨(Nat.le_of_ble_eq_true rfl), (Nat.le_of_ble_eq_true rfl)⟩ (Nat.le_of_ble_eq_true rfl) dX7_accept_35 ?_
      refine z_rng fun hr => ?_
      obtain rfl : c = 2 := by rw [← hc]; unfold z_c_accept; (repeat' split) <;> omega
      exact z_iret dX7_accept_38 (if_neg (by decide)).symm (by rw [if_neg (by decide), ← hM0, z_sM_sM])
  · refine z_aloadn dX7_accept_13 rfl ?_
    refine z_iconst dX7_accept_14 ?_
    refine kX7_55 (tX7_fails (by first | decide | omega)) rfl ⟨(Nat.le_of_ble_eq_true rfl), (Nat.le_of_ble_eq_true rfl)⟩ (Nat.le_of_ble_eq_true rfl) dX7_accept_15 ?_
    refine z_rng fun hr => ?_
    obtain rfl : c = 1 := by rw [← hc]; unfold z_c_accept; (repeat' split) <;> omega
    exact z_iret dX7_accept_18 (if_neg (by decide)).symm (by rw [if_neg (by decide), ← hM0, z_sM_sM])
theorem tX7_killFee {G : z_G} {M : z_M} {N k : Int} (hb : z_BI (M 22) N) (k0 : 0 ≤ k) (k1 : k < 20) : KX7_killFee G [.ref (z_ad G 0 40), z_I k] M (.inl (some (z_I (z_kf (M 22) k)))) M := by
  refine z_con (ls := [some (.ref (z_ad G 0 40)), some (z_I k), none]) (by decide +kernel) (Nat.le_of_ble_eq_true rfl) rfl ?_
  intro Z htb
  refine z_rng fun hr => ?_
  have hh := z_BI_h hb
  have y_k := z_BI_K hb k (by omega) (by omega)
  unfold z_KI at y_k
  refine z_aloadn dX7_killFee_0 rfl ?_
  refine z_iloadn dX7_killFee_1 rfl ?_
  refine z_iconst dX7_killFee_2 ?_
  refine kX7_80 (tX7_in (by omega) (by omega)) rfl ⟨(Nat.le_of_ble_eq_true rfl), (Nat.le_of_ble_eq_true rfl)⟩ (Nat.le_of_ble_eq_true rfl) dX7_killFee_3 ?_
  refine z_istoren_2 dX7_killFee_6 (Nat.le_of_ble_eq_true rfl) rfl ?_
  refine z_iloadn dX7_killFee_7 rfl ?_
  refine z_iconst dX7_killFee_8 ?_
  refine z_icmp_lt (tgt := 16) (by first | (exact hr _ _ (by decide)) | omega) (by first | (exact hr _ _ (by decide)) | omega) dX7_killFee_9 (by decide) (fun h9 => ?_) (fun h9 => ?_)
  · refine z_aloadn dX7_killFee_16 rfl ?_
    refine z_iloadn dX7_killFee_17 rfl ?_
    refine z_iconst dX7_killFee_18 ?_
    refine kX7_80 (tX7_in (by omega) (by omega)) rfl ⟨(Nat.le_of_ble_eq_true rfl), (Nat.le_of_ble_eq_true rfl)⟩ (Nat.le_of_ble_eq_true rfl) dX7_killFee_19 ?_
    refine z_aloadn dX7_killFee_22 rfl ?_
    refine gX7_7 rfl dX7_killFee_23 ?_
    refine z_bipush dX7_killFee_26 (by decide) ?_
    refine z_iloadn dX7_killFee_28 rfl ?_
    refine z_iadd dX7_killFee_29 ?_
    refine z_rng fun hr => ?_
    refine z_iald (by rfl) (by first | decide | exact Or.inl ⟨by decide, hg⟩) (by omega) (by omega) (by decide) dX7_killFee_30 ?_
    have y_s : 0 ≤ M 22 (11 + M 22 (86 + 5 * k + 2)) ∧ M 22 (11 + M 22 (86 + 5 * k + 2)) ≤ 100 := by
      rcases (show M 22 (86 + 5 * k + 2) = 0 ∨ M 22 (86 + 5 * k + 2) = 1 ∨ M 22 (86 + 5 * k + 2) = 2 by omega) with q | q | q <;> rw [q] <;> first | (rw [show (11 : Int) + 0 = 11 from rfl]; omega) | (rw [show (11 : Int) + 1 = 12 from rfl]; omega) | (rw [show (11 : Int) + 2 = 13 from rfl]; omega)
    have y_m : 0 ≤ M 22 (86 + 5 * k + 1) * M 22 (11 + M 22 (86 + 5 * k + 2)) := Int.mul_nonneg (by omega) y_s.1
    have y_n : M 22 (86 + 5 * k + 1) * M 22 (11 + M 22 (86 + 5 * k + 2)) ≤ 100000 * 100 := Int.mul_le_mul (by omega) y_s.2 y_s.1 (by decide)
    refine z_imul dX7_killFee_31 ?_
    refine z_bipush dX7_killFee_32 (by decide) ?_
    refine z_idiv (by omega) (by omega) (by omega) (by omega) dX7_killFee_34 ?_
    exact z_iret dX7_killFee_35 (by unfold z_kf; first | rw [if_pos (by omega)] | rw [if_neg (by omega)]) rfl
  · refine z_iconst dX7_killFee_12 ?_
    refine z_goto (tgt := 35) dX7_killFee_13 (by decide) ?_
    exact z_iret dX7_killFee_35 (by unfold z_kf; first | rw [if_pos (by omega)] | rw [if_neg (by omega)]) rfl
theorem tX7_kill {G : z_G} {M : z_M} {N c k : Int} (hb : z_BI (M 22) N) (hs0 : 0 ≤ M 21 2) (hs1 : M 21 2 ≤ 6) (rk : z_rg k) (hc : z_c_kill (M 22) k = c) : KX7_kill G [.ref (z_ad G 0 40), z_I k] M (.inl (some (z_I (if c = 0 then z_kf (M 22) k else 0)))) (if c = 0 then z_Mfee M k (z_kf (M 22) k) 4 else z_sM M 21 4 c) := by
  refine z_con (ls := [some (.ref (z_ad G 0 40)), some (z_I k), none]) (by decide +kernel) (Nat.le_of_ble_eq_true rfl) rfl ?_
  intro Z htb
  refine z_rng fun hr => ?_
  refine z_aloadn dX7_kill_0 rfl ?_
  refine z_iconst dX7_kill_1 ?_
  refine pX7_40 (by first | (exact hr _ _ (by decide)) | omega) rfl dX7_kill_2 ?_
  refine z_rng fun hr => ?_
  generalize hM0 : z_sM M 21 4 0 = M0
  have hz : M0 22 = M 22 := by rw [← hM0]; exact z_sM_row _ _ _ (by decide)
  have hz2 : M0 21 2 = M 21 2 := by rw [← hM0]; exact z_sM_ne _ _ _ (by decide)
  rw [hM0] at hr
  rw [← hz] at hb hc
  rw [← hz2] at hs0 hs1
  have hh := z_BI_h hb
  refine z_aloadn dX7_kill_5 rfl ?_
  refine z_iloadn dX7_kill_6 rfl ?_
  refine kX7_77 (tX7_isPiece (by first | (exact hr _ _ (by decide)) | omega) (by first | assumption | omega)) rfl ⟨(Nat.le_of_ble_eq_true rfl), (Nat.le_of_ble_eq_true rfl)⟩ (Nat.le_of_ble_eq_true rfl) dX7_kill_7 ?_
  refine z_ifb_ne (tgt := 19) dX7_kill_10 (by decide) (fun h10 => ?_) (fun h10 => ?_)
  · have y_k := z_BI_K hb k (by omega) (by omega)
    unfold z_KI at y_k
    refine z_aloadn dX7_kill_19 rfl ?_
    refine z_iloadn dX7_kill_20 rfl ?_
    refine z_iconst dX7_kill_21 ?_
    refine kX7_80 (tX7_in (by omega) (by omega)) rfl ⟨(Nat.le_of_ble_eq_true rfl), (Nat.le_of_ble_eq_true rfl)⟩ (Nat.le_of_ble_eq_true rfl) dX7_kill_22 ?_
    refine z_iconst dX7_kill_25 ?_
    refine z_icmp_lt (tgt := 35) (by first | (exact hr _ _ (by decide)) | omega) (by first | (exact hr _ _ (by decide)) | omega) dX7_kill_26 (by decide) (fun h26 => ?_) (fun h26 => ?_)
    · refine z_aloadn dX7_kill_35 rfl ?_
      refine kX7_58 (tX7_save hs0 hs1) rfl ⟨(Nat.le_of_ble_eq_true rfl), (Nat.le_of_ble_eq_true rfl)⟩ (Nat.le_of_ble_eq_true rfl) dX7_kill_36 ?_
      refine z_rng fun hr => ?_
      generalize hM1 : z_SV M0 = M1
      have hz1 : M1 22 = M0 22 := by rw [← hM1]; exact z_SV_row (by decide) (by decide)
      obtain rfl : c = 0 := by rw [← hc]; unfold z_c_kill; (repeat' split) <;> omega
      have hq := hz1.trans hz
      rw [hM1] at hr
      rw [← hz1] at hb hc
      have hh := z_BI_h hb
      have y_27 : M1 27 = M 27 := by rw [← hM1, z_SV_row (by decide) (by decide), ← hM0]; rfl
      have y_28 : M1 28 = M 28 := by rw [← hM1, z_SV_row (by decide) (by decide), ← hM0]; rfl
      try rw [← hz1] at h10
      try rw [← hz1] at h26
      have y_f := z_BI_cF hb (k := k) (by omega) (by omega)
      have y_k := z_BI_K hb k (by omega) (by omega)
      unfold z_KI at y_k
      have y_kf := z_kf_rg hb (k := k) (by omega) (by omega)
      refine z_aloadn dX7_kill_39 rfl ?_
      refine z_iloadn dX7_kill_40 rfl ?_
      refine kX7_160 (tX7_killFee hb (by omega) (by omega)) rfl ⟨(Nat.le_of_ble_eq_true rfl), (Nat.le_of_ble_eq_true rfl)⟩ (Nat.le_of_ble_eq_true rfl) dX7_kill_41 ?_
      refine z_istoren_2 dX7_kill_44 (Nat.le_of_ble_eq_true rfl) rfl ?_
      refine z_aloadn dX7_kill_45 rfl ?_
      refine gX7_7 rfl dX7_kill_46 ?_
      refine z_bipush dX7_kill_49 (by decide) ?_
      refine z_iconst dX7_kill_51 ?_
      refine z_iloadn dX7_kill_52 rfl ?_
      refine z_imul dX7_kill_53 ?_
      refine z_iadd dX7_kill_54 ?_
      refine z_iconst dX7_kill_55 ?_
      refine z_iadd dX7_kill_56 ?_
      refine z_iconst dX7_kill_57 ?_
      refine z_iast (by rfl) (by first | decide | exact Or.inl ⟨by decide, hg⟩) (by omega) (by omega) (by decide) (by first | (exact hr _ _ (by decide)) | omega) dX7_kill_58 ?_
      refine z_rng fun hr => ?_
      refine z_mem (M' := z_sR M1 22 (z_uf (M1 22) (86 + 5 * k + 2) 4)) (z_sM_R _ _ _ _) ?_
      refine z_aloadn dX7_kill_59 rfl ?_
      refine z_iloadn dX7_kill_60 rfl ?_
      refine z_iloadn dX7_kill_61 rfl ?_
      refine z_iconst dX7_kill_62 ?_
      refine kX7_156 (tX7_com0 (by omega) (by omega) (by omega) (by omega) (z_cF_st (by omega) (by omega) y_f)) rfl ⟨(Nat.le_of_ble_eq_true rfl), (Nat.le_of_ble_eq_true rfl)⟩ (Nat.le_of_ble_eq_true rfl) dX7_kill_63 ?_
      refine z_rng fun hr => ?_
      refine z_iloadn dX7_kill_66 rfl ?_
      exact z_iret dX7_kill_67 (by rw [if_pos rfl, ← hq]) (by rw [if_pos rfl]; unfold z_Mfee; rw [hM0, hM1, ← hq, ← y_27, ← y_28])
    · refine z_aloadn dX7_kill_29 rfl ?_
      refine z_iconst dX7_kill_30 ?_
      refine kX7_55 (tX7_fails (by first | decide | omega)) rfl ⟨(Nat.le_of_ble_eq_true rfl), (Nat.le_of_ble_eq_true rfl)⟩ (Nat.le_of_ble_eq_true rfl) dX7_kill_31 ?_
      refine z_rng fun hr => ?_
      obtain rfl : c = 2 := by rw [← hc]; unfold z_c_kill; (repeat' split) <;> omega
      exact z_iret dX7_kill_34 (if_neg (by decide)).symm (by rw [if_neg (by decide), ← hM0, z_sM_sM])
  · refine z_aloadn dX7_kill_13 rfl ?_
    refine z_iconst dX7_kill_14 ?_
    refine kX7_55 (tX7_fails (by first | decide | omega)) rfl ⟨(Nat.le_of_ble_eq_true rfl), (Nat.le_of_ble_eq_true rfl)⟩ (Nat.le_of_ble_eq_true rfl) dX7_kill_15 ?_
    refine z_rng fun hr => ?_
    obtain rfl : c = 1 := by rw [← hc]; unfold z_c_kill; (repeat' split) <;> omega
    exact z_iret dX7_kill_18 (if_neg (by decide)).symm (by rw [if_neg (by decide), ← hM0, z_sM_sM])
theorem tX7_royalty {G : z_G} {M : z_M} {N c k a : Int} (hb : z_BI (M 22) N) (hs0 : 0 ≤ M 21 2) (hs1 : M 21 2 ≤ 6) (rk : z_rg k) (ra : z_rg a) (hc : z_c_royalty (M 22) k a = c) : KX7_royalty G [.ref (z_ad G 0 40), z_I k, z_I a] M (.inl (some (z_I (if c = 0 then (z_com2 (M 22) k a 1 (M 27) (M 28)).2 else 0)))) (if c = 0 then z_Mroy (z_SV (z_sM M 21 4 0)) M k a else z_sM M 21 4 c) := by
  refine z_con (ls := [some (.ref (z_ad G 0 40)), some (z_I k), some (z_I a)]) (by decide +kernel) (Nat.le_of_ble_eq_true rfl) rfl ?_
  intro Z htb
  refine z_rng fun hr => ?_
  refine z_aloadn dX7_royalty_0 rfl ?_
  refine z_iconst dX7_royalty_1 ?_
  refine pX7_40 (by first | (exact hr _ _ (by decide)) | omega) rfl dX7_royalty_2 ?_
  refine z_rng fun hr => ?_
  generalize hM0 : z_sM M 21 4 0 = M0
  have hz : M0 22 = M 22 := by rw [← hM0]; exact z_sM_row _ _ _ (by decide)
  have hz2 : M0 21 2 = M 21 2 := by rw [← hM0]; exact z_sM_ne _ _ _ (by decide)
  rw [hM0] at hr
  rw [← hz] at hb hc
  rw [← hz2] at hs0 hs1
  have hh := z_BI_h hb
  refine z_aloadn dX7_royalty_5 rfl ?_
  refine z_iloadn dX7_royalty_6 rfl ?_
  refine kX7_77 (tX7_isPiece (by first | (exact hr _ _ (by decide)) | omega) (by first | assumption | omega)) rfl ⟨(Nat.le_of_ble_eq_true rfl), (Nat.le_of_ble_eq_true rfl)⟩ (Nat.le_of_ble_eq_true rfl) dX7_royalty_7 ?_
  refine z_ifb_ne (tgt := 19) dX7_royalty_10 (by decide) (fun h10 => ?_) (fun h10 => ?_)
  · refine z_iloadn dX7_royalty_19 rfl ?_
    refine z_iconst dX7_royalty_20 ?_
    refine z_ldc (i := 100000) wk_X7_69 dX7_royalty_21 ?_
    refine kX7_44 (tX7_within (by first | (exact hr _ _ (by decide)) | omega) (by first | (exact hr _ _ (by decide)) | omega) (by first | (exact hr _ _ (by decide)) | omega)) rfl ⟨(Nat.le_of_ble_eq_true rfl), (Nat.le_of_ble_eq_true rfl)⟩ (Nat.le_of_ble_eq_true rfl) dX7_royalty_23 ?_
    refine z_ifb_ne (tgt := 35) dX7_royalty_26 (by decide) (fun h26 => ?_) (fun h26 => ?_)
    · have y_k := z_BI_K hb k (by omega) (by omega)
      unfold z_KI at y_k
      refine z_aloadn dX7_royalty_35 rfl ?_
      refine z_iloadn dX7_royalty_36 rfl ?_
      refine z_iconst dX7_royalty_37 ?_
      refine kX7_80 (tX7_in (by omega) (by omega)) rfl ⟨(Nat.le_of_ble_eq_true rfl), (Nat.le_of_ble_eq_true rfl)⟩ (Nat.le_of_ble_eq_true rfl) dX7_royalty_38 ?_
      refine z_iconst dX7_royalty_41 ?_
      refine z_icmp_eq (tgt := 51) (by first | (exact hr _ _ (by decide)) | omega) (by first | (exact hr _ _ (by decide)) | omega) dX7_royalty_42 (by decide) (fun h42 => ?_) (fun h42 => ?_)
      · refine z_aloadn dX7_royalty_51 rfl ?_
        refine kX7_58 (tX7_save hs0 hs1) rfl ⟨(Nat.le_of_ble_eq_true rfl), (Nat.le_of_ble_eq_true rfl)⟩ (Nat.le_of_ble_eq_true rfl) dX7_royalty_52 ?_
        refine z_rng fun hr => ?_
        generalize hM1 : z_SV M0 = M1
        have hz1 : M1 22 = M0 22 := by rw [← hM1]; exact z_SV_row (by decide) (by decide)
        obtain rfl : c = 0 := by rw [← hc]; unfold z_c_royalty; (repeat' split) <;> omega
        have hq := hz1.trans hz
        rw [hM1] at hr
        rw [← hz1] at hb hc
        have hh := z_BI_h hb
        have y_27 : M1 27 = M 27 := by rw [← hM1, z_SV_row (by decide) (by decide), ← hM0]; rfl
        have y_28 : M1 28 = M 28 := by rw [← hM1, z_SV_row (by decide) (by decide), ← hM0]; rfl
        try rw [← hz1] at h10
        try rw [← hz1] at h26
        try rw [← hz1] at h42
        have y_f := z_BI_cF hb (k := k) (by omega) (by omega)
        have y_k := z_BI_K hb k (by omega) (by omega)
        unfold z_KI at y_k
        refine z_aloadn dX7_royalty_55 rfl ?_
        refine z_iloadn dX7_royalty_56 rfl ?_
        refine z_iloadn dX7_royalty_57 rfl ?_
        refine z_iconst dX7_royalty_58 ?_
        refine kX7_156 (tX7_com1 (by omega) (by omega) (by omega) (by omega) y_f) rfl ⟨(Nat.le_of_ble_eq_true rfl), (Nat.le_of_ble_eq_true rfl)⟩ (Nat.le_of_ble_eq_true rfl) dX7_royalty_59 ?_
        refine z_rng fun hr => ?_
        refine z_aloadn dX7_royalty_62 rfl ?_
        refine gX7_136 rfl dX7_royalty_63 ?_
        refine z_top (v' := (z_com2 (M1 22) k a 1 (M1 27) (M1 28)).2) rfl ?_
        exact z_iret dX7_royalty_66 (by rw [if_pos rfl, ← hq, ← y_27, ← y_28]) (by rw [if_pos rfl]; unfold z_Mroy; rw [← hq, ← y_27, ← y_28])
      · refine z_aloadn dX7_royalty_45 rfl ?_
        refine z_iconst dX7_royalty_46 ?_
        refine kX7_55 (tX7_fails (by first | decide | omega)) rfl ⟨(Nat.le_of_ble_eq_true rfl), (Nat.le_of_ble_eq_true rfl)⟩ (Nat.le_of_ble_eq_true rfl) dX7_royalty_47 ?_
        refine z_rng fun hr => ?_
        obtain rfl : c = 3 := by rw [← hc]; unfold z_c_royalty; (repeat' split) <;> omega
        exact z_iret dX7_royalty_50 (if_neg (by decide)).symm (by rw [if_neg (by decide), ← hM0, z_sM_sM])
    · refine z_aloadn dX7_royalty_29 rfl ?_
      refine z_iconst dX7_royalty_30 ?_
      refine kX7_55 (tX7_fails (by first | decide | omega)) rfl ⟨(Nat.le_of_ble_eq_true rfl), (Nat.le_of_ble_eq_true rfl)⟩ (Nat.le_of_ble_eq_true rfl) dX7_royalty_31 ?_
      refine z_rng fun hr => ?_
      obtain rfl : c = 2 := by rw [← hc]; unfold z_c_royalty; (repeat' split) <;> omega
      exact z_iret dX7_royalty_34 (if_neg (by decide)).symm (by rw [if_neg (by decide), ← hM0, z_sM_sM])
  · refine z_aloadn dX7_royalty_13 rfl ?_
    refine z_iconst dX7_royalty_14 ?_
    refine kX7_55 (tX7_fails (by first | decide | omega)) rfl ⟨(Nat.le_of_ble_eq_true rfl), (Nat.le_of_ble_eq_true rfl)⟩ (Nat.le_of_ble_eq_true rfl) dX7_royalty_15 ?_
    refine z_rng fun hr => ?_
    obtain rfl : c = 1 := by rw [← hc]; unfold z_c_royalty; (repeat' split) <;> omega
    exact z_iret dX7_royalty_18 (if_neg (by decide)).symm (by rw [if_neg (by decide), ← hM0, z_sM_sM])
theorem tX7_canDispute {G : z_G} {M : z_M} {N k p : Int} (hb : z_BI (M 22) N) (k0 : 0 ≤ k) (k1 : k < 20) (p0 : 0 ≤ p) (p1 : p < 12) : KX7_canDispute G [.ref (z_ad G 0 40), z_I k, z_I p] M (.inl (some (z_I (if z_cd (M 22) k p then 1 else 0)))) M := by
  refine z_con (ls := [some (.ref (z_ad G 0 40)), some (z_I k), some (z_I p)]) (by decide +kernel) (Nat.le_of_ble_eq_true rfl) rfl ?_
  intro Z htb
  refine z_rng fun hr => ?_
  have y_q := z_BI_Q hb k p k0 k1 p0 p1
  unfold z_QI at y_q
  have y_k := z_BI_K hb k k0 k1
  unfold z_KI at y_k
  have y_D : 0 ≤ z_aD (M 22) k := z_sm_nn (fun i hi => (z_BI_Q hb k i k0 k1 (by omega) (by omega)).1)
  have y_P := z_aP_le (b := M 22) (k := k) (fun i i0 i1 => by have := z_BI_Q hb k i k0 k1 i0 i1; unfold z_QI at this; omega)
  have y_P0 : 0 ≤ z_aP (M 22) k := z_sm_nn (fun i hi => (z_BI_Q hb k i k0 k1 (by omega) (by omega)).2.2.1)
  have y_m1 : 0 ≤ M 22 (426 + 12 * k + p) * z_aD (M 22) k := Int.mul_nonneg (by omega) y_D
  have y_m2 : M 22 (426 + 12 * k + p) * z_aD (M 22) k ≤ 9 * 9 := Int.mul_le_mul (by omega) (by omega) y_D (by decide)
  have y_m3 : 0 ≤ M 22 (186 + 12 * k + p) * z_aP (M 22) k := Int.mul_nonneg (by omega) y_P0
  have y_m4 : M 22 (186 + 12 * k + p) * z_aP (M 22) k ≤ 9 * 108 := Int.mul_le_mul (by omega) y_P y_P0 (by decide)
  refine z_aloadn dX7_canDispute_0 rfl ?_
  refine z_iloadn dX7_canDispute_1 rfl ?_
  refine z_iconst dX7_canDispute_2 ?_
  refine kX7_80 (tX7_in (by omega) (by omega)) rfl ⟨(Nat.le_of_ble_eq_true rfl), (Nat.le_of_ble_eq_true rfl)⟩ (Nat.le_of_ble_eq_true rfl) dX7_canDispute_3 ?_
  refine z_iconst dX7_canDispute_6 ?_
  refine z_icmp_eq (tgt := 41) (by first | (exact hr _ _ (by decide)) | omega) (by first | (exact hr _ _ (by decide)) | omega) dX7_canDispute_7 (by decide) (fun h7 => ?_) (fun h7 => ?_)
  · refine z_iconst dX7_canDispute_41 ?_
    exact z_zret dX7_canDispute_42 (by unfold z_cd; split <;> omega) rfl (by first | decide | (split <;> simp))
  · refine z_aloadn dX7_canDispute_10 rfl ?_
    refine z_iloadn dX7_canDispute_11 rfl ?_
    refine z_iloadn dX7_canDispute_12 rfl ?_
    refine kX7_143 (tX7_partsOf (by omega) (by omega)) rfl ⟨(Nat.le_of_ble_eq_true rfl), (Nat.le_of_ble_eq_true rfl)⟩ (Nat.le_of_ble_eq_true rfl) dX7_canDispute_13 ?_
    refine z_aloadn dX7_canDispute_16 rfl ?_
    refine z_iloadn dX7_canDispute_17 rfl ?_
    refine kX7_83 (tX7_allDrafts (by omega) (by omega)) rfl ⟨(Nat.le_of_ble_eq_true rfl), (Nat.le_of_ble_eq_true rfl)⟩ (Nat.le_of_ble_eq_true rfl) dX7_canDispute_18 ?_
    refine z_top (v' := z_aD (M 22) k) rfl ?_
    refine z_imul dX7_canDispute_21 ?_
    refine z_aloadn dX7_canDispute_22 rfl ?_
    refine z_iloadn dX7_canDispute_23 rfl ?_
    refine z_iloadn dX7_canDispute_24 rfl ?_
    refine kX7_163 (tX7_drafts (by omega) (by omega)) rfl ⟨(Nat.le_of_ble_eq_true rfl), (Nat.le_of_ble_eq_true rfl)⟩ (Nat.le_of_ble_eq_true rfl) dX7_canDispute_25 ?_
    refine z_aloadn dX7_canDispute_28 rfl ?_
    refine z_iloadn dX7_canDispute_29 rfl ?_
    refine kX7_133 (tX7_allParts (by omega) (by omega)) rfl ⟨(Nat.le_of_ble_eq_true rfl), (Nat.le_of_ble_eq_true rfl)⟩ (Nat.le_of_ble_eq_true rfl) dX7_canDispute_30 ?_
    refine z_top (v' := z_aP (M 22) k) rfl ?_
    refine z_imul dX7_canDispute_33 ?_
    refine z_icmp_ge (tgt := 41) (by first | (exact hr _ _ (by decide)) | omega) (by first | (exact hr _ _ (by decide)) | omega) dX7_canDispute_34 (by decide) (fun h34 => ?_) (fun h34 => ?_)
    · refine z_iconst dX7_canDispute_41 ?_
      exact z_zret dX7_canDispute_42 (by unfold z_cd; split <;> omega) rfl (by first | decide | (split <;> simp))
    · refine z_iconst dX7_canDispute_37 ?_
      refine z_goto (tgt := 42) dX7_canDispute_38 (by decide) ?_
      exact z_zret dX7_canDispute_42 (by unfold z_cd; split <;> omega) rfl (by first | decide | (split <;> simp))
