/-- what comesIn wants of the books -/
def z_cF (b : Int → Int) (k : Int) : Prop := (∀ p, 0 ≤ p → p < 12 → 0 ≤ b (426 + 12 * k + p) ∧ b (426 + 12 * k + p) ≤ 9) ∧ 1 ≤ z_aP b k ∧ z_bd b 0 900000000 ∧ (0 ≤ b 0 ∧ b 0 ≤ 12) ∧ (0 ≤ b 4 ∧ b 4 ≤ 100000000) ∧ (0 ≤ b 8 ∧ b 8 ≤ 30) ∧ (0 ≤ b 9 ∧ b 9 ≤ 20) ∧ (0 ≤ b 10 ∧ b 10 ≤ 10000) ∧ (0 ≤ b (86 + 5 * k) ∧ b (86 + 5 * k) < 12) ∧ (0 ≤ b (86 + 5 * k + 4) ∧ b (86 + 5 * k + 4) ≤ 100000000) ∧ (0 ≤ b (14 + 6 * b (86 + 5 * k) + 3) ∧ b (14 + 6 * b (86 + 5 * k) + 3) < 12)
theorem z_BI_cF {b : Int → Int} {N k : Int} (h : z_BI b N) (k0 : 0 ≤ k) (k1 : k < b 1) : z_cF b k := by
  have hh := z_BI_h h
  have hk := z_BI_K h k k0 (by omega)
  unfold z_KI at hk
  have hres := z_BI_res h
  refine ⟨fun p p0 p1 => ?_, hk.2.2.2.2.2.2.2.2.2.2.2.2.2.1 k1, ⟨fun p p0 p1 => ?_, by omega, by omega, by omega, by omega, fun q p q0 q1 p0 p1 => ?_, by decide, by decide⟩, by omega, by omega, by omega, by omega, by omega, by omega, by omega, ?_⟩
  · have := z_BI_Q h k p k0 (by omega) p0 p1
    unfold z_QI at this
    omega
  · have h1 := z_BI_P h p p0 p1
    have h2 := z_BI_bal h p0 p1
    have h3 := z_BI_one h (Or.inl rfl) p0 p1
    unfold z_PI at h1
    omega
  · have h1 := z_BI_Q h q p q0 q1 p0 p1
    have h2 := z_BI_K h q q0 q1
    unfold z_QI at h1
    unfold z_KI at h2
    omega
  · have := z_BI_P h (b (86 + 5 * k)) (by omega) (by omega)
    unfold z_PI at this
    omega
theorem z_cF_st {b : Int → Int} {k v : Int} (k0 : 0 ≤ k) (k1 : k < 20) (h : z_cF b k) : z_cF (z_uf b (86 + 5 * k + 2) v) k := by
  obtain ⟨h1, h2, h3, h4, h5, h6, h7, h8, h9, h10, h11⟩ := h
  obtain ⟨d1, d2, d3, d4, d5, d6, d7, d8⟩ := h3
  have e : ∀ j, j ≠ 86 + 5 * k + 2 → z_uf b (86 + 5 * k + 2) v j = b j := fun j hj => z_uf_ne _ _ hj
  refine ⟨fun p p0 p1 => by rw [e _ (by omega)]; exact h1 p p0 p1, ?_, ⟨fun p p0 p1 => by rw [e _ (by omega), e _ (by omega), e _ (by omega)]; exact d1 p p0 p1, by rw [e _ (by omega)]; exact d2, by rw [e _ (by omega)]; exact d3, by rw [e _ (by omega)]; exact d4, by rw [e _ (by omega)]; exact d5, fun q p q0 q1 p0 p1 => by rw [e _ (by omega)]; exact d6 q p q0 q1 p0 p1, d7, d8⟩, by rw [e _ (by omega)]; exact h4, by rw [e _ (by omega)]; exact h5, by rw [e _ (by omega)]; exact h6, by rw [e _ (by omega)]; exact h7, by rw [e _ (by omega)]; exact h8, by rw [e _ (by omega)]; exact h9, by rw [e _ (by omega)]; exact h10, ?_⟩
  · rw [show z_aP (z_uf b (86 + 5 * k + 2) v) k = z_aP b k from z_sm_eq fun i hi => e _ (by omega)]
    exact h2
  · rw [e (86 + 5 * k) (by omega), e _ (by omega)]
    exact h11
def z_c_accept (b : Int → Int) (k : Int) : Int := if ¬ (0 ≤ k ∧ k < b 1) then 1 else if ¬ (1 ≤ b (86 + 5 * k + 2) ∧ b (86 + 5 * k + 2) ≤ 2) then 2 else 0
def z_kf (b : Int → Int) (k : Int) : Int := if b (86 + 5 * k + 2) < 3 then b (86 + 5 * k + 1) * b (11 + b (86 + 5 * k + 2)) / 100 else 0
def z_c_kill (b : Int → Int) (k : Int) : Int := if ¬ (0 ≤ k ∧ k < b 1) then 1 else if 3 ≤ b (86 + 5 * k + 2) then 2 else 0
def z_c_royalty (b : Int → Int) (k a : Int) : Int := if ¬ (0 ≤ k ∧ k < b 1) then 1 else if ¬ (1 ≤ a ∧ a ≤ 100000) then 2 else if b (86 + 5 * k + 2) = 3 then 0 else 3
theorem z_kf_rg {b : Int → Int} {N k : Int} (hb : z_BI b N) (k0 : 0 ≤ k) (k1 : k < 20) : 0 ≤ z_kf b k ∧ z_kf b k ≤ 100000 := by
  have hh := z_BI_h hb
  have y_k := z_BI_K hb k k0 k1
  unfold z_KI at y_k
  unfold z_kf
  split
  · have y_s : 0 ≤ b (11 + b (86 + 5 * k + 2)) ∧ b (11 + b (86 + 5 * k + 2)) ≤ 100 := by
      rcases (show b (86 + 5 * k + 2) = 0 ∨ b (86 + 5 * k + 2) = 1 ∨ b (86 + 5 * k + 2) = 2 by omega) with q | q | q <;> rw [q] <;> first | (rw [show (11 : Int) + 0 = 11 from rfl]; omega) | (rw [show (11 : Int) + 1 = 12 from rfl]; omega) | (rw [show (11 : Int) + 2 = 13 from rfl]; omega)
    have y_m : 0 ≤ b (86 + 5 * k + 1) * b (11 + b (86 + 5 * k + 2)) := Int.mul_nonneg (by omega) y_s.1
    have y_n : b (86 + 5 * k + 1) * b (11 + b (86 + 5 * k + 2)) ≤ 100000 * 100 := Int.mul_le_mul (by omega) y_s.2 y_s.1 (by decide)
    omega
  · omega
/-- can pen p dispute the parts of piece k -/
abbrev z_cd (b : Int → Int) (k p : Int) : Prop := b (86 + 5 * k + 2) ≠ 4 ∧ b (426 + 12 * k + p) * z_aD b k < b (186 + 12 * k + p) * z_aP b k
