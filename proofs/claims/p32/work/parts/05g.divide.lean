/-! ===== how many units are left when an amount is split ===== -/
theorem z_sm_add (f h : Int → Int) (n : Nat) : z_sm n (fun p => f p + h p) = z_sm n f + z_sm n h := by
  induction n with
  | zero => rfl
  | succ n ih => rw [z_sm_s, z_sm_s, z_sm_s, ih]; omega
theorem z_sm_mul (c : Int) (f : Int → Int) (n : Nat) : z_sm n (fun p => c * f p) = c * z_sm n f := by
  induction n with
  | zero => exact (Int.mul_zero c).symm
  | succ n ih => rw [z_sm_s, z_sm_s, ih, Int.mul_add]
theorem z_sm_le {f h : Int → Int} {n : Nat} (hh : ∀ i : Nat, i < n → f i ≤ h i) : z_sm n f ≤ z_sm n h := by
  induction n with
  | zero => exact Int.le_refl _
  | succ n ih =>
    have a := ih (fun i hi => hh i (by omega))
    have c := hh n (by omega)
    rw [z_sm_s, z_sm_s]
    omega
theorem z_lf_mul (b : Int → Int) (k rest : Int) : z_aP b k * z_lf b k rest = z_sm 12 (z_rr b k rest) := by
  have e1 : z_sm 12 (fun p => rest * b (426 + 12 * k + p)) = rest * z_aP b k := z_sm_mul rest _ 12
  have e2 : z_sm 12 (fun p => z_aP b k * z_s0 b k rest p + z_rr b k rest p) = z_sm 12 (fun p => rest * b (426 + 12 * k + p)) := z_sm_eq (fun i _ => by
    show z_aP b k * (rest * b (426 + 12 * k + i) / z_aP b k) + rest * b (426 + 12 * k + i) % z_aP b k = rest * b (426 + 12 * k + i)
    rw [Int.emod_def]
    omega)
  rw [z_sm_add, z_sm_mul, e1] at e2
  unfold z_lf
  rw [Int.mul_sub, Int.mul_comm (z_aP b k) rest]
  omega
theorem z_rr_rg {b : Int → Int} {k rest : Int} (ha : 1 ≤ z_aP b k) (p : Int) : 0 ≤ z_rr b k rest p ∧ z_rr b k rest p < z_aP b k :=
  ⟨Int.emod_nonneg _ (by omega), Int.emod_lt_of_pos _ (by omega)⟩
theorem z_lf_rg {b : Int → Int} {k rest : Int} (hq : ∀ p, 0 ≤ p → p < 12 → 0 ≤ b (426 + 12 * k + p) ∧ b (426 + 12 * k + p) ≤ 9) (ha : 1 ≤ z_aP b k) (h4 : z_sm 12 (fun p => if 0 < b (426 + 12 * k + p) then 1 else 0) ≤ 4) : 0 ≤ z_lf b k rest ∧ z_lf b k rest ≤ 4 := by
  have e := z_lf_mul b k rest
  have h0 := z_sm_nn (f := z_rr b k rest) (n := 12) (fun i _ => (z_rr_rg ha i).1)
  have h1 : z_sm 12 (z_rr b k rest) ≤ z_sm 12 (fun p => z_aP b k * (if 0 < b (426 + 12 * k + p) then 1 else 0)) := z_sm_le (fun i hi => by
    have hr := z_rr_rg (rest := rest) ha i
    have hp := hq i (by omega) (by omega)
    show z_rr b k rest i ≤ z_aP b k * (if 0 < b (426 + 12 * k + i) then 1 else 0)
    split
    · rw [Int.mul_one]; omega
    · unfold z_rr
      rw [show b (426 + 12 * k + i) = 0 by omega, Int.mul_zero, Int.zero_emod, Int.mul_zero]
      exact Int.le_refl 0)
  rw [z_sm_mul] at h1
  have h2 : z_aP b k * z_sm 12 (fun p => if 0 < b (426 + 12 * k + p) then 1 else 0) ≤ z_aP b k * 4 := Int.mul_le_mul_of_nonneg_left h4 (by omega)
  constructor
  · refine Int.le_of_mul_le_mul_left (a := z_aP b k) ?_ (by omega)
    rw [Int.mul_zero, e]
    exact h0
  · refine Int.le_of_mul_le_mul_left (a := z_aP b k) ?_ (by omega)
    rw [e]
    exact Int.le_trans h1 h2
/-- how many pens have parts -/
abbrev z_p4c (b : Int → Int) (k : Int) : Prop := z_sm 12 (fun p => if 0 < b (426 + 12 * k + p) then 1 else 0) ≤ 4
theorem z_sp_rg {b : Int → Int} {k rest : Int} {s r : Int → Int} (hq : ∀ p, 0 ≤ p → p < 12 → 0 ≤ b (426 + 12 * k + p) ∧ b (426 + 12 * k + p) ≤ 9) (ha : 1 ≤ z_aP b k) (h4 : z_p4c b k) (h0 : 0 ≤ rest) (h1 : rest ≤ 100000) : ∀ p, 0 ≤ p → p < 12 → 0 ≤ (z_sp b k rest s r).1 p ∧ (z_sp b k rest s r).1 p ≤ 1000000 := by
  intro p p0 p1
  have hl := z_lf_rg (rest := rest) hq ha h4
  have h := z_gv_rg (x := 0) (z_lf b k rest).toNat (z_cp s (z_s0 b k rest) 0 0 12) (z_cp r (z_rr b k rest) 0 0 12) 900000 (fun p p0 p1 => by
    have y_s := z_s0_rg hq ha h0 h1 p0 p1
    unfold z_cp
    rw [if_pos (by omega), show p - 0 + 0 = p by omega]
    exact y_s.2.2) p p0 p1
  unfold z_sp
  omega
theorem tX0_divideFee {G : z_G} {M : z_M} {r7 s r : Int → Int} {g : Nat} {k a : Int} (hg : g < 7) (k0 : 0 ≤ k) (k1 : k < 20) (a0 : 0 ≤ a) (a1 : a ≤ 100000) (hc : z_cF (M g) k) (h4c : z_p4c (M g) k) : KX0_divideFee G [.ref (z_ad G 0 25), .ref (z_ad G g 0), z_I k, z_I a] (z_d3 M r7 s r) (.inl none) (z_dF M g k a r7 s r) := by
  refine z_con (ls := [some (.ref (z_ad G 0 25)), some (.ref (z_ad G g 0)), some (z_I k), some (z_I a)]) (by decide +kernel) (Nat.le_of_ble_eq_true rfl) rfl ?_
  intro Z htb
  refine z_rng fun hr => ?_
  have hc' := hc
  obtain ⟨h1, h2, h3, h4, h5, h6, h7, h8, h9, h10, h11⟩ := hc'
  have y_rs := z_rs_rg (b := M g) (y := 0) a0 a1 h6 h7
  have y_lf := z_lf_rg (rest := z_rs (M g) a 0) h1 h2 h4c
  have y_sp := z_sp_rg (s := s) (r := r) h1 h2 h4c y_rs.1 y_rs.2
  have y_mm := z_mb a0 a1 h7.1 h7.2
  refine z_aloadn dX0_divideFee_0 rfl ?_
  refine z_aloadn dX0_divideFee_1 rfl ?_
  refine z_iloadn dX0_divideFee_2 rfl ?_
  refine z_iloadn dX0_divideFee_3 rfl ?_
  refine kX0_18 (tX0_begin hg k0 k1 a0 a1 hc) rfl ⟨(Nat.le_of_ble_eq_true rfl), (Nat.le_of_ble_eq_true rfl)⟩ (Nat.le_of_ble_eq_true rfl) dX0_divideFee_4 ?_
  refine z_rng fun hr => ?_
  refine z_aloadn dX0_divideFee_7 rfl ?_
  refine z_aloadn dX0_divideFee_8 rfl ?_
  refine gX0_22 hg rfl dX0_divideFee_9 ?_
  refine z_iloadn dX0_divideFee_12 rfl ?_
  refine z_iloadn dX0_divideFee_13 rfl ?_
  refine z_aloadn dX0_divideFee_14 rfl ?_
  refine gX0_28 rfl dX0_divideFee_15 ?_
  refine z_top (v' := z_kp (M g) a) rfl ?_
  refine z_isub dX0_divideFee_18 ?_
  refine z_top (v' := z_rs (M g) a 0) (by unfold z_rs z_ow2; rw [if_pos rfl]; omega) ?_
  refine kX0_32 (tX0_split hg k0 k1 h1 h2 y_rs.1 y_rs.2 y_lf.1 y_lf.2) rfl ⟨(Nat.le_of_ble_eq_true rfl), (Nat.le_of_ble_eq_true rfl)⟩ (Nat.le_of_ble_eq_true rfl) dX0_divideFee_19 ?_
  refine z_rng fun hr => ?_
  exact z_vret dX0_divideFee_22 rfl
theorem tX0_divideRoyalty {G : z_G} {M : z_M} {r7 s r : Int → Int} {g : Nat} {k a : Int} (hg : g < 7) (k0 : 0 ≤ k) (k1 : k < 20) (a0 : 0 ≤ a) (a1 : a ≤ 100000) (hc : z_cF (M g) k) (h4c : z_p4c (M g) k) : KX0_divideRoyalty G [.ref (z_ad G 0 25), .ref (z_ad G g 0), z_I k, z_I a] (z_d3 M r7 s r) (.inl none) (z_dR M g k a r7 s r) := by
  refine z_con (ls := [some (.ref (z_ad G 0 25)), some (.ref (z_ad G g 0)), some (z_I k), some (z_I a)]) (by decide +kernel) (Nat.le_of_ble_eq_true rfl) rfl ?_
  intro Z htb
  refine z_rng fun hr => ?_
  have hc' := hc
  obtain ⟨h1, h2, h3, h4, h5, h6, h7, h8, h9, h10, h11⟩ := hc'
  have y_rs := z_rs_rg (b := M g) (y := 1) a0 a1 h6 h7
  have y_lf := z_lf_rg (rest := z_rs (M g) a 1) h1 h2 h4c
  have y_sp := z_sp_rg (s := s) (r := r) h1 h2 h4c y_rs.1 y_rs.2
  have y_mm := z_mb a0 a1 h7.1 h7.2
  refine z_aloadn dX0_divideRoyalty_0 rfl ?_
  refine z_aloadn dX0_divideRoyalty_1 rfl ?_
  refine z_iloadn dX0_divideRoyalty_2 rfl ?_
  refine z_iloadn dX0_divideRoyalty_3 rfl ?_
  refine kX0_18 (tX0_begin hg k0 k1 a0 a1 hc) rfl ⟨(Nat.le_of_ble_eq_true rfl), (Nat.le_of_ble_eq_true rfl)⟩ (Nat.le_of_ble_eq_true rfl) dX0_divideRoyalty_4 ?_
  refine z_rng fun hr => ?_
  refine z_aloadn dX0_divideRoyalty_7 rfl ?_
  refine z_iloadn dX0_divideRoyalty_8 rfl ?_
  refine z_aloadn dX0_divideRoyalty_9 rfl ?_
  refine gX0_36 hg rfl dX0_divideRoyalty_10 ?_
  refine z_iconst dX0_divideRoyalty_13 ?_
  refine z_iald (by rfl) (by first | exact Or.inl (by decide) | exact Or.inl (Or.inl ⟨by decide, hg⟩)) (by omega) (by omega) (by decide) dX0_divideRoyalty_14 ?_
  refine z_top (v' := M g 9) (by rw [z_d3_g hg]; rfl) ?_
  refine z_imul dX0_divideRoyalty_15 ?_
  refine z_bipush dX0_divideRoyalty_16 (by decide) ?_
  refine z_idiv (by omega) (by omega) (by omega) (by omega) dX0_divideRoyalty_18 ?_
  refine z_top (v' := z_ow2 (M g) a 1) (by unfold z_ow2; rw [if_neg (by decide)]) ?_
  refine pX0_39 (by unfold z_ow2; rw [if_neg (by decide)]; omega) rfl dX0_divideRoyalty_19 ?_
  refine z_rng fun hr => ?_
  rw [z_d3_7]
  refine z_aloadn dX0_divideRoyalty_22 rfl ?_
  refine z_aloadn dX0_divideRoyalty_23 rfl ?_
  refine gX0_22 hg rfl dX0_divideRoyalty_24 ?_
  refine z_iloadn dX0_divideRoyalty_27 rfl ?_
  refine z_iloadn dX0_divideRoyalty_28 rfl ?_
  refine z_aloadn dX0_divideRoyalty_29 rfl ?_
  refine gX0_28 rfl dX0_divideRoyalty_30 ?_
  refine z_top (v' := z_kp (M g) a) rfl ?_
  refine z_isub dX0_divideRoyalty_33 ?_
  refine z_aloadn dX0_divideRoyalty_34 rfl ?_
  refine gX0_39 rfl dX0_divideRoyalty_35 ?_
  refine z_top (v' := z_ow2 (M g) a 1) (z_uf_self (z_dv0 r7 (M g) k a) 11 _) ?_
  refine z_isub dX0_divideRoyalty_38 ?_
  refine z_top (v' := z_rs (M g) a 1) rfl ?_
  refine kX0_32 (tX0_split hg k0 k1 h1 h2 y_rs.1 y_rs.2 y_lf.1 y_lf.2) rfl ⟨(Nat.le_of_ble_eq_true rfl), (Nat.le_of_ble_eq_true rfl)⟩ (Nat.le_of_ble_eq_true rfl) dX0_divideRoyalty_39 ?_
  refine z_rng fun hr => ?_
  refine z_aloadn dX0_divideRoyalty_42 rfl ?_
  refine gX0_36 hg rfl dX0_divideRoyalty_43 ?_
  refine z_iconst dX0_divideRoyalty_46 ?_
  refine z_iald (by rfl) (by first | exact Or.inl (by decide) | exact Or.inl (Or.inl ⟨by decide, hg⟩)) (by omega) (by omega) (by decide) dX0_divideRoyalty_47 ?_
  refine z_top (v' := M g 10) (by rw [z_d3_g hg]; rfl) ?_
  refine z_if_le (tgt := 66) (by omega) dX0_divideRoyalty_48 (by decide) (fun h48 => ?_) (fun h48 => ?_)
  · exact z_vret dX0_divideRoyalty_66 (by first | (have e48 : ¬ 0 < M g 10 := (by omega); unfold z_dR; rw [z_cu_0 e48, z_oca_0 e48]; exact congrArg (fun q => z_d3 M q _ _) (z_uf_id (z_uf (z_dv0 r7 (M g) k a) 11 (z_ow2 (M g) a 1)) 9).symm) | rfl)
  · refine z_aloadn dX0_divideRoyalty_51 rfl ?_
    refine z_aloadn dX0_divideRoyalty_52 rfl ?_
    refine gX0_22 hg rfl dX0_divideRoyalty_53 ?_
    refine z_iloadn dX0_divideRoyalty_56 rfl ?_
    refine z_aloadn dX0_divideRoyalty_57 rfl ?_
    refine gX0_36 hg rfl dX0_divideRoyalty_58 ?_
    refine z_iconst dX0_divideRoyalty_61 ?_
    refine z_iald (by rfl) (by first | exact Or.inl (by decide) | exact Or.inl (Or.inl ⟨by decide, hg⟩)) (by omega) (by omega) (by decide) dX0_divideRoyalty_62 ?_
    refine z_top (v' := M g 10) (by rw [z_d3_g hg]; rfl) ?_
    refine kX0_42 (tX0_cutToCap hg k0 k1 (by omega) h8.2 y_sp (fun p p0 p1 => h3.2.2.2.2.2.1 k p k0 k1 p0 p1) rfl) rfl ⟨(Nat.le_of_ble_eq_true rfl), (Nat.le_of_ble_eq_true rfl)⟩ (Nat.le_of_ble_eq_true rfl) dX0_divideRoyalty_63 ?_
    exact z_vret dX0_divideRoyalty_66 (by first | (have e48 : ¬ 0 < M g 10 := (by omega); unfold z_dR; rw [z_cu_0 e48, z_oca_0 e48]; exact congrArg (fun q => z_d3 M q _ _) (z_uf_id (z_uf (z_dv0 r7 (M g) k a) 11 (z_ow2 (M g) a 1)) 9).symm) | rfl)
