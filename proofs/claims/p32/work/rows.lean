section
/-! ===== doubles: what is wanted of them, over the library's laws ===== -/
theorem z_n64 {a : UInt64} (h : FP.Core.val64 a ≠ .nan) : vf_n64 a := by
  have h1 := (FP.Core.ne_nan a).mp h
  have h2 := FP.Core.mask_toNat a
  unfold vf_n64
  rw [UInt64.le_iff_toNat_le, h2]
  exact h1
theorem z_oi {b : Int} (h1 : -2147483648 ≤ b) (h2 : b ≤ 2147483647) : (Int32.ofInt b).toInt = b := Int32.toInt_ofInt_of_le (by omega) (by omega)
theorem z_oi0 {b : Int} (h1 : -2147483648 ≤ b) (h2 : b ≤ 2147483647) (h3 : b ≠ 0) : Int32.ofInt b ≠ 0 := by
  intro e
  have h := z_oi h1 h2
  rw [e] at h
  exact h3 h.symm
theorem z_fi2d (a : Int) : vf_n64 (FP.i2d (Int32.ofInt a)) := z_n64 (FP.Core.i2d_fin _).ne_nan
theorem z_fdn {a b : Int} (hb : 0 < b) (hb' : b ≤ 2147483647) : FP.Core.val64 (FP.ddiv (FP.i2d (Int32.ofInt a)) (FP.i2d (Int32.ofInt b))) ≠ .nan := by
  refine (FP.Core.notNaN_iff _).mp (FP.Core.ddiv_out (FP.Core.i2d_fin _).notNaN (FP.Core.i2d_fin _) ?_)
  rw [FP.Core.zero_bits2]
  exact FP.Core.i2d_ne_zero (z_oi0 (by omega) hb' (by omega))
theorem z_fdiv {a b : Int} (hb : 0 < b) (hb' : b ≤ 2147483647) : vf_n64 (FP.ddiv (FP.i2d (Int32.ofInt a)) (FP.i2d (Int32.ofInt b))) := z_n64 (z_fdn hb hb')
theorem z_fdiv_self {a b : Int} (hb : 0 < b) (hb' : b ≤ 2147483647) : Op.cmpValue (FP.dcmp (FP.ddiv (FP.i2d (Int32.ofInt a)) (FP.i2d (Int32.ofInt b))) (FP.ddiv (FP.i2d (Int32.ofInt a)) (FP.i2d (Int32.ofInt b)))) .l = Int32.ofInt 0 := by
  have h : FP.dcmp (FP.ddiv (FP.i2d (Int32.ofInt a)) (FP.i2d (Int32.ofInt b))) (FP.ddiv (FP.i2d (Int32.ofInt a)) (FP.i2d (Int32.ofInt b))) = some .eq := FP.Core.dcmp_self (z_fdn hb hb')
  rw [h]
  rfl
theorem z_fint {a : Int} (h1 : -2147483648 ≤ a) (h2 : a ≤ 2147483647) : FP.Core.DInt a (FP.i2d (Int32.ofInt a)) := by
  have h := FP.Core.i2d_int (Int32.ofInt a)
  rw [z_oi h1 h2] at h
  exact h
theorem z_fmul {a b : Int} (ha : 0 < a) (hb : 0 < b) (h : a * b ≤ 2147483647) (ha' : a ≤ 2147483647) (hb' : b ≤ 2147483647) : FP.dmul (FP.i2d (Int32.ofInt a)) (FP.i2d (Int32.ofInt b)) = FP.i2d (Int32.ofInt (a * b)) := by
  have hp : 0 < a * b := Int.mul_pos ha hb
  generalize hm : a * b = m at *
  have h1 := FP.Core.dmul_int (z_fint (a := a) (by omega) ha') (z_fint (a := b) (by omega) hb') (by rw [hm]; omega)
  rw [hm] at h1
  exact FP.Core.dint_unique (by omega) h1 (z_fint (a := m) (by omega) h)
/-! the bits of a double from 0 up to 1 -/
def z_sc (x : UInt64) : Nat → UInt64
  | 0 => x
  | i + 1 => FP.dmul (z_sc x i) 4611686018427387904
abbrev z_sd (x : UInt64) (e : Nat) : UInt64 := FP.dmul (FP.dsub (z_sc x e) FP.dconst1) 4841369599423283200
def z_bok (x : UInt64) (e : Nat) (m : Int) : Prop := e ≤ 1000 ∧ Op.cmpValue (FP.dcmp x FP.dconst0) .l = Int32.ofInt 1 ∧ (∀ i, i < e → Op.cmpValue (FP.dcmp (z_sc x i) FP.dconst1) .g = Int32.ofInt (-1) ∧ vf_n64 (FP.dmul (z_sc x i) 4611686018427387904)) ∧ (∃ r : Int, 0 ≤ r ∧ r ≤ 1 ∧ Op.cmpValue (FP.dcmp (z_sc x e) FP.dconst1) .g = Int32.ofInt r) ∧ vf_n64 (FP.dsub (z_sc x e) FP.dconst1) ∧ vf_n64 (z_sd x e) ∧ FP.d2l (z_sd x e) = Int64.ofInt m ∧ (1023 - e) * 4503599627370496 + m = x.toInt64.toInt
theorem z_dwfit {c : Nat} {q : Int} (h1 : 4503599627370496 ≤ c) (h2 : c < 9007199254740992) (h3 : -1074 ≤ q) (h4 : q ≤ 971) : FP.Core.fits FP.Core.b64 (.fin false c q) := by
  refine ⟨?_, ?_, ?_, .inr ?_⟩
  · show c < 2 ^ 53
    omega
  · rw [FP.Core.qmin_b64]; exact h3
  · rw [show FP.Core.b64.qmax = 971 by decide]; exact h4
  · rw [FP.Core.tails_b64]; omega
theorem z_v2 : FP.Core.val64 4611686018427387904 = .fin false (2 ^ 52) (-51) := by decide +kernel
theorem z_v1 : FP.Core.val64 FP.dconst1 = .fin false (2 ^ 52) (-52) := by decide +kernel
theorem z_v52 : FP.Core.val64 4841369599423283200 = .fin false (2 ^ 52) 0 := by decide +kernel
theorem z_v0 : FP.Core.val64 FP.dconst0 = .fin false 0 (-1074) := by decide +kernel
theorem z_dbl {y : UInt64} {c : Nat} {q : Int} (h1 : 4503599627370496 ≤ c) (h2 : c < 9007199254740992) (h3 : -1075 ≤ q) (h4 : q ≤ 970) (h : FP.Core.val64 y = .fin false c q) : FP.Core.val64 (FP.dmul y 4611686018427387904) = .fin false c (q + 1) := by
  show FP.Core.val64 (FP.Core.dmul y 4611686018427387904) = _
  rw [FP.Core.val64_dmul, h, z_v2]
  show FP.Core.roundRatio FP.Core.b64 false (c * 2 ^ 52) 1 (q + -51) = _
  refine FP.Core.roundRatio_exact FP.Core.good_b64 (by decide) (z_dwfit h1 h2 (by omega) (by omega)) ?_
  rw [show (q + -51 - (q + 1)).toNat = 0 by omega, show (q + 1 - (q + -51)).toNat = 52 by omega]
  omega
theorem z_ord1 {y : UInt64} {c : Nat} {q : Int} (h : FP.Core.val64 y = .fin false c q) (hq : q ≤ -52) : FP.dcmp y FP.dconst1 = some (compare (c : Int) ((2 ^ 52 * 2 ^ (-52 - q).toNat : Nat) : Int)) := by
  show FP.Core.order (FP.Core.val64 y) (FP.Core.val64 FP.dconst1) = _
  rw [h, z_v1]
  show some (compare ((c * 2 ^ (q - min q (-52)).toNat : Nat) : Int) ((2 ^ 52 * 2 ^ (-52 - min q (-52)).toNat : Nat) : Int)) = _
  rw [show min q (-52) = q by omega, Int.sub_self]
  show some (compare ((c * 1 : Nat) : Int) _) = _
  rw [Nat.mul_one]
theorem z_lt1 {y : UInt64} {c : Nat} {q : Int} (h2 : c < 9007199254740992) (hq : q < -52) (h : FP.Core.val64 y = .fin false c q) : Op.cmpValue (FP.dcmp y FP.dconst1) .g = Int32.ofInt (-1) := by
  rw [z_ord1 h (by omega), (FP.Core.compare_lt_iff _ _).mpr ?_]
  · rfl
  · have e : (2 : Nat) ^ (-52 - q).toNat = 2 * 2 ^ (-53 - q).toNat := by
      rw [show (-52 - q).toNat = (-53 - q).toNat + 1 by omega, Nat.pow_succ, Nat.mul_comm]
    have := Nat.two_pow_pos (-53 - q).toNat
    rw [e]
    omega
theorem z_ge1 {y : UInt64} {c : Nat} (h1 : 4503599627370496 ≤ c) (h : FP.Core.val64 y = .fin false c (-52)) : ∃ r : Int, 0 ≤ r ∧ r ≤ 1 ∧ Op.cmpValue (FP.dcmp y FP.dconst1) .g = Int32.ofInt r := by
  rw [z_ord1 h (by omega), show (2 ^ 52 * 2 ^ ((-52 : Int) - -52).toNat : Nat) = 4503599627370496 by decide]
  by_cases e : c = 4503599627370496
  · refine ⟨0, by decide, by decide, ?_⟩
    rw [(FP.Core.compare_eq_iff _ _).mpr (by omega)]
    rfl
  · refine ⟨1, by decide, by decide, ?_⟩
    rw [(FP.Core.compare_gt_iff _ _).mpr (by omega)]
    rfl
theorem z_gt0 {y : UInt64} {c : Nat} {q : Int} (h1 : 4503599627370496 ≤ c) (hq : -1074 ≤ q) (h : FP.Core.val64 y = .fin false c q) : Op.cmpValue (FP.dcmp y FP.dconst0) .l = Int32.ofInt 1 := by
  have e : FP.dcmp y FP.dconst0 = some .gt := by
    show FP.Core.order (FP.Core.val64 y) (FP.Core.val64 FP.dconst0) = _
    rw [h, z_v0]
    show some (compare ((c * 2 ^ (q - min q (-1074)).toNat : Nat) : Int) ((0 * 2 ^ (-1074 - min q (-1074)).toNat : Nat) : Int)) = _
    rw [(FP.Core.compare_gt_iff _ _).mpr ?_]
    have := Nat.mul_pos (show 0 < c by omega) (Nat.two_pow_pos (q - min q (-1074)).toNat)
    omega
  rw [e]
  rfl
theorem z_whl0 {c' T a b w k p : Nat} (h : c' * 2 ^ w = T * 2 ^ k) (e : p + a + k = w + b) : c' * 2 ^ p * 2 ^ a = T * 2 ^ b := by
  refine Nat.eq_of_mul_eq_mul_right (Nat.two_pow_pos k) ?_
  calc c' * 2 ^ p * 2 ^ a * 2 ^ k = c' * 2 ^ (p + a + k) := by rw [Nat.pow_add, Nat.pow_add]; ac_rfl
    _ = c' * 2 ^ (w + b) := by rw [e]
    _ = c' * 2 ^ w * 2 ^ b := by rw [Nat.pow_add, Nat.mul_assoc]
    _ = T * 2 ^ k * 2 ^ b := by rw [h]
    _ = T * 2 ^ b * 2 ^ k := by ac_rfl
theorem z_dwup {d D j k p : Nat} (h : d ≤ D) (e : k = p + j) : d * 2 ^ k ≤ 2 ^ p * 2 ^ j * D := by
  subst e
  rw [Nat.pow_add, Nat.mul_comm]
  exact Nat.mul_le_mul_left _ h
theorem z_lo {d D j k p s : Nat} (h : D ≤ d * 2 ^ s) (e : k = p + j + s) : 2 ^ p * 2 ^ j * D ≤ d * 2 ^ k := by
  subst e
  calc 2 ^ p * 2 ^ j * D ≤ 2 ^ p * 2 ^ j * (d * 2 ^ s) := Nat.mul_le_mul_left _ h
    _ = d * 2 ^ (p + j + s) := by rw [Nat.pow_add, Nat.pow_add]; ac_rfl
theorem z_uo {K : Nat} (h : 1 ≤ K) : FP.Core.unitsOf FP.Core.b64 (K * 2 ^ 52) = 2 ^ 52 * 2 ^ (K - 1) := by
  rw [← FP.Core.tails_b64]
  exact FP.Core.unitsOf_start h
theorem z_whl {c' T : Nat} {q' : Int} (hq : -1074 ≤ q') (h : c' * 2 ^ (q' - -1074).toNat = T * 2 ^ (-52 - -1074 : Int).toNat) : FP.Core.Whole (T : Int) (.fin false (c' * 2 ^ 52) (q' + 0)) := by
  show ((c' * 2 ^ 52 * 2 ^ (q' + 0).toNat : Nat) : Int) = (T : Int) * ((2 ^ (-(q' + 0)).toNat : Nat) : Int)
  rw [← Int.natCast_mul]
  congr 1
  rw [Int.add_zero, show (-52 - -1074 : Int).toNat = 1022 by decide] at *
  exact z_whl0 h (by omega)
theorem z_sub1 {y : UInt64} {T : Nat} (h2 : T < 4503599627370496) (h : FP.Core.val64 y = .fin false (2 ^ 52 + T) (-52)) : ∃ c' q', FP.Core.val64 (FP.dsub y FP.dconst1) = .fin false c' q' ∧ -1074 ≤ q' ∧ c' * 2 ^ (q' - -1074).toNat = T * 2 ^ (-52 - -1074 : Int).toNat := by
  have hx : FP.Core.exactSum (FP.Core.val64 y) (FP.Core.negate (FP.Core.val64 FP.dconst1)) = .fin false T (-52) := by
    rw [h, z_v1]
    show FP.Core.Datum.fin (FP.Core.sumSign false true (FP.Core.sumUnits false (2 ^ 52 + T) (-52) true (2 ^ 52) (-52) (-52))) (FP.Core.sumUnits false (2 ^ 52 + T) (-52) true (2 ^ 52) (-52) (-52)).natAbs (-52) = _
    have hv : FP.Core.sumUnits false (2 ^ 52 + T) (-52) true (2 ^ 52) (-52) (-52) = (T : Int) := by
      show (((2 ^ 52 + T) * 1 : Nat) : Int) + -((2 ^ 52 * 1 : Nat) : Int) = _
      omega
    rw [hv]
    congr 1
    unfold FP.Core.sumSign
    split
    · rfl
    · exact decide_eq_false (by omega)
  obtain ⟨c', q', e1, e2⟩ := FP.Core.round_exact FP.Core.good_b64 false (c := T) (q := -52) (by show T < 2 ^ 53; omega) (by rw [FP.Core.qmin_b64]; decide) (by decide)
  have hy : FP.Core.val64 (FP.dsub y FP.dconst1) = .fin false c' q' := by
    show FP.Core.val64 (FP.Core.dsub y FP.dconst1) = _
    rw [FP.Core.val64_dsub, hx, e1]
  have hf := FP.Core.val64_fits (FP.dsub y FP.dconst1)
  rw [hy] at hf
  have hq := hf.2.1
  rw [FP.Core.qmin_b64] at hq e2
  exact ⟨c', q', hy, hq, e2⟩
theorem z_mul52 {y : UInt64} {c' T : Nat} {q' : Int} (h2 : T < 4503599627370496) (hq : -1074 ≤ q') (h : c' * 2 ^ (q' - -1074).toNat = T * 2 ^ (-52 - -1074 : Int).toNat) (hy : FP.Core.val64 y = .fin false c' q') : FP.Core.DInt (T : Int) (FP.dmul y 4841369599423283200) := by
  show FP.Core.Whole (T : Int) (FP.Core.val64 (FP.Core.dmul y 4841369599423283200))
  rw [FP.Core.val64_dmul, hy, z_v52]
  exact FP.Core.whole_round FP.Core.good_b64 FP.Core.wide_b64 (by show _ ≤ 2 ^ 53; omega) (z_whl hq h)
theorem z_dwd2l {y : UInt64} {T : Nat} (h2 : T < 4503599627370496) (h : FP.Core.DInt (T : Int) y) : FP.d2l y = Int64.ofInt (T : Int) :=
  FP.Core.d2l_int (by rw [Int64.toInt_ofInt_of_le (by omega) (by omega)]; exact h)
/-- a double whose exponent and digits are known -/
theorem z_bokn {x : UInt64} {E T : Nat} (h1 : 23 ≤ E) (h2 : E ≤ 1023) (hT : T < 4503599627370496) (hx : FP.Core.val64 x = .fin false (2 ^ 52 + T) ((E : Int) - 1075)) (hn : x.toNat = E * 4503599627370496 + T) : z_bok x (1023 - E) (T : Int) := by
  have hs : ∀ i : Nat, E + i ≤ 1023 → FP.Core.val64 (z_sc x i) = .fin false (2 ^ 52 + T) ((E : Int) + i - 1075) := by
    intro i
    induction i with
    | zero =>
      intro _
      show FP.Core.val64 x = _
      rw [hx]
      congr 1
    | succ i y_h =>
      intro hi
      have h := z_dbl (by omega) (by omega) (by omega) (by omega) (y_h (by omega))
      rw [show (E : Int) + i - 1075 + 1 = (E : Int) + (i + 1 : Nat) - 1075 by omega] at h
      exact h
  have he := hs (1023 - E) (by omega)
  rw [show (E : Int) + (1023 - E : Nat) - 1075 = -52 by omega] at he
  obtain ⟨c', q', y1, y2, y3⟩ := z_sub1 hT he
  have y4 := z_mul52 hT y2 y3 y1
  refine ⟨by omega, z_gt0 (by omega) (by omega) hx, fun i hi => ⟨z_lt1 (by omega) (by omega) (hs i (by omega)), ?_⟩, z_ge1 (by omega) he, ?_, ?_, z_dwd2l hT y4, ?_⟩
  · refine z_n64 ?_
    rw [z_dbl (by omega) (by omega) (by omega) (by omega) (hs i (by omega))]
    exact FP.Core.Datum.noConfusion
  · refine z_n64 ?_
    rw [y1]
    exact FP.Core.Datum.noConfusion
  · exact z_n64 (FP.Core.DInt_ne_nan y4)
  · have hlt : 2 * x.toNat < 2 ^ 64 := by omega
    have e : x.toInt64.toInt = (x.toNat : Int) := BitVec.toInt_eq_toNat_of_lt hlt
    rw [e, hn]
    omega
theorem z_qcong {c1 c2 d D a1 b1 a2 b2 u v : Nat} (h1 : c1 * 2 ^ a1 = d * 2 ^ b1) (h2 : c2 * 2 ^ a2 = D * 2 ^ b2) (h : u + b1 + a2 = v + a1 + b2) : c1 * D * 2 ^ u = d * c2 * 2 ^ v := by
  refine Nat.eq_of_mul_eq_mul_right (Nat.two_pow_pos (a1 + b2)) ?_
  calc c1 * D * 2 ^ u * 2 ^ (a1 + b2) = (c1 * 2 ^ a1) * (D * 2 ^ b2) * 2 ^ u := by rw [Nat.pow_add]; ac_rfl
    _ = (d * 2 ^ b1) * (c2 * 2 ^ a2) * 2 ^ u := by rw [h1, h2]
    _ = d * c2 * 2 ^ (u + b1 + a2) := by rw [Nat.pow_add, Nat.pow_add]; ac_rfl
    _ = d * c2 * 2 ^ (v + a1 + b2) := by rw [h]
    _ = d * c2 * 2 ^ v * 2 ^ (a1 + b2) := by rw [Nat.add_assoc, Nat.pow_add, ← Nat.mul_assoc]
/-- a quotient of whole numbers, rounded -/
theorem z_quo {d D : Int} (hd : 0 < d) (hd' : d ≤ 2147483647) (hD : 0 < D) (hD' : D ≤ 2147483647) : FP.Core.val64 (FP.ddiv (FP.i2d (Int32.ofInt d)) (FP.i2d (Int32.ofInt D))) = FP.Core.roundRatio FP.Core.b64 false d.natAbs D.natAbs 0 := by
  have w1 := z_fint (a := d) (by omega) hd'
  have w2 := z_fint (a := D) (by omega) hD'
  show FP.Core.val64 (FP.Core.ddiv _ _) = _
  rw [FP.Core.val64_ddiv]
  unfold FP.Core.DInt at w1 w2
  change FP.Core.Whole d (FP.Core.val64 (FP.Core.i2d (Int32.ofInt d))) at w1
  change FP.Core.Whole D (FP.Core.val64 (FP.Core.i2d (Int32.ofInt D))) at w2
  generalize FP.Core.val64 (FP.Core.i2d (Int32.ofInt d)) = X at *
  generalize FP.Core.val64 (FP.Core.i2d (Int32.ofInt D)) = Y at *
  cases X with
  | nan => exact w1.elim
  | inf => exact w1.elim
  | fin s c1 q1 =>
  cases Y with
  | nan => exact w2.elim
  | inf => exact w2.elim
  | fin t c2 q2 =>
    have s1 := FP.Core.whole_sign w1 (by omega)
    have s2 := FP.Core.whole_sign w2 (by omega)
    rw [decide_eq_false (by omega)] at s1 s2
    subst s1 s2
    have n0 : c2 ≠ 0 := by have := FP.Core.whole_zero w2; omega
    show (if c2 = 0 then _ else FP.Core.roundRatio FP.Core.b64 false c1 c2 (q1 - q2)) = _
    rw [if_neg n0]
    exact FP.Core.roundRatio_congr (by omega) (by omega) (z_qcong (FP.Core.whole_natAbs w1) (FP.Core.whole_natAbs w2) (by omega))
theorem z_dcd {x : UInt64} (h0 : x.toNat < 2 ^ 63) (h1 : 4503599627370496 ≤ x.toNat) (h2 : x.toNat < 2047 * 4503599627370496) : FP.Core.val64 x = .fin false (2 ^ 52 + x.toNat % 4503599627370496) (((x.toNat / 4503599627370496 : Nat) : Int) - 1075) := by
  have eE : FP.Core.fieldE FP.Core.b64 x.toNat = x.toNat / 4503599627370496 := by
    show x.toNat / 4503599627370496 % 2048 = _
    omega
  have eS : FP.Core.fieldS FP.Core.b64 x.toNat = false := by
    show (x.toNat / 4503599627370496 / 2048 % 2 == 1) = false
    rw [show x.toNat / 4503599627370496 / 2048 % 2 = 0 by omega]
    rfl
  show FP.Core.decode FP.Core.b64 x.toNat = _
  unfold FP.Core.decode
  rw [eE, eS, FP.Core.exps_b64, if_neg (by omega), if_neg (by omega), FP.Core.qmin_b64]
  show FP.Core.Datum.fin false (2 ^ 52 + x.toNat % 4503599627370496) _ = _
  congr 1
  omega
theorem z_bokq {d D : Int} (hd : 0 < d) (h : d ≤ D) (hD' : D ≤ 2147483647) : ∃ e m, z_bok (FP.ddiv (FP.i2d (Int32.ofInt d)) (FP.i2d (Int32.ofInt D))) e m := by
  have hq := z_quo hd (by omega) (show 0 < D by omega) hD'
  have hnn : FP.Core.val64 (FP.ddiv (FP.i2d (Int32.ofInt d)) (FP.i2d (Int32.ofInt D))) ≠ .nan := z_fdn (by omega) hD'
  generalize FP.ddiv (FP.i2d (Int32.ofInt d)) (FP.i2d (Int32.ofInt D)) = x at *
  have hs := FP.Core.sgn_bits hnn
  rw [hq, FP.Core.sgn_roundRatio] at hs
  have h0 : x.toNat < 2 ^ 63 := by have := of_decide_eq_false hs.symm; omega
  have hm : FP.Core.mag FP.Core.b64 x.toNat = x.toNat := by rw [FP.Core.mag_toNat64]; exact Nat.mod_eq_of_lt h0
  have q0 : FP.Core.b64.qmin = -1074 := FP.Core.qmin_b64
  have u1 : FP.Core.inUnits d.natAbs 0 (-1074) = d.natAbs * 2 ^ 1074 := rfl
  have hup : x.toNat ≤ 1023 * 2 ^ 52 := by
    rw [← hm]
    refine FP.Core.mag_le FP.Core.good_b64 (e0 := -1074) hq (by omega) (by omega) (by omega) ?_
    rw [u1, z_uo (K := 1023) (by decide), q0, show ((-1074 : Int) - -1074).toNat = 0 by decide, Nat.pow_zero, Nat.mul_one]
    exact z_dwup (by omega) (by decide)
  have hlo : 992 * 2 ^ 52 ≤ x.toNat := by
    rw [← hm]
    refine FP.Core.mag_ge FP.Core.good_b64 (e0 := -1074) hq (by omega) (by omega) (by omega) (by rw [FP.Core.infBits_b64]; omega) ?_
    rw [u1, z_uo (K := 992) (by decide), q0, show ((-1074 : Int) - -1074).toNat = 0 by decide, Nat.pow_zero, Nat.mul_one]
    exact z_lo (s := 31) (by omega) (by decide)
  exact ⟨_, _, z_bokn (E := x.toNat / 4503599627370496) (T := x.toNat % 4503599627370496) (by omega) (by omega) (by omega) (z_dcd h0 (by omega) (by omega)) (by omega)⟩
theorem z_dwf0 {D : Int} (hD : 0 < D) (hD' : D ≤ 2147483647) : FP.ddiv (FP.i2d (Int32.ofInt 0)) (FP.i2d (Int32.ofInt D)) = FP.dconst0 := by
  have w2 := z_fint (a := D) (by omega) hD'
  have e0 : FP.i2d (Int32.ofInt 0) = FP.dconst0 := by decide +kernel
  rw [e0]
  have hv : FP.Core.val64 (FP.ddiv FP.dconst0 (FP.i2d (Int32.ofInt D))) = .fin false 0 (-1074) := by
    show FP.Core.val64 (FP.Core.ddiv _ _) = _
    rw [FP.Core.val64_ddiv, z_v0]
    unfold FP.Core.DInt at w2
    change FP.Core.Whole D (FP.Core.val64 (FP.Core.i2d (Int32.ofInt D))) at w2
    generalize FP.Core.val64 (FP.Core.i2d (Int32.ofInt D)) = Y at *
    cases Y with
    | nan => exact w2.elim
    | inf => exact w2.elim
    | fin t c2 q2 =>
      have s2 := FP.Core.whole_sign w2 (by omega)
      rw [decide_eq_false (by omega)] at s2
      subst s2
      have n0 : c2 ≠ 0 := by have := FP.Core.whole_zero w2; omega
      show (if c2 = 0 then _ else FP.Core.roundRatio FP.Core.b64 false 0 c2 (-1074 - q2)) = _
      rw [if_neg n0]
      unfold FP.Core.roundRatio
      rw [if_pos rfl, FP.Core.qmin_b64]
  refine FP.Core.val64_inj ?_ (hv.trans z_v0.symm)
  rw [hv]
  exact FP.Core.Datum.noConfusion
end
section
-- ===== PART A: goes FIRST, ahead of the names: the tables' words, and 'selects' of the private methods out of them =====
/-- a private method of a class that the tables say can be made, by its rows of tables_1 -/
def lw_okq (q : MethodName × Nat) : Prop := (q.1.cls ≠ "java/lang/invoke/MethodHandle" ∧ q.1.cls ≠ "java/lang/invoke/VarHandle") ∧ Cond.instantiable q.1.cls q.2 ∈ tables_1 ∧ Cond.privateMethod q.1 ∈ tables_1 ∧ Cond.instanceMethod q.1 ∈ tables_1
theorem lw_p0 : lw_okq (⟨"java/lang/Throwable", "fillInStackTrace", "(I)Ljava/lang/Throwable;"⟩, 6) := ⟨⟨by decide +kernel, by decide +kernel⟩, List.mem_of_getElem? (i := 324) (by decide +kernel), List.mem_of_getElem? (i := 322) (by decide +kernel), List.mem_of_getElem? (i := 323) (by decide +kernel)⟩
theorem lw_p1 : lw_okq (⟨"PenGuild", "needPen", "(I)V"⟩, 9) := ⟨⟨by decide +kernel, by decide +kernel⟩, List.mem_of_getElem? (i := 18) (by decide +kernel), List.mem_of_getElem? (i := 382) (by decide +kernel), List.mem_of_getElem? (i := 383) (by decide +kernel)⟩
theorem lw_p2 : lw_okq (⟨"PenGuild", "needPiece", "(I)V"⟩, 9) := ⟨⟨by decide +kernel, by decide +kernel⟩, List.mem_of_getElem? (i := 18) (by decide +kernel), List.mem_of_getElem? (i := 430) (by decide +kernel), List.mem_of_getElem? (i := 431) (by decide +kernel)⟩
theorem lw_p3 : lw_okq (⟨"PenGuild$FairParts", "begin", "(LPenGuild$Pieces;I)V"⟩, 6) := ⟨⟨by decide +kernel, by decide +kernel⟩, List.mem_of_getElem? (i := 90) (by decide +kernel), List.mem_of_getElem? (i := 501) (by decide +kernel), List.mem_of_getElem? (i := 502) (by decide +kernel)⟩
theorem lw_p4 : lw_okq (⟨"PenGuild$Pieces", "writerWithMost", "(II)I"⟩, 9) := ⟨⟨by decide +kernel, by decide +kernel⟩, List.mem_of_getElem? (i := 157) (by decide +kernel), List.mem_of_getElem? (i := 509) (by decide +kernel), List.mem_of_getElem? (i := 510) (by decide +kernel)⟩
theorem lw_p5 : lw_okq (⟨"PenGuild$FairParts", "setTrial", "(I)I"⟩, 6) := ⟨⟨by decide +kernel, by decide +kernel⟩, List.mem_of_getElem? (i := 90) (by decide +kernel), List.mem_of_getElem? (i := 518) (by decide +kernel), List.mem_of_getElem? (i := 519) (by decide +kernel)⟩
theorem lw_p6 : lw_okq (⟨"PenGuild$FairParts", "gap", "(I)I"⟩, 6) := ⟨⟨by decide +kernel, by decide +kernel⟩, List.mem_of_getElem? (i := 90) (by decide +kernel), List.mem_of_getElem? (i := 522) (by decide +kernel), List.mem_of_getElem? (i := 523) (by decide +kernel)⟩
theorem lw_p7 : lw_okq (⟨"PenGuild$FairParts", "keepTrial", "()V"⟩, 6) := ⟨⟨by decide +kernel, by decide +kernel⟩, List.mem_of_getElem? (i := 90) (by decide +kernel), List.mem_of_getElem? (i := 530) (by decide +kernel), List.mem_of_getElem? (i := 531) (by decide +kernel)⟩
theorem lw_p8 : lw_okq (⟨"PenGuild", "needAccepted", "(I)V"⟩, 9) := ⟨⟨by decide +kernel, by decide +kernel⟩, List.mem_of_getElem? (i := 18) (by decide +kernel), List.mem_of_getElem? (i := 554) (by decide +kernel), List.mem_of_getElem? (i := 555) (by decide +kernel)⟩
theorem lw_p9 : lw_okq (⟨"PenGuild$Division", "begin", "(LPenGuild$State;II)V"⟩, 6) := ⟨⟨by decide +kernel, by decide +kernel⟩, List.mem_of_getElem? (i := 60) (by decide +kernel), List.mem_of_getElem? (i := 578) (by decide +kernel), List.mem_of_getElem? (i := 579) (by decide +kernel)⟩
theorem lw_p10 : lw_okq (⟨"PenGuild$Division", "split", "(LPenGuild$Pieces;II)V"⟩, 6) := ⟨⟨by decide +kernel, by decide +kernel⟩, List.mem_of_getElem? (i := 60) (by decide +kernel), List.mem_of_getElem? (i := 582) (by decide +kernel), List.mem_of_getElem? (i := 583) (by decide +kernel)⟩
theorem lw_p11 : lw_okq (⟨"PenGuild$Division", "giveUnit", "()V"⟩, 6) := ⟨⟨by decide +kernel, by decide +kernel⟩, List.mem_of_getElem? (i := 60) (by decide +kernel), List.mem_of_getElem? (i := 589) (by decide +kernel), List.mem_of_getElem? (i := 590) (by decide +kernel)⟩
theorem lw_p12 : lw_okq (⟨"PenGuild$Division", "cutToCap", "(LPenGuild$Pieces;II)V"⟩, 6) := ⟨⟨by decide +kernel, by decide +kernel⟩, List.mem_of_getElem? (i := 60) (by decide +kernel), List.mem_of_getElem? (i := 593) (by decide +kernel), List.mem_of_getElem? (i := 594) (by decide +kernel)⟩
theorem lw_p13 : lw_okq (⟨"PenGuild", "gainOf", "(I)I"⟩, 9) := ⟨⟨by decide +kernel, by decide +kernel⟩, List.mem_of_getElem? (i := 18) (by decide +kernel), List.mem_of_getElem? (i := 597) (by decide +kernel), List.mem_of_getElem? (i := 598) (by decide +kernel)⟩
theorem lw_p14 : lw_okq (⟨"PenGuild", "findBest", "(I)V"⟩, 9) := ⟨⟨by decide +kernel, by decide +kernel⟩, List.mem_of_getElem? (i := 18) (by decide +kernel), List.mem_of_getElem? (i := 611) (by decide +kernel), List.mem_of_getElem? (i := 612) (by decide +kernel)⟩
theorem lw_p15 : lw_okq (⟨"PenGuild", "preferIfBetter", "(I)V"⟩, 9) := ⟨⟨by decide +kernel, by decide +kernel⟩, List.mem_of_getElem? (i := 18) (by decide +kernel), List.mem_of_getElem? (i := 618) (by decide +kernel), List.mem_of_getElem? (i := 619) (by decide +kernel)⟩
def lw_privs_1 : List (MethodName × Nat) := [(⟨"java/lang/Throwable", "fillInStackTrace", "(I)Ljava/lang/Throwable;"⟩, 6), (⟨"PenGuild", "needPen", "(I)V"⟩, 9), (⟨"PenGuild", "needPiece", "(I)V"⟩, 9), (⟨"PenGuild$FairParts", "begin", "(LPenGuild$Pieces;I)V"⟩, 6), (⟨"PenGuild$Pieces", "writerWithMost", "(II)I"⟩, 9), (⟨"PenGuild$FairParts", "setTrial", "(I)I"⟩, 6), (⟨"PenGuild$FairParts", "gap", "(I)I"⟩, 6), (⟨"PenGuild$FairParts", "keepTrial", "()V"⟩, 6), (⟨"PenGuild", "needAccepted", "(I)V"⟩, 9), (⟨"PenGuild$Division", "begin", "(LPenGuild$State;II)V"⟩, 6), (⟨"PenGuild$Division", "split", "(LPenGuild$Pieces;II)V"⟩, 6), (⟨"PenGuild$Division", "giveUnit", "()V"⟩, 6), (⟨"PenGuild$Division", "cutToCap", "(LPenGuild$Pieces;II)V"⟩, 6), (⟨"PenGuild", "gainOf", "(I)I"⟩, 9), (⟨"PenGuild", "findBest", "(I)V"⟩, 9), (⟨"PenGuild", "preferIfBetter", "(I)V"⟩, 9)]
theorem lw_r1 : ∀ q ∈ lw_privs_1, lw_okq q := List.forall_mem_cons.mpr ⟨lw_p0, List.forall_mem_cons.mpr ⟨lw_p1, List.forall_mem_cons.mpr ⟨lw_p2, List.forall_mem_cons.mpr ⟨lw_p3, List.forall_mem_cons.mpr ⟨lw_p4, List.forall_mem_cons.mpr ⟨lw_p5, List.forall_mem_cons.mpr ⟨lw_p6, List.forall_mem_cons.mpr ⟨lw_p7, List.forall_mem_cons.mpr ⟨lw_p8, List.forall_mem_cons.mpr ⟨lw_p9, List.forall_mem_cons.mpr ⟨lw_p10, List.forall_mem_cons.mpr ⟨lw_p11, List.forall_mem_cons.mpr ⟨lw_p12, List.forall_mem_cons.mpr ⟨lw_p13, List.forall_mem_cons.mpr ⟨lw_p14, List.forall_mem_cons.mpr ⟨lw_p15, fun _ h => absurd h List.not_mem_nil⟩⟩⟩⟩⟩⟩⟩⟩⟩⟩⟩⟩⟩⟩⟩⟩
theorem lw_p16 : lw_okq (⟨"PenGuild", "save", "()V"⟩, 9) := ⟨⟨by decide +kernel, by decide +kernel⟩, List.mem_of_getElem? (i := 18) (by decide +kernel), List.mem_of_getElem? (i := 630) (by decide +kernel), List.mem_of_getElem? (i := 631) (by decide +kernel)⟩
theorem lw_p17 : lw_okq (⟨"PenGuild", "needUnended", "(I)V"⟩, 9) := ⟨⟨by decide +kernel, by decide +kernel⟩, List.mem_of_getElem? (i := 18) (by decide +kernel), List.mem_of_getElem? (i := 707) (by decide +kernel), List.mem_of_getElem? (i := 708) (by decide +kernel)⟩
theorem lw_p18 : lw_okq (⟨"PenGuild$PartsText", "takes", "(I)Z"⟩, 7) := ⟨⟨by decide +kernel, by decide +kernel⟩, List.mem_of_getElem? (i := 28) (by decide +kernel), List.mem_of_getElem? (i := 742) (by decide +kernel), List.mem_of_getElem? (i := 743) (by decide +kernel)⟩
theorem lw_p19 : lw_okq (⟨"PenGuild$PartsText", "takesDigit", "(I)Z"⟩, 7) := ⟨⟨by decide +kernel, by decide +kernel⟩, List.mem_of_getElem? (i := 28) (by decide +kernel), List.mem_of_getElem? (i := 746) (by decide +kernel), List.mem_of_getElem? (i := 747) (by decide +kernel)⟩
theorem lw_p20 : lw_okq (⟨"PenGuild$PartsText", "takesOne", "()Z"⟩, 7) := ⟨⟨by decide +kernel, by decide +kernel⟩, List.mem_of_getElem? (i := 28) (by decide +kernel), List.mem_of_getElem? (i := 750) (by decide +kernel), List.mem_of_getElem? (i := 751) (by decide +kernel)⟩
theorem lw_p21 : lw_okq (⟨"PenGuild$PartsText", "takesPen", "(I)Z"⟩, 7) := ⟨⟨by decide +kernel, by decide +kernel⟩, List.mem_of_getElem? (i := 28) (by decide +kernel), List.mem_of_getElem? (i := 754) (by decide +kernel), List.mem_of_getElem? (i := 755) (by decide +kernel)⟩
theorem lw_p22 : lw_okq (⟨"PenGuild$PartsText", "takesAfterOne", "(I)Z"⟩, 7) := ⟨⟨by decide +kernel, by decide +kernel⟩, List.mem_of_getElem? (i := 28) (by decide +kernel), List.mem_of_getElem? (i := 758) (by decide +kernel), List.mem_of_getElem? (i := 759) (by decide +kernel)⟩
theorem lw_p23 : lw_okq (⟨"PenGuild$PartsText", "takesStar", "(I)Z"⟩, 7) := ⟨⟨by decide +kernel, by decide +kernel⟩, List.mem_of_getElem? (i := 28) (by decide +kernel), List.mem_of_getElem? (i := 762) (by decide +kernel), List.mem_of_getElem? (i := 763) (by decide +kernel)⟩
theorem lw_p24 : lw_okq (⟨"PenGuild$PartsText", "takesComma", "(I)Z"⟩, 7) := ⟨⟨by decide +kernel, by decide +kernel⟩, List.mem_of_getElem? (i := 28) (by decide +kernel), List.mem_of_getElem? (i := 766) (by decide +kernel), List.mem_of_getElem? (i := 767) (by decide +kernel)⟩
theorem lw_p25 : lw_okq (⟨"PenGuild$PartsText", "endItem", "()V"⟩, 7) := ⟨⟨by decide +kernel, by decide +kernel⟩, List.mem_of_getElem? (i := 28) (by decide +kernel), List.mem_of_getElem? (i := 770) (by decide +kernel), List.mem_of_getElem? (i := 771) (by decide +kernel)⟩
theorem lw_p26 : lw_okq (⟨"PenGuild$PartsText", "takesFactor", "(I)Z"⟩, 7) := ⟨⟨by decide +kernel, by decide +kernel⟩, List.mem_of_getElem? (i := 28) (by decide +kernel), List.mem_of_getElem? (i := 774) (by decide +kernel), List.mem_of_getElem? (i := 775) (by decide +kernel)⟩
theorem lw_p27 : lw_okq (⟨"PenGuild", "bringIn", "(I)I"⟩, 9) := ⟨⟨by decide +kernel, by decide +kernel⟩, List.mem_of_getElem? (i := 18) (by decide +kernel), List.mem_of_getElem? (i := 797) (by decide +kernel), List.mem_of_getElem? (i := 798) (by decide +kernel)⟩
def lw_privs_2 : List (MethodName × Nat) := [(⟨"PenGuild", "save", "()V"⟩, 9), (⟨"PenGuild", "needUnended", "(I)V"⟩, 9), (⟨"PenGuild$PartsText", "takes", "(I)Z"⟩, 7), (⟨"PenGuild$PartsText", "takesDigit", "(I)Z"⟩, 7), (⟨"PenGuild$PartsText", "takesOne", "()Z"⟩, 7), (⟨"PenGuild$PartsText", "takesPen", "(I)Z"⟩, 7), (⟨"PenGuild$PartsText", "takesAfterOne", "(I)Z"⟩, 7), (⟨"PenGuild$PartsText", "takesStar", "(I)Z"⟩, 7), (⟨"PenGuild$PartsText", "takesComma", "(I)Z"⟩, 7), (⟨"PenGuild$PartsText", "endItem", "()V"⟩, 7), (⟨"PenGuild$PartsText", "takesFactor", "(I)Z"⟩, 7), (⟨"PenGuild", "bringIn", "(I)I"⟩, 9)]
theorem lw_r2 : ∀ q ∈ lw_privs_2, lw_okq q := List.forall_mem_cons.mpr ⟨lw_p16, List.forall_mem_cons.mpr ⟨lw_p17, List.forall_mem_cons.mpr ⟨lw_p18, List.forall_mem_cons.mpr ⟨lw_p19, List.forall_mem_cons.mpr ⟨lw_p20, List.forall_mem_cons.mpr ⟨lw_p21, List.forall_mem_cons.mpr ⟨lw_p22, List.forall_mem_cons.mpr ⟨lw_p23, List.forall_mem_cons.mpr ⟨lw_p24, List.forall_mem_cons.mpr ⟨lw_p25, List.forall_mem_cons.mpr ⟨lw_p26, List.forall_mem_cons.mpr ⟨lw_p27, fun _ h => absurd h List.not_mem_nil⟩⟩⟩⟩⟩⟩⟩⟩⟩⟩⟩⟩
def lw_privs : List (MethodName × Nat) := lw_privs_1 ++ (lw_privs_2)
def lw_tbl : List Cond := k2_sels lw_privs ++ tables_1
theorem lw_privs_ok : ∀ q ∈ lw_privs, lw_okq q := by
  show ∀ q ∈ lw_privs_1 ++ (lw_privs_2), lw_okq q
  exact List.forall_mem_append.mpr ⟨lw_r1, lw_r2⟩
/-- the streams that the claim lets the run draw from -/
abbrev lw_cs : List Choice := [Jvm.Choice.named "NaN.bits"]
theorem lw_bits : nanBits ∈ lw_cs := by first | decide | exact List.mem_cons_self | simp [lw_cs, nanBits]
-- ===== end of PART A; then your names; then what follows =====
/-! ===== BEGIN words of one list among another's, by their places ===== -/
theorem goodIn_r {big : List Cond} (ws : List Cond) (ps : List Nat) (hp : ws = ps.filterMap (fun i => big[i]?)) (h : ws.all goodWord = true) : GoodIn big ws := by
  intro w hw
  have h1 := List.all_eq_true.mp h w hw
  rw [hp] at hw
  obtain ⟨i, -, hi⟩ := List.mem_filterMap.mp hw
  have hm : w ∈ big := by first | exact List.mem_of_getElem? hi | exact List.getElem?_mem hi
  exact ⟨hm, good_of_word h1⟩
theorem goodIn_app {big a b : List Cond} (ha : GoodIn big a) (hb : GoodIn big b) : GoodIn big (a ++ b) := fun w h => (List.mem_append.mp h).elim (ha w) (hb w)
theorem goodIn_ca {big a b : List Cond} {c : Cond} (ha : GoodIn big (c :: a)) (hb : GoodIn big b) : GoodIn big (c :: (a ++ b)) := fun w h => (List.mem_cons.mp h).elim (fun e => ha w (List.mem_cons.mpr (Or.inl e))) (fun h => (List.mem_append.mp h).elim (fun h => ha w (List.mem_cons.mpr (Or.inr h))) (hb w))
theorem goodIn_sub {big ws : List Cond} (hm : ∀ w ∈ ws, w ∈ big) (h : ws.all goodWord = true) : GoodIn big ws := fun w hw => ⟨hm w hw, good_of_word (List.all_eq_true.mp h w hw)⟩
/-! ===== END ===== -/

/-! ===== BEGIN exceptions that leave a method, and their catching by the caller (launches without stack traces) ===== -/
section VXA
/-! The laws vx_back, vx_callV, vx_callS, vx_callSW, vx_throw0, vx_throwS follow proofs of the library, with one case more: JvmDerived/Free/Laws.lean (Back.of_free), Shelf42/LK1.lean (callV, callS), Shelf/KitTraced.lean (throwNew0V, throwNewS). -/
/-- where a method has thrown q: the class by its name, the cell, what was written, the world -/
def vx_T (XC : String → State → State → Prop) (st : State) (q : Addr) (t : State) (mc ms : Nat) (free : Addr → Prop) : Prop :=
  ∃ (E : String) (ce : Cell) (L : List Loc), XC E st t ∧ t.heap[q]? = some ce ∧ ce.vm = .none ∧ st.vm.findClass E = some ce.cls ∧ st.WarmedH t.vm ∧ st.sameButNew ({ t with vm := st.vm } : State) L mc ms ∧ ∀ z ∈ L, free z.base
def vx_Q (Qc : Array Value → State → Outcome → State → Prop) (XC : String → State → State → Prop) (mc ms : Nat) (free : Addr → Prop) : Array Value → State → Outcome → State → Prop := fun a st o t =>
  (Qc a st o t ∧ ∃ L, FrameEnd st o t L mc ms ∧ ∀ q ∈ L, free q.base) ∨ ∃ q, o = .threw q ∧ vx_T XC st q t mc ms free
/-- a callee that returns or throws -/
def vx_Met (l : Launch) (y : MethodName) (ws : List Cond) (rm : Room) (Pc : Array Value → State → Prop) (Qc : Array Value → State → Outcome → State → Prop) (XC : String → State → State → Prop) (mc ms : Nat) (free : Addr → Prop) : Prop :=
  MetFree l y (headSpec ws rm) Pc (fun _ _ _ _ _ => True) (vx_Q Qc XC mc ms free)
def vx_Post (XC : String → State → State → Prop) (mc ms : Nat) (free : Addr → Prop) : Pt → Array Value → Addr → Pt → Prop := fun A a q B =>
  ∃ (g : JFrame) (mk : MethodId) (t : State) (L : List Loc) (E : String) (ce : Cell), B.U.heap = t.heap ∧ B.U.vm = t.vm ∧ XC E (A.U.calling g mk a) t ∧ t.heap[q]? = some ce ∧ ce.vm = .none ∧ A.U.vm.findClass E = some ce.cls ∧ B.locs = A.locs ++ L ∧ (∀ z ∈ L, free z.base) ∧ B.cells = A.cells + mc ∧ B.slots = A.slots + ms
def vx_Back (l : Launch) (R : Room) (p : Program) (e : Env) (below : List Frame) (s : State) (sargs : Array Value) (y : MethodName) (len W9 : Nat)
    (Pre : Pt → Array Value → Prop) (Post : Pt → Array Value → Option Value → Pt → Prop) (PostX : Pt → Array Value → Addr → Pt → Prop) : Prop :=
  ∀ (m : MethodId) (meth : Method) (c : Code) (A : Pt) (g : JFrame) (ig : Instr) (mk : MethodId) (a : Array Value),
    Stand p l e R s m sargs below meth c A.U A.locs A.cells A.slots → g.method = m → g.locals.size = c.maxLocals → decode c.code g.pc = .ok (ig, len) →
    2 * g.monitorRoom + (g.stack.map fun v => v.category).sum ≤ W9 → A.U.methodNamed? y = some mk → Pre A a →
    (∃ (v : Option Value) (B : Pt), Stand p l e R s m sargs below meth c B.U B.locs B.cells B.slots ∧ Post A a v B ∧
      Steps p.tables e below (doInvoke e (A.U.setTop g) [] mk a).1 (B.U.setTop { g with pc := g.pc + len, stack := v.toList ++ g.stack })) ∨
    (∃ (q : Addr) (B : Pt), Stand p l e R s m sargs below meth c B.U B.locs B.cells B.slots ∧ PostX A a q B ∧
      Steps p.tables e below (doInvoke e (A.U.setTop g) [] mk a).1 ((B.U.setTop g).pushFrame (.throwing q)))
section Payer
variable {l : Launch} {R : Room} {p : Program} {e : Env} {below : List Frame} {s : State} {sargs : Array Value} {y : MethodName} {len W9 : Nat}
theorem vx_back {ws : List Cond} {rm : Room} {Pc : Array Value → State → Prop} {Qc : Array Value → State → Outcome → State → Prop} {XC : String → State → State → Prop} {mc ms : Nat} {free : Addr → Prop} {bytes : ByteArray} {maxL : Nat} {ret : Option FieldType}
    (hM : vx_Met l y ws rm Pc Qc XC mc ms free) (hblind : FrameBlind Pc) (hrc : rm.cells = mc) (hrs : rm.slots = ms)
    (hframes : rm.frames + 1 ≤ R.frames) (hlocals : W9 + (maxL + 11) + rm.locals ≤ R.locals)
    (hws : ∀ w ∈ ws, ∀ a' U, s.WarmedH U.vm → w.before a' U = true) (hcode : Cond.code y bytes maxL ret ∈ ws) (hinit : ∀ a' U, s.WarmedH U.vm → (Cond.initialized y.cls).before a' U = true) :
    vx_Back l R p e below s sargs y len W9 (PreOf R mc ms Pc) (PostOf Qc mc ms free) (vx_Post XC mc ms free) := by
  intro m meth c A g ig mk a X hg hsize hdg hW hn hp
  have h1 : (headSpec ws rm).pre.before a A.U = true := atoms_intro fun w hw => hws w hw _ _ X.warmed
  have h2 : (Cond.code y bytes maxL ret).before a A.U = true := hws _ hcode _ _ X.warmed
  have h3 : (Cond.initialized y.cls).before a A.U = true := hinit _ _ X.warmed
  have h4 : A.cells + (headSpec ws rm).room.cells ≤ R.cells := by rw [show (headSpec ws rm).room.cells = mc from hrc]; exact hp.1
  have h5 : A.slots + (headSpec ws rm).room.slots ≤ R.slots := by rw [show (headSpec ws rm).room.slots = ms from hrs]; exact hp.2.1
  have hPc : Pc a (A.U.calling g mk a) := hblind _ _ _ _ hp.2.2
  obtain ⟨U, Ls, c0, s0⟩ := A
  dsimp only [Pt.U, Pt.locs, Pt.cells, Pt.slots] at h1 h2 h3 h4 h5 X hn hPc ⊢
  obtain ⟨methY, cY, hmY, hcY, -, hlY, -, -, -, -⟩ := Cond.code_spec hn h2
  obtain ⟨kY, hkY, -⟩ := className_of_methodNamed hn
  have hinitY : kY.init = .initialized := Cond.initialized_spec (findClass_of_methodNamed hn) hkY h3
  have h : At U g.method c below := by rw [hg]; exact X.here
  have hlocals9 : W9 + (maxL + 11) + (headSpec ws rm).room.locals ≤ R.locals := hlocals
  have happ : (headSpec ws rm).appliesLoose y e.platform (U.calling g mk a) = true :=
    Spec.appliesLoose_calling (g := g) h hdg hn hkY hinitY
      (X.room_calling (g := g) (R' := (headSpec ws rm).room) hsize hmY hcY hframes (by rw [hlY]; omega) h4 h5) h1
  obtain ⟨mid, hmid⟩ := h.above
  have hfr : (U.setTop g).frames = (.java g :: mid) ++ below := by rw [State.frames_setTop' g h.top, hmid]; rfl
  obtain ⟨o, s₂, hsteps, -, hend, hq⟩ := Steps.callFree hM p X.admits X.cas X.clock (acts := []) hfr happ hPc trivial
  have hq' : vx_Q Qc XC mc ms free a (U.calling g mk a) o s₂ := hq
  rw [State.frames_setTop' g h.top] at hend
  obtain ⟨g₀, hg0⟩ := Option.isSome_iff_exists.mp h.top
  obtain ⟨r, hr⟩ := State.topJava?_eq_some.mp hg0
  have hr' : (({ U with heap := s₂.heap, slotsUsed := s₂.slotsUsed } : State).setVm s₂.vm).frames = .java g₀ :: r := hr
  rcases hq' with ⟨hqc, L, hfe, hL⟩ | ⟨q, rfl, E, ce, L, hx, hce, hcv, hcl, hW₂, hsm, hL⟩
  · obtain ⟨⟨v, rfl⟩, hW₂, e2, q2, q3, q4, q5, q6⟩ := id hfe
    have e3 : s₂ = ({ (U.calling g mk a).setFrames s₂.frames with heap := s₂.heap, slotsUsed := s₂.slotsUsed } : State).setVm s₂.vm := by
      have : s₂ = ({ s₂ with vm := (U.calling g mk a).vm } : State).setVm s₂.vm := rfl
      rw [e2] at this
      exact this
    obtain ⟨c₂, i₂, len₂, hc₂, hd₂, hf₂⟩ := hend
    have hW' : U.WarmedH s₂.vm := hW₂
    have hcc : c₂ = c := by
      have h1 : s₂.code? g.method = U.code? g.method := by
        rw [State.code?_eq, State.code?_eq, hW'.alike.method?]
      exact Option.some.inj (hc₂.symm.trans (h1.trans h.code))
    subst hcc
    have hlen : len₂ = len := by rw [hdg] at hd₂; cases hd₂; rfl
    subst hlen
    have hs₂ : s₂ = (({ U with heap := s₂.heap, slotsUsed := s₂.slotsUsed } : State).setVm s₂.vm).setTop { g with pc := g.pc + len₂, stack := v.toList ++ g.stack } := by
      refine e3.trans ?_
      rw [hf₂, State.calling_eq h.top, State.setFrames_setFrames, State.setTop_of_frames _ hr', hr]
      rfl
    have hsame : U.sameButNew ({ U with heap := s₂.heap, slotsUsed := s₂.slotsUsed } : State) L mc ms := by
      refine ⟨?_, q2, q3, q4, q5, q6⟩
      obtain ⟨t, ht, -⟩ := State.frames_cons hr
      show ({ U with heap := s₂.heap, slotsUsed := s₂.slotsUsed } : State) = { U.setFrames U.frames with heap := s₂.heap, slotsUsed := s₂.slotsUsed }
      rw [State.setFrames_self ht]
    subst hg
    refine Or.inl ⟨v, ⟨(({ U with heap := s₂.heap, slotsUsed := s₂.slotsUsed } : State).setVm s₂.vm), Ls ++ L, c0 + mc, s0 + ms⟩,
      ⟨X.admits, X.cas, X.clock, X.frames, X.room, X.hears, X.method, X.code, (X.here.setHeapUsed s₂.heap s₂.slotsUsed).setVm hW'.alike, X.tail, State.WarmedH.trans X.warmed hW', X.limits, X.bytes, X.same.trans (hsame.setVm s.vm)⟩,
      ⟨g, mk, s₂, L, rfl, rfl, hqc, rfl, hL, rfl, rfl⟩, ?_⟩
    show Steps p.tables e below _ ((({ U with heap := s₂.heap, slotsUsed := s₂.slotsUsed } : State).setVm s₂.vm).setTop { g with pc := g.pc + len₂, stack := v.toList ++ g.stack })
    rw [← hs₂]
    exact hsteps
  · obtain ⟨e2, q2, q3, q4, q5, q6⟩ := id hsm
    have e3 : s₂ = ({ (U.calling g mk a).setFrames s₂.frames with heap := s₂.heap, slotsUsed := s₂.slotsUsed } : State).setVm s₂.vm := by
      have : s₂ = ({ s₂ with vm := (U.calling g mk a).vm } : State).setVm s₂.vm := rfl
      rw [e2] at this
      exact this
    have hf₂ : s₂.frames = .throwing q :: .java g :: U.frames.tail := hend
    have hW' : U.WarmedH s₂.vm := hW₂
    have hs₂ : s₂ = ((({ U with heap := s₂.heap, slotsUsed := s₂.slotsUsed } : State).setVm s₂.vm).setTop g).pushFrame (.throwing q) := by
      refine e3.trans ?_
      rw [hf₂, State.calling_eq h.top, State.setFrames_setFrames, State.pushFrame, State.frames_setTop _ hr', State.setTop_of_frames _ hr', State.setFrames_setFrames, hr]
      rfl
    have hsame : U.sameButNew ({ U with heap := s₂.heap, slotsUsed := s₂.slotsUsed } : State) L mc ms := by
      refine ⟨?_, q2, q3, q4, q5, q6⟩
      obtain ⟨t, ht, -⟩ := State.frames_cons hr
      show ({ U with heap := s₂.heap, slotsUsed := s₂.slotsUsed } : State) = { U.setFrames U.frames with heap := s₂.heap, slotsUsed := s₂.slotsUsed }
      rw [State.setFrames_self ht]
    subst hg
    refine Or.inr ⟨q, ⟨(({ U with heap := s₂.heap, slotsUsed := s₂.slotsUsed } : State).setVm s₂.vm), Ls ++ L, c0 + mc, s0 + ms⟩,
      ⟨X.admits, X.cas, X.clock, X.frames, X.room, X.hears, X.method, X.code, (X.here.setHeapUsed s₂.heap s₂.slotsUsed).setVm hW'.alike, X.tail, State.WarmedH.trans X.warmed hW', X.limits, X.bytes, X.same.trans (hsame.setVm s.vm)⟩,
      ⟨g, mk, s₂, L, E, ce, rfl, rfl, hx, hce, hcv, hcl, rfl, hL, rfl, rfl⟩, ?_⟩
    show Steps p.tables e below _ (((({ U with heap := s₂.heap, slotsUsed := s₂.slotsUsed } : State).setVm s₂.vm).setTop g).pushFrame (.throwing q))
    rw [← hs₂]
    exact hsteps
end Payer
section Calls
variable {p : Program} {l : Launch} {e : Env} {R : Room} {s : State} {m : MethodId} {args : Array Value} {below : List Frame} {meth : Method} {c : Code} {T : State} {locs : List Loc} {cells slots : Nat}
theorem vx_callV (X : Stand p l e R s m args below meth c T locs cells slots) (hexec : p.tables.exec = Jvm.exec) {own C : String} {index : Nat} {y : MethodName} {bytes : ByteArray} {maxL : Nat} {ret : Option FieldType}
    (hown : s.vm.findClass own = some m.cls) (hlink : (Cond.methodLink own index y).before args s = true) (hinst : (Cond.instanceMethod y).before args s = true) (hsel : (Cond.selects C y y).before args s = true)
    (hcode : (Cond.code y bytes maxL ret).before args s = true) (hy : y.cls ≠ "java/lang/invoke/MethodHandle" ∧ y.cls ≠ "java/lang/invoke/VarHandle")
    {W9 : Nat} {Pre : Pt → Array Value → Prop} {Post : Pt → Array Value → Option Value → Pt → Prop} {PostX : Pt → Array Value → Addr → Pt → Prop} (hK : vx_Back l R p e below s args y 3 W9 Pre Post PostX)
    {b : Addr} {cellB : Cell} (hcell : T.heap[b]? = some cellB) (hobj : cellB.vm.isStatics = false) (hcls : s.vm.findClass C = some cellB.cls)
    {g : JFrame} (hg : g.method = m) (hsize : g.locals.size = c.maxLocals) {argsL rest : List Value} (hlen : ∀ sig, parseMethodDescriptor y.desc = some sig → argsL.length = sig.parameters.length)
    (hstack : g.stack = argsL.reverse ++ .ref b :: rest) (hW : 2 * g.monitorRoom + (rest.map fun v => v.category).sum ≤ W9) (hdg : decode c.code g.pc = .ok (.invokevirtual index, 3))
    (hpre : ∀ vm₁, s.WarmedH vm₁ → Pre ⟨T.setVm vm₁, locs, cells, slots⟩ (Value.ref b :: argsL).toArray) :
    (∃ (v : Option Value) (vm₁ : Vm) (B : Pt), s.WarmedH vm₁ ∧ Stand p l e R s m args below meth c B.U B.locs B.cells B.slots ∧ Post ⟨T.setVm vm₁, locs, cells, slots⟩ (Value.ref b :: argsL).toArray v B ∧
      ∀ target, Steps p.tables e below (B.U.setTop { g with pc := g.pc + 3, stack := v.toList ++ rest }) target → Steps p.tables e below (T.setTop g) target) ∨
    (∃ (q : Addr) (vm₁ : Vm) (B : Pt), s.WarmedH vm₁ ∧ Stand p l e R s m args below meth c B.U B.locs B.cells B.slots ∧ PostX ⟨T.setVm vm₁, locs, cells, slots⟩ (Value.ref b :: argsL).toArray q B ∧
      Steps p.tables e below (T.setTop g) ((B.U.setTop { g with stack := rest }).pushFrame (.throwing q))) := by
  obtain ⟨mk, methM, hnamed, hmethM, hstM, habM⟩ := Cond.instanceMethod_spec hinst
  obtain ⟨methM', cM, hmethM', -, -, -, -, -, -, hsigM⟩ := Cond.code_spec hnamed hcode
  cases hmethM.symm.trans hmethM'
  obtain ⟨c2, r2, m2, q1, q2, q3, q4, kP, hkP, hkPi⟩ := Cond.selects_spec hsel
  cases hcls.symm.trans q1
  cases (State.methodFound?_of_named hnamed hy).symm.trans q2
  cases hnamed.symm.trans q3
  have hselP : selectMethod e.platform s.vm cellB.cls mk = .method mk := by rw [Launch.admits_selectMethod X.admits]; exact q4
  obtain ⟨vm₁, X₁, hstep₁⟩ := X.invokevirtual hexec hown hlink hnamed hmethM hstM hkP hkPi hy (a := b) (cell := cellB) hcell
    (fun z h => by rw [h] at hobj; cases hobj) hselP hmethM habM hkP hkPi (g := g) hg (argsL := argsL) (rest := rest) (hlen _ hsigM) hstack hdg
  rcases hK m meth c ⟨T.setVm vm₁, locs, cells, slots⟩ { g with stack := rest } (.invokevirtual index) mk (Value.ref b :: argsL).toArray X₁ hg hsize hdg hW (X₁.named hnamed) (hpre vm₁ X₁.warmed) with ⟨v, B, X', hpost, hsteps⟩ | ⟨q, B, X', hpost, hsteps⟩
  · exact Or.inl ⟨v, vm₁, B, X₁.warmed, X', hpost, fun target h => hstep₁ _ fun acts => by rw [doInvoke_state]; exact hsteps.trans h⟩
  · exact Or.inr ⟨q, vm₁, B, X₁.warmed, X', hpost, hstep₁ _ fun acts => by rw [doInvoke_state]; exact hsteps⟩
theorem vx_callS (X : Stand p l e R s m args below meth c T locs cells slots) (hexec : p.tables.exec = Jvm.exec) {own : String} {index : Nat} {y : MethodName} {bytes : ByteArray} {maxL : Nat} {ret : Option FieldType}
    (hown : s.vm.findClass own = some m.cls) (hlink : (Cond.methodLink own index y).before args s = true) (hstat : (Cond.static y).before args s = true) (hinit : (Cond.initialized y.cls).before args s = true)
    (hcode : (Cond.code y bytes maxL ret).before args s = true) (hy : y.cls ≠ "java/lang/invoke/MethodHandle" ∧ y.cls ≠ "java/lang/invoke/VarHandle")
    {W9 : Nat} {Pre : Pt → Array Value → Prop} {Post : Pt → Array Value → Option Value → Pt → Prop} {PostX : Pt → Array Value → Addr → Pt → Prop} (hK : vx_Back l R p e below s args y 3 W9 Pre Post PostX)
    {g : JFrame} (hg : g.method = m) (hsize : g.locals.size = c.maxLocals) {argsL rest : List Value} (hlen : ∀ sig, parseMethodDescriptor y.desc = some sig → argsL.length = sig.parameters.length)
    (hstack : g.stack = argsL.reverse ++ rest) (hW : 2 * g.monitorRoom + (rest.map fun v => v.category).sum ≤ W9) (hdg : decode c.code g.pc = .ok (.invokestatic index, 3))
    (hpre : ∀ vm₁, s.WarmedH vm₁ → Pre ⟨T.setVm vm₁, locs, cells, slots⟩ argsL.toArray) :
    (∃ (v : Option Value) (vm₁ : Vm) (B : Pt), s.WarmedH vm₁ ∧ Stand p l e R s m args below meth c B.U B.locs B.cells B.slots ∧ Post ⟨T.setVm vm₁, locs, cells, slots⟩ argsL.toArray v B ∧
      ∀ target, Steps p.tables e below (B.U.setTop { g with pc := g.pc + 3, stack := v.toList ++ rest }) target → Steps p.tables e below (T.setTop g) target) ∨
    (∃ (q : Addr) (vm₁ : Vm) (B : Pt), s.WarmedH vm₁ ∧ Stand p l e R s m args below meth c B.U B.locs B.cells B.slots ∧ PostX ⟨T.setVm vm₁, locs, cells, slots⟩ argsL.toArray q B ∧
      Steps p.tables e below (T.setTop g) ((B.U.setTop { g with stack := rest }).pushFrame (.throwing q))) := by
  obtain ⟨mk, hnamed⟩ := Cond.code_named hcode
  obtain ⟨methM, cM, hmethM, -, -, -, -, -, -, hsigM⟩ := Cond.code_spec hnamed hcode
  have hstatic : methM.isStatic = true := Cond.static_spec hnamed hmethM hstat
  obtain ⟨kP, hkP, -⟩ := className_of_methodNamed hnamed
  have hinitP : kP.init = .initialized := Cond.initialized_spec (findClass_of_methodNamed hnamed) hkP hinit
  obtain ⟨vm₁, X₁, hstep₁⟩ := X.invokestatic hexec hown hlink hnamed hmethM hstatic hkP hinitP hy (g := g) hg (argsL := argsL) (rest := rest) (hlen _ hsigM) hstack hdg
  rcases hK m meth c ⟨T.setVm vm₁, locs, cells, slots⟩ { g with stack := rest } (.invokestatic index) mk argsL.toArray X₁ hg hsize hdg hW (X₁.named hnamed) (hpre vm₁ X₁.warmed) with ⟨v, B, X', hpost, hsteps⟩ | ⟨q, B, X', hpost, hsteps⟩
  · exact Or.inl ⟨v, vm₁, B, X₁.warmed, X', hpost, fun target h => hstep₁ _ fun acts => by rw [doInvoke_state]; exact hsteps.trans h⟩
  · exact Or.inr ⟨q, vm₁, B, X₁.warmed, X', hpost, hstep₁ _ fun acts => by rw [doInvoke_state]; exact hsteps⟩
end Calls
theorem vx_cls {s : State} {T : State} {vm₁ : Vm} {E : String} {k : ClassId} (hW : s.WarmedH vm₁) (h : (T.setVm vm₁).vm.findClass E = some k) : s.vm.findClass E = some k := by
  have h1 : vm₁.findClass E = some k := h
  rw [hW.alike.findClass] at h1
  exact h1
/-- the method's frame g, with q thrown over it -/
def vx_W (p : Program) (l : Launch) (e : Env) (R : Room) (s : State) (m : MethodId) (args : Array Value) (below : List Frame) (meth : Method) (c : Code) (H : Heap) (locs : List Loc) (cells slots : Nat) (Q : State → Prop) (g : JFrame) (q : Addr) : Prop :=
  ∀ T : State, T.heap = H → Stand p l e R s m args below meth c T locs cells slots → ∃ t, Steps p.tables e below ((T.setTop g).pushFrame (.throwing q)) t ∧ Q t
def vx_Run (p : Program) (l : Launch) (e : Env) (R : Room) (s : State) (m : MethodId) (args : Array Value) (below : List Frame) (meth : Method) (c : Code) (H : Heap) (locs : List Loc) (cells slots mc ms : Nat) (g : JFrame) (rest : List Value) (Qa : State → Outcome → State → Prop) (XC : String → State → State → Prop) (free : Addr → Prop) : Prop :=
  ∀ T : State, T.heap = H → Stand p l e R s m args below meth c T locs cells slots →
    (∃ (v : Option Value) (st₀ t T' : State) (L : List Loc), st₀.heap = H ∧ Stand p l e R s m args below meth c T' (locs ++ L) (cells + mc) (slots + ms) ∧ (∀ q ∈ L, free q.base) ∧ T'.heap = t.heap ∧ T'.vm = t.vm ∧ Qa st₀ (.returned v) t ∧
      Goes p e below T g T' { g with pc := g.pc + 3, stack := v.toList ++ rest }) ∨
    (∃ (q : Addr) (st₀ t T' : State) (L : List Loc) (E : String) (ce : Cell), st₀.heap = H ∧ Stand p l e R s m args below meth c T' (locs ++ L) (cells + mc) (slots + ms) ∧ (∀ z ∈ L, free z.base) ∧ T'.heap = t.heap ∧ T'.vm = t.vm ∧ XC E st₀ t ∧ t.heap[q]? = some ce ∧ ce.vm = .none ∧ s.vm.findClass E = some ce.cls ∧
      Steps p.tables e below (T.setTop g) ((T'.setTop { g with stack := rest }).pushFrame (.throwing q)))
def vx_X {S : Type} (px : S → Prop) (B : String → S → State → Prop) (A : Nat → Prop) : String → State → State → Prop := fun E st t => ∃ u : S, px u ∧ B E u t ∧ va_F A st t
section Runs
variable {p : Program} {l : Launch} {e : Env} {R : Room} {s : State} {m : MethodId} {args : Array Value} {below : List Frame} {meth : Method} {c : Code} {H : Heap} {locs : List Loc} {cells slots : Nat}
variable {y : MethodName} {bytes cc : ByteArray} {maxL nL mc ms n index : Nat} {ret : Option FieldType} {ws : List Cond} {rm : Room} {Pc : Array Value → State → Prop} {Qc : Array Value → State → Outcome → State → Prop} {XC : String → State → State → Prop} {free : Addr → Prop} {Ts : List Cond} {own C : String} {b : Addr} {As rest : List Value} {g : JFrame}
theorem vx_callBack (cb : CallB R s args own index y bytes maxL ret ws rm mc ms n) (hM : vx_Met l y ws rm Pc Qc XC mc ms free) (hbl : FrameBlind Pc) : vx_Back l R p e below s args y 3 8 (PreOf R mc ms Pc) (PostOf Qc mc ms free) (vx_Post XC mc ms free) := by
  obtain ⟨hrc, hrs, hfr, hlo, hws, hcw, -, hini, -⟩ := cb
  exact vx_back (bytes := bytes) (maxL := maxL) (ret := ret) hM hbl hrc hrs hfr hlo hws hcw (fun a' U hW => word_at hW (Or.inl (by first | rfl | simp [Cond.onTables, Cond.keeps, Cond.steady])) hini)
theorem vx_runV (S : CallFix p m c cc nL s args Ts own) (hM : vx_Met l y ws rm Pc Qc XC mc ms free) (cw : CallW R s args own C index y bytes maxL ret ws rm mc ms n) (hp : PreV s H C b Pc As)
    (hg : g.method = m) (hn : As.length = n) (hsize : g.locals.size = nL) (hstack : g.stack = As.reverse ++ .ref b :: rest) (hW : 2 * g.monitorRoom + (rest.map fun v => v.category).sum ≤ 8) (hdg : decode cc g.pc = .ok (.invokevirtual index, 3)) (hf : cells + mc ≤ R.cells ∧ slots + ms ≤ R.slots) :
    vx_Run p l e R s m args below meth c H locs cells slots mc ms g rest (Qc (Value.ref b :: As).toArray) XC free := by
  have hK : vx_Back l R p e below s args y 3 8 (PreOf R mc ms Pc) (PostOf Qc mc ms free) (vx_Post XC mc ms free) := vx_callBack cw.1 hM hp.1
  obtain ⟨⟨-, -, -, -, -, -, hcode, -, hy, hlen, hl⟩, hin, hse⟩ := cw
  obtain ⟨hx, hb, hml, ho, -⟩ := S
  obtain ⟨-, ⟨cellB, hcB, hoB, hclB⟩, hPc⟩ := hp
  intro T hT X
  rcases vx_callV X hx (C := C) (bytes := bytes) (maxL := maxL) (ret := ret) ho hl hin hse hcode hy hK (by rw [hT]; exact hcB) hoB hclB hg (hsize.trans hml.symm) (argsL := As) (rest := rest) (fun sig h => hn.trans (hlen sig h)) hstack hW (by rw [hb]; exact hdg)
    (fun vm₁ hW₁ => ⟨hf.1, hf.2, hPc (T.setVm vm₁) hT hW₁⟩) with ⟨v, vm₁, ⟨U', l2, c2, s2⟩, hW₁, X', ⟨g', mk, t, L, e1, e2, hq, h1, hL, h2, h3⟩, st⟩ | ⟨q, vm₁, ⟨U', l2, c2, s2⟩, hW₁, X', ⟨g', mk, t, L, E, ce, e1, e2, hq, hce, hcv, hcl, h1, hL, h2, h3⟩, st⟩
  · dsimp only [Pt.U, Pt.locs, Pt.cells, Pt.slots] at X' e1 e2 h1 h2 h3 st
    subst h1; subst h2; subst h3
    exact Or.inl ⟨v, (T.setVm vm₁).calling g' mk (Value.ref b :: As).toArray, t, U', L, hT, X', hL, e1, e2, hq, st⟩
  · dsimp only [Pt.U, Pt.locs, Pt.cells, Pt.slots] at X' e1 e2 h1 h2 h3 st hcl
    subst h1; subst h2; subst h3
    exact Or.inr ⟨q, (T.setVm vm₁).calling g' mk (Value.ref b :: As).toArray, t, U', L, E, ce, hT, X', hL, e1, e2, hq, hce, hcv, vx_cls hW₁ hcl, st⟩
theorem vx_runS (S : CallFix p m c cc nL s args Ts own) (hM : vx_Met l y ws rm Pc Qc XC mc ms free) (cw : CallB R s args own index y bytes maxL ret ws rm mc ms n ∧ (Cond.static y).before args s = true) (hp : PreS s H Pc As)
    (hg : g.method = m) (hn : As.length = n) (hsize : g.locals.size = nL) (hstack : g.stack = As.reverse ++ rest) (hW : 2 * g.monitorRoom + (rest.map fun v => v.category).sum ≤ 8) (hdg : decode cc g.pc = .ok (.invokestatic index, 3)) (hf : cells + mc ≤ R.cells ∧ slots + ms ≤ R.slots) :
    vx_Run p l e R s m args below meth c H locs cells slots mc ms g rest (Qc As.toArray) XC free := by
  have hK : vx_Back l R p e below s args y 3 8 (PreOf R mc ms Pc) (PostOf Qc mc ms free) (vx_Post XC mc ms free) := vx_callBack cw.1 hM hp.1
  obtain ⟨⟨-, -, -, -, -, -, hcode, hini, hy, hlen, hl⟩, hstt⟩ := cw
  obtain ⟨hx, hb, hml, ho, -⟩ := S
  intro T hT X
  rcases vx_callS X hx (bytes := bytes) (maxL := maxL) (ret := ret) ho hl hstt hini hcode hy hK hg (hsize.trans hml.symm) (argsL := As) (rest := rest) (fun sig h => hn.trans (hlen sig h)) hstack hW (by rw [hb]; exact hdg)
    (fun vm₁ hW₁ => ⟨hf.1, hf.2, hp.2 (T.setVm vm₁) hT hW₁⟩) with ⟨v, vm₁, ⟨U', l2, c2, s2⟩, hW₁, X', ⟨g', mk, t, L, e1, e2, hq, h1, hL, h2, h3⟩, st⟩ | ⟨q, vm₁, ⟨U', l2, c2, s2⟩, hW₁, X', ⟨g', mk, t, L, E, ce, e1, e2, hq, hce, hcv, hcl, h1, hL, h2, h3⟩, st⟩
  · dsimp only [Pt.U, Pt.locs, Pt.cells, Pt.slots] at X' e1 e2 h1 h2 h3 st
    subst h1; subst h2; subst h3
    exact Or.inl ⟨v, (T.setVm vm₁).calling g' mk As.toArray, t, U', L, hT, X', hL, e1, e2, hq, st⟩
  · dsimp only [Pt.U, Pt.locs, Pt.cells, Pt.slots] at X' e1 e2 h1 h2 h3 st hcl
    subst h1; subst h2; subst h3
    exact Or.inr ⟨q, (T.setVm vm₁).calling g' mk As.toArray, t, U', L, E, ce, hT, X', hL, e1, e2, hq, hce, hcv, vx_cls hW₁ hcl, st⟩
end Runs
section Rows
variable {p : Program} {l : Launch} {e : Env} {R : Room} {s : State} {m : MethodId} {args : Array Value} {below : List Frame} {meth : Method} {c : Code} {H : Heap} {locs : List Loc} {cells slots : Nat} {Q : State → Prop}
variable {mc ms : Nat} {free : Addr → Prop} {A0 A1 : Nat → Prop} {H0 : Heap} {a : Array Value} {pc : Nat} {ls : Array Slot} {st0 rest : List Value}
theorem vx_keep {st₀ t T' : State} {L : List Loc} (h0 : st₀.heap = H) (e1 : T'.heap = t.heap) (hS : va_S A0 H0 H locs) (hA : ∀ q, q < H.size → A1 q → A0 q) (hf : ∀ q, free q → A0 q) (hL : ∀ q ∈ L, free q.base) (hF : va_F A1 st₀ t) :
    H.size ≤ T'.heap.size ∧ (∀ q : Nat, q < H.size → ¬ A1 q → T'.heap[q]? = H[q]?) ∧ va_S A0 H0 T'.heap (locs ++ L) := by
  obtain ⟨hz, hk⟩ := hF
  rw [h0] at hz hk
  exact ⟨by rw [e1]; exact hz, fun q h1 h2 => by rw [e1]; exact hk q h1 h2,
    ⟨Nat.le_trans hS.1 (by rw [e1]; exact hz), fun q h1 h2 => by rw [e1, hk q (Nat.lt_of_lt_of_le h1 hS.1) (fun z => h2 (hA q (Nat.lt_of_lt_of_le h1 hS.1) z))]; exact hS.2.1 q h1 h2, fun q hq => by
      rcases List.mem_append.mp hq with h | h
      · exact hS.2.2 q h
      · exact hf _ (hL q h)⟩⟩
theorem vx_calli {S SX : Type} {post : Int32 → S → Prop} {px : SX → Prop} {B : S → State → Prop} {BX : String → SX → State → Prop} {AX : Nat → Prop} (hr : vx_Run p l e R s m args below meth c H locs cells slots mc ms (F0 m pc ls st0) rest (va_Qi post B A1 a) (vx_X px BX AX) free) (hS : va_S A0 H0 H locs) (hA : ∀ q, q < H.size → A1 q → A0 q) (hf : ∀ q, free q → A0 q) (hAX : ∀ q, q < H.size → AX q → A0 q)
    (kx : ∀ (E : String) (ce : Cell) (q9 : Addr) (u : SX) (t : State) (H1 : Heap) (locs1 : List Loc), t.heap = H1 → s.vm.Alike t.vm → px u → BX E u t → H.size ≤ H1.size → (∀ q : Nat, q < H.size → ¬ AX q → H1[q]? = H[q]?) → va_S A0 H0 H1 locs1 → H1[q9]? = some ce → ce.vm = .none → s.vm.findClass E = some ce.cls → vx_W p l e R s m args below meth c H1 locs1 (cells + mc) (slots + ms) Q (F0 m pc ls rest) q9)
    (kk : ∀ (r : Int32) (u : S) (t : State) (H1 : Heap) (locs1 : List Loc), t.heap = H1 → s.vm.Alike t.vm → post r u → B u t → H.size ≤ H1.size → (∀ q : Nat, q < H.size → ¬ A1 q → H1[q]? = H[q]?) → va_S A0 H0 H1 locs1 → W p l e R s m args below meth c H1 locs1 (cells + mc) (slots + ms) Q (F0 m (pc + 3) ls (.int r :: rest))) : W p l e R s m args below meth c H locs cells slots Q (F0 m pc ls st0) := by
  intro T hT X
  rcases hr T hT X with ⟨v, st₀, t, T', L, h0, X', hL, e1, e2, ⟨⟨r, u, hv, hp, hb⟩, hF⟩, st⟩ | ⟨q, st₀, t, T', L, E, ce, h0, X', hL, e1, e2, ⟨u, hp, hb, hF⟩, hce, hcv, hcl, st⟩
  · cases hv
    obtain ⟨k1, k2, k3⟩ := vx_keep h0 e1 hS hA hf hL hF
    obtain ⟨t2, a1, b1⟩ := kk r u t T'.heap (locs ++ L) e1.symm (by rw [← e2]; exact X'.warmed.alike) hp hb k1 k2 k3 T' rfl X'
    exact ⟨t2, st t2 a1, b1⟩
  · obtain ⟨k1, k2, k3⟩ := vx_keep h0 e1 hS hAX hf hL hF
    obtain ⟨t2, a1, b1⟩ := kx E ce q u t T'.heap (locs ++ L) e1.symm (by rw [← e2]; exact X'.warmed.alike) hp hb k1 k2 k3 (by rw [e1]; exact hce) hcv hcl T' rfl X'
    exact ⟨t2, st.trans a1, b1⟩
theorem vx_calll {S SX : Type} {post : Int64 → S → Prop} {px : SX → Prop} {B : S → State → Prop} {BX : String → SX → State → Prop} {AX : Nat → Prop} (hr : vx_Run p l e R s m args below meth c H locs cells slots mc ms (F0 m pc ls st0) rest (va_Ql post B A1 a) (vx_X px BX AX) free) (hS : va_S A0 H0 H locs) (hA : ∀ q, q < H.size → A1 q → A0 q) (hf : ∀ q, free q → A0 q) (hAX : ∀ q, q < H.size → AX q → A0 q)
    (kx : ∀ (E : String) (ce : Cell) (q9 : Addr) (u : SX) (t : State) (H1 : Heap) (locs1 : List Loc), t.heap = H1 → s.vm.Alike t.vm → px u → BX E u t → H.size ≤ H1.size → (∀ q : Nat, q < H.size → ¬ AX q → H1[q]? = H[q]?) → va_S A0 H0 H1 locs1 → H1[q9]? = some ce → ce.vm = .none → s.vm.findClass E = some ce.cls → vx_W p l e R s m args below meth c H1 locs1 (cells + mc) (slots + ms) Q (F0 m pc ls rest) q9)
    (kk : ∀ (r : Int64) (u : S) (t : State) (H1 : Heap) (locs1 : List Loc), t.heap = H1 → s.vm.Alike t.vm → post r u → B u t → H.size ≤ H1.size → (∀ q : Nat, q < H.size → ¬ A1 q → H1[q]? = H[q]?) → va_S A0 H0 H1 locs1 → W p l e R s m args below meth c H1 locs1 (cells + mc) (slots + ms) Q (F0 m (pc + 3) ls (.long r :: rest))) : W p l e R s m args below meth c H locs cells slots Q (F0 m pc ls st0) := by
  intro T hT X
  rcases hr T hT X with ⟨v, st₀, t, T', L, h0, X', hL, e1, e2, ⟨⟨r, u, hv, hp, hb⟩, hF⟩, st⟩ | ⟨q, st₀, t, T', L, E, ce, h0, X', hL, e1, e2, ⟨u, hp, hb, hF⟩, hce, hcv, hcl, st⟩
  · cases hv
    obtain ⟨k1, k2, k3⟩ := vx_keep h0 e1 hS hA hf hL hF
    obtain ⟨t2, a1, b1⟩ := kk r u t T'.heap (locs ++ L) e1.symm (by rw [← e2]; exact X'.warmed.alike) hp hb k1 k2 k3 T' rfl X'
    exact ⟨t2, st t2 a1, b1⟩
  · obtain ⟨k1, k2, k3⟩ := vx_keep h0 e1 hS hAX hf hL hF
    obtain ⟨t2, a1, b1⟩ := kx E ce q u t T'.heap (locs ++ L) e1.symm (by rw [← e2]; exact X'.warmed.alike) hp hb k1 k2 k3 (by rw [e1]; exact hce) hcv hcl T' rfl X'
    exact ⟨t2, st.trans a1, b1⟩
theorem vx_callf {S SX : Type} {post : UInt32 → S → Prop} {px : SX → Prop} {B : S → State → Prop} {BX : String → SX → State → Prop} {AX : Nat → Prop} (hr : vx_Run p l e R s m args below meth c H locs cells slots mc ms (F0 m pc ls st0) rest (va_Qf post B A1 a) (vx_X px BX AX) free) (hS : va_S A0 H0 H locs) (hA : ∀ q, q < H.size → A1 q → A0 q) (hf : ∀ q, free q → A0 q) (hAX : ∀ q, q < H.size → AX q → A0 q)
    (kx : ∀ (E : String) (ce : Cell) (q9 : Addr) (u : SX) (t : State) (H1 : Heap) (locs1 : List Loc), t.heap = H1 → s.vm.Alike t.vm → px u → BX E u t → H.size ≤ H1.size → (∀ q : Nat, q < H.size → ¬ AX q → H1[q]? = H[q]?) → va_S A0 H0 H1 locs1 → H1[q9]? = some ce → ce.vm = .none → s.vm.findClass E = some ce.cls → vx_W p l e R s m args below meth c H1 locs1 (cells + mc) (slots + ms) Q (F0 m pc ls rest) q9)
    (kk : ∀ (r : UInt32) (u : S) (t : State) (H1 : Heap) (locs1 : List Loc), t.heap = H1 → s.vm.Alike t.vm → post r u → B u t → H.size ≤ H1.size → (∀ q : Nat, q < H.size → ¬ A1 q → H1[q]? = H[q]?) → va_S A0 H0 H1 locs1 → W p l e R s m args below meth c H1 locs1 (cells + mc) (slots + ms) Q (F0 m (pc + 3) ls (.float r :: rest))) : W p l e R s m args below meth c H locs cells slots Q (F0 m pc ls st0) := by
  intro T hT X
  rcases hr T hT X with ⟨v, st₀, t, T', L, h0, X', hL, e1, e2, ⟨⟨r, u, hv, hp, hb⟩, hF⟩, st⟩ | ⟨q, st₀, t, T', L, E, ce, h0, X', hL, e1, e2, ⟨u, hp, hb, hF⟩, hce, hcv, hcl, st⟩
  · cases hv
    obtain ⟨k1, k2, k3⟩ := vx_keep h0 e1 hS hA hf hL hF
    obtain ⟨t2, a1, b1⟩ := kk r u t T'.heap (locs ++ L) e1.symm (by rw [← e2]; exact X'.warmed.alike) hp hb k1 k2 k3 T' rfl X'
    exact ⟨t2, st t2 a1, b1⟩
  · obtain ⟨k1, k2, k3⟩ := vx_keep h0 e1 hS hAX hf hL hF
    obtain ⟨t2, a1, b1⟩ := kx E ce q u t T'.heap (locs ++ L) e1.symm (by rw [← e2]; exact X'.warmed.alike) hp hb k1 k2 k3 (by rw [e1]; exact hce) hcv hcl T' rfl X'
    exact ⟨t2, st.trans a1, b1⟩
theorem vx_calld {S SX : Type} {post : UInt64 → S → Prop} {px : SX → Prop} {B : S → State → Prop} {BX : String → SX → State → Prop} {AX : Nat → Prop} (hr : vx_Run p l e R s m args below meth c H locs cells slots mc ms (F0 m pc ls st0) rest (va_Qd post B A1 a) (vx_X px BX AX) free) (hS : va_S A0 H0 H locs) (hA : ∀ q, q < H.size → A1 q → A0 q) (hf : ∀ q, free q → A0 q) (hAX : ∀ q, q < H.size → AX q → A0 q)
    (kx : ∀ (E : String) (ce : Cell) (q9 : Addr) (u : SX) (t : State) (H1 : Heap) (locs1 : List Loc), t.heap = H1 → s.vm.Alike t.vm → px u → BX E u t → H.size ≤ H1.size → (∀ q : Nat, q < H.size → ¬ AX q → H1[q]? = H[q]?) → va_S A0 H0 H1 locs1 → H1[q9]? = some ce → ce.vm = .none → s.vm.findClass E = some ce.cls → vx_W p l e R s m args below meth c H1 locs1 (cells + mc) (slots + ms) Q (F0 m pc ls rest) q9)
    (kk : ∀ (r : UInt64) (u : S) (t : State) (H1 : Heap) (locs1 : List Loc), t.heap = H1 → s.vm.Alike t.vm → post r u → B u t → H.size ≤ H1.size → (∀ q : Nat, q < H.size → ¬ A1 q → H1[q]? = H[q]?) → va_S A0 H0 H1 locs1 → W p l e R s m args below meth c H1 locs1 (cells + mc) (slots + ms) Q (F0 m (pc + 3) ls (.double r :: rest))) : W p l e R s m args below meth c H locs cells slots Q (F0 m pc ls st0) := by
  intro T hT X
  rcases hr T hT X with ⟨v, st₀, t, T', L, h0, X', hL, e1, e2, ⟨⟨r, u, hv, hp, hb⟩, hF⟩, st⟩ | ⟨q, st₀, t, T', L, E, ce, h0, X', hL, e1, e2, ⟨u, hp, hb, hF⟩, hce, hcv, hcl, st⟩
  · cases hv
    obtain ⟨k1, k2, k3⟩ := vx_keep h0 e1 hS hA hf hL hF
    obtain ⟨t2, a1, b1⟩ := kk r u t T'.heap (locs ++ L) e1.symm (by rw [← e2]; exact X'.warmed.alike) hp hb k1 k2 k3 T' rfl X'
    exact ⟨t2, st t2 a1, b1⟩
  · obtain ⟨k1, k2, k3⟩ := vx_keep h0 e1 hS hAX hf hL hF
    obtain ⟨t2, a1, b1⟩ := kx E ce q u t T'.heap (locs ++ L) e1.symm (by rw [← e2]; exact X'.warmed.alike) hp hb k1 k2 k3 (by rw [e1]; exact hce) hcv hcl T' rfl X'
    exact ⟨t2, st.trans a1, b1⟩
theorem vx_callv {S SX : Type} {post : S → Prop} {px : SX → Prop} {B : S → State → Prop} {BX : String → SX → State → Prop} {AX : Nat → Prop} (hr : vx_Run p l e R s m args below meth c H locs cells slots mc ms (F0 m pc ls st0) rest (va_Qv post B A1 a) (vx_X px BX AX) free) (hS : va_S A0 H0 H locs) (hA : ∀ q, q < H.size → A1 q → A0 q) (hf : ∀ q, free q → A0 q) (hAX : ∀ q, q < H.size → AX q → A0 q)
    (kx : ∀ (E : String) (ce : Cell) (q9 : Addr) (u : SX) (t : State) (H1 : Heap) (locs1 : List Loc), t.heap = H1 → s.vm.Alike t.vm → px u → BX E u t → H.size ≤ H1.size → (∀ q : Nat, q < H.size → ¬ AX q → H1[q]? = H[q]?) → va_S A0 H0 H1 locs1 → H1[q9]? = some ce → ce.vm = .none → s.vm.findClass E = some ce.cls → vx_W p l e R s m args below meth c H1 locs1 (cells + mc) (slots + ms) Q (F0 m pc ls rest) q9)
    (kk : ∀ (u : S) (t : State) (H1 : Heap) (locs1 : List Loc), t.heap = H1 → s.vm.Alike t.vm → post u → B u t → H.size ≤ H1.size → (∀ q : Nat, q < H.size → ¬ A1 q → H1[q]? = H[q]?) → va_S A0 H0 H1 locs1 → W p l e R s m args below meth c H1 locs1 (cells + mc) (slots + ms) Q (F0 m (pc + 3) ls (rest))) : W p l e R s m args below meth c H locs cells slots Q (F0 m pc ls st0) := by
  intro T hT X
  rcases hr T hT X with ⟨v, st₀, t, T', L, h0, X', hL, e1, e2, ⟨⟨u, hv, hp, hb⟩, hF⟩, st⟩ | ⟨q, st₀, t, T', L, E, ce, h0, X', hL, e1, e2, ⟨u, hp, hb, hF⟩, hce, hcv, hcl, st⟩
  · cases hv
    obtain ⟨k1, k2, k3⟩ := vx_keep h0 e1 hS hA hf hL hF
    obtain ⟨t2, a1, b1⟩ := kk u t T'.heap (locs ++ L) e1.symm (by rw [← e2]; exact X'.warmed.alike) hp hb k1 k2 k3 T' rfl X'
    exact ⟨t2, st t2 a1, b1⟩
  · obtain ⟨k1, k2, k3⟩ := vx_keep h0 e1 hS hAX hf hL hF
    obtain ⟨t2, a1, b1⟩ := kx E ce q u t T'.heap (locs ++ L) e1.symm (by rw [← e2]; exact X'.warmed.alike) hp hb k1 k2 k3 (by rw [e1]; exact hce) hcv hcl T' rfl X'
    exact ⟨t2, st.trans a1, b1⟩
/-- caught by the row x of this method's table; the rows ahead don't take it -/
theorem vx_catch {own name : String} {E : String} {ce : Cell} {q : Addr} (hown : s.vm.findClass own = some m.cls) (pre : List ExceptionTableEntry) (x : ExceptionTableEntry) (suf : List ExceptionTableEntry) (hsplit : c.exceptionTable.toList = pre ++ x :: suf)
    (hpass : ∀ z ∈ pre, covers z pc = false ∨ (z.catchType ≠ 0 ∧ ∃ nm : String, (Cond.classLink own z.catchType nm).before args s = true ∧ va_Nc E nm s)) (hx : covers x pc = true) (h0 : x.catchType ≠ 0)
    (hlink : (Cond.classLink own x.catchType name).before args s = true) (hcast : (Cond.castable E name).before args s = true) (hcell : H[q]? = some ce) (hv : ce.vm = .none) (hcl : s.vm.findClass E = some ce.cls)
    (kk : W p l e R s m args below meth c H locs cells slots Q (F0 m x.handlerPc ls [.ref q])) : vx_W p l e R s m args below meth c H locs cells slots Q (F0 m pc ls rest) q := by
  intro T hT X
  have hpl : e.platform.magicAccessors = ({} : Platform).magicAccessors := by rw [X.admits.platform]
  obtain ⟨c3, c4, hc3, hc4, hasg⟩ := Cond.castable_spec hcast
  cases Option.some.inj (hc3.symm.trans hcl)
  obtain ⟨c5, hc5, hcl5⟩ := Cond.classLink_spec hown hlink e.platform hpl
  cases Option.some.inj (hc4.symm.trans hc5)
  obtain ⟨vm', X', st⟩ := X.thenCaughtThrough q (g := F0 m pc ls rest) rfl (Steps.refl _) (by rw [hT]; exact hcell) (by rw [hv]; rfl) (by obtain ⟨k9, h9, -⟩ := Vm.findClass_spec hcl; exact ⟨k9, h9⟩) pre x suf hsplit
    (fun z hz => by
      rcases hpass z hz with h | ⟨hz0, nm, hl1, hn1⟩
      · exact Or.inl h
      · obtain ⟨c6, hc6, hcl6⟩ := Cond.classLink_spec hown hl1 e.platform hpl
        obtain ⟨a8, b8, h1, h2, h3⟩ := hn1
        cases Option.some.inj (h1.symm.trans hcl)
        cases Option.some.inj (h2.symm.trans hc6)
        exact Or.inr ⟨hz0, _, hcl6, h3⟩) hx (Or.inr ⟨h0, c4, hcl5, hasg⟩)
  obtain ⟨t, a1, b1⟩ := kk (T.setVm vm') hT X'
  exact ⟨t, st.trans a1, b1⟩
end Rows
section Ends
variable {p : Program} {l : Launch} {e : Env} {R : Room} {s : State} {m : MethodId} {args : Array Value} {below : List Frame} {meth : Method} {c : Code} {H : Heap} {locs : List Loc} {cells slots : Nat} {Q : State → Prop}
variable {mc ms : Nat} {free : Addr → Prop} {A0 A1 : Nat → Prop} {H0 : Heap} {a : Array Value} {ls : Array Slot} {st0 rest : List Value}
variable {Qc : Array Value → State → Outcome → State → Prop} {XC : String → State → State → Prop}
/-- what a body that may throw owes at its end -/
def vx_MQ (below : List Frame) (Qc : Array Value → State → Outcome → State → Prop) (XC : String → State → State → Prop) (a : Array Value) (s : State) (mc ms : Nat) (free : Addr → Prop) : State → Prop := fun t =>
  ∃ o, t.status = .running ∧ Ended t below o ∧ vx_Q Qc XC mc ms free a s o t
theorem vx_ret {g : JFrame} {mc ms : Nat} (k : W p l e R s m args below meth c H locs cells slots (MQ below Qc args s mc ms free) g) : W p l e R s m args below meth c H locs cells slots (vx_MQ below Qc XC args s mc ms free) g := by
  intro T hT X
  obtain ⟨t, a1, o, b1, b2, b3, b4⟩ := k T hT X
  exact ⟨t, a1, o, b1, b2, Or.inl ⟨b3, b4⟩⟩
/-- not caught here: it goes on to the caller -/
theorem vx_widen {g : JFrame} {q : Addr} {k n : Nat} (h1 : cells ≤ k) (h2 : slots ≤ n) (kk : vx_W p l e R s m args below meth c H locs k n Q g q) : vx_W p l e R s m args below meth c H locs cells slots Q g q := fun T hT X => kk T hT (stand_widen X h1 h2)
theorem vx_out {pc : Nat} {E : String} {ce : Cell} {q : Addr} {mc ms : Nat} (hout : ∀ x ∈ c.exceptionTable.toList, covers x pc = false) (hlocks : meth.locks = false) (hcell : H[q]? = some ce) (hv : ce.vm = .none) (hcl : s.vm.findClass E = some ce.cls)
    (hx : ∀ t : State, t.heap = H → s.vm.Alike t.vm → XC E s t) (hf : ∀ z ∈ locs, free z.base) (hc : cells ≤ mc) (hs : slots ≤ ms) :
    vx_W p l e R s m args below meth c H locs cells slots (vx_MQ below Qc XC args s mc ms free) (F0 m pc ls rest) q := by
  intro T hT X
  obtain ⟨st1, hrun, hend, hW, hsm⟩ := X.leaveThrown q (g := F0 m pc ls rest) rfl rfl rfl hout hlocks
  have hcell9 : (T.setFrames (.throwing q :: below)).heap[q]? = some ce := by
    show T.heap[q]? = some ce
    rw [hT]; exact hcell
  exact ⟨_, st1, .threw q, hrun, hend, Or.inr ⟨q, rfl, E, ce, locs, hx _ hT hW.alike, hcell9, hv, hcl, hW, hsm.mono hc hs, hf⟩⟩
theorem vx_frame {U : State} {k n : Nat} (h : s.sameButNew ({ U with vm := s.vm } : State) locs k n) : s.heap.size ≤ U.heap.size ∧ ∀ q : Nat, q < s.heap.size → (∀ z ∈ locs, z.base ≠ q) → U.heap[q]? = s.heap[q]? := by
  obtain ⟨-, h2, -, -, -, h6⟩ := h
  refine ⟨h2, fun q hq hz => ?_⟩
  obtain ⟨c9, e1, e2, e3, e4⟩ := h6 q _ (Array.getElem?_eq_getElem hq)
  have hs : c9.slots = (s.heap[q]).slots := Array.ext_getElem? fun i => e4 i fun hm => hz _ hm rfl
  have h9 : c9 = s.heap[q] := by
    rw [hs] at e2
    exact e2
  have e5 : U.heap[q]? = some c9 := e1
  rw [e5, h9, Array.getElem?_eq_getElem hq]
/-- the words of a throw but the four that speak of the heap -/
def vx_no (w : Cond) : Bool := decide (w ≠ .isRef (.static Bundle.tN "UNASSIGNED_STACK" Bundle.steD)) && decide (w ≠ .isRef (.static Bundle.tN "SUPPRESSED_SENTINEL" Bundle.listD)) && decide (w ≠ .laysStatic Bundle.tN "UNASSIGNED_STACK" Bundle.steD) && decide (w ≠ .laysStatic Bundle.tN "SUPPRESSED_SENTINEL" Bundle.listD)
def vx_at0 (own : String) (ic : Nat) (X : String) (names : List String) : List Cond := (Bundle.ownAtoms0 own ic X names).filter vx_no
def vx_atS (own : String) (ic : Nat) (X : String) (names : List String) : List Cond := (Bundle.ownAtoms own ic X names).filter vx_no
/-- a word that the tables alone decide, or a good one -/
def vx_ot (w : Cond) : Bool := w.onTables || goodWord w
theorem vx_ot_at {args a' : Array Value} {s U : State} {w : Cond} (hW : s.WarmedH U.vm) (hvm : s.vm = U.vm) (hg : vx_ot w = true) (h : w.before args s = true) : w.before a' U = true := by
  simp only [vx_ot, Bool.or_eq_true] at hg
  rcases hg with hg | hg
  · exact va_tabs hg hvm h
  · exact word_at hW (good_of_word hg) h
/-- a list's words: the good ones out of the method's own list, the others by premises of their own -/
theorem vx_hat {args : Array Value} {s : State} {L B : List Cond} (h1 : ∀ w ∈ L.filter goodWord, w.before args s = true) (h2 : ∀ w ∈ L.filter (fun w => !goodWord w), w ∈ B) (h3 : ∀ w ∈ B, w.before args s = true) : ∀ w ∈ L, w.before args s = true := by
  intro w hw
  by_cases g : goodWord w = true
  · exact h1 w (List.mem_filter.mpr ⟨hw, g⟩)
  · refine h3 w (h2 w (List.mem_filter.mpr ⟨hw, ?_⟩))
    show (!goodWord w) = true
    cases hgw : goodWord w
    · rfl
    · exact absurd hgw g
theorem vx_c {args : Array Value} {s : State} {w : Cond} {B : List Cond} (h : w.before args s = true) (t : ∀ w ∈ B, w.before args s = true) : ∀ w' ∈ w :: B, w'.before args s = true := fun w' h' => (List.mem_cons.mp h').elim (fun e => by rw [e]; exact h) (t w')
theorem vx_n {args : Array Value} {s : State} : ∀ w ∈ ([] : List Cond), w.before args s = true := fun _ h => nomatch h
theorem vx_own {args : Array Value} {s : State} {L : List Cond} (h1 : ∀ w ∈ L.filter vx_no, w.before args s = true)
    (hU : (Cond.isRef (.static Bundle.tN "UNASSIGNED_STACK" Bundle.steD)).before args s = true) (hN : (Cond.isRef (.static Bundle.tN "SUPPRESSED_SENTINEL" Bundle.listD)).before args s = true)
    (lU : (Cond.laysStatic Bundle.tN "UNASSIGNED_STACK" Bundle.steD).before args s = true) (lN : (Cond.laysStatic Bundle.tN "SUPPRESSED_SENTINEL" Bundle.listD).before args s = true) : ∀ w ∈ L, w.before args s = true := by
  intro w hw
  by_cases e1 : w = .isRef (.static Bundle.tN "UNASSIGNED_STACK" Bundle.steD)
  · rw [e1]; exact hU
  · by_cases e2 : w = .isRef (.static Bundle.tN "SUPPRESSED_SENTINEL" Bundle.listD)
    · rw [e2]; exact hN
    · by_cases e3 : w = .laysStatic Bundle.tN "UNASSIGNED_STACK" Bundle.steD
      · rw [e3]; exact lU
      · by_cases e4 : w = .laysStatic Bundle.tN "SUPPRESSED_SENTINEL" Bundle.listD
        · rw [e4]; exact lN
        · exact h1 w (List.mem_filter.mpr ⟨hw, by unfold vx_no; rw [decide_eq_true e1, decide_eq_true e2, decide_eq_true e3, decide_eq_true e4]; rfl⟩)
/-- where a static field lies, its class's statics cell in H -/
def vx_L (C n d : String) (A : Nat → Prop) (U : State) (H : Heap) : Prop := ∃ (c : ClassId) (k : Class) (i : Nat) (f : Field) (a : Nat) (cell : Cell), U.vm.findClass C = some c ∧ U.fieldFound? C n d = some (c, k, i, f) ∧ f.isStatic = true ∧ k.statics = some a ∧ H[a]? = some cell ∧ cell.vm.isStatics = true ∧ cell.cls = c ∧ f.slot < cell.slots.size ∧ k.staticTypes[f.slot]? = some f.type ∧ ¬ A a
theorem vx_L.moved {C n d : String} {A : Nat → Prop} {u U : State} {H : Heap} (hvm : u.vm.Alike U.vm) (h : vx_L C n d A u H) : vx_L C n d A U H := by
  obtain ⟨c, k, i, f, a, cell, h1, h2, h3, h4, h5, h6, h7, h8, h9, h10⟩ := h
  obtain ⟨k', hi', he⟩ := State.fieldFound?_setVm hvm h2
  exact ⟨c, k', i, f, a, cell, by rw [hvm.findClass]; exact h1, hi', h3, by rw [he]; exact h4, h5, h6, h7, h8, by rw [he]; exact h9, h10⟩
theorem vx_L.kept {C n d : String} {A : Nat → Prop} {U : State} {H H1 : Heap} (h : vx_L C n d A U H) (hq : ∀ a : Nat, a < H.size → ¬ A a → H1[a]? = H[a]?) : vx_L C n d A U H1 := by
  obtain ⟨c, k, i, f, a, cell, h1, h2, h3, h4, h5, h6, h7, h8, h9, h10⟩ := h
  exact ⟨c, k, i, f, a, cell, h1, h2, h3, h4, by rw [hq a (Array.getElem?_eq_some_iff.mp h5).1 h10]; exact h5, h6, h7, h8, h9, h10⟩
theorem vx_L.narrow {C n d : String} {A B : Nat → Prop} {U : State} {H : Heap} (h : vx_L C n d A U H) (hAB : ∀ q, B q → A q) : vx_L C n d B U H := by
  obtain ⟨c, k, i, f, a, cell, h1, h2, h3, h4, h5, h6, h7, h8, h9, h10⟩ := h
  exact ⟨c, k, i, f, a, cell, h1, h2, h3, h4, h5, h6, h7, h8, h9, fun z => h10 (hAB _ z)⟩
theorem vx_L.word {C n d : String} {A : Nat → Prop} {s : State} {args : Array Value} (h : vx_L C n d A s s.heap) : (Cond.laysStatic C n d).before args s = true := by
  obtain ⟨c, k, i, f, a, cell, h1, h2, h3, h4, h5, h6, h7, h8, h9, -⟩ := h
  show (Cond.laysStatic C n d).holds args s none s [] = true
  exact Cond.laysStatic_of h1 h2 h3 h4 h5 h6 h7 h8 h9
/-- .. and what it holds: null or some reference -/
def vx_Zq (C n d : String) (A : Nat → Prop) (U : State) (H : Heap) : Prop := va_Zq C n d A U H ∧ vx_L C n d A U H
theorem vx_Zq.moved {C n d : String} {A : Nat → Prop} {u U : State} {H : Heap} (hvm : u.vm.Alike U.vm) (h : vx_Zq C n d A u H) : vx_Zq C n d A U H := ⟨va_Zq.moved hvm h.1, vx_L.moved hvm h.2⟩
theorem vx_Zq.kept {C n d : String} {A : Nat → Prop} {U : State} {H H1 : Heap} (h : vx_Zq C n d A U H) (hq : ∀ a : Nat, a < H.size → ¬ A a → H1[a]? = H[a]?) : vx_Zq C n d A U H1 := ⟨va_Zq.kept h.1 hq, vx_L.kept h.2 hq⟩
theorem vx_Zq.narrow {C n d : String} {A B : Nat → Prop} {U : State} {H : Heap} (h : vx_Zq C n d A U H) (hAB : ∀ q, B q → A q) : vx_Zq C n d B U H := ⟨va_Zq.narrow h.1 hAB, vx_L.narrow h.2 hAB⟩
theorem vx_Zqof {args : Array Value} {s : State} {C n d : String} {A : Nat → Prop} (hl : (Cond.laysStatic C n d).before args s = true) (hini : (Cond.initialized C).before args s = true) (h : (Cond.isRef (.static C n d)).before args s = true) (hA : ∀ a : Nat, a < s.heap.size → ¬ A a) : vx_Zq C n d A s s.heap := by
  refine ⟨va_Zqof hl hini h hA, ?_⟩
  obtain ⟨c, k, i, f, a, cell, h1, h2, h3, h4, h5, h6, h7, h8, h9⟩ := Cond.laysStatic_spec hl
  exact ⟨c, k, i, f, a, cell, h1, h2, h3, h4, h5, h6, h7, h8, h9, hA a (Array.getElem?_eq_some_iff.mp h5).1⟩
theorem vx_isRef {C n d : String} {v : Value} {A : Nat → Prop} {s : State} {args : Array Value} (h : va_Z C n d v A s s.heap) (hv : v.isRef = true) : (Cond.isRef (.static C n d)).before args s = true := by
  obtain ⟨cf, kf, fi, f, a, cell, h1, h2, h3, h4, h5, h6, h7, -⟩ := h
  have he : (Term.static C n d).eval args s none [] s = some v := by
    simp [Term.eval, State.fieldNamed?, h1, h2, h4, h5, h6, h7]
  simp only [Cond.before, Cond.holds, Cond.value, he]
  cases v <;> simp_all [Value.isRef]
theorem vx_isRefq {C n d : String} {A : Nat → Prop} {s : State} {args : Array Value} (h : va_Zq C n d A s s.heap) : (Cond.isRef (.static C n d)).before args s = true := by
  rcases h with h | ⟨t, h⟩
  · exact vx_isRef h rfl
  · exact vx_isRef h rfl
/-- the same frame, seen from here: as if the method were called anew in this heap -/
theorem vx_rebase {T : State} (X : Stand p l e R s m args below meth c T locs cells slots) {R' : Room} (hf : R'.frames ≤ R.frames) (hl : R'.locals ≤ R.locals) (hc : cells + R'.cells ≤ R.cells) (hs : slots + R'.slots ≤ R.slots) :
    Stand p l e R' ((T.setVm s.vm).setFrames (.invoking m args :: below)) m args below meth c T [] 0 0 := by
  have htop : (T.setVm s.vm).topJava?.isSome := X.here.top
  have hF : ((T.setVm s.vm).setFrames (.invoking m args :: below)).frames = .invoking m args :: below := State.frames_setFrames _ (State.cur_lt_of_top htop)
  obtain ⟨g₀, hg0⟩ := Option.isSome_iff_exists.mp htop
  obtain ⟨r, hr⟩ := State.topJava?_eq_some.mp hg0
  have hl9 : e.platform.stackLimits (T.setVm s.vm).me = e.platform.stackLimits s.me := X.limits
  have hb9 : (T.setVm s.vm).me.stackBytes = s.me.stackBytes := X.bytes
  refine ⟨X.admits, X.cas, X.clock, hF, ?_, X.hears, X.method, X.code, X.here, X.tail, X.warmed, ?_, ?_, ?_⟩
  · have h := X.room
    have hU : ((T.setVm s.vm).setFrames (.invoking m args :: below)).localsInUse = s.localsInUse := by
      rw [State.localsInUse_invoking hF (meth := meth) (c := c) X.method X.code, State.localsInUse_invoking X.frames X.method X.code]
    simp only [State.hasRoom, Bool.and_eq_true, decide_eq_true_eq] at h ⊢
    obtain ⟨⟨⟨⟨h1, h2, h3, h4, h5, h6⟩, h7⟩, h8⟩, h9⟩ := h
    rw [X.frames, List.length_cons] at h2 h3
    have q1 := X.heapSize
    have q2 := X.used
    simp only [hF, hU, List.length_cons, State.stackLimits_setFrames, State.stackBytes_setFrames, hl9, hb9]
    refine ⟨⟨⟨⟨by omega, by omega, by omega, by omega, by omega, h6⟩, ?_⟩, ?_⟩, X.book⟩
    · show T.heap.size + R'.cells ≤ e.platform.maxCells
      omega
    · show T.slotsUsed + R'.slots ≤ e.platform.maxSlots
      omega
  · rw [State.stackLimits_setFrames]; rfl
  · rw [State.stackBytes_setFrames]; rfl
  · refine ⟨?_, Nat.le_refl _, Nat.le_refl _, ?_, ?_, fun a c9 h9 => ⟨c9, h9, rfl, rfl, fun _ _ => rfl⟩⟩
    · obtain ⟨t, ht, -⟩ := State.frames_cons hr
      show T.setVm s.vm = { ((T.setVm s.vm).setFrames (.invoking m args :: below)).setFrames (T.setVm s.vm).frames with heap := T.heap, slotsUsed := T.slotsUsed }
      rw [State.setFrames_setFrames, State.setFrames_self ht]
      rfl
    · show T.slotsUsed = T.slotsUsed + ((T.heap.toList.drop T.heap.size).map (·.slots.size)).sum
      rw [List.drop_eq_nil_of_le (Nat.le_of_eq Array.length_toList)]
      rfl
    · show ((T.heap.toList.drop T.heap.size).map (·.slots.size)).sum ≤ 0
      rw [List.drop_eq_nil_of_le (Nat.le_of_eq Array.length_toList)]
      exact Nat.le_refl _
/-- 'throw new E()': new; dup; invokespecial; athrow -/
theorem vx_throw0 {cc : ByteArray} {pc : Nat} (hexec : p.tables.exec = Jvm.exec) (hb : c.code = cc) (hl : l.stackTraces = false) {own cls : String} {names : List String} {ik ic mc ms : Nat} {A : Nat → Prop}
    (hown : s.vm.findClass own = some m.cls) (hcls : Bundle.fit cls = true) (hnames : ∀ n ∈ names, Bundle.fit n = true)
    (hk : (Cond.classLink own ik cls).before args s = true) (hini : (Cond.initialized cls).before args s = true) (hat : ∀ w ∈ vx_at0 own ic cls names, w.before args s = true)
    (hgood : ∀ w ∈ Cond.classLink own ik cls :: Cond.initialized cls :: vx_at0 own ic cls names, vx_ot w = true)
    (hU : vx_Zq Bundle.tN "UNASSIGNED_STACK" Bundle.steD A s s.heap) (hN : vx_Zq Bundle.tN "SUPPRESSED_SENTINEL" Bundle.listD A s s.heap) (hS : va_S A s.heap H locs) (hsize : ls.size = c.maxLocals)
    (d0 : decode cc pc = .ok (.new ik, 3)) (d3 : decode cc (pc + 3) = .ok (.dup, 1)) (d4 : decode cc (pc + 4) = .ok (.invokespecial ic, 3)) (d7 : decode cc (pc + 7) = .ok (.athrow, 1))
    (hout : ∀ x ∈ c.exceptionTable.toList, covers x (pc + 7) = false)
    (hRframes : names.length + 3 < R.frames) (hRlocals : (rest.map fun v => v.category).sum + (13 * (names.length + 1) + 42) ≤ R.locals) (hRcells : cells + 1 ≤ R.cells) (hRslots : slots + 6 ≤ R.slots) (hlocks : meth.locks = false)
    (hx : ∀ t : State, s.vm.Alike t.vm → H.size ≤ t.heap.size → (∀ q : Nat, q < H.size → t.heap[q]? = H[q]?) → XC cls s t)
    (hf : ∀ z ∈ locs, free z.base) (hc : cells + 1 ≤ mc) (hs : slots + 6 ≤ ms) :
    W p l e R s m args below meth c H locs cells slots (vx_MQ below Qc XC args s mc ms free) (F0 m pc ls rest) := by
  intro T hT X
  have htr : e.platform.stackTraces = false := (show e.platform.stackTraces = l.stackTraces by rw [X.admits.platform]).trans hl
  have Y := vx_rebase X (R' := { frames := R.frames, locals := R.locals, cells := 1, slots := 6 }) (Nat.le_refl _) (Nat.le_refl _) hRcells hRslots
  obtain ⟨s', hA⟩ : ∃ z, z = (T.setVm s.vm).setFrames (.invoking m args :: below) := ⟨_, rfl⟩
  rw [← hA] at Y
  have hvm : s'.vm = s.vm := by rw [hA]; rfl
  have hhp : s'.heap = H := by rw [hA]; exact hT
  have hW0 : s.WarmedH s'.vm := by rw [hvm]; exact State.WarmedH.refl s
  have hat' : ∀ w ∈ vx_at0 own ic cls names, w.before args s' = true := fun w hw => vx_ot_at hW0 hvm.symm (hgood w (List.mem_cons_of_mem _ (List.mem_cons_of_mem _ hw))) (hat w hw)
  have hk' : (Cond.classLink own ik cls).before args s' = true := vx_ot_at hW0 hvm.symm (hgood _ List.mem_cons_self) hk
  have hini' : (Cond.initialized cls).before args s' = true := vx_ot_at hW0 hvm.symm (hgood _ (List.mem_cons_of_mem _ List.mem_cons_self)) hini
  have hU' : vx_Zq Bundle.tN "UNASSIGNED_STACK" Bundle.steD A s' s'.heap := by rw [hhp]; exact vx_Zq.moved hW0.alike (hU.kept hS.2.1)
  have hN' : vx_Zq Bundle.tN "SUPPRESSED_SENTINEL" Bundle.listD A s' s'.heap := by rw [hhp]; exact vx_Zq.moved hW0.alike (hN.kept hS.2.1)
  have h : ∀ w ∈ Bundle.ownAtoms0 own ic cls names, w.before args s' = true := vx_own hat' (vx_isRefq hU'.1) (vx_isRefq hN'.1) hU'.2.word hN'.2.word
  have hown' : s'.vm.findClass own = some m.cls := by rw [hvm]; exact hown
  have hins : (Cond.instantiable cls 6).before args s' = true := h _ (by simp [Bundle.ownAtoms0])
  obtain ⟨vm₁, cX, kX, hfX, hkX, -, -, X₁, st1⟩ := Y.newCold hexec (own := own) (C := cls) (index := ik) (n := 6) hown' hk' hins hini'
    (g := F0 m pc ls rest) rfl (by rw [hb]; exact d0) (Nat.le_refl _) (Nat.le_refl _)
  generalize hT1 : (T.setVm vm₁).pushCell { cls := cX, slots := kX.instanceTypes.map defaultValue, vm := .none } = T1 at X₁ st1
  have hcat : (Value.ref T.heap.size).category = 1 := rfl
  have hcellA : T1.heap[T.heap.size]? = some (freshCell cX kX) := by rw [← hT1]; exact State.heap_pushCell_size _ _
  have d3' : decode c.code (pc + 3) = .ok (.dup, 1) := by rw [hb]; exact d3
  obtain ⟨U, hsteps, hrun, hend, hW, hsame, ce, hce, hO⟩ := X₁.ctorThrow0 hexec htr (own := own) (cls := cls) (names := names) (ic := ic) hown' hcls hnames h (fun x hx => nomatch hx) hfX hkX hcellA (by rw [hhp, hT]; exact Nat.le_refl _)
    (g := { method := m, pc := pc + 4, locals := ls, stack := .ref T.heap.size :: .ref T.heap.size :: rest, locked := none }) rfl hsize rfl rfl (rest := rest) rfl
    (by rw [hb]; exact d4) (by rw [hb]; exact d7) hout hRframes (by simp only [List.map_cons, List.sum_cons, hcat]; omega) hlocks
  obtain ⟨f1, f2⟩ := vx_frame hsame
  rw [hhp] at f1 f2
  have hWs : s.WarmedH U.vm := State.WarmedH.trans hW0 hW
  have hcl : s.vm.findClass cls = some ce.cls := by
    have h9 := hO.cls
    rw [hvm] at h9
    exact h9
  have hall : s.sameButNew ({ U with vm := s.vm } : State) locs mc ms := by
    subst hA
    obtain ⟨e1, e2⟩ := hsame
    rw [State.setFrames_setFrames] at e1
    have h2 : (T.setVm s.vm).sameButNew ({ U with vm := s.vm } : State) [] (0 + 1) (0 + 6) := ⟨e1, e2⟩
    have h3 := X.same.trans h2
    rw [List.append_nil] at h3
    exact h3.mono hc hs
  refine ⟨U, ?_, .threw T.heap.size, hrun, hend, Or.inr ⟨T.heap.size, rfl, cls, ce, locs, hx U hWs.alike f1 (fun q hq => f2 q hq (fun z hz => nomatch hz)), hce, hO.vm, hcl, hWs, hall, hf⟩⟩
  refine st1 _ ?_
  show Steps p.tables e below (T1.setTop { method := m, pc := pc + 3, locals := ls, stack := .ref T.heap.size :: rest, locked := none }) _
  jvm_step X₁.here [X₁.here.top, hexec, d3', Value.category]
  exact hsteps
/-- 'throw new E("text")': new; dup; ldc; invokespecial; athrow -/
theorem vx_throwS {cc : ByteArray} {pc : Nat} (hexec : p.tables.exec = Jvm.exec) (hb : c.code = cc) (hl : l.stackTraces = false) {own cls text : String} {names : List String} {ik is ic mc ms sa : Nat} {A : Nat → Prop}
    (hown : s.vm.findClass own = some m.cls) (hcls : Bundle.fit cls = true) (hnames : ∀ n ∈ names, Bundle.fit n = true)
    (hk : (Cond.classLink own ik cls).before args s = true) (hini : (Cond.initialized cls).before args s = true) (hstr : vk_R own is text sa s) (hat : ∀ w ∈ vx_atS own ic cls names, w.before args s = true)
    (hgood : ∀ w ∈ Cond.classLink own ik cls :: Cond.initialized cls :: vx_atS own ic cls names, vx_ot w = true)
    (hU : vx_Zq Bundle.tN "UNASSIGNED_STACK" Bundle.steD A s s.heap) (hN : vx_Zq Bundle.tN "SUPPRESSED_SENTINEL" Bundle.listD A s s.heap) (hS : va_S A s.heap H locs) (hsize : ls.size = c.maxLocals)
    (d0 : decode cc pc = .ok (.new ik, 3)) (d3 : decode cc (pc + 3) = .ok (.dup, 1)) (d4 : decode cc (pc + 4) = .ok (.ldc is, 2)) (d6 : decode cc (pc + 6) = .ok (.invokespecial ic, 3)) (d9 : decode cc (pc + 9) = .ok (.athrow, 1))
    (hout : ∀ x ∈ c.exceptionTable.toList, covers x (pc + 9) = false)
    (hRframes : names.length + 3 < R.frames) (hRlocals : (rest.map fun v => v.category).sum + (13 * (names.length + 1) + 43) ≤ R.locals) (hRcells : cells + 1 ≤ R.cells) (hRslots : slots + 6 ≤ R.slots) (hlocks : meth.locks = false)
    (hx : ∀ t : State, s.vm.Alike t.vm → H.size ≤ t.heap.size → (∀ q : Nat, q < H.size → t.heap[q]? = H[q]?) → XC cls s t)
    (hf : ∀ z ∈ locs, free z.base) (hc : cells + 1 ≤ mc) (hs : slots + 6 ≤ ms) :
    W p l e R s m args below meth c H locs cells slots (vx_MQ below Qc XC args s mc ms free) (F0 m pc ls rest) := by
  intro T hT X
  have htr : e.platform.stackTraces = false := (show e.platform.stackTraces = l.stackTraces by rw [X.admits.platform]).trans hl
  have Y := vx_rebase X (R' := { frames := R.frames, locals := R.locals, cells := 1, slots := 6 }) (Nat.le_refl _) (Nat.le_refl _) hRcells hRslots
  obtain ⟨s', hA⟩ : ∃ z, z = (T.setVm s.vm).setFrames (.invoking m args :: below) := ⟨_, rfl⟩
  rw [← hA] at Y
  have hvm : s'.vm = s.vm := by rw [hA]; rfl
  have hhp : s'.heap = H := by rw [hA]; exact hT
  have hW0 : s.WarmedH s'.vm := by rw [hvm]; exact State.WarmedH.refl s
  have hat' : ∀ w ∈ vx_atS own ic cls names, w.before args s' = true := fun w hw => vx_ot_at hW0 hvm.symm (hgood w (List.mem_cons_of_mem _ (List.mem_cons_of_mem _ hw))) (hat w hw)
  have hk' : (Cond.classLink own ik cls).before args s' = true := vx_ot_at hW0 hvm.symm (hgood _ List.mem_cons_self) hk
  have hini' : (Cond.initialized cls).before args s' = true := vx_ot_at hW0 hvm.symm (hgood _ (List.mem_cons_of_mem _ List.mem_cons_self)) hini
  have hU' : vx_Zq Bundle.tN "UNASSIGNED_STACK" Bundle.steD A s' s'.heap := by rw [hhp]; exact vx_Zq.moved hW0.alike (hU.kept hS.2.1)
  have hN' : vx_Zq Bundle.tN "SUPPRESSED_SENTINEL" Bundle.listD A s' s'.heap := by rw [hhp]; exact vx_Zq.moved hW0.alike (hN.kept hS.2.1)
  have h : ∀ w ∈ Bundle.ownAtoms own ic cls names, w.before args s' = true := vx_own hat' (vx_isRefq hU'.1) (vx_isRefq hN'.1) hU'.2.word hN'.2.word
  have hown' : s'.vm.findClass own = some m.cls := by rw [hvm]; exact hown
  have hins : (Cond.instantiable cls 6).before args s' = true := h _ (by simp [Bundle.ownAtoms])
  obtain ⟨vm₁, cX, kX, hfX, hkX, -, -, X₁, st1⟩ := Y.newCold hexec (own := own) (C := cls) (index := ik) (n := 6) hown' hk' hins hini'
    (g := F0 m pc ls rest) rfl (by rw [hb]; exact d0) (Nat.le_refl _) (Nat.le_refl _)
  generalize hT1 : (T.setVm vm₁).pushCell { cls := cX, slots := kX.instanceTypes.map defaultValue, vm := .none } = T1 at X₁ st1
  have hcat : (Value.ref T.heap.size).category = 1 := rfl
  have hcellA : T1.heap[T.heap.size]? = some (freshCell cX kX) := by rw [← hT1]; exact State.heap_pushCell_size _ _
  have d3' : decode c.code (pc + 3) = .ok (.dup, 1) := by rw [hb]; exact d3
  have d4' : decode c.code (pc + 4) = .ok (.ldc is, 2) := by rw [hb]; exact d4
  have hstr' : vk_R own is text sa s' := vk_R.warm hW0 hstr
  obtain ⟨U, hsteps, hrun, hend, hW, hsame, ce, hce, hO⟩ := X₁.ctorThrowS hexec htr (own := own) (cls := cls) (names := names) (ic := ic) hown' hcls hnames h (fun x hx => nomatch hx) hfX hkX hcellA (by rw [hhp, hT]; exact Nat.le_refl _) (msg := .ref sa) rfl
    (g := { method := m, pc := pc + 6, locals := ls, stack := .ref sa :: .ref T.heap.size :: .ref T.heap.size :: rest, locked := none }) rfl hsize rfl rfl (rest := rest) rfl
    (by rw [hb]; exact d6) (by rw [hb]; exact d9) hout hRframes (by simp only [List.map_cons, List.sum_cons, hcat]; omega) hlocks
  obtain ⟨f1, f2⟩ := vx_frame hsame
  rw [hhp] at f1 f2
  have hWs : s.WarmedH U.vm := State.WarmedH.trans hW0 hW
  have hcl : s.vm.findClass cls = some ce.cls := by
    have h9 := hO.cls
    rw [hvm] at h9
    exact h9
  have hall : s.sameButNew ({ U with vm := s.vm } : State) locs mc ms := by
    subst hA
    obtain ⟨e1, e2⟩ := hsame
    rw [State.setFrames_setFrames] at e1
    have h2 : (T.setVm s.vm).sameButNew ({ U with vm := s.vm } : State) [] (0 + 1) (0 + 6) := ⟨e1, e2⟩
    have h3 := X.same.trans h2
    rw [List.append_nil] at h3
    exact h3.mono hc hs
  refine ⟨U, ?_, .threw T.heap.size, hrun, hend, Or.inr ⟨T.heap.size, rfl, cls, ce, locs, hx U hWs.alike f1 (fun q hq => f2 q hq (fun z hz => nomatch hz)), hce, hO.vm, hcl, hWs, hall, hf⟩⟩
  refine st1 _ ?_
  show Steps p.tables e below (T1.setTop { method := m, pc := pc + 3, locals := ls, stack := .ref T.heap.size :: rest, locked := none }) _
  jvm_step X₁.here [X₁.here.top, hexec, d3', Value.category]
  exact X₁.ldcString hexec (own := own) (text := text) (index := is) (a := sa) hown' hstr'.1 hstr'.2
    (g := { method := m, pc := pc + 4, locals := ls, stack := .ref T.heap.size :: .ref T.heap.size :: rest, locked := none }) rfl d4' _ hsteps
/-- 'throw new E("text")', the text by a wide index -/
theorem vx_throwSW {cc : ByteArray} {pc : Nat} (hexec : p.tables.exec = Jvm.exec) (hb : c.code = cc) (hl : l.stackTraces = false) {own cls text : String} {names : List String} {ik is ic mc ms sa : Nat} {A : Nat → Prop}
    (hown : s.vm.findClass own = some m.cls) (hcls : Bundle.fit cls = true) (hnames : ∀ n ∈ names, Bundle.fit n = true)
    (hk : (Cond.classLink own ik cls).before args s = true) (hini : (Cond.initialized cls).before args s = true) (hstr : vk_R own is text sa s) (hat : ∀ w ∈ vx_atS own ic cls names, w.before args s = true)
    (hgood : ∀ w ∈ Cond.classLink own ik cls :: Cond.initialized cls :: vx_atS own ic cls names, vx_ot w = true)
    (hU : vx_Zq Bundle.tN "UNASSIGNED_STACK" Bundle.steD A s s.heap) (hN : vx_Zq Bundle.tN "SUPPRESSED_SENTINEL" Bundle.listD A s s.heap) (hS : va_S A s.heap H locs) (hsize : ls.size = c.maxLocals)
    (d0 : decode cc pc = .ok (.new ik, 3)) (d3 : decode cc (pc + 3) = .ok (.dup, 1)) (d4 : decode cc (pc + 4) = .ok (.ldc_w is, 3)) (d7 : decode cc (pc + 7) = .ok (.invokespecial ic, 3)) (d10 : decode cc (pc + 10) = .ok (.athrow, 1))
    (hout : ∀ x ∈ c.exceptionTable.toList, covers x (pc + 10) = false)
    (hRframes : names.length + 3 < R.frames) (hRlocals : (rest.map fun v => v.category).sum + (13 * (names.length + 1) + 43) ≤ R.locals) (hRcells : cells + 1 ≤ R.cells) (hRslots : slots + 6 ≤ R.slots) (hlocks : meth.locks = false)
    (hx : ∀ t : State, s.vm.Alike t.vm → H.size ≤ t.heap.size → (∀ q : Nat, q < H.size → t.heap[q]? = H[q]?) → XC cls s t)
    (hf : ∀ z ∈ locs, free z.base) (hc : cells + 1 ≤ mc) (hs : slots + 6 ≤ ms) :
    W p l e R s m args below meth c H locs cells slots (vx_MQ below Qc XC args s mc ms free) (F0 m pc ls rest) := by
  intro T hT X
  have htr : e.platform.stackTraces = false := (show e.platform.stackTraces = l.stackTraces by rw [X.admits.platform]).trans hl
  have Y := vx_rebase X (R' := { frames := R.frames, locals := R.locals, cells := 1, slots := 6 }) (Nat.le_refl _) (Nat.le_refl _) hRcells hRslots
  obtain ⟨s', hA⟩ : ∃ z, z = (T.setVm s.vm).setFrames (.invoking m args :: below) := ⟨_, rfl⟩
  rw [← hA] at Y
  have hvm : s'.vm = s.vm := by rw [hA]; rfl
  have hhp : s'.heap = H := by rw [hA]; exact hT
  have hW0 : s.WarmedH s'.vm := by rw [hvm]; exact State.WarmedH.refl s
  have hat' : ∀ w ∈ vx_atS own ic cls names, w.before args s' = true := fun w hw => vx_ot_at hW0 hvm.symm (hgood w (List.mem_cons_of_mem _ (List.mem_cons_of_mem _ hw))) (hat w hw)
  have hk' : (Cond.classLink own ik cls).before args s' = true := vx_ot_at hW0 hvm.symm (hgood _ List.mem_cons_self) hk
  have hini' : (Cond.initialized cls).before args s' = true := vx_ot_at hW0 hvm.symm (hgood _ (List.mem_cons_of_mem _ List.mem_cons_self)) hini
  have hU' : vx_Zq Bundle.tN "UNASSIGNED_STACK" Bundle.steD A s' s'.heap := by rw [hhp]; exact vx_Zq.moved hW0.alike (hU.kept hS.2.1)
  have hN' : vx_Zq Bundle.tN "SUPPRESSED_SENTINEL" Bundle.listD A s' s'.heap := by rw [hhp]; exact vx_Zq.moved hW0.alike (hN.kept hS.2.1)
  have h : ∀ w ∈ Bundle.ownAtoms own ic cls names, w.before args s' = true := vx_own hat' (vx_isRefq hU'.1) (vx_isRefq hN'.1) hU'.2.word hN'.2.word
  have hown' : s'.vm.findClass own = some m.cls := by rw [hvm]; exact hown
  have hins : (Cond.instantiable cls 6).before args s' = true := h _ (by simp [Bundle.ownAtoms])
  obtain ⟨vm₁, cX, kX, hfX, hkX, -, -, X₁, st1⟩ := Y.newCold hexec (own := own) (C := cls) (index := ik) (n := 6) hown' hk' hins hini'
    (g := F0 m pc ls rest) rfl (by rw [hb]; exact d0) (Nat.le_refl _) (Nat.le_refl _)
  generalize hT1 : (T.setVm vm₁).pushCell { cls := cX, slots := kX.instanceTypes.map defaultValue, vm := .none } = T1 at X₁ st1
  have hcat : (Value.ref T.heap.size).category = 1 := rfl
  have hcellA : T1.heap[T.heap.size]? = some (freshCell cX kX) := by rw [← hT1]; exact State.heap_pushCell_size _ _
  have d3' : decode c.code (pc + 3) = .ok (.dup, 1) := by rw [hb]; exact d3
  have d4' : decode c.code (pc + 4) = .ok (.ldc_w is, 3) := by rw [hb]; exact d4
  have hstr' : vk_R own is text sa s' := vk_R.warm hW0 hstr
  obtain ⟨U, hsteps, hrun, hend, hW, hsame, ce, hce, hO⟩ := X₁.ctorThrowS hexec htr (own := own) (cls := cls) (names := names) (ic := ic) hown' hcls hnames h (fun x hx => nomatch hx) hfX hkX hcellA (by rw [hhp, hT]; exact Nat.le_refl _) (msg := .ref sa) rfl
    (g := { method := m, pc := pc + 7, locals := ls, stack := .ref sa :: .ref T.heap.size :: .ref T.heap.size :: rest, locked := none }) rfl hsize rfl rfl (rest := rest) rfl
    (by rw [hb]; exact d7) (by rw [hb]; exact d10) hout hRframes (by simp only [List.map_cons, List.sum_cons, hcat]; omega) hlocks
  obtain ⟨f1, f2⟩ := vx_frame hsame
  rw [hhp] at f1 f2
  have hWs : s.WarmedH U.vm := State.WarmedH.trans hW0 hW
  have hcl : s.vm.findClass cls = some ce.cls := by
    have h9 := hO.cls
    rw [hvm] at h9
    exact h9
  have hall : s.sameButNew ({ U with vm := s.vm } : State) locs mc ms := by
    subst hA
    obtain ⟨e1, e2⟩ := hsame
    rw [State.setFrames_setFrames] at e1
    have h2 : (T.setVm s.vm).sameButNew ({ U with vm := s.vm } : State) [] (0 + 1) (0 + 6) := ⟨e1, e2⟩
    have h3 := X.same.trans h2
    rw [List.append_nil] at h3
    exact h3.mono hc hs
  refine ⟨U, ?_, .threw T.heap.size, hrun, hend, Or.inr ⟨T.heap.size, rfl, cls, ce, locs, hx U hWs.alike f1 (fun q hq => f2 q hq (fun z hz => nomatch hz)), hce, hO.vm, hcl, hWs, hall, hf⟩⟩
  refine st1 _ ?_
  show Steps p.tables e below (T1.setTop { method := m, pc := pc + 3, locals := ls, stack := .ref T.heap.size :: rest, locked := none }) _
  jvm_step X₁.here [X₁.here.top, hexec, d3', Value.category]
  exact X₁.ldcStringW hexec (own := own) (text := text) (index := is) (a := sa) hown' hstr'.1 hstr'.2
    (g := { method := m, pc := pc + 4, locals := ls, stack := .ref T.heap.size :: .ref T.heap.size :: rest, locked := none }) rfl d4' _ hsteps
end Ends
section Bodies
variable {l : Launch}
theorem vx_ofW {y : MethodName} {ws ws' : List Cond} {rm : Room} {Pc : Array Value → State → Prop} {Qc : Array Value → State → Outcome → State → Prop} {XC : String → State → State → Prop} {mc ms : Nat} {free : Addr → Prop} {cc : ByteArray} {maxL : Nat} {ret : Option FieldType}
    (hy : plainName y.cls = true) (hw : ws = Cond.code y cc maxL ret :: ws')
    (body : ∀ p e s m args below meth c s₁, BodyLoose p l y (headSpec ws rm) cc maxL ret e s m args below meth c s₁ → c.maxLocals = maxL → (∀ x ∈ c.exceptionTable.toList, False) → Pc args s →
      W p l e (headSpec ws rm).room s m args below meth c s.heap [] 0 0 (vx_MQ below Qc XC args s mc ms free) (entryFrame m args maxL)) : vx_Met l y ws rm Pc Qc XC mc ms free := by
  refine MetFree.of_bodyS (code := cc) (maxLocals := maxL) (ret := ret) hy ?_ ?_
  · intro args s m h hn
    obtain ⟨meth, c, h1, h2, h3, h4, h5, h6, -, -⟩ := Cond.code_spec hn (atoms_spec (ws := ws) h _ (by rw [hw]; exact List.mem_cons_self))
    exact ⟨meth, c, h1, h2, h3, h4, h5, h6⟩
  · intro p e s m args below meth c s₁ B hml hP _
    have hh0 : s₁.heap = s.heap := by rw [B.state]; rfl
    have ht : ∀ x ∈ c.exceptionTable.toList, False := by
      obtain ⟨meth9, c9, h1, h2, -, -, -, -, h7, -⟩ := Cond.code_spec B.named (atoms_spec (ws := ws) B.pre _ (by rw [hw]; exact List.mem_cons_self))
      cases Option.some.inj (h1.symm.trans B.method)
      cases Option.some.inj (h2.symm.trans (Stand.of_body B).code)
      intro x hx
      rw [Array.isEmpty_iff.mp h7] at hx
      cases hx
    obtain ⟨t, a1, o, b1, b2, b3⟩ := body p e s m args below meth c s₁ B hml ht hP s₁ hh0 (Stand.of_body B)
    exact ⟨t, o, a1, b1, b2, b3⟩
/-- the table of a body with handlers -/
theorem vx_table {p : Program} {x y : MethodName} {S : Spec} {cc bytes : ByteArray} {maxL maxL' : Nat} {ret ret' : Option FieldType} {e : Env} {s s₁ : State} {m : MethodId} {args : Array Value} {below : List Frame} {meth : Method} {c : Code} {hh : List (Nat × Nat × Nat × Nat)}
    (B : BodyLoose p l y S cc maxL ret e s m args below meth c s₁) (h : (Cond.codeWith y bytes maxL' ret' hh).before args s = true) : c.exceptionTable.toList = tableOf hh := by
  obtain ⟨m9, meth9, c9, hn9, h1, h2, -, -, h6, -⟩ := Cond.codeWith_spec h
  cases Option.some.inj (hn9.symm.trans B.named)
  cases Option.some.inj (h1.symm.trans B.method)
  cases Option.some.inj (h2.symm.trans (Stand.of_body B).code)
  rw [← h6, table_eq]
end Bodies
end VXA
/-! ===== END ===== -/
/-! ===== BEGIN a static call of a method with an exception table ===== -/
section VXS
variable {p : Program} {l : Launch} {e : Env} {R : Room} {s : State} {m : MethodId} {args : Array Value} {below : List Frame} {meth : Method} {c : Code} {T : State} {H : Heap} {locs : List Loc} {cells slots : Nat}
abbrev vx_CSW (R : Room) (s : State) (args : Array Value) (own : String) (index : Nat) (y : MethodName) (bytes : ByteArray) (maxL : Nat) (ret : Option FieldType) (hh : List (Nat × Nat × Nat × Nat)) (ws : List Cond) (rm : Room) (mc ms n : Nat) : Prop :=
  (rm.cells = mc ∧ rm.slots = ms ∧ rm.frames + 1 ≤ R.frames ∧ 8 + (maxL + 11) + rm.locals ≤ R.locals ∧ (∀ w ∈ ws, ∀ (a' : Array Value) (U : State), s.WarmedH U.vm → w.before a' U = true) ∧ Cond.codeWith y bytes maxL ret hh ∈ ws) ∧
  (Cond.codeWith y bytes maxL ret hh).before args s = true ∧ (Cond.initialized y.cls).before args s = true ∧ (y.cls ≠ "java/lang/invoke/MethodHandle" ∧ y.cls ≠ "java/lang/invoke/VarHandle") ∧
  (∀ sig, parseMethodDescriptor y.desc = some sig → n = sig.parameters.length) ∧ (Cond.methodLink own index y).before args s = true ∧ (Cond.static y).before args s = true
theorem vx_cwSW {own : String} {index maxL mc ms : Nat} {y : MethodName} {bytes : ByteArray} {ret : Option FieldType} {hh : List (Nat × Nat × Nat × Nat)} {Ts ws ws' : List Cond} {rm : Room} (n : Nat) (ht : ∀ w ∈ Ts, w.before args s = true) (hT : GoodIn Ts (va_wsS own index y ws)) (hw : ws = Cond.codeWith y bytes maxL ret hh :: ws') (hrc : rm.cells = mc) (hrs : rm.slots = ms)
    (hd : y.cls ≠ "java/lang/invoke/MethodHandle" ∧ y.cls ≠ "java/lang/invoke/VarHandle" ∧ (parseMethodDescriptor y.desc).map (fun d => d.parameters.length) = some n) (hR : rm.frames + 1 ≤ R.frames ∧ 8 + (maxL + 11) + rm.locals ≤ R.locals) :
    vx_CSW R s args own index y bytes maxL ret hh ws rm mc ms n := by
  have ok : ∀ w ∈ va_wsS own index y ws, w.before args s = true := fun w h => ht w (hT w h).1
  have hG : GoodIn Ts ws := fun w h => hT w (by unfold va_wsS; exact List.mem_append_right _ h)
  have hc : Cond.codeWith y bytes maxL ret hh ∈ ws := by rw [hw]; exact List.mem_cons_self
  refine ⟨⟨hrc, hrs, hR.1, hR.2, pay_in ht hG, hc⟩, ht _ (hG _ hc).1, ok _ (by simp [va_wsS]), ⟨hd.1, hd.2.1⟩, fun sig h => ?_, ok _ (by simp [va_wsS]), ok _ (by simp [va_wsS])⟩
  have h2 := hd.2.2
  rw [h] at h2
  exact (Option.some.inj h2).symm
theorem vx_callSW (X : Stand p l e R s m args below meth c T locs cells slots) (hexec : p.tables.exec = Jvm.exec) {own : String} {index : Nat} {y : MethodName} {bytes : ByteArray} {maxL : Nat} {ret : Option FieldType} {hh : List (Nat × Nat × Nat × Nat)}
    (hown : s.vm.findClass own = some m.cls) (hlink : (Cond.methodLink own index y).before args s = true) (hstat : (Cond.static y).before args s = true) (hinit : (Cond.initialized y.cls).before args s = true)
    (hcode : (Cond.codeWith y bytes maxL ret hh).before args s = true) (hy : y.cls ≠ "java/lang/invoke/MethodHandle" ∧ y.cls ≠ "java/lang/invoke/VarHandle")
    {W9 : Nat} {Pre : Pt → Array Value → Prop} {Post : Pt → Array Value → Option Value → Pt → Prop} (hK : Back l R p e below s args y 3 W9 Pre Post)
    {g : JFrame} (hg : g.method = m) (hsize : g.locals.size = c.maxLocals) {argsL rest : List Value} (hlen : ∀ sig, parseMethodDescriptor y.desc = some sig → argsL.length = sig.parameters.length)
    (hstack : g.stack = argsL.reverse ++ rest) (hW : 2 * g.monitorRoom + (rest.map fun v => v.category).sum ≤ W9) (hdg : decode c.code g.pc = .ok (.invokestatic index, 3))
    (hpre : ∀ vm₁, s.WarmedH vm₁ → Pre ⟨T.setVm vm₁, locs, cells, slots⟩ argsL.toArray) :
    ∃ (v : Option Value) (vm₁ : Vm) (B : Pt), s.WarmedH vm₁ ∧ Stand p l e R s m args below meth c B.U B.locs B.cells B.slots ∧ Post ⟨T.setVm vm₁, locs, cells, slots⟩ argsL.toArray v B ∧
      ∀ target, Steps p.tables e below (B.U.setTop { g with pc := g.pc + 3, stack := v.toList ++ rest }) target → Steps p.tables e below (T.setTop g) target := by
  obtain ⟨mk, methM, cM, hnamed, hmethM, -, -, -, -, -, -, hsigM⟩ := Cond.codeWith_spec hcode
  have hstatic : methM.isStatic = true := Cond.static_spec hnamed hmethM hstat
  obtain ⟨kP, hkP, -⟩ := className_of_methodNamed hnamed
  have hinitP : kP.init = .initialized := Cond.initialized_spec (findClass_of_methodNamed hnamed) hkP hinit
  obtain ⟨vm₁, X₁, hstep₁⟩ := X.invokestatic hexec hown hlink hnamed hmethM hstatic hkP hinitP hy (g := g) hg (argsL := argsL) (rest := rest) (hlen _ hsigM) hstack hdg
  obtain ⟨v, B, X', hpost, hsteps⟩ := hK m meth c ⟨T.setVm vm₁, locs, cells, slots⟩ { g with stack := rest } (.invokestatic index) mk argsL.toArray X₁ hg hsize hdg hW (X₁.named hnamed) (hpre vm₁ X₁.warmed)
  exact ⟨v, vm₁, B, X₁.warmed, X', hpost, fun target h => hstep₁ _ fun acts => by rw [doInvoke_state]; exact hsteps.trans h⟩
theorem vx_runSW {y : MethodName} {bytes cc : ByteArray} {maxL nL mc ms n index : Nat} {ret : Option FieldType} {hh : List (Nat × Nat × Nat × Nat)} {ws : List Cond} {rm : Room} {Pc : Array Value → State → Prop} {Qc : Array Value → State → Outcome → State → Prop} {free : Addr → Prop} {Ts : List Cond} {own : String} {As rest : List Value} {g : JFrame}
    (S : CallFix p m c cc nL s args Ts own) (hM : Met l y ws rm Pc Qc mc ms free) (cw : vx_CSW R s args own index y bytes maxL ret hh ws rm mc ms n) (hp : PreS s H Pc As)
    (hg : g.method = m) (hn : As.length = n) (hsize : g.locals.size = nL) (hstack : g.stack = As.reverse ++ rest) (hW : 2 * g.monitorRoom + (rest.map fun v => v.category).sum ≤ 8) (hdg : decode cc g.pc = .ok (.invokestatic index, 3)) (hf : cells + mc ≤ R.cells ∧ slots + ms ≤ R.slots) :
    va_Run p l e R s m args below meth c H locs cells slots mc ms g rest (Qc As.toArray) (free) := by
  obtain ⟨⟨hrc, hrs, hfr, hlo, hws, hcw⟩, hcode, hini, hy, hlen, hl, hstt⟩ := cw
  have hK : Back l R p e below s args y 3 8 (PreOf R mc ms Pc) (PostOf Qc mc ms free) := va_backW (hh := hh) (bytes := bytes) (maxL := maxL) (ret := ret) hM hp.1 hrc hrs hfr hlo hws hcw (fun a' U hW => word_at hW (Or.inl (by first | rfl | simp [Cond.onTables, Cond.keeps, Cond.steady])) hini)
  obtain ⟨hx, hb, hml, ho, -⟩ := S
  intro T hT X
  obtain ⟨v, vm₁, ⟨U', l2, c2, s2⟩, hW₁, X', ⟨g', mk, t, L, e1, e2, hq, h1, hL, h2, h3⟩, st⟩ := vx_callSW X hx (hh := hh) (bytes := bytes) (maxL := maxL) (ret := ret) ho hl hstt hini hcode hy hK hg (hsize.trans hml.symm) (argsL := As) (rest := rest) (fun sig h => hn.trans (hlen sig h)) hstack hW (by rw [hb]; exact hdg)
    (fun vm₁ hW₁ => ⟨hf.1, hf.2, hp.2 (T.setVm vm₁) hT hW₁⟩)
  dsimp only [Pt.U, Pt.locs, Pt.cells, Pt.slots] at X' e1 e2 h1 h2 h3 st
  subst h1; subst h2; subst h3
  exact ⟨v, (T.setVm vm₁).calling g' mk As.toArray, t, U', L, hT, X', hL, e1, e2, hq, st⟩
/-- not caught here, past rows that name other classes: it goes on to the caller -/
theorem vx_outP {p : Program} {l : Launch} {e : Env} {R : Room} {s : State} {m : MethodId} {args : Array Value} {below : List Frame} {meth : Method} {c : Code} {H : Heap} {locs : List Loc} {cells slots : Nat} {free : Addr → Prop} {ls : Array Slot} {rest : List Value} {Qc : Array Value → State → Outcome → State → Prop} {XC : String → State → State → Prop}
    {pc : Nat} {own E : String} {ce : Cell} {q : Addr} {mc ms : Nat} (hown : s.vm.findClass own = some m.cls) (hlocks : meth.locks = false)
    (hpass : ∀ z ∈ c.exceptionTable.toList, covers z pc = false ∨ (z.catchType ≠ 0 ∧ ∃ nm : String, (Cond.classLink own z.catchType nm).before args s = true ∧ va_Nc E nm s)) (hcell : H[q]? = some ce) (hv : ce.vm = .none) (hcl : s.vm.findClass E = some ce.cls)
    (hx : ∀ t : State, t.heap = H → s.vm.Alike t.vm → XC E s t) (hf : ∀ z ∈ locs, free z.base) (hc : cells ≤ mc) (hs : slots ≤ ms) :
    vx_W p l e R s m args below meth c H locs cells slots (vx_MQ below Qc XC args s mc ms free) (F0 m pc ls rest) q := by
  intro T hT X
  have hpl : e.platform.magicAccessors = ({} : Platform).magicAccessors := by rw [X.admits.platform]
  obtain ⟨vm', hW', X', st⟩ := X.outThrough hlocks q (g := F0 m pc ls rest) rfl rfl rfl (cell := ce) (by rw [hT]; exact hcell) (by rw [hv]; rfl)
    (by obtain ⟨k9, h9, -⟩ := Vm.findClass_spec hcl; exact ⟨k9, h9⟩) (fun z hz => by
      rcases hpass z hz with h | ⟨hz0, nm, hl1, hn1⟩
      · exact Or.inl h
      · obtain ⟨c6, hc6, hcl6⟩ := Cond.classLink_spec hown hl1 e.platform hpl
        obtain ⟨a8, b8, h1, h2, h3⟩ := hn1
        cases Option.some.inj (h1.symm.trans hcl)
        cases Option.some.inj (h2.symm.trans hc6)
        exact Or.inr ⟨hz0, _, hcl6, h3⟩)
  obtain ⟨g₀, hfr⟩ := X'.frames_eq
  have hcell9 : ((T.setVm vm').setFrames (.throwing q :: below)).heap[q]? = some ce := by
    show T.heap[q]? = some ce
    rw [hT]; exact hcell
  have hend : Ended ((T.setVm vm').setFrames (.throwing q :: below)) below (.threw q) := State.frames_setFrames _ (State.cur_lt_of_frames hfr)
  refine ⟨(T.setVm vm').setFrames (.throwing q :: below), ?_, .threw q, X'.here.running, hend, Or.inr ⟨q, rfl, E, ce, locs, hx _ hT (X'.ends _).1.alike, hcell9, hv, hcl, (X'.ends _).1, (X'.ends _).2.mono hc hs, hf⟩⟩
  rw [X.pushThrowing_eq]
  exact st
/-- a thing of a world lies in the heap -/
theorem vx_lt {D : va_G} {cl : List vw_C} {ws : va_W} {H1 : Heap} (h : va_P D cl ws H1) {k : Nat} {q : Nat × va_E} (hk : ws[k]? = some q) : q.1 < H1.size := (h k q hk).lt
end VXS
/-! ===== END ===== -/
/-! ===== BEGIN methods with a table of their own: called by a name, returning or throwing ===== -/
section VXH
/-! vx_backW, vx_callVX, vx_callSX, vx_callVW, vx_runVW, vx_runVX, vx_runSX, vx_ofWH follow the same proofs as their sisters above (Free/Laws.lean, Shelf42/LK1.lean); vx_outP calls Shelf42/NT130.lean (outThrough). -/
section
variable {l : Launch} {R : Room} {p : Program} {e : Env} {below : List Frame} {s : State} {sargs : Array Value} {y : MethodName} {len W9 : Nat}
theorem vx_backW {ws : List Cond} {rm : Room} {Pc : Array Value → State → Prop} {Qc : Array Value → State → Outcome → State → Prop} {XC : String → State → State → Prop} {mc ms : Nat} {free : Addr → Prop} {bytes : ByteArray} {maxL : Nat} {ret : Option FieldType} {hh : List (Nat × Nat × Nat × Nat)}
    (hM : vx_Met l y ws rm Pc Qc XC mc ms free) (hblind : FrameBlind Pc) (hrc : rm.cells = mc) (hrs : rm.slots = ms)
    (hframes : rm.frames + 1 ≤ R.frames) (hlocals : W9 + (maxL + 11) + rm.locals ≤ R.locals)
    (hws : ∀ w ∈ ws, ∀ a' U, s.WarmedH U.vm → w.before a' U = true) (hcode : Cond.codeWith y bytes maxL ret hh ∈ ws) (hinit : ∀ a' U, s.WarmedH U.vm → (Cond.initialized y.cls).before a' U = true) :
    vx_Back l R p e below s sargs y len W9 (PreOf R mc ms Pc) (PostOf Qc mc ms free) (vx_Post XC mc ms free) := by
  intro m meth c A g ig mk a X hg hsize hdg hW hn hp
  have h1 : (headSpec ws rm).pre.before a A.U = true := atoms_intro fun w hw => hws w hw _ _ X.warmed
  have h2 : (Cond.codeWith y bytes maxL ret hh).before a A.U = true := hws _ hcode _ _ X.warmed
  have h3 : (Cond.initialized y.cls).before a A.U = true := hinit _ _ X.warmed
  have h4 : A.cells + (headSpec ws rm).room.cells ≤ R.cells := by rw [show (headSpec ws rm).room.cells = mc from hrc]; exact hp.1
  have h5 : A.slots + (headSpec ws rm).room.slots ≤ R.slots := by rw [show (headSpec ws rm).room.slots = ms from hrs]; exact hp.2.1
  have hPc : Pc a (A.U.calling g mk a) := hblind _ _ _ _ hp.2.2
  obtain ⟨U, Ls, c0, s0⟩ := A
  dsimp only [Pt.U, Pt.locs, Pt.cells, Pt.slots] at h1 h2 h3 h4 h5 X hn hPc ⊢
  obtain ⟨m9, methY, cY, hn9, hmY, hcY, -, hlY, -⟩ := Cond.codeWith_spec h2
  cases Option.some.inj (hn9.symm.trans hn)
  obtain ⟨kY, hkY, -⟩ := className_of_methodNamed hn
  have hinitY : kY.init = .initialized := Cond.initialized_spec (findClass_of_methodNamed hn) hkY h3
  have h : At U g.method c below := by rw [hg]; exact X.here
  have hlocals9 : W9 + (maxL + 11) + (headSpec ws rm).room.locals ≤ R.locals := hlocals
  have happ : (headSpec ws rm).appliesLoose y e.platform (U.calling g mk a) = true :=
    Spec.appliesLoose_calling (g := g) h hdg hn hkY hinitY
      (X.room_calling (g := g) (R' := (headSpec ws rm).room) hsize hmY hcY hframes (by rw [hlY]; omega) h4 h5) h1
  obtain ⟨mid, hmid⟩ := h.above
  have hfr : (U.setTop g).frames = (.java g :: mid) ++ below := by rw [State.frames_setTop' g h.top, hmid]; rfl
  obtain ⟨o, s₂, hsteps, -, hend, hq⟩ := Steps.callFree hM p X.admits X.cas X.clock (acts := []) hfr happ hPc trivial
  have hq' : vx_Q Qc XC mc ms free a (U.calling g mk a) o s₂ := hq
  rw [State.frames_setTop' g h.top] at hend
  obtain ⟨g₀, hg0⟩ := Option.isSome_iff_exists.mp h.top
  obtain ⟨r, hr⟩ := State.topJava?_eq_some.mp hg0
  have hr' : (({ U with heap := s₂.heap, slotsUsed := s₂.slotsUsed } : State).setVm s₂.vm).frames = .java g₀ :: r := hr
  rcases hq' with ⟨hqc, L, hfe, hL⟩ | ⟨q, rfl, E, ce, L, hx, hce, hcv, hcl, hW₂, hsm, hL⟩
  · obtain ⟨⟨v, rfl⟩, hW₂, e2, q2, q3, q4, q5, q6⟩ := id hfe
    have e3 : s₂ = ({ (U.calling g mk a).setFrames s₂.frames with heap := s₂.heap, slotsUsed := s₂.slotsUsed } : State).setVm s₂.vm := by
      have : s₂ = ({ s₂ with vm := (U.calling g mk a).vm } : State).setVm s₂.vm := rfl
      rw [e2] at this
      exact this
    obtain ⟨c₂, i₂, len₂, hc₂, hd₂, hf₂⟩ := hend
    have hW' : U.WarmedH s₂.vm := hW₂
    have hcc : c₂ = c := by
      have h1 : s₂.code? g.method = U.code? g.method := by
        rw [State.code?_eq, State.code?_eq, hW'.alike.method?]
      exact Option.some.inj (hc₂.symm.trans (h1.trans h.code))
    subst hcc
    have hlen : len₂ = len := by rw [hdg] at hd₂; cases hd₂; rfl
    subst hlen
    have hs₂ : s₂ = (({ U with heap := s₂.heap, slotsUsed := s₂.slotsUsed } : State).setVm s₂.vm).setTop { g with pc := g.pc + len₂, stack := v.toList ++ g.stack } := by
      refine e3.trans ?_
      rw [hf₂, State.calling_eq h.top, State.setFrames_setFrames, State.setTop_of_frames _ hr', hr]
      rfl
    have hsame : U.sameButNew ({ U with heap := s₂.heap, slotsUsed := s₂.slotsUsed } : State) L mc ms := by
      refine ⟨?_, q2, q3, q4, q5, q6⟩
      obtain ⟨t, ht, -⟩ := State.frames_cons hr
      show ({ U with heap := s₂.heap, slotsUsed := s₂.slotsUsed } : State) = { U.setFrames U.frames with heap := s₂.heap, slotsUsed := s₂.slotsUsed }
      rw [State.setFrames_self ht]
    subst hg
    refine Or.inl ⟨v, ⟨(({ U with heap := s₂.heap, slotsUsed := s₂.slotsUsed } : State).setVm s₂.vm), Ls ++ L, c0 + mc, s0 + ms⟩,
      ⟨X.admits, X.cas, X.clock, X.frames, X.room, X.hears, X.method, X.code, (X.here.setHeapUsed s₂.heap s₂.slotsUsed).setVm hW'.alike, X.tail, State.WarmedH.trans X.warmed hW', X.limits, X.bytes, X.same.trans (hsame.setVm s.vm)⟩,
      ⟨g, mk, s₂, L, rfl, rfl, hqc, rfl, hL, rfl, rfl⟩, ?_⟩
    show Steps p.tables e below _ ((({ U with heap := s₂.heap, slotsUsed := s₂.slotsUsed } : State).setVm s₂.vm).setTop { g with pc := g.pc + len₂, stack := v.toList ++ g.stack })
    rw [← hs₂]
    exact hsteps
  · obtain ⟨e2, q2, q3, q4, q5, q6⟩ := id hsm
    have e3 : s₂ = ({ (U.calling g mk a).setFrames s₂.frames with heap := s₂.heap, slotsUsed := s₂.slotsUsed } : State).setVm s₂.vm := by
      have : s₂ = ({ s₂ with vm := (U.calling g mk a).vm } : State).setVm s₂.vm := rfl
      rw [e2] at this
      exact this
    have hf₂ : s₂.frames = .throwing q :: .java g :: U.frames.tail := hend
    have hW' : U.WarmedH s₂.vm := hW₂
    have hs₂ : s₂ = ((({ U with heap := s₂.heap, slotsUsed := s₂.slotsUsed } : State).setVm s₂.vm).setTop g).pushFrame (.throwing q) := by
      refine e3.trans ?_
      rw [hf₂, State.calling_eq h.top, State.setFrames_setFrames, State.pushFrame, State.frames_setTop _ hr', State.setTop_of_frames _ hr', State.setFrames_setFrames, hr]
      rfl
    have hsame : U.sameButNew ({ U with heap := s₂.heap, slotsUsed := s₂.slotsUsed } : State) L mc ms := by
      refine ⟨?_, q2, q3, q4, q5, q6⟩
      obtain ⟨t, ht, -⟩ := State.frames_cons hr
      show ({ U with heap := s₂.heap, slotsUsed := s₂.slotsUsed } : State) = { U.setFrames U.frames with heap := s₂.heap, slotsUsed := s₂.slotsUsed }
      rw [State.setFrames_self ht]
    subst hg
    refine Or.inr ⟨q, ⟨(({ U with heap := s₂.heap, slotsUsed := s₂.slotsUsed } : State).setVm s₂.vm), Ls ++ L, c0 + mc, s0 + ms⟩,
      ⟨X.admits, X.cas, X.clock, X.frames, X.room, X.hears, X.method, X.code, (X.here.setHeapUsed s₂.heap s₂.slotsUsed).setVm hW'.alike, X.tail, State.WarmedH.trans X.warmed hW', X.limits, X.bytes, X.same.trans (hsame.setVm s.vm)⟩,
      ⟨g, mk, s₂, L, E, ce, rfl, rfl, hx, hce, hcv, hcl, rfl, hL, rfl, rfl⟩, ?_⟩
    show Steps p.tables e below _ (((({ U with heap := s₂.heap, slotsUsed := s₂.slotsUsed } : State).setVm s₂.vm).setTop g).pushFrame (.throwing q))
    rw [← hs₂]
    exact hsteps
end
variable {p : Program} {l : Launch} {e : Env} {R : Room} {s : State} {m : MethodId} {args : Array Value} {below : List Frame} {meth : Method} {c : Code} {T : State} {H : Heap} {locs : List Loc} {cells slots : Nat}
theorem vx_callVX (X : Stand p l e R s m args below meth c T locs cells slots) (hexec : p.tables.exec = Jvm.exec) {own C : String} {index : Nat} {y : MethodName} {bytes : ByteArray} {maxL : Nat} {ret : Option FieldType} {hh : List (Nat × Nat × Nat × Nat)}
    (hown : s.vm.findClass own = some m.cls) (hlink : (Cond.methodLink own index y).before args s = true) (hinst : (Cond.instanceMethod y).before args s = true) (hsel : (Cond.selects C y y).before args s = true)
    (hcode : (Cond.codeWith y bytes maxL ret hh).before args s = true) (hy : y.cls ≠ "java/lang/invoke/MethodHandle" ∧ y.cls ≠ "java/lang/invoke/VarHandle")
    {W9 : Nat} {Pre : Pt → Array Value → Prop} {Post : Pt → Array Value → Option Value → Pt → Prop} {PostX : Pt → Array Value → Addr → Pt → Prop} (hK : vx_Back l R p e below s args y 3 W9 Pre Post PostX)
    {b : Addr} {cellB : Cell} (hcell : T.heap[b]? = some cellB) (hobj : cellB.vm.isStatics = false) (hcls : s.vm.findClass C = some cellB.cls)
    {g : JFrame} (hg : g.method = m) (hsize : g.locals.size = c.maxLocals) {argsL rest : List Value} (hlen : ∀ sig, parseMethodDescriptor y.desc = some sig → argsL.length = sig.parameters.length)
    (hstack : g.stack = argsL.reverse ++ .ref b :: rest) (hW : 2 * g.monitorRoom + (rest.map fun v => v.category).sum ≤ W9) (hdg : decode c.code g.pc = .ok (.invokevirtual index, 3))
    (hpre : ∀ vm₁, s.WarmedH vm₁ → Pre ⟨T.setVm vm₁, locs, cells, slots⟩ (Value.ref b :: argsL).toArray) :
    (∃ (v : Option Value) (vm₁ : Vm) (B : Pt), s.WarmedH vm₁ ∧ Stand p l e R s m args below meth c B.U B.locs B.cells B.slots ∧ Post ⟨T.setVm vm₁, locs, cells, slots⟩ (Value.ref b :: argsL).toArray v B ∧
      ∀ target, Steps p.tables e below (B.U.setTop { g with pc := g.pc + 3, stack := v.toList ++ rest }) target → Steps p.tables e below (T.setTop g) target) ∨
    (∃ (q : Addr) (vm₁ : Vm) (B : Pt), s.WarmedH vm₁ ∧ Stand p l e R s m args below meth c B.U B.locs B.cells B.slots ∧ PostX ⟨T.setVm vm₁, locs, cells, slots⟩ (Value.ref b :: argsL).toArray q B ∧
      Steps p.tables e below (T.setTop g) ((B.U.setTop { g with stack := rest }).pushFrame (.throwing q))) := by
  obtain ⟨mk, methM, hnamed, hmethM, hstM, habM⟩ := Cond.instanceMethod_spec hinst
  obtain ⟨m8, methM', cM, hn8, hmethM', -, -, -, -, -, -, hsigM⟩ := Cond.codeWith_spec hcode
  cases Option.some.inj (hn8.symm.trans hnamed)
  cases hmethM.symm.trans hmethM'
  obtain ⟨c2, r2, m2, q1, q2, q3, q4, kP, hkP, hkPi⟩ := Cond.selects_spec hsel
  cases hcls.symm.trans q1
  cases (State.methodFound?_of_named hnamed hy).symm.trans q2
  cases hnamed.symm.trans q3
  have hselP : selectMethod e.platform s.vm cellB.cls mk = .method mk := by rw [Launch.admits_selectMethod X.admits]; exact q4
  obtain ⟨vm₁, X₁, hstep₁⟩ := X.invokevirtual hexec hown hlink hnamed hmethM hstM hkP hkPi hy (a := b) (cell := cellB) hcell
    (fun z h => by rw [h] at hobj; cases hobj) hselP hmethM habM hkP hkPi (g := g) hg (argsL := argsL) (rest := rest) (hlen _ hsigM) hstack hdg
  rcases hK m meth c ⟨T.setVm vm₁, locs, cells, slots⟩ { g with stack := rest } (.invokevirtual index) mk (Value.ref b :: argsL).toArray X₁ hg hsize hdg hW (X₁.named hnamed) (hpre vm₁ X₁.warmed) with ⟨v, B, X', hpost, hsteps⟩ | ⟨q, B, X', hpost, hsteps⟩
  · exact Or.inl ⟨v, vm₁, B, X₁.warmed, X', hpost, fun target h => hstep₁ _ fun acts => by rw [doInvoke_state]; exact hsteps.trans h⟩
  · exact Or.inr ⟨q, vm₁, B, X₁.warmed, X', hpost, hstep₁ _ fun acts => by rw [doInvoke_state]; exact hsteps⟩
theorem vx_callSX (X : Stand p l e R s m args below meth c T locs cells slots) (hexec : p.tables.exec = Jvm.exec) {own : String} {index : Nat} {y : MethodName} {bytes : ByteArray} {maxL : Nat} {ret : Option FieldType} {hh : List (Nat × Nat × Nat × Nat)}
    (hown : s.vm.findClass own = some m.cls) (hlink : (Cond.methodLink own index y).before args s = true) (hstat : (Cond.static y).before args s = true) (hinit : (Cond.initialized y.cls).before args s = true)
    (hcode : (Cond.codeWith y bytes maxL ret hh).before args s = true) (hy : y.cls ≠ "java/lang/invoke/MethodHandle" ∧ y.cls ≠ "java/lang/invoke/VarHandle")
    {W9 : Nat} {Pre : Pt → Array Value → Prop} {Post : Pt → Array Value → Option Value → Pt → Prop} {PostX : Pt → Array Value → Addr → Pt → Prop} (hK : vx_Back l R p e below s args y 3 W9 Pre Post PostX)
    {g : JFrame} (hg : g.method = m) (hsize : g.locals.size = c.maxLocals) {argsL rest : List Value} (hlen : ∀ sig, parseMethodDescriptor y.desc = some sig → argsL.length = sig.parameters.length)
    (hstack : g.stack = argsL.reverse ++ rest) (hW : 2 * g.monitorRoom + (rest.map fun v => v.category).sum ≤ W9) (hdg : decode c.code g.pc = .ok (.invokestatic index, 3))
    (hpre : ∀ vm₁, s.WarmedH vm₁ → Pre ⟨T.setVm vm₁, locs, cells, slots⟩ argsL.toArray) :
    (∃ (v : Option Value) (vm₁ : Vm) (B : Pt), s.WarmedH vm₁ ∧ Stand p l e R s m args below meth c B.U B.locs B.cells B.slots ∧ Post ⟨T.setVm vm₁, locs, cells, slots⟩ argsL.toArray v B ∧
      ∀ target, Steps p.tables e below (B.U.setTop { g with pc := g.pc + 3, stack := v.toList ++ rest }) target → Steps p.tables e below (T.setTop g) target) ∨
    (∃ (q : Addr) (vm₁ : Vm) (B : Pt), s.WarmedH vm₁ ∧ Stand p l e R s m args below meth c B.U B.locs B.cells B.slots ∧ PostX ⟨T.setVm vm₁, locs, cells, slots⟩ argsL.toArray q B ∧
      Steps p.tables e below (T.setTop g) ((B.U.setTop { g with stack := rest }).pushFrame (.throwing q))) := by
  obtain ⟨mk, methM, cM, hnamed, hmethM, -, -, -, -, -, -, hsigM⟩ := Cond.codeWith_spec hcode
  have hstatic : methM.isStatic = true := Cond.static_spec hnamed hmethM hstat
  obtain ⟨kP, hkP, -⟩ := className_of_methodNamed hnamed
  have hinitP : kP.init = .initialized := Cond.initialized_spec (findClass_of_methodNamed hnamed) hkP hinit
  obtain ⟨vm₁, X₁, hstep₁⟩ := X.invokestatic hexec hown hlink hnamed hmethM hstatic hkP hinitP hy (g := g) hg (argsL := argsL) (rest := rest) (hlen _ hsigM) hstack hdg
  rcases hK m meth c ⟨T.setVm vm₁, locs, cells, slots⟩ { g with stack := rest } (.invokestatic index) mk argsL.toArray X₁ hg hsize hdg hW (X₁.named hnamed) (hpre vm₁ X₁.warmed) with ⟨v, B, X', hpost, hsteps⟩ | ⟨q, B, X', hpost, hsteps⟩
  · exact Or.inl ⟨v, vm₁, B, X₁.warmed, X', hpost, fun target h => hstep₁ _ fun acts => by rw [doInvoke_state]; exact hsteps.trans h⟩
  · exact Or.inr ⟨q, vm₁, B, X₁.warmed, X', hpost, hstep₁ _ fun acts => by rw [doInvoke_state]; exact hsteps⟩
theorem vx_callVW (X : Stand p l e R s m args below meth c T locs cells slots) (hexec : p.tables.exec = Jvm.exec) {own C : String} {index : Nat} {y : MethodName} {bytes : ByteArray} {maxL : Nat} {ret : Option FieldType} {hh : List (Nat × Nat × Nat × Nat)}
    (hown : s.vm.findClass own = some m.cls) (hlink : (Cond.methodLink own index y).before args s = true) (hinst : (Cond.instanceMethod y).before args s = true) (hsel : (Cond.selects C y y).before args s = true)
    (hcode : (Cond.codeWith y bytes maxL ret hh).before args s = true) (hy : y.cls ≠ "java/lang/invoke/MethodHandle" ∧ y.cls ≠ "java/lang/invoke/VarHandle")
    {W9 : Nat} {Pre : Pt → Array Value → Prop} {Post : Pt → Array Value → Option Value → Pt → Prop} (hK : Back l R p e below s args y 3 W9 Pre Post)
    {b : Addr} {cellB : Cell} (hcell : T.heap[b]? = some cellB) (hobj : cellB.vm.isStatics = false) (hcls : s.vm.findClass C = some cellB.cls)
    {g : JFrame} (hg : g.method = m) (hsize : g.locals.size = c.maxLocals) {argsL rest : List Value} (hlen : ∀ sig, parseMethodDescriptor y.desc = some sig → argsL.length = sig.parameters.length)
    (hstack : g.stack = argsL.reverse ++ .ref b :: rest) (hW : 2 * g.monitorRoom + (rest.map fun v => v.category).sum ≤ W9) (hdg : decode c.code g.pc = .ok (.invokevirtual index, 3))
    (hpre : ∀ vm₁, s.WarmedH vm₁ → Pre ⟨T.setVm vm₁, locs, cells, slots⟩ (Value.ref b :: argsL).toArray) :
    ∃ (v : Option Value) (vm₁ : Vm) (B : Pt), s.WarmedH vm₁ ∧ Stand p l e R s m args below meth c B.U B.locs B.cells B.slots ∧ Post ⟨T.setVm vm₁, locs, cells, slots⟩ (Value.ref b :: argsL).toArray v B ∧
      ∀ target, Steps p.tables e below (B.U.setTop { g with pc := g.pc + 3, stack := v.toList ++ rest }) target → Steps p.tables e below (T.setTop g) target := by
  obtain ⟨mk, methM, hnamed, hmethM, hstM, habM⟩ := Cond.instanceMethod_spec hinst
  obtain ⟨m8, methM', cM, hn8, hmethM', -, -, -, -, -, -, hsigM⟩ := Cond.codeWith_spec hcode
  cases Option.some.inj (hn8.symm.trans hnamed)
  cases hmethM.symm.trans hmethM'
  obtain ⟨c2, r2, m2, q1, q2, q3, q4, kP, hkP, hkPi⟩ := Cond.selects_spec hsel
  cases hcls.symm.trans q1
  cases (State.methodFound?_of_named hnamed hy).symm.trans q2
  cases hnamed.symm.trans q3
  have hselP : selectMethod e.platform s.vm cellB.cls mk = .method mk := by rw [Launch.admits_selectMethod X.admits]; exact q4
  obtain ⟨vm₁, X₁, hstep₁⟩ := X.invokevirtual hexec hown hlink hnamed hmethM hstM hkP hkPi hy (a := b) (cell := cellB) hcell
    (fun z h => by rw [h] at hobj; cases hobj) hselP hmethM habM hkP hkPi (g := g) hg (argsL := argsL) (rest := rest) (hlen _ hsigM) hstack hdg
  obtain ⟨v, B, X', hpost, hsteps⟩ := hK m meth c ⟨T.setVm vm₁, locs, cells, slots⟩ { g with stack := rest } (.invokevirtual index) mk (Value.ref b :: argsL).toArray X₁ hg hsize hdg hW (X₁.named hnamed) (hpre vm₁ X₁.warmed)
  exact ⟨v, vm₁, B, X₁.warmed, X', hpost, fun target h => hstep₁ _ fun acts => by rw [doInvoke_state]; exact hsteps.trans h⟩
abbrev vx_CVW (R : Room) (s : State) (args : Array Value) (own C : String) (index : Nat) (y : MethodName) (bytes : ByteArray) (maxL : Nat) (ret : Option FieldType) (hh : List (Nat × Nat × Nat × Nat)) (ws : List Cond) (rm : Room) (mc ms n : Nat) : Prop :=
  (rm.cells = mc ∧ rm.slots = ms ∧ rm.frames + 1 ≤ R.frames ∧ 8 + (maxL + 11) + rm.locals ≤ R.locals ∧ (∀ w ∈ ws, ∀ (a' : Array Value) (U : State), s.WarmedH U.vm → w.before a' U = true) ∧ Cond.codeWith y bytes maxL ret hh ∈ ws) ∧
  (Cond.codeWith y bytes maxL ret hh).before args s = true ∧ (Cond.initialized y.cls).before args s = true ∧ (y.cls ≠ "java/lang/invoke/MethodHandle" ∧ y.cls ≠ "java/lang/invoke/VarHandle") ∧
  (∀ sig, parseMethodDescriptor y.desc = some sig → n = sig.parameters.length) ∧ (Cond.methodLink own index y).before args s = true ∧ (Cond.instanceMethod y).before args s = true ∧ (Cond.selects C y y).before args s = true
theorem vx_cwVW {own C : String} {index maxL mc ms : Nat} {y : MethodName} {bytes : ByteArray} {ret : Option FieldType} {hh : List (Nat × Nat × Nat × Nat)} {Ts ws ws' : List Cond} {rm : Room} (n : Nat) (ht : ∀ w ∈ Ts, w.before args s = true) (hT : GoodIn Ts (wsV own index C y ws)) (hw : ws = Cond.codeWith y bytes maxL ret hh :: ws') (hrc : rm.cells = mc) (hrs : rm.slots = ms)
    (hd : y.cls = C ∧ y.cls ≠ "java/lang/invoke/MethodHandle" ∧ y.cls ≠ "java/lang/invoke/VarHandle" ∧ (parseMethodDescriptor y.desc).map (fun d => d.parameters.length) = some n) (hR : rm.frames + 1 ≤ R.frames ∧ 8 + (maxL + 11) + rm.locals ≤ R.locals) :
    vx_CVW R s args own C index y bytes maxL ret hh ws rm mc ms n := by
  obtain ⟨hC, hd⟩ := hd
  subst hC
  have ok : ∀ w ∈ wsV own index y.cls y ws, w.before args s = true := fun w h => ht w (hT w h).1
  have hG : GoodIn Ts ws := fun w h => hT w (by unfold wsV; exact List.mem_append_right _ h)
  have hc : Cond.codeWith y bytes maxL ret hh ∈ ws := by rw [hw]; exact List.mem_cons_self
  refine ⟨⟨hrc, hrs, hR.1, hR.2, pay_in ht hG, hc⟩, ht _ (hG _ hc).1, ok _ (by simp [wsV]), ⟨hd.1, hd.2.1⟩, fun sig h => ?_, ok _ (by simp [wsV]), ok _ (by simp [wsV]), ok _ (by simp [wsV])⟩
  have h2 := hd.2.2
  rw [h] at h2
  exact (Option.some.inj h2).symm
theorem vx_runVW {y : MethodName} {bytes cc : ByteArray} {maxL nL mc ms n index : Nat} {ret : Option FieldType} {hh : List (Nat × Nat × Nat × Nat)} {ws : List Cond} {rm : Room} {Pc : Array Value → State → Prop} {Qc : Array Value → State → Outcome → State → Prop} {free : Addr → Prop} {Ts : List Cond} {own C : String} {b : Addr} {As rest : List Value} {g : JFrame}
    (S : CallFix p m c cc nL s args Ts own) (hM : Met l y ws rm Pc Qc mc ms free) (cw : vx_CVW R s args own C index y bytes maxL ret hh ws rm mc ms n) (hp : PreV s H C b Pc As)
    (hg : g.method = m) (hn : As.length = n) (hsize : g.locals.size = nL) (hstack : g.stack = As.reverse ++ .ref b :: rest) (hW : 2 * g.monitorRoom + (rest.map fun v => v.category).sum ≤ 8) (hdg : decode cc g.pc = .ok (.invokevirtual index, 3)) (hf : cells + mc ≤ R.cells ∧ slots + ms ≤ R.slots) :
    va_Run p l e R s m args below meth c H locs cells slots mc ms g rest (Qc (Value.ref b :: As).toArray) free := by
  obtain ⟨⟨hrc, hrs, hfr, hlo, hws, hcw⟩, hcode, hini, hy, hlen, hl, hin, hse⟩ := cw
  have hK : Back l R p e below s args y 3 8 (PreOf R mc ms Pc) (PostOf Qc mc ms free) := va_backW (hh := hh) (bytes := bytes) (maxL := maxL) (ret := ret) hM hp.1 hrc hrs hfr hlo hws hcw (fun a' U hW => word_at hW (Or.inl (by first | rfl | simp [Cond.onTables, Cond.keeps, Cond.steady])) hini)
  obtain ⟨hx, hb, hml, ho, -⟩ := S
  obtain ⟨-, ⟨cellB, hcB, hoB, hclB⟩, hPc⟩ := hp
  intro T hT X
  obtain ⟨v, vm₁, ⟨U', l2, c2, s2⟩, hW₁, X', ⟨g', mk, t, L, e1, e2, hq, h1, hL, h2, h3⟩, st⟩ := vx_callVW X hx (C := C) (hh := hh) (bytes := bytes) (maxL := maxL) (ret := ret) ho hl hin hse hcode hy hK (by rw [hT]; exact hcB) hoB hclB hg (hsize.trans hml.symm) (argsL := As) (rest := rest) (fun sig h => hn.trans (hlen sig h)) hstack hW (by rw [hb]; exact hdg)
    (fun vm₁ hW₁ => ⟨hf.1, hf.2, hPc (T.setVm vm₁) hT hW₁⟩)
  dsimp only [Pt.U, Pt.locs, Pt.cells, Pt.slots] at X' e1 e2 h1 h2 h3 st
  subst h1; subst h2; subst h3
  exact ⟨v, (T.setVm vm₁).calling g' mk (Value.ref b :: As).toArray, t, U', L, hT, X', hL, e1, e2, hq, st⟩
section
variable {y : MethodName} {bytes cc : ByteArray} {maxL nL mc ms n index : Nat} {ret : Option FieldType} {ws : List Cond} {rm : Room} {Pc : Array Value → State → Prop} {Qc : Array Value → State → Outcome → State → Prop} {XC : String → State → State → Prop} {free : Addr → Prop} {Ts : List Cond} {own C : String} {b : Addr} {As rest : List Value} {g : JFrame}
theorem vx_runVX {hh : List (Nat × Nat × Nat × Nat)} (S : CallFix p m c cc nL s args Ts own) (hM : vx_Met l y ws rm Pc Qc XC mc ms free) (cw : vx_CVW R s args own C index y bytes maxL ret hh ws rm mc ms n) (hp : PreV s H C b Pc As)
    (hg : g.method = m) (hn : As.length = n) (hsize : g.locals.size = nL) (hstack : g.stack = As.reverse ++ .ref b :: rest) (hW : 2 * g.monitorRoom + (rest.map fun v => v.category).sum ≤ 8) (hdg : decode cc g.pc = .ok (.invokevirtual index, 3)) (hf : cells + mc ≤ R.cells ∧ slots + ms ≤ R.slots) :
    vx_Run p l e R s m args below meth c H locs cells slots mc ms g rest (Qc (Value.ref b :: As).toArray) XC free := by
  obtain ⟨⟨hrc, hrs, hfr, hlo, hws, hcw⟩, hcode, hini, hy, hlen, hl, hin, hse⟩ := cw
  have hK : vx_Back l R p e below s args y 3 8 (PreOf R mc ms Pc) (PostOf Qc mc ms free) (vx_Post XC mc ms free) := vx_backW (hh := hh) (bytes := bytes) (maxL := maxL) (ret := ret) hM hp.1 hrc hrs hfr hlo hws hcw (fun a' U hW => word_at hW (Or.inl (by first | rfl | simp [Cond.onTables, Cond.keeps, Cond.steady])) hini)
  obtain ⟨hx, hb, hml, ho, -⟩ := S
  obtain ⟨-, ⟨cellB, hcB, hoB, hclB⟩, hPc⟩ := hp
  intro T hT X
  rcases vx_callVX X hx (C := C) (hh := hh) (bytes := bytes) (maxL := maxL) (ret := ret) ho hl hin hse hcode hy hK (by rw [hT]; exact hcB) hoB hclB hg (hsize.trans hml.symm) (argsL := As) (rest := rest) (fun sig h => hn.trans (hlen sig h)) hstack hW (by rw [hb]; exact hdg)
    (fun vm₁ hW₁ => ⟨hf.1, hf.2, hPc (T.setVm vm₁) hT hW₁⟩) with ⟨v, vm₁, ⟨U', l2, c2, s2⟩, hW₁, X', ⟨g', mk, t, L, e1, e2, hq, h1, hL, h2, h3⟩, st⟩ | ⟨q, vm₁, ⟨U', l2, c2, s2⟩, hW₁, X', ⟨g', mk, t, L, E, ce, e1, e2, hq, hce, hcv, hcl, h1, hL, h2, h3⟩, st⟩
  · dsimp only [Pt.U, Pt.locs, Pt.cells, Pt.slots] at X' e1 e2 h1 h2 h3 st
    subst h1; subst h2; subst h3
    exact Or.inl ⟨v, (T.setVm vm₁).calling g' mk (Value.ref b :: As).toArray, t, U', L, hT, X', hL, e1, e2, hq, st⟩
  · dsimp only [Pt.U, Pt.locs, Pt.cells, Pt.slots] at X' e1 e2 h1 h2 h3 st hcl
    subst h1; subst h2; subst h3
    exact Or.inr ⟨q, (T.setVm vm₁).calling g' mk (Value.ref b :: As).toArray, t, U', L, E, ce, hT, X', hL, e1, e2, hq, hce, hcv, vx_cls hW₁ hcl, st⟩
theorem vx_runSX {hh : List (Nat × Nat × Nat × Nat)} (S : CallFix p m c cc nL s args Ts own) (hM : vx_Met l y ws rm Pc Qc XC mc ms free) (cw : vx_CSW R s args own index y bytes maxL ret hh ws rm mc ms n) (hp : PreS s H Pc As)
    (hg : g.method = m) (hn : As.length = n) (hsize : g.locals.size = nL) (hstack : g.stack = As.reverse ++ rest) (hW : 2 * g.monitorRoom + (rest.map fun v => v.category).sum ≤ 8) (hdg : decode cc g.pc = .ok (.invokestatic index, 3)) (hf : cells + mc ≤ R.cells ∧ slots + ms ≤ R.slots) :
    vx_Run p l e R s m args below meth c H locs cells slots mc ms g rest (Qc As.toArray) XC free := by
  obtain ⟨⟨hrc, hrs, hfr, hlo, hws, hcw⟩, hcode, hini, hy, hlen, hl, hstt⟩ := cw
  have hK : vx_Back l R p e below s args y 3 8 (PreOf R mc ms Pc) (PostOf Qc mc ms free) (vx_Post XC mc ms free) := vx_backW (hh := hh) (bytes := bytes) (maxL := maxL) (ret := ret) hM hp.1 hrc hrs hfr hlo hws hcw (fun a' U hW => word_at hW (Or.inl (by first | rfl | simp [Cond.onTables, Cond.keeps, Cond.steady])) hini)
  obtain ⟨hx, hb, hml, ho, -⟩ := S
  intro T hT X
  rcases vx_callSX X hx (hh := hh) (bytes := bytes) (maxL := maxL) (ret := ret) ho hl hstt hini hcode hy hK hg (hsize.trans hml.symm) (argsL := As) (rest := rest) (fun sig h => hn.trans (hlen sig h)) hstack hW (by rw [hb]; exact hdg)
    (fun vm₁ hW₁ => ⟨hf.1, hf.2, hp.2 (T.setVm vm₁) hT hW₁⟩) with ⟨v, vm₁, ⟨U', l2, c2, s2⟩, hW₁, X', ⟨g', mk, t, L, e1, e2, hq, h1, hL, h2, h3⟩, st⟩ | ⟨q, vm₁, ⟨U', l2, c2, s2⟩, hW₁, X', ⟨g', mk, t, L, E, ce, e1, e2, hq, hce, hcv, hcl, h1, hL, h2, h3⟩, st⟩
  · dsimp only [Pt.U, Pt.locs, Pt.cells, Pt.slots] at X' e1 e2 h1 h2 h3 st
    subst h1; subst h2; subst h3
    exact Or.inl ⟨v, (T.setVm vm₁).calling g' mk As.toArray, t, U', L, hT, X', hL, e1, e2, hq, st⟩
  · dsimp only [Pt.U, Pt.locs, Pt.cells, Pt.slots] at X' e1 e2 h1 h2 h3 st hcl
    subst h1; subst h2; subst h3
    exact Or.inr ⟨q, (T.setVm vm₁).calling g' mk As.toArray, t, U', L, E, ce, hT, X', hL, e1, e2, hq, hce, hcv, vx_cls hW₁ hcl, st⟩
end
end VXH
theorem vx_ofWH {l : Launch} {y : MethodName} {ws ws' : List Cond} {rm : Room} {Pc : Array Value → State → Prop} {Qc : Array Value → State → Outcome → State → Prop} {XC : String → State → State → Prop} {mc ms : Nat} {free : Addr → Prop} {cc : ByteArray} {maxL : Nat} {ret : Option FieldType} {hh : List (Nat × Nat × Nat × Nat)}
    (hy : plainName y.cls = true) (hw : ws = Cond.codeWith y cc maxL ret hh :: ws')
    (body : ∀ p e s m args below meth c s₁, BodyLoose p l y (headSpec ws rm) cc maxL ret e s m args below meth c s₁ → c.maxLocals = maxL → Pc args s →
      W p l e (headSpec ws rm).room s m args below meth c s.heap [] 0 0 (vx_MQ below Qc XC args s mc ms free) (entryFrame m args maxL)) : vx_Met l y ws rm Pc Qc XC mc ms free := by
  refine MetFree.of_bodyS (code := cc) (maxLocals := maxL) (ret := ret) hy ?_ ?_
  · intro args s m h hn
    obtain ⟨m9, meth, c, hn9, h1, h2, h3, h4, -, h5, h6, -⟩ := Cond.codeWith_spec (atoms_spec (ws := ws) h _ (by rw [hw]; exact List.mem_cons_self))
    cases hn.symm.trans hn9
    exact ⟨meth, c, h1, h2, h3, h4, h5, h6⟩
  · intro p e s m args below meth c s₁ B hml hP _
    have hh0 : s₁.heap = s.heap := by rw [B.state]; rfl
    obtain ⟨t, a1, o, b1, b2, b3⟩ := body p e s m args below meth c s₁ B hml hP s₁ hh0 (Stand.of_body B)
    exact ⟨t, o, a1, b1, b2, b3⟩
/-! ===== END ===== -/
end
section
/-! ===== BEGIN printed: names, fields, word lists, decode rows ===== -/
def RX0 : String := "PenGuild$Division"
def TX0 : u_T := fun k => match k with
  | 0 => ("PenGuild$Division", "byPercent", "I", false)
  | 1 => ("PenGuild$Division", "overCap", "I", false)
  | 2 => ("PenGuild$Division", "bylineOwner", "I", false)
  | 3 => ("PenGuild$Division", "toByline", "I", false)
  | 4 => ("PenGuild$Division", "byParts", "[I", true)
  | _ => ("PenGuild$Division", "remainders", "[I", true)
def tyX0 : Nat → FieldType := fun k => match k with
  | 0 => .int
  | 1 => .int
  | 2 => .int
  | 3 => .int
  | 4 => .array .int
  | _ => .array .int
abbrev wsX00 : List Cond := u_ws RX0 TX0 6
theorem nmX0 : ∀ a, a < 6 → ∀ b, b < 6 → a ≠ b → (TX0 a).2.1 ≠ (TX0 b).2.1 := by decide +kernel
theorem tyX0_ok : ∀ k, k < 6 → parseFieldDescriptor (TX0 k).2.2.1 = some (tyX0 k) := by decide +kernel
abbrev cX0_init : ByteArray := prog_2_method_1_code
def yX0_init : MethodName := ⟨RX0, "<init>", "()V"⟩
abbrev cX0_divideFee : ByteArray := prog_2_method_2_code
def yX0_divideFee : MethodName := ⟨RX0, "divideFee", "(LPenGuild$State;II)V"⟩
abbrev cX0_divideRoyalty : ByteArray := prog_2_method_3_code
def yX0_divideRoyalty : MethodName := ⟨RX0, "divideRoyalty", "(LPenGuild$State;II)V"⟩
abbrev cX0_begin : ByteArray := prog_2_method_4_code
def yX0_begin : MethodName := ⟨RX0, "begin", "(LPenGuild$State;II)V"⟩
abbrev cX0_split : ByteArray := prog_2_method_5_code
def yX0_split : MethodName := ⟨RX0, "split", "(LPenGuild$Pieces;II)V"⟩
abbrev cX0_giveUnit : ByteArray := prog_2_method_6_code
def yX0_giveUnit : MethodName := ⟨RX0, "giveUnit", "()V"⟩
abbrev cX0_cutToCap : ByteArray := prog_2_method_7_code
def yX0_cutToCap : MethodName := ⟨RX0, "cutToCap", "(LPenGuild$Pieces;II)V"⟩
def RX1 : String := "PenGuild$FairParts"
def TX1 : u_T := fun k => match k with
  | 0 => ("PenGuild$FairParts", "parts", "[I", true)
  | 1 => ("PenGuild$FairParts", "writers", "[I", true)
  | 2 => ("PenGuild$FairParts", "drafts", "[I", true)
  | 3 => ("PenGuild$FairParts", "trial", "[I", true)
  | 4 => ("PenGuild$FairParts", "size", "I", false)
  | _ => ("PenGuild$FairParts", "allDrafts", "I", false)
def tyX1 : Nat → FieldType := fun k => match k with
  | 0 => .array .int
  | 1 => .array .int
  | 2 => .array .int
  | 3 => .array .int
  | 4 => .int
  | _ => .int
abbrev wsX10 : List Cond := u_ws RX1 TX1 6
theorem nmX1 : ∀ a, a < 6 → ∀ b, b < 6 → a ≠ b → (TX1 a).2.1 ≠ (TX1 b).2.1 := by decide +kernel
theorem tyX1_ok : ∀ k, k < 6 → parseFieldDescriptor (TX1 k).2.2.1 = some (tyX1 k) := by decide +kernel
abbrev cX1_init : ByteArray := prog_3_method_1_code
def yX1_init : MethodName := ⟨RX1, "<init>", "()V"⟩
abbrev cX1_find : ByteArray := prog_3_method_2_code
def yX1_find : MethodName := ⟨RX1, "find", "(LPenGuild$Pieces;I)V"⟩
abbrev cX1_begin : ByteArray := prog_3_method_3_code
def yX1_begin : MethodName := ⟨RX1, "begin", "(LPenGuild$Pieces;I)V"⟩
abbrev cX1_setTrial : ByteArray := prog_3_method_4_code
def yX1_setTrial : MethodName := ⟨RX1, "setTrial", "(I)I"⟩
abbrev cX1_gap : ByteArray := prog_3_method_5_code
def yX1_gap : MethodName := ⟨RX1, "gap", "(I)I"⟩
abbrev cX1_keepTrial : ByteArray := prog_3_method_6_code
def yX1_keepTrial : MethodName := ⟨RX1, "keepTrial", "()V"⟩
def RX2 : String := "PenGuild$PartsText"
def TX2 : u_T := fun k => match k with
  | 0 => ("PenGuild$PartsText", "codes", "[I", true)
  | 1 => ("PenGuild$PartsText", "length", "I", false)
  | 2 => ("PenGuild$PartsText", "parts", "[I", true)
  | 3 => ("PenGuild$PartsText", "place", "I", false)
  | 4 => ("PenGuild$PartsText", "itemPen", "I", false)
  | 5 => ("PenGuild$PartsText", "itemParts", "I", false)
  | _ => ("PenGuild$PartsText", "itemsEnded", "I", false)
def tyX2 : Nat → FieldType := fun k => match k with
  | 0 => .array .int
  | 1 => .int
  | 2 => .array .int
  | 3 => .int
  | 4 => .int
  | 5 => .int
  | _ => .int
abbrev wsX20 : List Cond := u_ws RX2 TX2 7
theorem nmX2 : ∀ a, a < 7 → ∀ b, b < 7 → a ≠ b → (TX2 a).2.1 ≠ (TX2 b).2.1 := by decide +kernel
theorem tyX2_ok : ∀ k, k < 7 → parseFieldDescriptor (TX2 k).2.2.1 = some (tyX2 k) := by decide +kernel
abbrev cX2_init : ByteArray := prog_4_method_1_code
def yX2_init : MethodName := ⟨RX2, "<init>", "()V"⟩
abbrev cX2_isList : ByteArray := prog_4_method_2_code
def yX2_isList : MethodName := ⟨RX2, "isList", "()Z"⟩
abbrev cX2_greatestPen : ByteArray := prog_4_method_3_code
def yX2_greatestPen : MethodName := ⟨RX2, "greatestPen", "()I"⟩
abbrev cX2_readToError : ByteArray := prog_4_method_4_code
def yX2_readToError : MethodName := ⟨RX2, "readToError", "()I"⟩
abbrev cX2_takes : ByteArray := prog_4_method_5_code
def yX2_takes : MethodName := ⟨RX2, "takes", "(I)Z"⟩
abbrev cX2_takesDigit : ByteArray := prog_4_method_6_code
def yX2_takesDigit : MethodName := ⟨RX2, "takesDigit", "(I)Z"⟩
abbrev cX2_takesOne : ByteArray := prog_4_method_7_code
def yX2_takesOne : MethodName := ⟨RX2, "takesOne", "()Z"⟩
abbrev cX2_takesAfterOne : ByteArray := prog_4_method_8_code
def yX2_takesAfterOne : MethodName := ⟨RX2, "takesAfterOne", "(I)Z"⟩
abbrev cX2_takesPen : ByteArray := prog_4_method_9_code
def yX2_takesPen : MethodName := ⟨RX2, "takesPen", "(I)Z"⟩
abbrev cX2_takesStar : ByteArray := prog_4_method_10_code
def yX2_takesStar : MethodName := ⟨RX2, "takesStar", "(I)Z"⟩
abbrev cX2_takesFactor : ByteArray := prog_4_method_11_code
def yX2_takesFactor : MethodName := ⟨RX2, "takesFactor", "(I)Z"⟩
abbrev cX2_takesComma : ByteArray := prog_4_method_12_code
def yX2_takesComma : MethodName := ⟨RX2, "takesComma", "(I)Z"⟩
abbrev cX2_endItem : ByteArray := prog_4_method_13_code
def yX2_endItem : MethodName := ⟨RX2, "endItem", "()V"⟩
def RX3 : String := "PenGuild$Pens"
def TX3 : u_T := fun k => match k with
  | 0 => ("PenGuild$Pens", "size", "I", false)
  | 1 => ("PenGuild$Pens", "balance", "[I", true)
  | 2 => ("PenGuild$Pens", "owed", "[I", true)
  | 3 => ("PenGuild$Pens", "income", "[I", true)
  | 4 => ("PenGuild$Pens", "owner", "[I", true)
  | 5 => ("PenGuild$Pens", "price", "[I", true)
  | _ => ("PenGuild$Pens", "paidOut", "[I", true)
def tyX3 : Nat → FieldType := fun k => match k with
  | 0 => .int
  | 1 => .array .int
  | 2 => .array .int
  | 3 => .array .int
  | 4 => .array .int
  | 5 => .array .int
  | _ => .array .int
abbrev wsX30 : List Cond := u_ws RX3 TX3 7
theorem nmX3 : ∀ a, a < 7 → ∀ b, b < 7 → a ≠ b → (TX3 a).2.1 ≠ (TX3 b).2.1 := by decide +kernel
theorem tyX3_ok : ∀ k, k < 7 → parseFieldDescriptor (TX3 k).2.2.1 = some (tyX3 k) := by decide +kernel
abbrev cX3_init : ByteArray := prog_5_method_1_code
def yX3_init : MethodName := ⟨RX3, "<init>", "()V"⟩
abbrev cX3_copyFrom : ByteArray := prog_5_method_2_code
def yX3_copyFrom : MethodName := ⟨RX3, "copyFrom", "(LPenGuild$Pens;)V"⟩
abbrev cX3_passByline : ByteArray := prog_5_method_3_code
def yX3_passByline : MethodName := ⟨RX3, "passByline", "(III)V"⟩
abbrev cX3_earn : ByteArray := prog_5_method_4_code
def yX3_earn : MethodName := ⟨RX3, "earn", "(II)I"⟩
abbrev cX3_bylinesOf : ByteArray := prog_5_method_5_code
def yX3_bylinesOf : MethodName := ⟨RX3, "bylinesOf", "(I)I"⟩
abbrev cX3_bylinesAway : ByteArray := prog_5_method_6_code
def yX3_bylinesAway : MethodName := ⟨RX3, "bylinesAway", "()I"⟩
abbrev cX3_placeOf : ByteArray := prog_5_method_7_code
def yX3_placeOf : MethodName := ⟨RX3, "placeOf", "(I)I"⟩
abbrev cX3_differences : ByteArray := prog_5_method_8_code
def yX3_differences : MethodName := ⟨RX3, "differences", "()I"⟩
def RX4 : String := "PenGuild$Pieces"
def TX4 : u_T := fun k => match k with
  | 0 => ("PenGuild$Pieces", "size", "I", false)
  | 1 => ("PenGuild$Pieces", "byline", "[I", true)
  | 2 => ("PenGuild$Pieces", "fee", "[I", true)
  | 3 => ("PenGuild$Pieces", "stage", "[I", true)
  | 4 => ("PenGuild$Pieces", "contract", "[I", true)
  | 5 => ("PenGuild$Pieces", "royalties", "[I", true)
  | 6 => ("PenGuild$Pieces", "parts", "[I", true)
  | 7 => ("PenGuild$Pieces", "drafts", "[I", true)
  | _ => ("PenGuild$Pieces", "gotThisYear", "[I", true)
def tyX4 : Nat → FieldType := fun k => match k with
  | 0 => .int
  | 1 => .array .int
  | 2 => .array .int
  | 3 => .array .int
  | 4 => .array .int
  | 5 => .array .int
  | 6 => .array .int
  | 7 => .array .int
  | _ => .array .int
abbrev wsX40 : List Cond := u_ws RX4 TX4 9
theorem nmX4 : ∀ a, a < 9 → ∀ b, b < 9 → a ≠ b → (TX4 a).2.1 ≠ (TX4 b).2.1 := by decide +kernel
theorem tyX4_ok : ∀ k, k < 9 → parseFieldDescriptor (TX4 k).2.2.1 = some (tyX4 k) := by decide +kernel
abbrev cX4_init : ByteArray := prog_6_method_1_code
def yX4_init : MethodName := ⟨RX4, "<init>", "()V"⟩
abbrev cX4_copyFrom : ByteArray := prog_6_method_2_code
def yX4_copyFrom : MethodName := ⟨RX4, "copyFrom", "(LPenGuild$Pieces;)V"⟩
abbrev cX4_begin : ByteArray := prog_6_method_3_code
def yX4_begin : MethodName := ⟨RX4, "begin", "(II)I"⟩
abbrev cX4_allParts : ByteArray := prog_6_method_4_code
def yX4_allParts : MethodName := ⟨RX4, "allParts", "(I)I"⟩
abbrev cX4_allDrafts : ByteArray := prog_6_method_5_code
def yX4_allDrafts : MethodName := ⟨RX4, "allDrafts", "(I)I"⟩
abbrev cX4_draftsBy : ByteArray := prog_6_method_6_code
def yX4_draftsBy : MethodName := ⟨RX4, "draftsBy", "(I)I"⟩
abbrev cX4_sharers : ByteArray := prog_6_method_7_code
def yX4_sharers : MethodName := ⟨RX4, "sharers", "(I)I"⟩
abbrev cX4_inStage : ByteArray := prog_6_method_8_code
def yX4_inStage : MethodName := ⟨RX4, "inStage", "(I)I"⟩
abbrev cX4_disputers : ByteArray := prog_6_method_9_code
def yX4_disputers : MethodName := ⟨RX4, "disputers", "(I)I"⟩
abbrev cX4_takeParts : ByteArray := prog_6_method_10_code
def yX4_takeParts : MethodName := ⟨RX4, "takeParts", "(I[I)V"⟩
abbrev cX4_takePartsFromDrafts : ByteArray := prog_6_method_11_code
def yX4_takePartsFromDrafts : MethodName := ⟨RX4, "takePartsFromDrafts", "(I)V"⟩
abbrev cX4_addToYear : ByteArray := prog_6_method_12_code
def yX4_addToYear : MethodName := ⟨RX4, "addToYear", "(I[I)V"⟩
abbrev cX4_writers : ByteArray := prog_6_method_13_code
def yX4_writers : MethodName := ⟨RX4, "writers", "(I)I"⟩
abbrev cX4_writerWithMost : ByteArray := prog_6_method_14_code
def yX4_writerWithMost : MethodName := ⟨RX4, "writerWithMost", "(II)I"⟩
def RX5 : String := "PenGuild$State"
def TX5 : u_T := fun k => match k with
  | 0 => ("PenGuild$State", "pens", "LPenGuild$Pens;", true)
  | 1 => ("PenGuild$State", "pieces", "LPenGuild$Pieces;", true)
  | 2 => ("PenGuild$State", "settings", "[I", true)
  | 3 => ("PenGuild$State", "year", "I", false)
  | 4 => ("PenGuild$State", "reserve", "I", false)
  | 5 => ("PenGuild$State", "cameIn", "I", false)
  | 6 => ("PenGuild$State", "overCap", "I", false)
  | _ => ("PenGuild$State", "disputes", "I", false)
def tyX5 : Nat → FieldType := fun k => match k with
  | 0 => .object "PenGuild$Pens"
  | 1 => .object "PenGuild$Pieces"
  | 2 => .array .int
  | 3 => .int
  | 4 => .int
  | 5 => .int
  | 6 => .int
  | _ => .int
abbrev wsX50 : List Cond := u_ws RX5 TX5 8
theorem nmX5 : ∀ a, a < 8 → ∀ b, b < 8 → a ≠ b → (TX5 a).2.1 ≠ (TX5 b).2.1 := by decide +kernel
theorem tyX5_ok : ∀ k, k < 8 → parseFieldDescriptor (TX5 k).2.2.1 = some (tyX5 k) := by decide +kernel
abbrev cX5_init : ByteArray := prog_7_method_1_code
def yX5_init : MethodName := ⟨RX5, "<init>", "()V"⟩
abbrev cX5_copyFrom : ByteArray := prog_7_method_2_code
def yX5_copyFrom : MethodName := ⟨RX5, "copyFrom", "(LPenGuild$State;)V"⟩
abbrev cX5_killFee : ByteArray := prog_7_method_3_code
def yX5_killFee : MethodName := ⟨RX5, "killFee", "(I)I"⟩
def RX6 : String := "PenGuild"
def TX6 : u_T := fun k => match k with
  | 0 => ("PenGuild", "ring", "[LPenGuild$State;", true)
  | 1 => ("PenGuild", "present", "I", false)
  | 2 => ("PenGuild", "saved", "I", false)
  | 3 => ("PenGuild", "now", "LPenGuild$State;", false)
  | 4 => ("PenGuild", "text", "LPenGuild$PartsText;", true)
  | 5 => ("PenGuild", "division", "LPenGuild$Division;", true)
  | 6 => ("PenGuild", "fair", "LPenGuild$FairParts;", true)
  | 7 => ("PenGuild", "best", "[I", true)
  | _ => ("PenGuild", "bestGain", "[I", true)
def tyX6 : Nat → FieldType := fun k => match k with
  | 0 => .array (.object "PenGuild$State")
  | 1 => .int
  | 2 => .int
  | 3 => .object "PenGuild$State"
  | 4 => .object "PenGuild$PartsText"
  | 5 => .object "PenGuild$Division"
  | 6 => .object "PenGuild$FairParts"
  | 7 => .array .int
  | _ => .array .int
abbrev wsX60 : List Cond := u_ws RX6 TX6 9
theorem nmX6 : ∀ a, a < 9 → ∀ b, b < 9 → a ≠ b → (TX6 a).2.1 ≠ (TX6 b).2.1 := by decide +kernel
theorem tyX6_ok : ∀ k, k < 9 → parseFieldDescriptor (TX6 k).2.2.1 = some (tyX6 k) := by decide +kernel
abbrev cX6_init : ByteArray := prog_1_method_1_code
def yX6_init : MethodName := ⟨RX6, "<init>", "()V"⟩
abbrev cX6_addPen : ByteArray := prog_1_method_2_code
def yX6_addPen : MethodName := ⟨RX6, "addPen", "()I"⟩
abbrev cX6_sell : ByteArray := prog_1_method_3_code
def yX6_sell : MethodName := ⟨RX6, "sell", "(III)I"⟩
abbrev cX6_buyBack : ByteArray := prog_1_method_4_code
def yX6_buyBack : MethodName := ⟨RX6, "buyBack", "(I)I"⟩
abbrev cX6_advance : ByteArray := prog_1_method_5_code
def yX6_advance : MethodName := ⟨RX6, "advance", "(II)I"⟩
abbrev cX6_withdraw : ByteArray := prog_1_method_6_code
def yX6_withdraw : MethodName := ⟨RX6, "withdraw", "(II)I"⟩
abbrev cX6_set : ByteArray := prog_1_method_7_code
def yX6_set : MethodName := ⟨RX6, "set", "(II)I"⟩
abbrev cX6_nextYear : ByteArray := prog_1_method_8_code
def yX6_nextYear : MethodName := ⟨RX6, "nextYear", "()I"⟩
abbrev cX6_order : ByteArray := prog_1_method_9_code
def yX6_order : MethodName := ⟨RX6, "order", "(II)I"⟩
abbrev cX6_draft : ByteArray := prog_1_method_10_code
def yX6_draft : MethodName := ⟨RX6, "draft", "(II)I"⟩
abbrev cX6_revise : ByteArray := prog_1_method_11_code
def yX6_revise : MethodName := ⟨RX6, "revise", "(II)I"⟩
abbrev cX6_share : ByteArray := prog_1_method_12_code
def yX6_share : MethodName := ⟨RX6, "share", "(I)I"⟩
abbrev cX6_accept : ByteArray := prog_1_method_13_code
def yX6_accept : MethodName := ⟨RX6, "accept", "(I)I"⟩
abbrev cX6_kill : ByteArray := prog_1_method_14_code
def yX6_kill : MethodName := ⟨RX6, "kill", "(I)I"⟩
abbrev cX6_royalty : ByteArray := prog_1_method_15_code
def yX6_royalty : MethodName := ⟨RX6, "royalty", "(II)I"⟩
abbrev cX6_dispute : ByteArray := prog_1_method_16_code
def yX6_dispute : MethodName := ⟨RX6, "dispute", "(II)I"⟩
abbrev cX6_append : ByteArray := prog_1_method_17_code
def yX6_append : MethodName := ⟨RX6, "append", "(I)I"⟩
abbrev cX6_clearBuffer : ByteArray := prog_1_method_18_code
def yX6_clearBuffer : MethodName := ⟨RX6, "clearBuffer", "()I"⟩
abbrev cX6_pen : ByteArray := prog_1_method_21_code
def yX6_pen : MethodName := ⟨RX6, "pen", "(II)I"⟩
abbrev cX6_piece : ByteArray := prog_1_method_22_code
def yX6_piece : MethodName := ⟨RX6, "piece", "(II)I"⟩
abbrev cX6_between : ByteArray := prog_1_method_23_code
def yX6_between : MethodName := ⟨RX6, "between", "(III)I"⟩
abbrev cX6_count : ByteArray := prog_1_method_24_code
def yX6_count : MethodName := ⟨RX6, "count", "(I)I"⟩
abbrev cX6_setting : ByteArray := prog_1_method_25_code
def yX6_setting : MethodName := ⟨RX6, "setting", "(I)I"⟩
abbrev cX6_ifPaid : ByteArray := prog_1_method_26_code
def yX6_ifPaid : MethodName := ⟨RX6, "ifPaid", "(III)I"⟩
abbrev cX6_fairest : ByteArray := prog_1_method_27_code
def yX6_fairest : MethodName := ⟨RX6, "fairest", "(II)I"⟩
abbrev cX6_bestPiece : ByteArray := prog_1_method_28_code
def yX6_bestPiece : MethodName := ⟨RX6, "bestPiece", "(II)I"⟩
abbrev cX6_spread : ByteArray := prog_1_method_29_code
def yX6_spread : MethodName := ⟨RX6, "spread", "()D"⟩
abbrev cX6_needPen : ByteArray := prog_1_method_31_code
def yX6_needPen : MethodName := ⟨RX6, "needPen", "(I)V"⟩
abbrev cX6_needPiece : ByteArray := prog_1_method_32_code
def yX6_needPiece : MethodName := ⟨RX6, "needPiece", "(I)V"⟩
abbrev cX6_needSetting : ByteArray := prog_1_method_33_code
def yX6_needSetting : MethodName := ⟨RX6, "needSetting", "(I)V"⟩
abbrev cX6_needRange : ByteArray := prog_1_method_34_code
def yX6_needRange : MethodName := ⟨RX6, "needRange", "(III)V"⟩
abbrev cX6_needAtLeast : ByteArray := prog_1_method_35_code
def yX6_needAtLeast : MethodName := ⟨RX6, "needAtLeast", "(II)V"⟩
abbrev cX6_needUnended : ByteArray := prog_1_method_36_code
def yX6_needUnended : MethodName := ⟨RX6, "needUnended", "(I)V"⟩
abbrev cX6_needAccepted : ByteArray := prog_1_method_37_code
def yX6_needAccepted : MethodName := ⟨RX6, "needAccepted", "(I)V"⟩
abbrev cX6_save : ByteArray := prog_1_method_38_code
def yX6_save : MethodName := ⟨RX6, "save", "()V"⟩
abbrev cX6_bringIn : ByteArray := prog_1_method_39_code
def yX6_bringIn : MethodName := ⟨RX6, "bringIn", "(I)I"⟩
abbrev cX6_gainOf : ByteArray := prog_1_method_40_code
def yX6_gainOf : MethodName := ⟨RX6, "gainOf", "(I)I"⟩
abbrev cX6_findBest : ByteArray := prog_1_method_41_code
def yX6_findBest : MethodName := ⟨RX6, "findBest", "(I)V"⟩
abbrev cX6_preferIfBetter : ByteArray := prog_1_method_42_code
def yX6_preferIfBetter : MethodName := ⟨RX6, "preferIfBetter", "(I)V"⟩
abbrev cX6_withheld : ByteArray := prog_1_method_47_code
def yX6_withheld : MethodName := ⟨RX6, "withheld", "(II)I"⟩
abbrev cX6_at : ByteArray := prog_1_method_48_code
def yX6_at : MethodName := ⟨RX6, "at", "(II)I"⟩
abbrev cX6_isIn : ByteArray := prog_1_method_49_code
def yX6_isIn : MethodName := ⟨RX6, "isIn", "(II)Z"⟩
abbrev cX6_sum : ByteArray := prog_1_method_50_code
def yX6_sum : MethodName := ⟨RX6, "sum", "([I)I"⟩
abbrev cX6_sumOf : ByteArray := prog_1_method_51_code
def yX6_sumOf : MethodName := ⟨RX6, "sumOf", "([II)I"⟩
abbrev cX6_copyRow : ByteArray := prog_1_method_52_code
def yX6_copyRow : MethodName := ⟨RX6, "copyRow", "([I[I)V"⟩
def RX7 : String := "PenGuildModel"
def TX7 : u_T := fun k => match k with
  | _ => ("", "", "", false)
def tyX7 : Nat → FieldType := fun k => match k with
  | _ => .int
abbrev wsX70 : List Cond := u_ws RX7 TX7 0
theorem nmX7 : ∀ a, a < 0 → ∀ b, b < 0 → a ≠ b → (TX7 a).2.1 ≠ (TX7 b).2.1 := by decide +kernel
theorem tyX7_ok : ∀ k, k < 0 → parseFieldDescriptor (TX7 k).2.2.1 = some (tyX7 k) := by decide +kernel
def RJx145de : String := "java/io/Serializable"
def TJx145de : u_T := fun k => match k with
  | _ => ("", "", "", false)
def tyJx145de : Nat → FieldType := fun k => match k with
  | _ => .int
abbrev wsJx145de0 : List Cond := u_ws RJx145de TJx145de 0
theorem nmJx145de : ∀ a, a < 0 → ∀ b, b < 0 → a ≠ b → (TJx145de a).2.1 ≠ (TJx145de b).2.1 := by decide +kernel
theorem tyJx145de_ok : ∀ k, k < 0 → parseFieldDescriptor (TJx145de k).2.2.1 = some (tyJx145de k) := by decide +kernel
def RJx8e188 : String := "java/lang/Cloneable"
def TJx8e188 : u_T := fun k => match k with
  | _ => ("", "", "", false)
def tyJx8e188 : Nat → FieldType := fun k => match k with
  | _ => .int
abbrev wsJx8e1880 : List Cond := u_ws RJx8e188 TJx8e188 0
theorem nmJx8e188 : ∀ a, a < 0 → ∀ b, b < 0 → a ≠ b → (TJx8e188 a).2.1 ≠ (TJx8e188 b).2.1 := by decide +kernel
theorem tyJx8e188_ok : ∀ k, k < 0 → parseFieldDescriptor (TJx8e188 k).2.2.1 = some (tyJx8e188 k) := by decide +kernel
def RJ9 : String := "java/lang/Math"
def TJ9 : u_T := fun k => match k with
  | _ => ("", "", "", false)
def tyJ9 : Nat → FieldType := fun k => match k with
  | _ => .int
abbrev wsJ90 : List Cond := u_ws RJ9 TJ9 0
theorem nmJ9 : ∀ a, a < 0 → ∀ b, b < 0 → a ≠ b → (TJ9 a).2.1 ≠ (TJ9 b).2.1 := by decide +kernel
theorem tyJ9_ok : ∀ k, k < 0 → parseFieldDescriptor (TJ9 k).2.2.1 = some (tyJ9 k) := by decide +kernel
abbrev cJ9_abs_0f7a4 : ByteArray := prog_15_method_59_code
def yJ9_abs_0f7a4 : MethodName := ⟨RJ9, "abs", "(I)I"⟩
abbrev cJ9_max_7cf53 : ByteArray := prog_15_method_65_code
def yJ9_max_7cf53 : MethodName := ⟨RJ9, "max", "(II)I"⟩
abbrev cJ9_min_7cf53 : ByteArray := prog_15_method_69_code
def yJ9_min_7cf53 : MethodName := ⟨RJ9, "min", "(II)I"⟩
def RJ0 : String := "java/lang/String"
def TJ0 : u_T := fun k => match k with
  | _ => ("", "", "", false)
def tyJ0 : Nat → FieldType := fun k => match k with
  | _ => .int
abbrev wsJ00 : List Cond := u_ws RJ0 TJ0 0
theorem nmJ0 : ∀ a, a < 0 → ∀ b, b < 0 → a ≠ b → (TJ0 a).2.1 ≠ (TJ0 b).2.1 := by decide +kernel
theorem tyJ0_ok : ∀ k, k < 0 → parseFieldDescriptor (TJ0 k).2.2.1 = some (tyJ0 k) := by decide +kernel
def RJ10 : String := "java/lang/System"
def TJ10 : u_T := fun k => match k with
  | _ => ("", "", "", false)
def tyJ10 : Nat → FieldType := fun k => match k with
  | _ => .int
abbrev wsJ100 : List Cond := u_ws RJ10 TJ10 0
theorem nmJ10 : ∀ a, a < 0 → ∀ b, b < 0 → a ≠ b → (TJ10 a).2.1 ≠ (TJ10 b).2.1 := by decide +kernel
theorem tyJ10_ok : ∀ k, k < 0 → parseFieldDescriptor (TJ10 k).2.2.1 = some (tyJ10 k) := by decide +kernel
def RJ7 : String := "java/util/Arrays"
def TJ7 : u_T := fun k => match k with
  | _ => ("", "", "", false)
def tyJ7 : Nat → FieldType := fun k => match k with
  | _ => .int
abbrev wsJ70 : List Cond := u_ws RJ7 TJ7 0
theorem nmJ7 : ∀ a, a < 0 → ∀ b, b < 0 → a ≠ b → (TJ7 a).2.1 ≠ (TJ7 b).2.1 := by decide +kernel
theorem tyJ7_ok : ∀ k, k < 0 → parseFieldDescriptor (TJ7 k).2.2.1 = some (tyJ7 k) := by decide +kernel
abbrev cJ7_fill_53178 : ByteArray := prog_20_method_103_code
def yJ7_fill_53178 : MethodName := ⟨RJ7, "fill", "([II)V"⟩
def RL : String := "PenGuildLaw"
abbrev cL_cell : ByteArray := method_2_code
def yL_cell : MethodName := ⟨RL, "cell", "([II)I"⟩
abbrev cL_at : ByteArray := method_3_code
def yL_at : MethodName := ⟨RL, "at", "(II)I"⟩
abbrev cL_four : ByteArray := method_4_code
def yL_four : MethodName := ⟨RL, "four", "([II)I"⟩
abbrev cL_gets : ByteArray := method_5_code
def yL_gets : MethodName := ⟨RL, "gets", "(II[I[I)I"⟩
abbrev cL_share : ByteArray := method_6_code
def yL_share : MethodName := ⟨RL, "share", "(III[I)I"⟩
abbrev cL_comes : ByteArray := method_7_code
def yL_comes : MethodName := ⟨RL, "comes", "(IIZ[I[I[I[I[I[I)I"⟩
abbrev cL_kill : ByteArray := method_8_code
def yL_kill : MethodName := ⟨RL, "kill", "(I[I[I)I"⟩
abbrev cL_quarrels : ByteArray := method_9_code
def yL_quarrels : MethodName := ⟨RL, "quarrels", "(II[I[I[I)Z"⟩
abbrev cL_sum : ByteArray := method_10_code
def yL_sum : MethodName := ⟨RL, "sum", "(I[I[I)I"⟩
abbrev cL_pens : ByteArray := method_11_code
def yL_pens : MethodName := ⟨RL, "pens", "(LPenGuild;[I[I[I)Z"⟩
abbrev cL_pieces : ByteArray := method_12_code
def yL_pieces : MethodName := ⟨RL, "pieces", "(LPenGuild;[I[I[I[I[I[I)Z"⟩
abbrev cL_told : ByteArray := method_13_code
def yL_told : MethodName := ⟨RL, "told", "(LPenGuild;[I[I[I[I[I[I[I)Z"⟩
abbrev cL_same : ByteArray := method_14_code
def yL_same : MethodName := ⟨RL, "same", "([I[I)V"⟩
abbrev cL_fair : ByteArray := method_15_code
def yL_fair : MethodName := ⟨RL, "fair", "(II[I)I"⟩
abbrev cL_ahead : ByteArray := method_16_code
def yL_ahead : MethodName := ⟨RL, "ahead", "(LPenGuild;I[I[I[I[I[I[I[I)Z"⟩
abbrev cL_money : ByteArray := method_17_code
def yL_money : MethodName := ⟨RL, "money", "(LPenGuild;III[I[I)Z"⟩
abbrev cL_parts : ByteArray := method_18_code
def yL_parts : MethodName := ⟨RL, "parts", "(LPenGuild;III[I[I[I)Z"⟩
abbrev cL_act : ByteArray := method_19_code
def yL_act : MethodName := ⟨RL, "act", "(LPenGuild;III[I[I[I[I[I[I[I)Z"⟩
abbrev cL_law : ByteArray := code
def yL_law : MethodName := ⟨RL, "law", "([I)Z"⟩
def wsJ7_fill_53178 : List Cond := .code yJ7_fill_53178 cJ7_fill_53178 4 none :: ([])
def wsJ9_abs_0f7a4 : List Cond := .code yJ9_abs_0f7a4 cJ9_abs_0f7a4 1 (some .int) :: ([])
def wsJ9_max_7cf53 : List Cond := .code yJ9_max_7cf53 cJ9_max_7cf53 2 (some .int) :: ([])
def wsJ9_min_7cf53 : List Cond := .code yJ9_min_7cf53 cJ9_min_7cf53 2 (some .int) :: ([])
theorem inJx145de : ∀ w ∈ wsJx145de0, w ∈ lw_tbl := by decide +kernel
theorem inJx8e188 : ∀ w ∈ wsJx8e1880, w ∈ lw_tbl := by decide +kernel
theorem inJ9 : ∀ w ∈ wsJ90, w ∈ lw_tbl := by decide +kernel
theorem inJ0 : ∀ w ∈ wsJ00, w ∈ lw_tbl := by decide +kernel
theorem inJ10 : ∀ w ∈ wsJ100, w ∈ lw_tbl := by decide +kernel
theorem inJ7 : ∀ w ∈ wsJ70, w ∈ lw_tbl := by decide +kernel
theorem dJ9_abs_0f7a4_0 : decode cJ9_abs_0f7a4 0 = .ok (.iload_n 0, 1) := by decide +kernel
theorem dJ9_abs_0f7a4_1 : decode cJ9_abs_0f7a4 1 = .ok (.ifCond .ge 8, 3) := by decide +kernel
theorem dJ9_abs_0f7a4_4 : decode cJ9_abs_0f7a4 4 = .ok (.iload_n 0, 1) := by decide +kernel
theorem dJ9_abs_0f7a4_5 : decode cJ9_abs_0f7a4 5 = .ok (.ineg, 1) := by decide +kernel
theorem dJ9_abs_0f7a4_6 : decode cJ9_abs_0f7a4 6 = .ok (.goto 4, 3) := by decide +kernel
theorem dJ9_abs_0f7a4_9 : decode cJ9_abs_0f7a4 9 = .ok (.iload_n 0, 1) := by decide +kernel
theorem dJ9_abs_0f7a4_10 : decode cJ9_abs_0f7a4 10 = .ok (.ireturn, 1) := by decide +kernel
theorem dJ9_max_7cf53_0 : decode cJ9_max_7cf53 0 = .ok (.iload_n 0, 1) := by decide +kernel
theorem dJ9_max_7cf53_1 : decode cJ9_max_7cf53 1 = .ok (.iload_n 1, 1) := by decide +kernel
theorem dJ9_max_7cf53_2 : decode cJ9_max_7cf53 2 = .ok (.if_icmp .lt 7, 3) := by decide +kernel
theorem dJ9_max_7cf53_5 : decode cJ9_max_7cf53 5 = .ok (.iload_n 0, 1) := by decide +kernel
theorem dJ9_max_7cf53_6 : decode cJ9_max_7cf53 6 = .ok (.goto 4, 3) := by decide +kernel
theorem dJ9_max_7cf53_9 : decode cJ9_max_7cf53 9 = .ok (.iload_n 1, 1) := by decide +kernel
theorem dJ9_max_7cf53_10 : decode cJ9_max_7cf53 10 = .ok (.ireturn, 1) := by decide +kernel
theorem dJ9_min_7cf53_0 : decode cJ9_min_7cf53 0 = .ok (.iload_n 0, 1) := by decide +kernel
theorem dJ9_min_7cf53_1 : decode cJ9_min_7cf53 1 = .ok (.iload_n 1, 1) := by decide +kernel
theorem dJ9_min_7cf53_2 : decode cJ9_min_7cf53 2 = .ok (.if_icmp .gt 7, 3) := by decide +kernel
theorem dJ9_min_7cf53_5 : decode cJ9_min_7cf53 5 = .ok (.iload_n 0, 1) := by decide +kernel
theorem dJ9_min_7cf53_6 : decode cJ9_min_7cf53 6 = .ok (.goto 4, 3) := by decide +kernel
theorem dJ9_min_7cf53_9 : decode cJ9_min_7cf53 9 = .ok (.iload_n 1, 1) := by decide +kernel
theorem dJ9_min_7cf53_10 : decode cJ9_min_7cf53 10 = .ok (.ireturn, 1) := by decide +kernel
theorem dJ7_fill_53178_0 : decode cJ7_fill_53178 0 = .ok (.iconst 0, 1) := by decide +kernel
theorem dJ7_fill_53178_1 : decode cJ7_fill_53178 1 = .ok (.istore_n 2, 1) := by decide +kernel
theorem dJ7_fill_53178_2 : decode cJ7_fill_53178 2 = .ok (.aload_n 0, 1) := by decide +kernel
theorem dJ7_fill_53178_3 : decode cJ7_fill_53178 3 = .ok (.arraylength, 1) := by decide +kernel
theorem dJ7_fill_53178_4 : decode cJ7_fill_53178 4 = .ok (.istore_n 3, 1) := by decide +kernel
theorem dJ7_fill_53178_5 : decode cJ7_fill_53178 5 = .ok (.iload_n 2, 1) := by decide +kernel
theorem dJ7_fill_53178_6 : decode cJ7_fill_53178 6 = .ok (.iload_n 3, 1) := by decide +kernel
theorem dJ7_fill_53178_7 : decode cJ7_fill_53178 7 = .ok (.if_icmp .ge 13, 3) := by decide +kernel
theorem dJ7_fill_53178_10 : decode cJ7_fill_53178 10 = .ok (.aload_n 0, 1) := by decide +kernel
theorem dJ7_fill_53178_11 : decode cJ7_fill_53178 11 = .ok (.iload_n 2, 1) := by decide +kernel
theorem dJ7_fill_53178_12 : decode cJ7_fill_53178 12 = .ok (.iload_n 1, 1) := by decide +kernel
theorem dJ7_fill_53178_13 : decode cJ7_fill_53178 13 = .ok (.iastore, 1) := by decide +kernel
theorem dJ7_fill_53178_14 : decode cJ7_fill_53178 14 = .ok (.iinc 2 1, 3) := by decide +kernel
theorem dJ7_fill_53178_17 : decode cJ7_fill_53178 17 = .ok (.goto (-12), 3) := by decide +kernel
theorem dJ7_fill_53178_20 : decode cJ7_fill_53178 20 = .ok (.return_, 1) := by decide +kernel
abbrev vwCl : List vw_C := [(RX0, TX0, 6), (RX1, TX1, 6), (RX2, TX2, 7), (RX3, TX3, 7), (RX4, TX4, 9), (RX5, TX5, 8), (RX6, TX6, 9)]
end
section
theorem dL_cell_0 : decode cL_cell 0 = .ok (.iload_n 1, 1) := by decide +kernel
theorem dL_cell_1 : decode cL_cell 1 = .ok (.aload_n 0, 1) := by decide +kernel
theorem dL_cell_2 : decode cL_cell 2 = .ok (.arraylength, 1) := by decide +kernel
theorem dL_cell_3 : decode cL_cell 3 = .ok (.if_icmp .ge 9, 3) := by decide +kernel
theorem dL_cell_6 : decode cL_cell 6 = .ok (.aload_n 0, 1) := by decide +kernel
theorem dL_cell_7 : decode cL_cell 7 = .ok (.iload_n 1, 1) := by decide +kernel
theorem dL_cell_8 : decode cL_cell 8 = .ok (.iaload, 1) := by decide +kernel
theorem dL_cell_9 : decode cL_cell 9 = .ok (.goto 9, 3) := by decide +kernel
theorem dL_cell_12 : decode cL_cell 12 = .ok (.ldc 7, 2) := by decide +kernel
theorem dL_cell_14 : decode cL_cell 14 = .ok (.iload_n 1, 1) := by decide +kernel
theorem dL_cell_15 : decode cL_cell 15 = .ok (.iconst 1, 1) := by decide +kernel
theorem dL_cell_16 : decode cL_cell 16 = .ok (.iadd, 1) := by decide +kernel
theorem dL_cell_17 : decode cL_cell 17 = .ok (.imul, 1) := by decide +kernel
theorem dL_cell_18 : decode cL_cell 18 = .ok (.ireturn, 1) := by decide +kernel
theorem dL_at_0 : decode cL_at 0 = .ok (.iload_n 0, 1) := by decide +kernel
theorem dL_at_1 : decode cL_at 1 = .ok (.iconst 1, 1) := by decide +kernel
theorem dL_at_2 : decode cL_at 2 = .ok (.iushr, 1) := by decide +kernel
theorem dL_at_3 : decode cL_at 3 = .ok (.iload_n 1, 1) := by decide +kernel
theorem dL_at_4 : decode cL_at 4 = .ok (.irem, 1) := by decide +kernel
theorem dL_at_5 : decode cL_at 5 = .ok (.ireturn, 1) := by decide +kernel
theorem dL_four_0 : decode cL_four 0 = .ok (.aload_n 0, 1) := by decide +kernel
theorem dL_four_1 : decode cL_four 1 = .ok (.iconst 4, 1) := by decide +kernel
theorem dL_four_2 : decode cL_four 2 = .ok (.iload_n 1, 1) := by decide +kernel
theorem dL_four_3 : decode cL_four 3 = .ok (.imul, 1) := by decide +kernel
theorem dL_four_4 : decode cL_four 4 = .ok (.iaload, 1) := by decide +kernel
theorem dL_four_5 : decode cL_four 5 = .ok (.aload_n 0, 1) := by decide +kernel
theorem dL_four_6 : decode cL_four 6 = .ok (.iconst 4, 1) := by decide +kernel
theorem dL_four_7 : decode cL_four 7 = .ok (.iload_n 1, 1) := by decide +kernel
theorem dL_four_8 : decode cL_four 8 = .ok (.imul, 1) := by decide +kernel
theorem dL_four_9 : decode cL_four 9 = .ok (.iconst 1, 1) := by decide +kernel
theorem dL_four_10 : decode cL_four 10 = .ok (.iadd, 1) := by decide +kernel
theorem dL_four_11 : decode cL_four 11 = .ok (.iaload, 1) := by decide +kernel
theorem dL_four_12 : decode cL_four 12 = .ok (.iadd, 1) := by decide +kernel
theorem dL_four_13 : decode cL_four 13 = .ok (.aload_n 0, 1) := by decide +kernel
theorem dL_four_14 : decode cL_four 14 = .ok (.iconst 4, 1) := by decide +kernel
theorem dL_four_15 : decode cL_four 15 = .ok (.iload_n 1, 1) := by decide +kernel
theorem dL_four_16 : decode cL_four 16 = .ok (.imul, 1) := by decide +kernel
theorem dL_four_17 : decode cL_four 17 = .ok (.iconst 2, 1) := by decide +kernel
theorem dL_four_18 : decode cL_four 18 = .ok (.iadd, 1) := by decide +kernel
theorem dL_four_19 : decode cL_four 19 = .ok (.iaload, 1) := by decide +kernel
theorem dL_four_20 : decode cL_four 20 = .ok (.iadd, 1) := by decide +kernel
theorem dL_four_21 : decode cL_four 21 = .ok (.aload_n 0, 1) := by decide +kernel
theorem dL_four_22 : decode cL_four 22 = .ok (.iconst 4, 1) := by decide +kernel
theorem dL_four_23 : decode cL_four 23 = .ok (.iload_n 1, 1) := by decide +kernel
theorem dL_four_24 : decode cL_four 24 = .ok (.imul, 1) := by decide +kernel
theorem dL_four_25 : decode cL_four 25 = .ok (.iconst 3, 1) := by decide +kernel
theorem dL_four_26 : decode cL_four 26 = .ok (.iadd, 1) := by decide +kernel
theorem dL_four_27 : decode cL_four 27 = .ok (.iaload, 1) := by decide +kernel
theorem dL_four_28 : decode cL_four 28 = .ok (.iadd, 1) := by decide +kernel
theorem dL_four_29 : decode cL_four 29 = .ok (.ireturn, 1) := by decide +kernel
theorem dL_gets_0 : decode cL_gets 0 = .ok (.iload_n 1, 1) := by decide +kernel
theorem dL_gets_1 : decode cL_gets 1 = .ok (.iconst 2, 1) := by decide +kernel
theorem dL_gets_2 : decode cL_gets 2 = .ok (.idiv, 1) := by decide +kernel
theorem dL_gets_3 : decode cL_gets 3 = .ok (.iload_n 1, 1) := by decide +kernel
theorem dL_gets_4 : decode cL_gets 4 = .ok (.iconst 2, 1) := by decide +kernel
theorem dL_gets_5 : decode cL_gets 5 = .ok (.irem, 1) := by decide +kernel
theorem dL_gets_6 : decode cL_gets 6 = .ok (.iadd, 1) := by decide +kernel
theorem dL_gets_7 : decode cL_gets 7 = .ok (.istore 4, 2) := by decide +kernel
theorem dL_gets_9 : decode cL_gets 9 = .ok (.iload 4, 2) := by decide +kernel
theorem dL_gets_11 : decode cL_gets 11 = .ok (.aload_n 2, 1) := by decide +kernel
theorem dL_gets_12 : decode cL_gets 12 = .ok (.bipush 6, 2) := by decide +kernel
theorem dL_gets_14 : decode cL_gets 14 = .ok (.iload_n 0, 1) := by decide +kernel
theorem dL_gets_15 : decode cL_gets 15 = .ok (.imul, 1) := by decide +kernel
theorem dL_gets_16 : decode cL_gets 16 = .ok (.iconst 1, 1) := by decide +kernel
theorem dL_gets_17 : decode cL_gets 17 = .ok (.iadd, 1) := by decide +kernel
theorem dL_gets_18 : decode cL_gets 18 = .ok (.iaload, 1) := by decide +kernel
theorem dL_gets_19 : decode cL_gets 19 = .ok (.if_icmp .le 13, 3) := by decide +kernel
theorem dL_gets_22 : decode cL_gets 22 = .ok (.aload_n 2, 1) := by decide +kernel
theorem dL_gets_23 : decode cL_gets 23 = .ok (.bipush 6, 2) := by decide +kernel
theorem dL_gets_25 : decode cL_gets 25 = .ok (.iload_n 0, 1) := by decide +kernel
theorem dL_gets_26 : decode cL_gets 26 = .ok (.imul, 1) := by decide +kernel
theorem dL_gets_27 : decode cL_gets 27 = .ok (.iconst 1, 1) := by decide +kernel
theorem dL_gets_28 : decode cL_gets 28 = .ok (.iadd, 1) := by decide +kernel
theorem dL_gets_29 : decode cL_gets 29 = .ok (.iaload, 1) := by decide +kernel
theorem dL_gets_30 : decode cL_gets 30 = .ok (.istore 4, 2) := by decide +kernel
theorem dL_gets_32 : decode cL_gets 32 = .ok (.aload_n 2, 1) := by decide +kernel
theorem dL_gets_33 : decode cL_gets 33 = .ok (.bipush 6, 2) := by decide +kernel
theorem dL_gets_35 : decode cL_gets 35 = .ok (.iload_n 0, 1) := by decide +kernel
theorem dL_gets_36 : decode cL_gets 36 = .ok (.imul, 1) := by decide +kernel
theorem dL_gets_37 : decode cL_gets 37 = .ok (.iconst 1, 1) := by decide +kernel
theorem dL_gets_38 : decode cL_gets 38 = .ok (.iadd, 1) := by decide +kernel
theorem dL_gets_39 : decode cL_gets 39 = .ok (.dup2, 1) := by decide +kernel
theorem dL_gets_40 : decode cL_gets 40 = .ok (.iaload, 1) := by decide +kernel
theorem dL_gets_41 : decode cL_gets 41 = .ok (.iload 4, 2) := by decide +kernel
theorem dL_gets_43 : decode cL_gets 43 = .ok (.isub, 1) := by decide +kernel
theorem dL_gets_44 : decode cL_gets 44 = .ok (.iastore, 1) := by decide +kernel
theorem dL_gets_45 : decode cL_gets 45 = .ok (.aload_n 2, 1) := by decide +kernel
theorem dL_gets_46 : decode cL_gets 46 = .ok (.bipush 6, 2) := by decide +kernel
theorem dL_gets_48 : decode cL_gets 48 = .ok (.iload_n 0, 1) := by decide +kernel
theorem dL_gets_49 : decode cL_gets 49 = .ok (.imul, 1) := by decide +kernel
theorem dL_gets_50 : decode cL_gets 50 = .ok (.dup2, 1) := by decide +kernel
theorem dL_gets_51 : decode cL_gets 51 = .ok (.iaload, 1) := by decide +kernel
theorem dL_gets_52 : decode cL_gets 52 = .ok (.iload_n 1, 1) := by decide +kernel
theorem dL_gets_53 : decode cL_gets 53 = .ok (.iload 4, 2) := by decide +kernel
theorem dL_gets_55 : decode cL_gets 55 = .ok (.isub, 1) := by decide +kernel
theorem dL_gets_56 : decode cL_gets 56 = .ok (.iadd, 1) := by decide +kernel
theorem dL_gets_57 : decode cL_gets 57 = .ok (.iastore, 1) := by decide +kernel
theorem dL_gets_58 : decode cL_gets 58 = .ok (.aload_n 2, 1) := by decide +kernel
theorem dL_gets_59 : decode cL_gets 59 = .ok (.bipush 6, 2) := by decide +kernel
theorem dL_gets_61 : decode cL_gets 61 = .ok (.iload_n 0, 1) := by decide +kernel
theorem dL_gets_62 : decode cL_gets 62 = .ok (.imul, 1) := by decide +kernel
theorem dL_gets_63 : decode cL_gets 63 = .ok (.iconst 2, 1) := by decide +kernel
theorem dL_gets_64 : decode cL_gets 64 = .ok (.iadd, 1) := by decide +kernel
theorem dL_gets_65 : decode cL_gets 65 = .ok (.dup2, 1) := by decide +kernel
theorem dL_gets_66 : decode cL_gets 66 = .ok (.iaload, 1) := by decide +kernel
theorem dL_gets_67 : decode cL_gets 67 = .ok (.iload_n 1, 1) := by decide +kernel
theorem dL_gets_68 : decode cL_gets 68 = .ok (.iadd, 1) := by decide +kernel
theorem dL_gets_69 : decode cL_gets 69 = .ok (.iastore, 1) := by decide +kernel
theorem dL_gets_70 : decode cL_gets 70 = .ok (.aload_n 3, 1) := by decide +kernel
theorem dL_gets_71 : decode cL_gets 71 = .ok (.iconst 3, 1) := by decide +kernel
theorem dL_gets_72 : decode cL_gets 72 = .ok (.dup2, 1) := by decide +kernel
theorem dL_gets_73 : decode cL_gets 73 = .ok (.iaload, 1) := by decide +kernel
theorem dL_gets_74 : decode cL_gets 74 = .ok (.iload 4, 2) := by decide +kernel
theorem dL_gets_76 : decode cL_gets 76 = .ok (.iadd, 1) := by decide +kernel
theorem dL_gets_77 : decode cL_gets 77 = .ok (.iastore, 1) := by decide +kernel
theorem dL_gets_78 : decode cL_gets 78 = .ok (.iload 4, 2) := by decide +kernel
theorem dL_gets_80 : decode cL_gets 80 = .ok (.ireturn, 1) := by decide +kernel
theorem dL_share_0 : decode cL_share 0 = .ok (.aload_n 3, 1) := by decide +kernel
theorem dL_share_1 : decode cL_share 1 = .ok (.iload_n 0, 1) := by decide +kernel
theorem dL_share_2 : decode cL_share 2 = .ok (.invokestatic 8, 3) := by decide +kernel
theorem dL_share_5 : decode cL_share 5 = .ok (.istore 4, 2) := by decide +kernel
theorem dL_share_7 : decode cL_share 7 = .ok (.iload_n 2, 1) := by decide +kernel
theorem dL_share_8 : decode cL_share 8 = .ok (.istore 5, 2) := by decide +kernel
theorem dL_share_10 : decode cL_share 10 = .ok (.iconst 0, 1) := by decide +kernel
theorem dL_share_11 : decode cL_share 11 = .ok (.istore 6, 2) := by decide +kernel
theorem dL_share_13 : decode cL_share 13 = .ok (.iload_n 2, 1) := by decide +kernel
theorem dL_share_14 : decode cL_share 14 = .ok (.aload_n 3, 1) := by decide +kernel
theorem dL_share_15 : decode cL_share 15 = .ok (.iconst 4, 1) := by decide +kernel
theorem dL_share_16 : decode cL_share 16 = .ok (.iload_n 0, 1) := by decide +kernel
theorem dL_share_17 : decode cL_share 17 = .ok (.imul, 1) := by decide +kernel
theorem dL_share_18 : decode cL_share 18 = .ok (.iload_n 1, 1) := by decide +kernel
theorem dL_share_19 : decode cL_share 19 = .ok (.iadd, 1) := by decide +kernel
theorem dL_share_20 : decode cL_share 20 = .ok (.iaload, 1) := by decide +kernel
theorem dL_share_21 : decode cL_share 21 = .ok (.imul, 1) := by decide +kernel
theorem dL_share_22 : decode cL_share 22 = .ok (.iload 4, 2) := by decide +kernel
theorem dL_share_24 : decode cL_share 24 = .ok (.irem, 1) := by decide +kernel
theorem dL_share_25 : decode cL_share 25 = .ok (.istore 7, 2) := by decide +kernel
theorem dL_share_27 : decode cL_share 27 = .ok (.iconst 0, 1) := by decide +kernel
theorem dL_share_28 : decode cL_share 28 = .ok (.istore 8, 2) := by decide +kernel
theorem dL_share_30 : decode cL_share 30 = .ok (.iload 8, 2) := by decide +kernel
theorem dL_share_32 : decode cL_share 32 = .ok (.iconst 4, 1) := by decide +kernel
theorem dL_share_33 : decode cL_share 33 = .ok (.if_icmp .ge 76, 3) := by decide +kernel
theorem dL_share_36 : decode cL_share 36 = .ok (.iload_n 2, 1) := by decide +kernel
theorem dL_share_37 : decode cL_share 37 = .ok (.aload_n 3, 1) := by decide +kernel
theorem dL_share_38 : decode cL_share 38 = .ok (.iconst 4, 1) := by decide +kernel
theorem dL_share_39 : decode cL_share 39 = .ok (.iload_n 0, 1) := by decide +kernel
theorem dL_share_40 : decode cL_share 40 = .ok (.imul, 1) := by decide +kernel
theorem dL_share_41 : decode cL_share 41 = .ok (.iload 8, 2) := by decide +kernel
theorem dL_share_43 : decode cL_share 43 = .ok (.iadd, 1) := by decide +kernel
theorem dL_share_44 : decode cL_share 44 = .ok (.iaload, 1) := by decide +kernel
theorem dL_share_45 : decode cL_share 45 = .ok (.imul, 1) := by decide +kernel
theorem dL_share_46 : decode cL_share 46 = .ok (.iload 4, 2) := by decide +kernel
theorem dL_share_48 : decode cL_share 48 = .ok (.irem, 1) := by decide +kernel
theorem dL_share_49 : decode cL_share 49 = .ok (.istore 9, 2) := by decide +kernel
theorem dL_share_51 : decode cL_share 51 = .ok (.iload 5, 2) := by decide +kernel
theorem dL_share_53 : decode cL_share 53 = .ok (.iload_n 2, 1) := by decide +kernel
theorem dL_share_54 : decode cL_share 54 = .ok (.aload_n 3, 1) := by decide +kernel
theorem dL_share_55 : decode cL_share 55 = .ok (.iconst 4, 1) := by decide +kernel
theorem dL_share_56 : decode cL_share 56 = .ok (.iload_n 0, 1) := by decide +kernel
theorem dL_share_57 : decode cL_share 57 = .ok (.imul, 1) := by decide +kernel
theorem dL_share_58 : decode cL_share 58 = .ok (.iload 8, 2) := by decide +kernel
theorem dL_share_60 : decode cL_share 60 = .ok (.iadd, 1) := by decide +kernel
theorem dL_share_61 : decode cL_share 61 = .ok (.iaload, 1) := by decide +kernel
theorem dL_share_62 : decode cL_share 62 = .ok (.imul, 1) := by decide +kernel
theorem dL_share_63 : decode cL_share 63 = .ok (.iload 4, 2) := by decide +kernel
theorem dL_share_65 : decode cL_share 65 = .ok (.idiv, 1) := by decide +kernel
theorem dL_share_66 : decode cL_share 66 = .ok (.isub, 1) := by decide +kernel
theorem dL_share_67 : decode cL_share 67 = .ok (.istore 5, 2) := by decide +kernel
theorem dL_share_69 : decode cL_share 69 = .ok (.aload_n 3, 1) := by decide +kernel
theorem dL_share_70 : decode cL_share 70 = .ok (.iconst 4, 1) := by decide +kernel
theorem dL_share_71 : decode cL_share 71 = .ok (.iload_n 0, 1) := by decide +kernel
theorem dL_share_72 : decode cL_share 72 = .ok (.imul, 1) := by decide +kernel
theorem dL_share_73 : decode cL_share 73 = .ok (.iload 8, 2) := by decide +kernel
theorem dL_share_75 : decode cL_share 75 = .ok (.iadd, 1) := by decide +kernel
theorem dL_share_76 : decode cL_share 76 = .ok (.iaload, 1) := by decide +kernel
theorem dL_share_77 : decode cL_share 77 = .ok (.ifCond .le 26, 3) := by decide +kernel
theorem dL_share_80 : decode cL_share 80 = .ok (.iload 9, 2) := by decide +kernel
theorem dL_share_82 : decode cL_share 82 = .ok (.iload 7, 2) := by decide +kernel
theorem dL_share_84 : decode cL_share 84 = .ok (.if_icmp .gt 16, 3) := by decide +kernel
theorem dL_share_87 : decode cL_share 87 = .ok (.iload 9, 2) := by decide +kernel
theorem dL_share_89 : decode cL_share 89 = .ok (.iload 7, 2) := by decide +kernel
theorem dL_share_91 : decode cL_share 91 = .ok (.if_icmp .ne 12, 3) := by decide +kernel
theorem dL_share_94 : decode cL_share 94 = .ok (.iload 8, 2) := by decide +kernel
theorem dL_share_96 : decode cL_share 96 = .ok (.iload_n 1, 1) := by decide +kernel
theorem dL_share_97 : decode cL_share 97 = .ok (.if_icmp .ge 6, 3) := by decide +kernel
theorem dL_share_100 : decode cL_share 100 = .ok (.iinc 6 1, 3) := by decide +kernel
theorem dL_share_103 : decode cL_share 103 = .ok (.iinc 8 1, 3) := by decide +kernel
theorem dL_share_106 : decode cL_share 106 = .ok (.goto (-76), 3) := by decide +kernel
theorem dL_share_109 : decode cL_share 109 = .ok (.aload_n 3, 1) := by decide +kernel
theorem dL_share_110 : decode cL_share 110 = .ok (.iconst 4, 1) := by decide +kernel
theorem dL_share_111 : decode cL_share 111 = .ok (.iload_n 0, 1) := by decide +kernel
theorem dL_share_112 : decode cL_share 112 = .ok (.imul, 1) := by decide +kernel
theorem dL_share_113 : decode cL_share 113 = .ok (.iload_n 1, 1) := by decide +kernel
theorem dL_share_114 : decode cL_share 114 = .ok (.iadd, 1) := by decide +kernel
theorem dL_share_115 : decode cL_share 115 = .ok (.iaload, 1) := by decide +kernel
theorem dL_share_116 : decode cL_share 116 = .ok (.ifCond .ne 7, 3) := by decide +kernel
theorem dL_share_119 : decode cL_share 119 = .ok (.iconst 0, 1) := by decide +kernel
theorem dL_share_120 : decode cL_share 120 = .ok (.goto 28, 3) := by decide +kernel
theorem dL_share_123 : decode cL_share 123 = .ok (.iload_n 2, 1) := by decide +kernel
theorem dL_share_124 : decode cL_share 124 = .ok (.aload_n 3, 1) := by decide +kernel
theorem dL_share_125 : decode cL_share 125 = .ok (.iconst 4, 1) := by decide +kernel
theorem dL_share_126 : decode cL_share 126 = .ok (.iload_n 0, 1) := by decide +kernel
theorem dL_share_127 : decode cL_share 127 = .ok (.imul, 1) := by decide +kernel
theorem dL_share_128 : decode cL_share 128 = .ok (.iload_n 1, 1) := by decide +kernel
theorem dL_share_129 : decode cL_share 129 = .ok (.iadd, 1) := by decide +kernel
theorem dL_share_130 : decode cL_share 130 = .ok (.iaload, 1) := by decide +kernel
theorem dL_share_131 : decode cL_share 131 = .ok (.imul, 1) := by decide +kernel
theorem dL_share_132 : decode cL_share 132 = .ok (.iload 4, 2) := by decide +kernel
theorem dL_share_134 : decode cL_share 134 = .ok (.idiv, 1) := by decide +kernel
theorem dL_share_135 : decode cL_share 135 = .ok (.iload 6, 2) := by decide +kernel
theorem dL_share_137 : decode cL_share 137 = .ok (.iload 5, 2) := by decide +kernel
theorem dL_share_139 : decode cL_share 139 = .ok (.if_icmp .ge 7, 3) := by decide +kernel
theorem dL_share_142 : decode cL_share 142 = .ok (.iconst 1, 1) := by decide +kernel
theorem dL_share_143 : decode cL_share 143 = .ok (.goto 4, 3) := by decide +kernel
theorem dL_share_146 : decode cL_share 146 = .ok (.iconst 0, 1) := by decide +kernel
theorem dL_share_147 : decode cL_share 147 = .ok (.iadd, 1) := by decide +kernel
theorem dL_share_148 : decode cL_share 148 = .ok (.ireturn, 1) := by decide +kernel
theorem dL_comes_0 : decode cL_comes 0 = .ok (.iload_n 1, 1) := by decide +kernel
theorem dL_comes_1 : decode cL_comes 1 = .ok (.aload 7, 2) := by decide +kernel
theorem dL_comes_3 : decode cL_comes 3 = .ok (.iconst 0, 1) := by decide +kernel
theorem dL_comes_4 : decode cL_comes 4 = .ok (.iaload, 1) := by decide +kernel
theorem dL_comes_5 : decode cL_comes 5 = .ok (.imul, 1) := by decide +kernel
theorem dL_comes_6 : decode cL_comes 6 = .ok (.bipush 100, 2) := by decide +kernel
theorem dL_comes_8 : decode cL_comes 8 = .ok (.idiv, 1) := by decide +kernel
theorem dL_comes_9 : decode cL_comes 9 = .ok (.istore 9, 2) := by decide +kernel
theorem dL_comes_11 : decode cL_comes 11 = .ok (.iload_n 2, 1) := by decide +kernel
theorem dL_comes_12 : decode cL_comes 12 = .ok (.ifCond .eq 15, 3) := by decide +kernel
theorem dL_comes_15 : decode cL_comes 15 = .ok (.iload_n 1, 1) := by decide +kernel
theorem dL_comes_16 : decode cL_comes 16 = .ok (.aload 7, 2) := by decide +kernel
theorem dL_comes_18 : decode cL_comes 18 = .ok (.iconst 1, 1) := by decide +kernel
theorem dL_comes_19 : decode cL_comes 19 = .ok (.iaload, 1) := by decide +kernel
theorem dL_comes_20 : decode cL_comes 20 = .ok (.imul, 1) := by decide +kernel
theorem dL_comes_21 : decode cL_comes 21 = .ok (.bipush 100, 2) := by decide +kernel
theorem dL_comes_23 : decode cL_comes 23 = .ok (.idiv, 1) := by decide +kernel
theorem dL_comes_24 : decode cL_comes 24 = .ok (.goto 4, 3) := by decide +kernel
theorem dL_comes_27 : decode cL_comes 27 = .ok (.iconst 0, 1) := by decide +kernel
theorem dL_comes_28 : decode cL_comes 28 = .ok (.istore 10, 2) := by decide +kernel
theorem dL_comes_30 : decode cL_comes 30 = .ok (.iload 9, 2) := by decide +kernel
theorem dL_comes_32 : decode cL_comes 32 = .ok (.istore 11, 2) := by decide +kernel
theorem dL_comes_34 : decode cL_comes 34 = .ok (.aload 8, 2) := by decide +kernel
theorem dL_comes_36 : decode cL_comes 36 = .ok (.iconst 4, 1) := by decide +kernel
theorem dL_comes_37 : decode cL_comes 37 = .ok (.dup2, 1) := by decide +kernel
theorem dL_comes_38 : decode cL_comes 38 = .ok (.iaload, 1) := by decide +kernel
theorem dL_comes_39 : decode cL_comes 39 = .ok (.iload_n 1, 1) := by decide +kernel
theorem dL_comes_40 : decode cL_comes 40 = .ok (.iadd, 1) := by decide +kernel
theorem dL_comes_41 : decode cL_comes 41 = .ok (.iastore, 1) := by decide +kernel
theorem dL_comes_42 : decode cL_comes 42 = .ok (.aload 8, 2) := by decide +kernel
theorem dL_comes_44 : decode cL_comes 44 = .ok (.iconst 3, 1) := by decide +kernel
theorem dL_comes_45 : decode cL_comes 45 = .ok (.dup2, 1) := by decide +kernel
theorem dL_comes_46 : decode cL_comes 46 = .ok (.iaload, 1) := by decide +kernel
theorem dL_comes_47 : decode cL_comes 47 = .ok (.iload 9, 2) := by decide +kernel
theorem dL_comes_49 : decode cL_comes 49 = .ok (.iadd, 1) := by decide +kernel
theorem dL_comes_50 : decode cL_comes 50 = .ok (.iastore, 1) := by decide +kernel
theorem dL_comes_51 : decode cL_comes 51 = .ok (.iload_n 2, 1) := by decide +kernel
theorem dL_comes_52 : decode cL_comes 52 = .ok (.ifCond .eq 41, 3) := by decide +kernel
theorem dL_comes_55 : decode cL_comes 55 = .ok (.aload 4, 2) := by decide +kernel
theorem dL_comes_57 : decode cL_comes 57 = .ok (.iconst 5, 1) := by decide +kernel
theorem dL_comes_58 : decode cL_comes 58 = .ok (.iload_n 0, 1) := by decide +kernel
theorem dL_comes_59 : decode cL_comes 59 = .ok (.imul, 1) := by decide +kernel
theorem dL_comes_60 : decode cL_comes 60 = .ok (.iconst 4, 1) := by decide +kernel
theorem dL_comes_61 : decode cL_comes 61 = .ok (.iadd, 1) := by decide +kernel
theorem dL_comes_62 : decode cL_comes 62 = .ok (.dup2, 1) := by decide +kernel
theorem dL_comes_63 : decode cL_comes 63 = .ok (.iaload, 1) := by decide +kernel
theorem dL_comes_64 : decode cL_comes 64 = .ok (.iload_n 1, 1) := by decide +kernel
theorem dL_comes_65 : decode cL_comes 65 = .ok (.iadd, 1) := by decide +kernel
theorem dL_comes_66 : decode cL_comes 66 = .ok (.iastore, 1) := by decide +kernel
theorem dL_comes_67 : decode cL_comes 67 = .ok (.iload 11, 2) := by decide +kernel
theorem dL_comes_69 : decode cL_comes 69 = .ok (.aload_n 3, 1) := by decide +kernel
theorem dL_comes_70 : decode cL_comes 70 = .ok (.bipush 6, 2) := by decide +kernel
theorem dL_comes_72 : decode cL_comes 72 = .ok (.aload 4, 2) := by decide +kernel
theorem dL_comes_74 : decode cL_comes 74 = .ok (.iconst 5, 1) := by decide +kernel
theorem dL_comes_75 : decode cL_comes 75 = .ok (.iload_n 0, 1) := by decide +kernel
theorem dL_comes_76 : decode cL_comes 76 = .ok (.imul, 1) := by decide +kernel
theorem dL_comes_77 : decode cL_comes 77 = .ok (.iaload, 1) := by decide +kernel
theorem dL_comes_78 : decode cL_comes 78 = .ok (.imul, 1) := by decide +kernel
theorem dL_comes_79 : decode cL_comes 79 = .ok (.iconst 3, 1) := by decide +kernel
theorem dL_comes_80 : decode cL_comes 80 = .ok (.iadd, 1) := by decide +kernel
theorem dL_comes_81 : decode cL_comes 81 = .ok (.iaload, 1) := by decide +kernel
theorem dL_comes_82 : decode cL_comes 82 = .ok (.iload 10, 2) := by decide +kernel
theorem dL_comes_84 : decode cL_comes 84 = .ok (.aload_n 3, 1) := by decide +kernel
theorem dL_comes_85 : decode cL_comes 85 = .ok (.aload 8, 2) := by decide +kernel
theorem dL_comes_87 : decode cL_comes 87 = .ok (.invokestatic 14, 3) := by decide +kernel
theorem dL_comes_90 : decode cL_comes 90 = .ok (.iadd, 1) := by decide +kernel
theorem dL_comes_91 : decode cL_comes 91 = .ok (.istore 11, 2) := by decide +kernel
theorem dL_comes_93 : decode cL_comes 93 = .ok (.iconst 0, 1) := by decide +kernel
theorem dL_comes_94 : decode cL_comes 94 = .ok (.istore 12, 2) := by decide +kernel
theorem dL_comes_96 : decode cL_comes 96 = .ok (.iload 12, 2) := by decide +kernel
theorem dL_comes_98 : decode cL_comes 98 = .ok (.aload 8, 2) := by decide +kernel
theorem dL_comes_100 : decode cL_comes 100 = .ok (.iconst 0, 1) := by decide +kernel
theorem dL_comes_101 : decode cL_comes 101 = .ok (.iaload, 1) := by decide +kernel
theorem dL_comes_102 : decode cL_comes 102 = .ok (.if_icmp .ge 140, 3) := by decide +kernel
theorem dL_comes_105 : decode cL_comes 105 = .ok (.iload_n 0, 1) := by decide +kernel
theorem dL_comes_106 : decode cL_comes 106 = .ok (.iload 12, 2) := by decide +kernel
theorem dL_comes_108 : decode cL_comes 108 = .ok (.iload_n 1, 1) := by decide +kernel
theorem dL_comes_109 : decode cL_comes 109 = .ok (.iload 9, 2) := by decide +kernel
theorem dL_comes_111 : decode cL_comes 111 = .ok (.isub, 1) := by decide +kernel
theorem dL_comes_112 : decode cL_comes 112 = .ok (.iload 10, 2) := by decide +kernel
theorem dL_comes_114 : decode cL_comes 114 = .ok (.isub, 1) := by decide +kernel
theorem dL_comes_115 : decode cL_comes 115 = .ok (.aload 5, 2) := by decide +kernel
theorem dL_comes_117 : decode cL_comes 117 = .ok (.invokestatic 18, 3) := by decide +kernel
theorem dL_comes_120 : decode cL_comes 120 = .ok (.istore 13, 2) := by decide +kernel
theorem dL_comes_122 : decode cL_comes 122 = .ok (.iload_n 2, 1) := by decide +kernel
theorem dL_comes_123 : decode cL_comes 123 = .ok (.ifCond .eq 80, 3) := by decide +kernel
theorem dL_comes_126 : decode cL_comes 126 = .ok (.aload 7, 2) := by decide +kernel
theorem dL_comes_128 : decode cL_comes 128 = .ok (.iconst 2, 1) := by decide +kernel
theorem dL_comes_129 : decode cL_comes 129 = .ok (.iaload, 1) := by decide +kernel
theorem dL_comes_130 : decode cL_comes 130 = .ok (.ifCond .le 73, 3) := by decide +kernel
theorem dL_comes_133 : decode cL_comes 133 = .ok (.aload 7, 2) := by decide +kernel
theorem dL_comes_135 : decode cL_comes 135 = .ok (.iconst 2, 1) := by decide +kernel
theorem dL_comes_136 : decode cL_comes 136 = .ok (.iaload, 1) := by decide +kernel
theorem dL_comes_137 : decode cL_comes 137 = .ok (.aload 6, 2) := by decide +kernel
theorem dL_comes_139 : decode cL_comes 139 = .ok (.iconst 4, 1) := by decide +kernel
theorem dL_comes_140 : decode cL_comes 140 = .ok (.iload_n 0, 1) := by decide +kernel
theorem dL_comes_141 : decode cL_comes 141 = .ok (.imul, 1) := by decide +kernel
theorem dL_comes_142 : decode cL_comes 142 = .ok (.iload 12, 2) := by decide +kernel
theorem dL_comes_144 : decode cL_comes 144 = .ok (.iadd, 1) := by decide +kernel
theorem dL_comes_145 : decode cL_comes 145 = .ok (.iaload, 1) := by decide +kernel
theorem dL_comes_146 : decode cL_comes 146 = .ok (.isub, 1) := by decide +kernel
theorem dL_comes_147 : decode cL_comes 147 = .ok (.istore 14, 2) := by decide +kernel
theorem dL_comes_149 : decode cL_comes 149 = .ok (.iload 13, 2) := by decide +kernel
theorem dL_comes_151 : decode cL_comes 151 = .ok (.iload 14, 2) := by decide +kernel
theorem dL_comes_153 : decode cL_comes 153 = .ok (.ifCond .ge 7, 3) := by decide +kernel
theorem dL_comes_156 : decode cL_comes 156 = .ok (.iconst 0, 1) := by decide +kernel
theorem dL_comes_157 : decode cL_comes 157 = .ok (.goto 5, 3) := by decide +kernel
theorem dL_comes_160 : decode cL_comes 160 = .ok (.iload 14, 2) := by decide +kernel
theorem dL_comes_162 : decode cL_comes 162 = .ok (.isub, 1) := by decide +kernel
theorem dL_comes_163 : decode cL_comes 163 = .ok (.istore 15, 2) := by decide +kernel
theorem dL_comes_165 : decode cL_comes 165 = .ok (.iload 15, 2) := by decide +kernel
theorem dL_comes_167 : decode cL_comes 167 = .ok (.ifCond .le 36, 3) := by decide +kernel
theorem dL_comes_170 : decode cL_comes 170 = .ok (.iload 13, 2) := by decide +kernel
theorem dL_comes_172 : decode cL_comes 172 = .ok (.iload 15, 2) := by decide +kernel
theorem dL_comes_174 : decode cL_comes 174 = .ok (.isub, 1) := by decide +kernel
theorem dL_comes_175 : decode cL_comes 175 = .ok (.istore 13, 2) := by decide +kernel
theorem dL_comes_177 : decode cL_comes 177 = .ok (.iload 11, 2) := by decide +kernel
theorem dL_comes_179 : decode cL_comes 179 = .ok (.iload 15, 2) := by decide +kernel
theorem dL_comes_181 : decode cL_comes 181 = .ok (.iadd, 1) := by decide +kernel
theorem dL_comes_182 : decode cL_comes 182 = .ok (.istore 11, 2) := by decide +kernel
theorem dL_comes_184 : decode cL_comes 184 = .ok (.aload 8, 2) := by decide +kernel
theorem dL_comes_186 : decode cL_comes 186 = .ok (.iconst 3, 1) := by decide +kernel
theorem dL_comes_187 : decode cL_comes 187 = .ok (.dup2, 1) := by decide +kernel
theorem dL_comes_188 : decode cL_comes 188 = .ok (.iaload, 1) := by decide +kernel
theorem dL_comes_189 : decode cL_comes 189 = .ok (.iload 15, 2) := by decide +kernel
theorem dL_comes_191 : decode cL_comes 191 = .ok (.iadd, 1) := by decide +kernel
theorem dL_comes_192 : decode cL_comes 192 = .ok (.iastore, 1) := by decide +kernel
theorem dL_comes_193 : decode cL_comes 193 = .ok (.aload 8, 2) := by decide +kernel
theorem dL_comes_195 : decode cL_comes 195 = .ok (.bipush 7, 2) := by decide +kernel
theorem dL_comes_197 : decode cL_comes 197 = .ok (.dup2, 1) := by decide +kernel
theorem dL_comes_198 : decode cL_comes 198 = .ok (.iaload, 1) := by decide +kernel
theorem dL_comes_199 : decode cL_comes 199 = .ok (.iload 15, 2) := by decide +kernel
theorem dL_comes_201 : decode cL_comes 201 = .ok (.iadd, 1) := by decide +kernel
theorem dL_comes_202 : decode cL_comes 202 = .ok (.iastore, 1) := by decide +kernel
theorem dL_comes_203 : decode cL_comes 203 = .ok (.iload_n 2, 1) := by decide +kernel
theorem dL_comes_204 : decode cL_comes 204 = .ok (.ifCond .eq 17, 3) := by decide +kernel
theorem dL_comes_207 : decode cL_comes 207 = .ok (.aload 6, 2) := by decide +kernel
theorem dL_comes_209 : decode cL_comes 209 = .ok (.iconst 4, 1) := by decide +kernel
theorem dL_comes_210 : decode cL_comes 210 = .ok (.iload_n 0, 1) := by decide +kernel
theorem dL_comes_211 : decode cL_comes 211 = .ok (.imul, 1) := by decide +kernel
theorem dL_comes_212 : decode cL_comes 212 = .ok (.iload 12, 2) := by decide +kernel
theorem dL_comes_214 : decode cL_comes 214 = .ok (.iadd, 1) := by decide +kernel
theorem dL_comes_215 : decode cL_comes 215 = .ok (.dup2, 1) := by decide +kernel
theorem dL_comes_216 : decode cL_comes 216 = .ok (.iaload, 1) := by decide +kernel
theorem dL_comes_217 : decode cL_comes 217 = .ok (.iload 13, 2) := by decide +kernel
theorem dL_comes_219 : decode cL_comes 219 = .ok (.iadd, 1) := by decide +kernel
theorem dL_comes_220 : decode cL_comes 220 = .ok (.iastore, 1) := by decide +kernel
theorem dL_comes_221 : decode cL_comes 221 = .ok (.iload 11, 2) := by decide +kernel
theorem dL_comes_223 : decode cL_comes 223 = .ok (.iload 12, 2) := by decide +kernel
theorem dL_comes_225 : decode cL_comes 225 = .ok (.iload 13, 2) := by decide +kernel
theorem dL_comes_227 : decode cL_comes 227 = .ok (.aload_n 3, 1) := by decide +kernel
theorem dL_comes_228 : decode cL_comes 228 = .ok (.aload 8, 2) := by decide +kernel
theorem dL_comes_230 : decode cL_comes 230 = .ok (.invokestatic 14, 3) := by decide +kernel
theorem dL_comes_233 : decode cL_comes 233 = .ok (.iadd, 1) := by decide +kernel
theorem dL_comes_234 : decode cL_comes 234 = .ok (.istore 11, 2) := by decide +kernel
theorem dL_comes_236 : decode cL_comes 236 = .ok (.iinc 12 1, 3) := by decide +kernel
theorem dL_comes_239 : decode cL_comes 239 = .ok (.goto (-143), 3) := by decide +kernel
theorem dL_comes_242 : decode cL_comes 242 = .ok (.iload 11, 2) := by decide +kernel
theorem dL_comes_244 : decode cL_comes 244 = .ok (.ireturn, 1) := by decide +kernel
theorem dL_kill_0 : decode cL_kill 0 = .ok (.aload_n 1, 1) := by decide +kernel
theorem dL_kill_1 : decode cL_kill 1 = .ok (.iconst 5, 1) := by decide +kernel
theorem dL_kill_2 : decode cL_kill 2 = .ok (.iload_n 0, 1) := by decide +kernel
theorem dL_kill_3 : decode cL_kill 3 = .ok (.imul, 1) := by decide +kernel
theorem dL_kill_4 : decode cL_kill 4 = .ok (.iconst 2, 1) := by decide +kernel
theorem dL_kill_5 : decode cL_kill 5 = .ok (.iadd, 1) := by decide +kernel
theorem dL_kill_6 : decode cL_kill 6 = .ok (.iaload, 1) := by decide +kernel
theorem dL_kill_7 : decode cL_kill 7 = .ok (.iconst 2, 1) := by decide +kernel
theorem dL_kill_8 : decode cL_kill 8 = .ok (.if_icmp .le 7, 3) := by decide +kernel
theorem dL_kill_11 : decode cL_kill 11 = .ok (.iconst 0, 1) := by decide +kernel
theorem dL_kill_12 : decode cL_kill 12 = .ok (.goto 25, 3) := by decide +kernel
theorem dL_kill_15 : decode cL_kill 15 = .ok (.aload_n 1, 1) := by decide +kernel
theorem dL_kill_16 : decode cL_kill 16 = .ok (.iconst 5, 1) := by decide +kernel
theorem dL_kill_17 : decode cL_kill 17 = .ok (.iload_n 0, 1) := by decide +kernel
theorem dL_kill_18 : decode cL_kill 18 = .ok (.imul, 1) := by decide +kernel
theorem dL_kill_19 : decode cL_kill 19 = .ok (.iconst 1, 1) := by decide +kernel
theorem dL_kill_20 : decode cL_kill 20 = .ok (.iadd, 1) := by decide +kernel
theorem dL_kill_21 : decode cL_kill 21 = .ok (.iaload, 1) := by decide +kernel
theorem dL_kill_22 : decode cL_kill 22 = .ok (.aload_n 2, 1) := by decide +kernel
theorem dL_kill_23 : decode cL_kill 23 = .ok (.iconst 3, 1) := by decide +kernel
theorem dL_kill_24 : decode cL_kill 24 = .ok (.aload_n 1, 1) := by decide +kernel
theorem dL_kill_25 : decode cL_kill 25 = .ok (.iconst 5, 1) := by decide +kernel
theorem dL_kill_26 : decode cL_kill 26 = .ok (.iload_n 0, 1) := by decide +kernel
theorem dL_kill_27 : decode cL_kill 27 = .ok (.imul, 1) := by decide +kernel
theorem dL_kill_28 : decode cL_kill 28 = .ok (.iconst 2, 1) := by decide +kernel
theorem dL_kill_29 : decode cL_kill 29 = .ok (.iadd, 1) := by decide +kernel
theorem dL_kill_30 : decode cL_kill 30 = .ok (.iaload, 1) := by decide +kernel
theorem dL_kill_31 : decode cL_kill 31 = .ok (.iadd, 1) := by decide +kernel
theorem dL_kill_32 : decode cL_kill 32 = .ok (.iaload, 1) := by decide +kernel
theorem dL_kill_33 : decode cL_kill 33 = .ok (.imul, 1) := by decide +kernel
theorem dL_kill_34 : decode cL_kill 34 = .ok (.bipush 100, 2) := by decide +kernel
theorem dL_kill_36 : decode cL_kill 36 = .ok (.idiv, 1) := by decide +kernel
theorem dL_kill_37 : decode cL_kill 37 = .ok (.ireturn, 1) := by decide +kernel
theorem dL_quarrels_0 : decode cL_quarrels 0 = .ok (.aload_n 2, 1) := by decide +kernel
theorem dL_quarrels_1 : decode cL_quarrels 1 = .ok (.iconst 5, 1) := by decide +kernel
theorem dL_quarrels_2 : decode cL_quarrels 2 = .ok (.iload_n 0, 1) := by decide +kernel
theorem dL_quarrels_3 : decode cL_quarrels 3 = .ok (.imul, 1) := by decide +kernel
theorem dL_quarrels_4 : decode cL_quarrels 4 = .ok (.iconst 2, 1) := by decide +kernel
theorem dL_quarrels_5 : decode cL_quarrels 5 = .ok (.iadd, 1) := by decide +kernel
theorem dL_quarrels_6 : decode cL_quarrels 6 = .ok (.iaload, 1) := by decide +kernel
theorem dL_quarrels_7 : decode cL_quarrels 7 = .ok (.iconst 4, 1) := by decide +kernel
theorem dL_quarrels_8 : decode cL_quarrels 8 = .ok (.if_icmp .ge 38, 3) := by decide +kernel
theorem dL_quarrels_11 : decode cL_quarrels 11 = .ok (.aload 4, 2) := by decide +kernel
theorem dL_quarrels_13 : decode cL_quarrels 13 = .ok (.iconst 4, 1) := by decide +kernel
theorem dL_quarrels_14 : decode cL_quarrels 14 = .ok (.iload_n 0, 1) := by decide +kernel
theorem dL_quarrels_15 : decode cL_quarrels 15 = .ok (.imul, 1) := by decide +kernel
theorem dL_quarrels_16 : decode cL_quarrels 16 = .ok (.iload_n 1, 1) := by decide +kernel
theorem dL_quarrels_17 : decode cL_quarrels 17 = .ok (.iadd, 1) := by decide +kernel
theorem dL_quarrels_18 : decode cL_quarrels 18 = .ok (.iaload, 1) := by decide +kernel
theorem dL_quarrels_19 : decode cL_quarrels 19 = .ok (.aload_n 3, 1) := by decide +kernel
theorem dL_quarrels_20 : decode cL_quarrels 20 = .ok (.iload_n 0, 1) := by decide +kernel
theorem dL_quarrels_21 : decode cL_quarrels 21 = .ok (.invokestatic 8, 3) := by decide +kernel
theorem dL_quarrels_24 : decode cL_quarrels 24 = .ok (.imul, 1) := by decide +kernel
theorem dL_quarrels_25 : decode cL_quarrels 25 = .ok (.aload_n 3, 1) := by decide +kernel
theorem dL_quarrels_26 : decode cL_quarrels 26 = .ok (.iconst 4, 1) := by decide +kernel
theorem dL_quarrels_27 : decode cL_quarrels 27 = .ok (.iload_n 0, 1) := by decide +kernel
theorem dL_quarrels_28 : decode cL_quarrels 28 = .ok (.imul, 1) := by decide +kernel
theorem dL_quarrels_29 : decode cL_quarrels 29 = .ok (.iload_n 1, 1) := by decide +kernel
theorem dL_quarrels_30 : decode cL_quarrels 30 = .ok (.iadd, 1) := by decide +kernel
theorem dL_quarrels_31 : decode cL_quarrels 31 = .ok (.iaload, 1) := by decide +kernel
theorem dL_quarrels_32 : decode cL_quarrels 32 = .ok (.aload 4, 2) := by decide +kernel
theorem dL_quarrels_34 : decode cL_quarrels 34 = .ok (.iload_n 0, 1) := by decide +kernel
theorem dL_quarrels_35 : decode cL_quarrels 35 = .ok (.invokestatic 8, 3) := by decide +kernel
theorem dL_quarrels_38 : decode cL_quarrels 38 = .ok (.imul, 1) := by decide +kernel
theorem dL_quarrels_39 : decode cL_quarrels 39 = .ok (.if_icmp .ge 7, 3) := by decide +kernel
theorem dL_quarrels_42 : decode cL_quarrels 42 = .ok (.iconst 1, 1) := by decide +kernel
theorem dL_quarrels_43 : decode cL_quarrels 43 = .ok (.goto 4, 3) := by decide +kernel
theorem dL_quarrels_46 : decode cL_quarrels 46 = .ok (.iconst 0, 1) := by decide +kernel
theorem dL_quarrels_47 : decode cL_quarrels 47 = .ok (.ireturn, 1) := by decide +kernel
theorem dL_sum_0 : decode cL_sum 0 = .ok (.iconst 0, 1) := by decide +kernel
theorem dL_sum_1 : decode cL_sum 1 = .ok (.istore_n 3, 1) := by decide +kernel
theorem dL_sum_2 : decode cL_sum 2 = .ok (.iconst 0, 1) := by decide +kernel
theorem dL_sum_3 : decode cL_sum 3 = .ok (.istore 4, 2) := by decide +kernel
theorem dL_sum_5 : decode cL_sum 5 = .ok (.iload 4, 2) := by decide +kernel
theorem dL_sum_7 : decode cL_sum 7 = .ok (.aload_n 2, 1) := by decide +kernel
theorem dL_sum_8 : decode cL_sum 8 = .ok (.iconst 0, 1) := by decide +kernel
theorem dL_sum_9 : decode cL_sum 9 = .ok (.iaload, 1) := by decide +kernel
theorem dL_sum_10 : decode cL_sum 10 = .ok (.if_icmp .ge 48, 3) := by decide +kernel
theorem dL_sum_13 : decode cL_sum 13 = .ok (.iload_n 3, 1) := by decide +kernel
theorem dL_sum_14 : decode cL_sum 14 = .ok (.iload_n 0, 1) := by decide +kernel
theorem dL_sum_15 : decode cL_sum 15 = .ok (.iconst 3, 1) := by decide +kernel
theorem dL_sum_16 : decode cL_sum 16 = .ok (.if_icmp .ne 25, 3) := by decide +kernel
theorem dL_sum_19 : decode cL_sum 19 = .ok (.aload_n 1, 1) := by decide +kernel
theorem dL_sum_20 : decode cL_sum 20 = .ok (.bipush 6, 2) := by decide +kernel
theorem dL_sum_22 : decode cL_sum 22 = .ok (.iload 4, 2) := by decide +kernel
theorem dL_sum_24 : decode cL_sum 24 = .ok (.imul, 1) := by decide +kernel
theorem dL_sum_25 : decode cL_sum 25 = .ok (.iconst 3, 1) := by decide +kernel
theorem dL_sum_26 : decode cL_sum 26 = .ok (.iadd, 1) := by decide +kernel
theorem dL_sum_27 : decode cL_sum 27 = .ok (.iaload, 1) := by decide +kernel
theorem dL_sum_28 : decode cL_sum 28 = .ok (.iload 4, 2) := by decide +kernel
theorem dL_sum_30 : decode cL_sum 30 = .ok (.if_icmp .ne 7, 3) := by decide +kernel
theorem dL_sum_33 : decode cL_sum 33 = .ok (.iconst 0, 1) := by decide +kernel
theorem dL_sum_34 : decode cL_sum 34 = .ok (.goto 16, 3) := by decide +kernel
theorem dL_sum_37 : decode cL_sum 37 = .ok (.iconst 1, 1) := by decide +kernel
theorem dL_sum_38 : decode cL_sum 38 = .ok (.goto 12, 3) := by decide +kernel
theorem dL_sum_41 : decode cL_sum 41 = .ok (.aload_n 1, 1) := by decide +kernel
theorem dL_sum_42 : decode cL_sum 42 = .ok (.bipush 6, 2) := by decide +kernel
theorem dL_sum_44 : decode cL_sum 44 = .ok (.iload 4, 2) := by decide +kernel
theorem dL_sum_46 : decode cL_sum 46 = .ok (.imul, 1) := by decide +kernel
theorem dL_sum_47 : decode cL_sum 47 = .ok (.iload_n 0, 1) := by decide +kernel
theorem dL_sum_48 : decode cL_sum 48 = .ok (.iadd, 1) := by decide +kernel
theorem dL_sum_49 : decode cL_sum 49 = .ok (.iaload, 1) := by decide +kernel
theorem dL_sum_50 : decode cL_sum 50 = .ok (.iadd, 1) := by decide +kernel
theorem dL_sum_51 : decode cL_sum 51 = .ok (.istore_n 3, 1) := by decide +kernel
theorem dL_sum_52 : decode cL_sum 52 = .ok (.iinc 4 1, 3) := by decide +kernel
theorem dL_sum_55 : decode cL_sum 55 = .ok (.goto (-50), 3) := by decide +kernel
theorem dL_sum_58 : decode cL_sum 58 = .ok (.iload_n 3, 1) := by decide +kernel
theorem dL_sum_59 : decode cL_sum 59 = .ok (.ireturn, 1) := by decide +kernel
theorem dL_pens_0 : decode cL_pens 0 = .ok (.iconst 0, 1) := by decide +kernel
theorem dL_pens_1 : decode cL_pens 1 = .ok (.istore 4, 2) := by decide +kernel
theorem dL_pens_3 : decode cL_pens 3 = .ok (.iload 4, 2) := by decide +kernel
theorem dL_pens_5 : decode cL_pens 5 = .ok (.aload_n 3, 1) := by decide +kernel
theorem dL_pens_6 : decode cL_pens 6 = .ok (.iconst 0, 1) := by decide +kernel
theorem dL_pens_7 : decode cL_pens 7 = .ok (.iaload, 1) := by decide +kernel
theorem dL_pens_8 : decode cL_pens 8 = .ok (.if_icmp .ge 239, 3) := by decide +kernel
theorem dL_pens_11 : decode cL_pens 11 = .ok (.iconst 0, 1) := by decide +kernel
theorem dL_pens_12 : decode cL_pens 12 = .ok (.istore 5, 2) := by decide +kernel
theorem dL_pens_14 : decode cL_pens 14 = .ok (.iconst 0, 1) := by decide +kernel
theorem dL_pens_15 : decode cL_pens 15 = .ok (.istore 6, 2) := by decide +kernel
theorem dL_pens_17 : decode cL_pens 17 = .ok (.iconst 0, 1) := by decide +kernel
theorem dL_pens_18 : decode cL_pens 18 = .ok (.istore 7, 2) := by decide +kernel
theorem dL_pens_20 : decode cL_pens 20 = .ok (.iconst 0, 1) := by decide +kernel
theorem dL_pens_21 : decode cL_pens 21 = .ok (.istore 8, 2) := by decide +kernel
theorem dL_pens_23 : decode cL_pens 23 = .ok (.iload 8, 2) := by decide +kernel
theorem dL_pens_25 : decode cL_pens 25 = .ok (.aload_n 3, 1) := by decide +kernel
theorem dL_pens_26 : decode cL_pens 26 = .ok (.iconst 0, 1) := by decide +kernel
theorem dL_pens_27 : decode cL_pens 27 = .ok (.iaload, 1) := by decide +kernel
theorem dL_pens_28 : decode cL_pens 28 = .ok (.if_icmp .ge 84, 3) := by decide +kernel
theorem dL_pens_31 : decode cL_pens 31 = .ok (.iload 5, 2) := by decide +kernel
theorem dL_pens_33 : decode cL_pens 33 = .ok (.aload_n 1, 1) := by decide +kernel
theorem dL_pens_34 : decode cL_pens 34 = .ok (.bipush 6, 2) := by decide +kernel
theorem dL_pens_36 : decode cL_pens 36 = .ok (.iload 8, 2) := by decide +kernel
theorem dL_pens_38 : decode cL_pens 38 = .ok (.imul, 1) := by decide +kernel
theorem dL_pens_39 : decode cL_pens 39 = .ok (.iconst 3, 1) := by decide +kernel
theorem dL_pens_40 : decode cL_pens 40 = .ok (.iadd, 1) := by decide +kernel
theorem dL_pens_41 : decode cL_pens 41 = .ok (.iaload, 1) := by decide +kernel
theorem dL_pens_42 : decode cL_pens 42 = .ok (.iload 4, 2) := by decide +kernel
theorem dL_pens_44 : decode cL_pens 44 = .ok (.if_icmp .ne 7, 3) := by decide +kernel
theorem dL_pens_47 : decode cL_pens 47 = .ok (.iconst 1, 1) := by decide +kernel
theorem dL_pens_48 : decode cL_pens 48 = .ok (.goto 4, 3) := by decide +kernel
theorem dL_pens_51 : decode cL_pens 51 = .ok (.iconst 0, 1) := by decide +kernel
theorem dL_pens_52 : decode cL_pens 52 = .ok (.iadd, 1) := by decide +kernel
theorem dL_pens_53 : decode cL_pens 53 = .ok (.istore 5, 2) := by decide +kernel
theorem dL_pens_55 : decode cL_pens 55 = .ok (.iload 7, 2) := by decide +kernel
theorem dL_pens_57 : decode cL_pens 57 = .ok (.aload_n 1, 1) := by decide +kernel
theorem dL_pens_58 : decode cL_pens 58 = .ok (.bipush 6, 2) := by decide +kernel
theorem dL_pens_60 : decode cL_pens 60 = .ok (.iload 8, 2) := by decide +kernel
theorem dL_pens_62 : decode cL_pens 62 = .ok (.imul, 1) := by decide +kernel
theorem dL_pens_63 : decode cL_pens 63 = .ok (.iaload, 1) := by decide +kernel
theorem dL_pens_64 : decode cL_pens 64 = .ok (.aload_n 1, 1) := by decide +kernel
theorem dL_pens_65 : decode cL_pens 65 = .ok (.bipush 6, 2) := by decide +kernel
theorem dL_pens_67 : decode cL_pens 67 = .ok (.iload 4, 2) := by decide +kernel
theorem dL_pens_69 : decode cL_pens 69 = .ok (.imul, 1) := by decide +kernel
theorem dL_pens_70 : decode cL_pens 70 = .ok (.iaload, 1) := by decide +kernel
theorem dL_pens_71 : decode cL_pens 71 = .ok (.if_icmp .gt 27, 3) := by decide +kernel
theorem dL_pens_74 : decode cL_pens 74 = .ok (.aload_n 1, 1) := by decide +kernel
theorem dL_pens_75 : decode cL_pens 75 = .ok (.bipush 6, 2) := by decide +kernel
theorem dL_pens_77 : decode cL_pens 77 = .ok (.iload 8, 2) := by decide +kernel
theorem dL_pens_79 : decode cL_pens 79 = .ok (.imul, 1) := by decide +kernel
theorem dL_pens_80 : decode cL_pens 80 = .ok (.iaload, 1) := by decide +kernel
theorem dL_pens_81 : decode cL_pens 81 = .ok (.aload_n 1, 1) := by decide +kernel
theorem dL_pens_82 : decode cL_pens 82 = .ok (.bipush 6, 2) := by decide +kernel
theorem dL_pens_84 : decode cL_pens 84 = .ok (.iload 4, 2) := by decide +kernel
theorem dL_pens_86 : decode cL_pens 86 = .ok (.imul, 1) := by decide +kernel
theorem dL_pens_87 : decode cL_pens 87 = .ok (.iaload, 1) := by decide +kernel
theorem dL_pens_88 : decode cL_pens 88 = .ok (.if_icmp .ne 14, 3) := by decide +kernel
theorem dL_pens_91 : decode cL_pens 91 = .ok (.iload 8, 2) := by decide +kernel
theorem dL_pens_93 : decode cL_pens 93 = .ok (.iload 4, 2) := by decide +kernel
theorem dL_pens_95 : decode cL_pens 95 = .ok (.if_icmp .ge 7, 3) := by decide +kernel
theorem dL_pens_98 : decode cL_pens 98 = .ok (.iconst 1, 1) := by decide +kernel
theorem dL_pens_99 : decode cL_pens 99 = .ok (.goto 4, 3) := by decide +kernel
theorem dL_pens_102 : decode cL_pens 102 = .ok (.iconst 0, 1) := by decide +kernel
theorem dL_pens_103 : decode cL_pens 103 = .ok (.iadd, 1) := by decide +kernel
theorem dL_pens_104 : decode cL_pens 104 = .ok (.istore 7, 2) := by decide +kernel
theorem dL_pens_106 : decode cL_pens 106 = .ok (.iinc 8 1, 3) := by decide +kernel
theorem dL_pens_109 : decode cL_pens 109 = .ok (.goto (-86), 3) := by decide +kernel
theorem dL_pens_112 : decode cL_pens 112 = .ok (.iconst 0, 1) := by decide +kernel
theorem dL_pens_113 : decode cL_pens 113 = .ok (.istore 8, 2) := by decide +kernel
theorem dL_pens_115 : decode cL_pens 115 = .ok (.iload 8, 2) := by decide +kernel
theorem dL_pens_117 : decode cL_pens 117 = .ok (.aload_n 3, 1) := by decide +kernel
theorem dL_pens_118 : decode cL_pens 118 = .ok (.iconst 1, 1) := by decide +kernel
theorem dL_pens_119 : decode cL_pens 119 = .ok (.iaload, 1) := by decide +kernel
theorem dL_pens_120 : decode cL_pens 120 = .ok (.if_icmp .ge 23, 3) := by decide +kernel
theorem dL_pens_123 : decode cL_pens 123 = .ok (.iload 6, 2) := by decide +kernel
theorem dL_pens_125 : decode cL_pens 125 = .ok (.aload_n 2, 1) := by decide +kernel
theorem dL_pens_126 : decode cL_pens 126 = .ok (.iconst 4, 1) := by decide +kernel
theorem dL_pens_127 : decode cL_pens 127 = .ok (.iload 8, 2) := by decide +kernel
theorem dL_pens_129 : decode cL_pens 129 = .ok (.imul, 1) := by decide +kernel
theorem dL_pens_130 : decode cL_pens 130 = .ok (.iload 4, 2) := by decide +kernel
theorem dL_pens_132 : decode cL_pens 132 = .ok (.iadd, 1) := by decide +kernel
theorem dL_pens_133 : decode cL_pens 133 = .ok (.iaload, 1) := by decide +kernel
theorem dL_pens_134 : decode cL_pens 134 = .ok (.iadd, 1) := by decide +kernel
theorem dL_pens_135 : decode cL_pens 135 = .ok (.istore 6, 2) := by decide +kernel
theorem dL_pens_137 : decode cL_pens 137 = .ok (.iinc 8 1, 3) := by decide +kernel
theorem dL_pens_140 : decode cL_pens 140 = .ok (.goto (-25), 3) := by decide +kernel
theorem dL_pens_143 : decode cL_pens 143 = .ok (.iconst 0, 1) := by decide +kernel
theorem dL_pens_144 : decode cL_pens 144 = .ok (.istore 8, 2) := by decide +kernel
theorem dL_pens_146 : decode cL_pens 146 = .ok (.iload 8, 2) := by decide +kernel
theorem dL_pens_148 : decode cL_pens 148 = .ok (.iconst 5, 1) := by decide +kernel
theorem dL_pens_149 : decode cL_pens 149 = .ok (.if_icmp .ge 32, 3) := by decide +kernel
theorem dL_pens_152 : decode cL_pens 152 = .ok (.aload_n 0, 1) := by decide +kernel
theorem dL_pens_153 : decode cL_pens 153 = .ok (.iload 4, 2) := by decide +kernel
theorem dL_pens_155 : decode cL_pens 155 = .ok (.iload 8, 2) := by decide +kernel
theorem dL_pens_157 : decode cL_pens 157 = .ok (.invokevirtual 22, 3) := by decide +kernel
theorem dL_pens_160 : decode cL_pens 160 = .ok (.aload_n 1, 1) := by decide +kernel
theorem dL_pens_161 : decode cL_pens 161 = .ok (.bipush 6, 2) := by decide +kernel
theorem dL_pens_163 : decode cL_pens 163 = .ok (.iload 4, 2) := by decide +kernel
theorem dL_pens_165 : decode cL_pens 165 = .ok (.imul, 1) := by decide +kernel
theorem dL_pens_166 : decode cL_pens 166 = .ok (.iload 8, 2) := by decide +kernel
theorem dL_pens_168 : decode cL_pens 168 = .ok (.iadd, 1) := by decide +kernel
theorem dL_pens_169 : decode cL_pens 169 = .ok (.iaload, 1) := by decide +kernel
theorem dL_pens_170 : decode cL_pens 170 = .ok (.if_icmp .eq 5, 3) := by decide +kernel
theorem dL_pens_173 : decode cL_pens 173 = .ok (.iconst 0, 1) := by decide +kernel
theorem dL_pens_174 : decode cL_pens 174 = .ok (.ireturn, 1) := by decide +kernel
theorem dL_pens_175 : decode cL_pens 175 = .ok (.iinc 8 1, 3) := by decide +kernel
theorem dL_pens_178 : decode cL_pens 178 = .ok (.goto (-32), 3) := by decide +kernel
theorem dL_pens_181 : decode cL_pens 181 = .ok (.aload_n 0, 1) := by decide +kernel
theorem dL_pens_182 : decode cL_pens 182 = .ok (.iload 4, 2) := by decide +kernel
theorem dL_pens_184 : decode cL_pens 184 = .ok (.iconst 5, 1) := by decide +kernel
theorem dL_pens_185 : decode cL_pens 185 = .ok (.invokevirtual 22, 3) := by decide +kernel
theorem dL_pens_188 : decode cL_pens 188 = .ok (.iload 5, 2) := by decide +kernel
theorem dL_pens_190 : decode cL_pens 190 = .ok (.if_icmp .ne 49, 3) := by decide +kernel
theorem dL_pens_193 : decode cL_pens 193 = .ok (.aload_n 0, 1) := by decide +kernel
theorem dL_pens_194 : decode cL_pens 194 = .ok (.iload 4, 2) := by decide +kernel
theorem dL_pens_196 : decode cL_pens 196 = .ok (.bipush 6, 2) := by decide +kernel
theorem dL_pens_198 : decode cL_pens 198 = .ok (.invokevirtual 22, 3) := by decide +kernel
theorem dL_pens_201 : decode cL_pens 201 = .ok (.aload_n 1, 1) := by decide +kernel
theorem dL_pens_202 : decode cL_pens 202 = .ok (.bipush 6, 2) := by decide +kernel
theorem dL_pens_204 : decode cL_pens 204 = .ok (.iload 4, 2) := by decide +kernel
theorem dL_pens_206 : decode cL_pens 206 = .ok (.imul, 1) := by decide +kernel
theorem dL_pens_207 : decode cL_pens 207 = .ok (.iconst 5, 1) := by decide +kernel
theorem dL_pens_208 : decode cL_pens 208 = .ok (.iadd, 1) := by decide +kernel
theorem dL_pens_209 : decode cL_pens 209 = .ok (.iaload, 1) := by decide +kernel
theorem dL_pens_210 : decode cL_pens 210 = .ok (.if_icmp .ne 29, 3) := by decide +kernel
theorem dL_pens_213 : decode cL_pens 213 = .ok (.aload_n 0, 1) := by decide +kernel
theorem dL_pens_214 : decode cL_pens 214 = .ok (.iload 4, 2) := by decide +kernel
theorem dL_pens_216 : decode cL_pens 216 = .ok (.bipush 7, 2) := by decide +kernel
theorem dL_pens_218 : decode cL_pens 218 = .ok (.invokevirtual 22, 3) := by decide +kernel
theorem dL_pens_221 : decode cL_pens 221 = .ok (.iload 6, 2) := by decide +kernel
theorem dL_pens_223 : decode cL_pens 223 = .ok (.if_icmp .ne 16, 3) := by decide +kernel
theorem dL_pens_226 : decode cL_pens 226 = .ok (.aload_n 0, 1) := by decide +kernel
theorem dL_pens_227 : decode cL_pens 227 = .ok (.iload 4, 2) := by decide +kernel
theorem dL_pens_229 : decode cL_pens 229 = .ok (.bipush 8, 2) := by decide +kernel
theorem dL_pens_231 : decode cL_pens 231 = .ok (.invokevirtual 22, 3) := by decide +kernel
theorem dL_pens_234 : decode cL_pens 234 = .ok (.iload 7, 2) := by decide +kernel
theorem dL_pens_236 : decode cL_pens 236 = .ok (.if_icmp .eq 5, 3) := by decide +kernel
theorem dL_pens_239 : decode cL_pens 239 = .ok (.iconst 0, 1) := by decide +kernel
theorem dL_pens_240 : decode cL_pens 240 = .ok (.ireturn, 1) := by decide +kernel
theorem dL_pens_241 : decode cL_pens 241 = .ok (.iinc 4 1, 3) := by decide +kernel
theorem dL_pens_244 : decode cL_pens 244 = .ok (.goto (-241), 3) := by decide +kernel
theorem dL_pens_247 : decode cL_pens 247 = .ok (.iconst 1, 1) := by decide +kernel
theorem dL_pens_248 : decode cL_pens 248 = .ok (.ireturn, 1) := by decide +kernel
theorem dL_pieces_0 : decode cL_pieces 0 = .ok (.iconst 0, 1) := by decide +kernel
theorem dL_pieces_1 : decode cL_pieces 1 = .ok (.istore 7, 2) := by decide +kernel
theorem dL_pieces_3 : decode cL_pieces 3 = .ok (.iload 7, 2) := by decide +kernel
theorem dL_pieces_5 : decode cL_pieces 5 = .ok (.aload 6, 2) := by decide +kernel
theorem dL_pieces_7 : decode cL_pieces 7 = .ok (.iconst 1, 1) := by decide +kernel
theorem dL_pieces_8 : decode cL_pieces 8 = .ok (.iaload, 1) := by decide +kernel
theorem dL_pieces_9 : decode cL_pieces 9 = .ok (.if_icmp .ge 282, 3) := by decide +kernel
theorem dL_pieces_12 : decode cL_pieces 12 = .ok (.iconst 0, 1) := by decide +kernel
theorem dL_pieces_13 : decode cL_pieces 13 = .ok (.istore 8, 2) := by decide +kernel
theorem dL_pieces_15 : decode cL_pieces 15 = .ok (.iconst 0, 1) := by decide +kernel
theorem dL_pieces_16 : decode cL_pieces 16 = .ok (.istore 9, 2) := by decide +kernel
theorem dL_pieces_18 : decode cL_pieces 18 = .ok (.iconst 0, 1) := by decide +kernel
theorem dL_pieces_19 : decode cL_pieces 19 = .ok (.istore 10, 2) := by decide +kernel
theorem dL_pieces_21 : decode cL_pieces 21 = .ok (.iload 10, 2) := by decide +kernel
theorem dL_pieces_23 : decode cL_pieces 23 = .ok (.aload 6, 2) := by decide +kernel
theorem dL_pieces_25 : decode cL_pieces 25 = .ok (.iconst 0, 1) := by decide +kernel
theorem dL_pieces_26 : decode cL_pieces 26 = .ok (.iaload, 1) := by decide +kernel
theorem dL_pieces_27 : decode cL_pieces 27 = .ok (.if_icmp .ge 123, 3) := by decide +kernel
theorem dL_pieces_30 : decode cL_pieces 30 = .ok (.iload 8, 2) := by decide +kernel
theorem dL_pieces_32 : decode cL_pieces 32 = .ok (.aload_n 3, 1) := by decide +kernel
theorem dL_pieces_33 : decode cL_pieces 33 = .ok (.iconst 4, 1) := by decide +kernel
theorem dL_pieces_34 : decode cL_pieces 34 = .ok (.iload 7, 2) := by decide +kernel
theorem dL_pieces_36 : decode cL_pieces 36 = .ok (.imul, 1) := by decide +kernel
theorem dL_pieces_37 : decode cL_pieces 37 = .ok (.iload 10, 2) := by decide +kernel
theorem dL_pieces_39 : decode cL_pieces 39 = .ok (.iadd, 1) := by decide +kernel
theorem dL_pieces_40 : decode cL_pieces 40 = .ok (.iaload, 1) := by decide +kernel
theorem dL_pieces_41 : decode cL_pieces 41 = .ok (.ifCond .le 7, 3) := by decide +kernel
theorem dL_pieces_44 : decode cL_pieces 44 = .ok (.iconst 1, 1) := by decide +kernel
theorem dL_pieces_45 : decode cL_pieces 45 = .ok (.goto 4, 3) := by decide +kernel
theorem dL_pieces_48 : decode cL_pieces 48 = .ok (.iconst 0, 1) := by decide +kernel
theorem dL_pieces_49 : decode cL_pieces 49 = .ok (.iadd, 1) := by decide +kernel
theorem dL_pieces_50 : decode cL_pieces 50 = .ok (.istore 8, 2) := by decide +kernel
theorem dL_pieces_52 : decode cL_pieces 52 = .ok (.iload 9, 2) := by decide +kernel
theorem dL_pieces_54 : decode cL_pieces 54 = .ok (.iload 7, 2) := by decide +kernel
theorem dL_pieces_56 : decode cL_pieces 56 = .ok (.iload 10, 2) := by decide +kernel
theorem dL_pieces_58 : decode cL_pieces 58 = .ok (.aload_n 1, 1) := by decide +kernel
theorem dL_pieces_59 : decode cL_pieces 59 = .ok (.aload_n 2, 1) := by decide +kernel
theorem dL_pieces_60 : decode cL_pieces 60 = .ok (.aload_n 3, 1) := by decide +kernel
theorem dL_pieces_61 : decode cL_pieces 61 = .ok (.invokestatic 28, 3) := by decide +kernel
theorem dL_pieces_64 : decode cL_pieces 64 = .ok (.ifCond .eq 10, 3) := by decide +kernel
theorem dL_pieces_67 : decode cL_pieces 67 = .ok (.iconst 1, 1) := by decide +kernel
theorem dL_pieces_68 : decode cL_pieces 68 = .ok (.iload 10, 2) := by decide +kernel
theorem dL_pieces_70 : decode cL_pieces 70 = .ok (.ishl, 1) := by decide +kernel
theorem dL_pieces_71 : decode cL_pieces 71 = .ok (.goto 4, 3) := by decide +kernel
theorem dL_pieces_74 : decode cL_pieces 74 = .ok (.iconst 0, 1) := by decide +kernel
theorem dL_pieces_75 : decode cL_pieces 75 = .ok (.iadd, 1) := by decide +kernel
theorem dL_pieces_76 : decode cL_pieces 76 = .ok (.istore 9, 2) := by decide +kernel
theorem dL_pieces_78 : decode cL_pieces 78 = .ok (.aload_n 0, 1) := by decide +kernel
theorem dL_pieces_79 : decode cL_pieces 79 = .ok (.iload 7, 2) := by decide +kernel
theorem dL_pieces_81 : decode cL_pieces 81 = .ok (.iload 10, 2) := by decide +kernel
theorem dL_pieces_83 : decode cL_pieces 83 = .ok (.iconst 0, 1) := by decide +kernel
theorem dL_pieces_84 : decode cL_pieces 84 = .ok (.invokevirtual 32, 3) := by decide +kernel
theorem dL_pieces_87 : decode cL_pieces 87 = .ok (.aload_n 3, 1) := by decide +kernel
theorem dL_pieces_88 : decode cL_pieces 88 = .ok (.iconst 4, 1) := by decide +kernel
theorem dL_pieces_89 : decode cL_pieces 89 = .ok (.iload 7, 2) := by decide +kernel
theorem dL_pieces_91 : decode cL_pieces 91 = .ok (.imul, 1) := by decide +kernel
theorem dL_pieces_92 : decode cL_pieces 92 = .ok (.iload 10, 2) := by decide +kernel
theorem dL_pieces_94 : decode cL_pieces 94 = .ok (.iadd, 1) := by decide +kernel
theorem dL_pieces_95 : decode cL_pieces 95 = .ok (.iaload, 1) := by decide +kernel
theorem dL_pieces_96 : decode cL_pieces 96 = .ok (.if_icmp .ne 46, 3) := by decide +kernel
theorem dL_pieces_99 : decode cL_pieces 99 = .ok (.aload_n 0, 1) := by decide +kernel
theorem dL_pieces_100 : decode cL_pieces 100 = .ok (.iload 7, 2) := by decide +kernel
theorem dL_pieces_102 : decode cL_pieces 102 = .ok (.iload 10, 2) := by decide +kernel
theorem dL_pieces_104 : decode cL_pieces 104 = .ok (.iconst 1, 1) := by decide +kernel
theorem dL_pieces_105 : decode cL_pieces 105 = .ok (.invokevirtual 32, 3) := by decide +kernel
theorem dL_pieces_108 : decode cL_pieces 108 = .ok (.aload_n 2, 1) := by decide +kernel
theorem dL_pieces_109 : decode cL_pieces 109 = .ok (.iconst 4, 1) := by decide +kernel
theorem dL_pieces_110 : decode cL_pieces 110 = .ok (.iload 7, 2) := by decide +kernel
theorem dL_pieces_112 : decode cL_pieces 112 = .ok (.imul, 1) := by decide +kernel
theorem dL_pieces_113 : decode cL_pieces 113 = .ok (.iload 10, 2) := by decide +kernel
theorem dL_pieces_115 : decode cL_pieces 115 = .ok (.iadd, 1) := by decide +kernel
theorem dL_pieces_116 : decode cL_pieces 116 = .ok (.iaload, 1) := by decide +kernel
theorem dL_pieces_117 : decode cL_pieces 117 = .ok (.if_icmp .ne 25, 3) := by decide +kernel
theorem dL_pieces_120 : decode cL_pieces 120 = .ok (.aload_n 0, 1) := by decide +kernel
theorem dL_pieces_121 : decode cL_pieces 121 = .ok (.iload 7, 2) := by decide +kernel
theorem dL_pieces_123 : decode cL_pieces 123 = .ok (.iload 10, 2) := by decide +kernel
theorem dL_pieces_125 : decode cL_pieces 125 = .ok (.iconst 2, 1) := by decide +kernel
theorem dL_pieces_126 : decode cL_pieces 126 = .ok (.invokevirtual 32, 3) := by decide +kernel
theorem dL_pieces_129 : decode cL_pieces 129 = .ok (.aload 4, 2) := by decide +kernel
theorem dL_pieces_131 : decode cL_pieces 131 = .ok (.iconst 4, 1) := by decide +kernel
theorem dL_pieces_132 : decode cL_pieces 132 = .ok (.iload 7, 2) := by decide +kernel
theorem dL_pieces_134 : decode cL_pieces 134 = .ok (.imul, 1) := by decide +kernel
theorem dL_pieces_135 : decode cL_pieces 135 = .ok (.iload 10, 2) := by decide +kernel
theorem dL_pieces_137 : decode cL_pieces 137 = .ok (.iadd, 1) := by decide +kernel
theorem dL_pieces_138 : decode cL_pieces 138 = .ok (.iaload, 1) := by decide +kernel
theorem dL_pieces_139 : decode cL_pieces 139 = .ok (.if_icmp .eq 5, 3) := by decide +kernel
theorem dL_pieces_142 : decode cL_pieces 142 = .ok (.iconst 0, 1) := by decide +kernel
theorem dL_pieces_143 : decode cL_pieces 143 = .ok (.ireturn, 1) := by decide +kernel
theorem dL_pieces_144 : decode cL_pieces 144 = .ok (.iinc 10 1, 3) := by decide +kernel
theorem dL_pieces_147 : decode cL_pieces 147 = .ok (.goto (-126), 3) := by decide +kernel
theorem dL_pieces_150 : decode cL_pieces 150 = .ok (.iconst 0, 1) := by decide +kernel
theorem dL_pieces_151 : decode cL_pieces 151 = .ok (.istore 10, 2) := by decide +kernel
theorem dL_pieces_153 : decode cL_pieces 153 = .ok (.iload 10, 2) := by decide +kernel
theorem dL_pieces_155 : decode cL_pieces 155 = .ok (.iconst 4, 1) := by decide +kernel
theorem dL_pieces_156 : decode cL_pieces 156 = .ok (.if_icmp .ge 31, 3) := by decide +kernel
theorem dL_pieces_159 : decode cL_pieces 159 = .ok (.aload_n 0, 1) := by decide +kernel
theorem dL_pieces_160 : decode cL_pieces 160 = .ok (.iload 7, 2) := by decide +kernel
theorem dL_pieces_162 : decode cL_pieces 162 = .ok (.iload 10, 2) := by decide +kernel
theorem dL_pieces_164 : decode cL_pieces 164 = .ok (.invokevirtual 36, 3) := by decide +kernel
theorem dL_pieces_167 : decode cL_pieces 167 = .ok (.aload_n 1, 1) := by decide +kernel
theorem dL_pieces_168 : decode cL_pieces 168 = .ok (.iconst 5, 1) := by decide +kernel
theorem dL_pieces_169 : decode cL_pieces 169 = .ok (.iload 7, 2) := by decide +kernel
theorem dL_pieces_171 : decode cL_pieces 171 = .ok (.imul, 1) := by decide +kernel
theorem dL_pieces_172 : decode cL_pieces 172 = .ok (.iload 10, 2) := by decide +kernel
theorem dL_pieces_174 : decode cL_pieces 174 = .ok (.iadd, 1) := by decide +kernel
theorem dL_pieces_175 : decode cL_pieces 175 = .ok (.iaload, 1) := by decide +kernel
theorem dL_pieces_176 : decode cL_pieces 176 = .ok (.if_icmp .eq 5, 3) := by decide +kernel
theorem dL_pieces_179 : decode cL_pieces 179 = .ok (.iconst 0, 1) := by decide +kernel
theorem dL_pieces_180 : decode cL_pieces 180 = .ok (.ireturn, 1) := by decide +kernel
theorem dL_pieces_181 : decode cL_pieces 181 = .ok (.iinc 10 1, 3) := by decide +kernel
theorem dL_pieces_184 : decode cL_pieces 184 = .ok (.goto (-31), 3) := by decide +kernel
theorem dL_pieces_187 : decode cL_pieces 187 = .ok (.aload_n 0, 1) := by decide +kernel
theorem dL_pieces_188 : decode cL_pieces 188 = .ok (.iload 7, 2) := by decide +kernel
theorem dL_pieces_190 : decode cL_pieces 190 = .ok (.iconst 4, 1) := by decide +kernel
theorem dL_pieces_191 : decode cL_pieces 191 = .ok (.invokevirtual 36, 3) := by decide +kernel
theorem dL_pieces_194 : decode cL_pieces 194 = .ok (.aload_n 2, 1) := by decide +kernel
theorem dL_pieces_195 : decode cL_pieces 195 = .ok (.iload 7, 2) := by decide +kernel
theorem dL_pieces_197 : decode cL_pieces 197 = .ok (.invokestatic 8, 3) := by decide +kernel
theorem dL_pieces_200 : decode cL_pieces 200 = .ok (.if_icmp .ne 83, 3) := by decide +kernel
theorem dL_pieces_203 : decode cL_pieces 203 = .ok (.aload_n 0, 1) := by decide +kernel
theorem dL_pieces_204 : decode cL_pieces 204 = .ok (.iload 7, 2) := by decide +kernel
theorem dL_pieces_206 : decode cL_pieces 206 = .ok (.iconst 5, 1) := by decide +kernel
theorem dL_pieces_207 : decode cL_pieces 207 = .ok (.invokevirtual 36, 3) := by decide +kernel
theorem dL_pieces_210 : decode cL_pieces 210 = .ok (.iload 8, 2) := by decide +kernel
theorem dL_pieces_212 : decode cL_pieces 212 = .ok (.if_icmp .ne 71, 3) := by decide +kernel
theorem dL_pieces_215 : decode cL_pieces 215 = .ok (.aload_n 0, 1) := by decide +kernel
theorem dL_pieces_216 : decode cL_pieces 216 = .ok (.iload 7, 2) := by decide +kernel
theorem dL_pieces_218 : decode cL_pieces 218 = .ok (.bipush 6, 2) := by decide +kernel
theorem dL_pieces_220 : decode cL_pieces 220 = .ok (.invokevirtual 36, 3) := by decide +kernel
theorem dL_pieces_223 : decode cL_pieces 223 = .ok (.aload_n 3, 1) := by decide +kernel
theorem dL_pieces_224 : decode cL_pieces 224 = .ok (.iload 7, 2) := by decide +kernel
theorem dL_pieces_226 : decode cL_pieces 226 = .ok (.invokestatic 8, 3) := by decide +kernel
theorem dL_pieces_229 : decode cL_pieces 229 = .ok (.if_icmp .ne 54, 3) := by decide +kernel
theorem dL_pieces_232 : decode cL_pieces 232 = .ok (.aload_n 0, 1) := by decide +kernel
theorem dL_pieces_233 : decode cL_pieces 233 = .ok (.iload 7, 2) := by decide +kernel
theorem dL_pieces_235 : decode cL_pieces 235 = .ok (.bipush 7, 2) := by decide +kernel
theorem dL_pieces_237 : decode cL_pieces 237 = .ok (.invokevirtual 36, 3) := by decide +kernel
theorem dL_pieces_240 : decode cL_pieces 240 = .ok (.aload_n 1, 1) := by decide +kernel
theorem dL_pieces_241 : decode cL_pieces 241 = .ok (.iconst 5, 1) := by decide +kernel
theorem dL_pieces_242 : decode cL_pieces 242 = .ok (.iload 7, 2) := by decide +kernel
theorem dL_pieces_244 : decode cL_pieces 244 = .ok (.imul, 1) := by decide +kernel
theorem dL_pieces_245 : decode cL_pieces 245 = .ok (.iconst 4, 1) := by decide +kernel
theorem dL_pieces_246 : decode cL_pieces 246 = .ok (.iadd, 1) := by decide +kernel
theorem dL_pieces_247 : decode cL_pieces 247 = .ok (.iaload, 1) := by decide +kernel
theorem dL_pieces_248 : decode cL_pieces 248 = .ok (.if_icmp .ne 35, 3) := by decide +kernel
theorem dL_pieces_251 : decode cL_pieces 251 = .ok (.aload_n 0, 1) := by decide +kernel
theorem dL_pieces_252 : decode cL_pieces 252 = .ok (.iload 7, 2) := by decide +kernel
theorem dL_pieces_254 : decode cL_pieces 254 = .ok (.bipush 8, 2) := by decide +kernel
theorem dL_pieces_256 : decode cL_pieces 256 = .ok (.invokevirtual 36, 3) := by decide +kernel
theorem dL_pieces_259 : decode cL_pieces 259 = .ok (.iload 7, 2) := by decide +kernel
theorem dL_pieces_261 : decode cL_pieces 261 = .ok (.aload_n 1, 1) := by decide +kernel
theorem dL_pieces_262 : decode cL_pieces 262 = .ok (.aload 5, 2) := by decide +kernel
theorem dL_pieces_264 : decode cL_pieces 264 = .ok (.invokestatic 39, 3) := by decide +kernel
theorem dL_pieces_267 : decode cL_pieces 267 = .ok (.if_icmp .ne 16, 3) := by decide +kernel
theorem dL_pieces_270 : decode cL_pieces 270 = .ok (.aload_n 0, 1) := by decide +kernel
theorem dL_pieces_271 : decode cL_pieces 271 = .ok (.iload 7, 2) := by decide +kernel
theorem dL_pieces_273 : decode cL_pieces 273 = .ok (.bipush 9, 2) := by decide +kernel
theorem dL_pieces_275 : decode cL_pieces 275 = .ok (.invokevirtual 36, 3) := by decide +kernel
theorem dL_pieces_278 : decode cL_pieces 278 = .ok (.iload 9, 2) := by decide +kernel
theorem dL_pieces_280 : decode cL_pieces 280 = .ok (.if_icmp .eq 5, 3) := by decide +kernel
theorem dL_pieces_283 : decode cL_pieces 283 = .ok (.iconst 0, 1) := by decide +kernel
theorem dL_pieces_284 : decode cL_pieces 284 = .ok (.ireturn, 1) := by decide +kernel
theorem dL_pieces_285 : decode cL_pieces 285 = .ok (.iinc 7 1, 3) := by decide +kernel
theorem dL_pieces_288 : decode cL_pieces 288 = .ok (.goto (-285), 3) := by decide +kernel
theorem dL_pieces_291 : decode cL_pieces 291 = .ok (.iconst 1, 1) := by decide +kernel
theorem dL_pieces_292 : decode cL_pieces 292 = .ok (.ireturn, 1) := by decide +kernel
theorem dL_told_0 : decode cL_told 0 = .ok (.aload_n 0, 1) := by decide +kernel
theorem dL_told_1 : decode cL_told 1 = .ok (.aload_n 1, 1) := by decide +kernel
theorem dL_told_2 : decode cL_told 2 = .ok (.aload_n 3, 1) := by decide +kernel
theorem dL_told_3 : decode cL_told 3 = .ok (.aload 7, 2) := by decide +kernel
theorem dL_told_5 : decode cL_told 5 = .ok (.invokestatic 43, 3) := by decide +kernel
theorem dL_told_8 : decode cL_told 8 = .ok (.ifCond .eq 20, 3) := by decide +kernel
theorem dL_told_11 : decode cL_told 11 = .ok (.aload_n 0, 1) := by decide +kernel
theorem dL_told_12 : decode cL_told 12 = .ok (.aload_n 2, 1) := by decide +kernel
theorem dL_told_13 : decode cL_told 13 = .ok (.aload_n 3, 1) := by decide +kernel
theorem dL_told_14 : decode cL_told 14 = .ok (.aload 4, 2) := by decide +kernel
theorem dL_told_16 : decode cL_told 16 = .ok (.aload 5, 2) := by decide +kernel
theorem dL_told_18 : decode cL_told 18 = .ok (.aload 6, 2) := by decide +kernel
theorem dL_told_20 : decode cL_told 20 = .ok (.aload 7, 2) := by decide +kernel
theorem dL_told_22 : decode cL_told 22 = .ok (.invokestatic 47, 3) := by decide +kernel
theorem dL_told_25 : decode cL_told 25 = .ok (.ifCond .ne 5, 3) := by decide +kernel
theorem dL_told_28 : decode cL_told 28 = .ok (.iconst 0, 1) := by decide +kernel
theorem dL_told_29 : decode cL_told 29 = .ok (.ireturn, 1) := by decide +kernel
theorem dL_told_30 : decode cL_told 30 = .ok (.iconst 0, 1) := by decide +kernel
theorem dL_told_31 : decode cL_told 31 = .ok (.istore 8, 2) := by decide +kernel
theorem dL_told_33 : decode cL_told 33 = .ok (.iconst 0, 1) := by decide +kernel
theorem dL_told_34 : decode cL_told 34 = .ok (.istore 9, 2) := by decide +kernel
theorem dL_told_36 : decode cL_told 36 = .ok (.iconst 0, 1) := by decide +kernel
theorem dL_told_37 : decode cL_told 37 = .ok (.istore 10, 2) := by decide +kernel
theorem dL_told_39 : decode cL_told 39 = .ok (.iconst 0, 1) := by decide +kernel
theorem dL_told_40 : decode cL_told 40 = .ok (.istore 11, 2) := by decide +kernel
theorem dL_told_42 : decode cL_told 42 = .ok (.iload 11, 2) := by decide +kernel
theorem dL_told_44 : decode cL_told 44 = .ok (.aload 7, 2) := by decide +kernel
theorem dL_told_46 : decode cL_told 46 = .ok (.iconst 1, 1) := by decide +kernel
theorem dL_told_47 : decode cL_told 47 = .ok (.iaload, 1) := by decide +kernel
theorem dL_told_48 : decode cL_told 48 = .ok (.if_icmp .ge 53, 3) := by decide +kernel
theorem dL_told_51 : decode cL_told 51 = .ok (.iload 8, 2) := by decide +kernel
theorem dL_told_53 : decode cL_told 53 = .ok (.aload_n 2, 1) := by decide +kernel
theorem dL_told_54 : decode cL_told 54 = .ok (.iconst 5, 1) := by decide +kernel
theorem dL_told_55 : decode cL_told 55 = .ok (.iload 11, 2) := by decide +kernel
theorem dL_told_57 : decode cL_told 57 = .ok (.imul, 1) := by decide +kernel
theorem dL_told_58 : decode cL_told 58 = .ok (.iconst 2, 1) := by decide +kernel
theorem dL_told_59 : decode cL_told 59 = .ok (.iadd, 1) := by decide +kernel
theorem dL_told_60 : decode cL_told 60 = .ok (.iaload, 1) := by decide +kernel
theorem dL_told_61 : decode cL_told 61 = .ok (.iconst 3, 1) := by decide +kernel
theorem dL_told_62 : decode cL_told 62 = .ok (.if_icmp .ne 7, 3) := by decide +kernel
theorem dL_told_65 : decode cL_told 65 = .ok (.iconst 1, 1) := by decide +kernel
theorem dL_told_66 : decode cL_told 66 = .ok (.goto 4, 3) := by decide +kernel
theorem dL_told_69 : decode cL_told 69 = .ok (.iconst 0, 1) := by decide +kernel
theorem dL_told_70 : decode cL_told 70 = .ok (.iadd, 1) := by decide +kernel
theorem dL_told_71 : decode cL_told 71 = .ok (.istore 8, 2) := by decide +kernel
theorem dL_told_73 : decode cL_told 73 = .ok (.iload 9, 2) := by decide +kernel
theorem dL_told_75 : decode cL_told 75 = .ok (.aload_n 2, 1) := by decide +kernel
theorem dL_told_76 : decode cL_told 76 = .ok (.iconst 5, 1) := by decide +kernel
theorem dL_told_77 : decode cL_told 77 = .ok (.iload 11, 2) := by decide +kernel
theorem dL_told_79 : decode cL_told 79 = .ok (.imul, 1) := by decide +kernel
theorem dL_told_80 : decode cL_told 80 = .ok (.iconst 2, 1) := by decide +kernel
theorem dL_told_81 : decode cL_told 81 = .ok (.iadd, 1) := by decide +kernel
theorem dL_told_82 : decode cL_told 82 = .ok (.iaload, 1) := by decide +kernel
theorem dL_told_83 : decode cL_told 83 = .ok (.iconst 4, 1) := by decide +kernel
theorem dL_told_84 : decode cL_told 84 = .ok (.if_icmp .ne 7, 3) := by decide +kernel
theorem dL_told_87 : decode cL_told 87 = .ok (.iconst 1, 1) := by decide +kernel
theorem dL_told_88 : decode cL_told 88 = .ok (.goto 4, 3) := by decide +kernel
theorem dL_told_91 : decode cL_told 91 = .ok (.iconst 0, 1) := by decide +kernel
theorem dL_told_92 : decode cL_told 92 = .ok (.iadd, 1) := by decide +kernel
theorem dL_told_93 : decode cL_told 93 = .ok (.istore 9, 2) := by decide +kernel
theorem dL_told_95 : decode cL_told 95 = .ok (.iinc 11 1, 3) := by decide +kernel
theorem dL_told_98 : decode cL_told 98 = .ok (.goto (-56), 3) := by decide +kernel
theorem dL_told_101 : decode cL_told 101 = .ok (.iconst 0, 1) := by decide +kernel
theorem dL_told_102 : decode cL_told 102 = .ok (.istore 11, 2) := by decide +kernel
theorem dL_told_104 : decode cL_told 104 = .ok (.iload 11, 2) := by decide +kernel
theorem dL_told_106 : decode cL_told 106 = .ok (.aload 7, 2) := by decide +kernel
theorem dL_told_108 : decode cL_told 108 = .ok (.iconst 0, 1) := by decide +kernel
theorem dL_told_109 : decode cL_told 109 = .ok (.iaload, 1) := by decide +kernel
theorem dL_told_110 : decode cL_told 110 = .ok (.if_icmp .ge 80, 3) := by decide +kernel
theorem dL_told_113 : decode cL_told 113 = .ok (.iconst 0, 1) := by decide +kernel
theorem dL_told_114 : decode cL_told 114 = .ok (.istore 12, 2) := by decide +kernel
theorem dL_told_116 : decode cL_told 116 = .ok (.iload 12, 2) := by decide +kernel
theorem dL_told_118 : decode cL_told 118 = .ok (.iload 11, 2) := by decide +kernel
theorem dL_told_120 : decode cL_told 120 = .ok (.if_icmp .ge 64, 3) := by decide +kernel
theorem dL_told_123 : decode cL_told 123 = .ok (.iload 10, 2) := by decide +kernel
theorem dL_told_125 : decode cL_told 125 = .ok (.aload_n 1, 1) := by decide +kernel
theorem dL_told_126 : decode cL_told 126 = .ok (.bipush 6, 2) := by decide +kernel
theorem dL_told_128 : decode cL_told 128 = .ok (.iload 11, 2) := by decide +kernel
theorem dL_told_130 : decode cL_told 130 = .ok (.imul, 1) := by decide +kernel
theorem dL_told_131 : decode cL_told 131 = .ok (.iaload, 1) := by decide +kernel
theorem dL_told_132 : decode cL_told 132 = .ok (.aload_n 1, 1) := by decide +kernel
theorem dL_told_133 : decode cL_told 133 = .ok (.bipush 6, 2) := by decide +kernel
theorem dL_told_135 : decode cL_told 135 = .ok (.iload 12, 2) := by decide +kernel
theorem dL_told_137 : decode cL_told 137 = .ok (.imul, 1) := by decide +kernel
theorem dL_told_138 : decode cL_told 138 = .ok (.iaload, 1) := by decide +kernel
theorem dL_told_139 : decode cL_told 139 = .ok (.if_icmp .le 21, 3) := by decide +kernel
theorem dL_told_142 : decode cL_told 142 = .ok (.aload_n 1, 1) := by decide +kernel
theorem dL_told_143 : decode cL_told 143 = .ok (.bipush 6, 2) := by decide +kernel
theorem dL_told_145 : decode cL_told 145 = .ok (.iload 11, 2) := by decide +kernel
theorem dL_told_147 : decode cL_told 147 = .ok (.imul, 1) := by decide +kernel
theorem dL_told_148 : decode cL_told 148 = .ok (.iaload, 1) := by decide +kernel
theorem dL_told_149 : decode cL_told 149 = .ok (.aload_n 1, 1) := by decide +kernel
theorem dL_told_150 : decode cL_told 150 = .ok (.bipush 6, 2) := by decide +kernel
theorem dL_told_152 : decode cL_told 152 = .ok (.iload 12, 2) := by decide +kernel
theorem dL_told_154 : decode cL_told 154 = .ok (.imul, 1) := by decide +kernel
theorem dL_told_155 : decode cL_told 155 = .ok (.iaload, 1) := by decide +kernel
theorem dL_told_156 : decode cL_told 156 = .ok (.isub, 1) := by decide +kernel
theorem dL_told_157 : decode cL_told 157 = .ok (.goto 18, 3) := by decide +kernel
theorem dL_told_160 : decode cL_told 160 = .ok (.aload_n 1, 1) := by decide +kernel
theorem dL_told_161 : decode cL_told 161 = .ok (.bipush 6, 2) := by decide +kernel
theorem dL_told_163 : decode cL_told 163 = .ok (.iload 12, 2) := by decide +kernel
theorem dL_told_165 : decode cL_told 165 = .ok (.imul, 1) := by decide +kernel
theorem dL_told_166 : decode cL_told 166 = .ok (.iaload, 1) := by decide +kernel
theorem dL_told_167 : decode cL_told 167 = .ok (.aload_n 1, 1) := by decide +kernel
theorem dL_told_168 : decode cL_told 168 = .ok (.bipush 6, 2) := by decide +kernel
theorem dL_told_170 : decode cL_told 170 = .ok (.iload 11, 2) := by decide +kernel
theorem dL_told_172 : decode cL_told 172 = .ok (.imul, 1) := by decide +kernel
theorem dL_told_173 : decode cL_told 173 = .ok (.iaload, 1) := by decide +kernel
theorem dL_told_174 : decode cL_told 174 = .ok (.isub, 1) := by decide +kernel
theorem dL_told_175 : decode cL_told 175 = .ok (.iadd, 1) := by decide +kernel
theorem dL_told_176 : decode cL_told 176 = .ok (.istore 10, 2) := by decide +kernel
theorem dL_told_178 : decode cL_told 178 = .ok (.iinc 12 1, 3) := by decide +kernel
theorem dL_told_181 : decode cL_told 181 = .ok (.goto (-65), 3) := by decide +kernel
theorem dL_told_184 : decode cL_told 184 = .ok (.iinc 11 1, 3) := by decide +kernel
theorem dL_told_187 : decode cL_told 187 = .ok (.goto (-83), 3) := by decide +kernel
theorem dL_told_190 : decode cL_told 190 = .ok (.iconst 0, 1) := by decide +kernel
theorem dL_told_191 : decode cL_told 191 = .ok (.istore 11, 2) := by decide +kernel
theorem dL_told_193 : decode cL_told 193 = .ok (.iload 11, 2) := by decide +kernel
theorem dL_told_195 : decode cL_told 195 = .ok (.bipush 6, 2) := by decide +kernel
theorem dL_told_197 : decode cL_told 197 = .ok (.if_icmp .ge 25, 3) := by decide +kernel
theorem dL_told_200 : decode cL_told 200 = .ok (.aload_n 0, 1) := by decide +kernel
theorem dL_told_201 : decode cL_told 201 = .ok (.iload 11, 2) := by decide +kernel
theorem dL_told_203 : decode cL_told 203 = .ok (.invokevirtual 51, 3) := by decide +kernel
theorem dL_told_206 : decode cL_told 206 = .ok (.aload 6, 2) := by decide +kernel
theorem dL_told_208 : decode cL_told 208 = .ok (.iload 11, 2) := by decide +kernel
theorem dL_told_210 : decode cL_told 210 = .ok (.iaload, 1) := by decide +kernel
theorem dL_told_211 : decode cL_told 211 = .ok (.if_icmp .eq 5, 3) := by decide +kernel
theorem dL_told_214 : decode cL_told 214 = .ok (.iconst 0, 1) := by decide +kernel
theorem dL_told_215 : decode cL_told 215 = .ok (.ireturn, 1) := by decide +kernel
theorem dL_told_216 : decode cL_told 216 = .ok (.iinc 11 1, 3) := by decide +kernel
theorem dL_told_219 : decode cL_told 219 = .ok (.goto (-26), 3) := by decide +kernel
theorem dL_told_222 : decode cL_told 222 = .ok (.iconst 0, 1) := by decide +kernel
theorem dL_told_223 : decode cL_told 223 = .ok (.istore 11, 2) := by decide +kernel
theorem dL_told_225 : decode cL_told 225 = .ok (.iload 11, 2) := by decide +kernel
theorem dL_told_227 : decode cL_told 227 = .ok (.iconst 5, 1) := by decide +kernel
theorem dL_told_228 : decode cL_told 228 = .ok (.if_icmp .ge 25, 3) := by decide +kernel
theorem dL_told_231 : decode cL_told 231 = .ok (.aload_n 0, 1) := by decide +kernel
theorem dL_told_232 : decode cL_told 232 = .ok (.iload 11, 2) := by decide +kernel
theorem dL_told_234 : decode cL_told 234 = .ok (.invokevirtual 55, 3) := by decide +kernel
theorem dL_told_237 : decode cL_told 237 = .ok (.aload 7, 2) := by decide +kernel
theorem dL_told_239 : decode cL_told 239 = .ok (.iload 11, 2) := by decide +kernel
theorem dL_told_241 : decode cL_told 241 = .ok (.iaload, 1) := by decide +kernel
theorem dL_told_242 : decode cL_told 242 = .ok (.if_icmp .eq 5, 3) := by decide +kernel
theorem dL_told_245 : decode cL_told 245 = .ok (.iconst 0, 1) := by decide +kernel
theorem dL_told_246 : decode cL_told 246 = .ok (.ireturn, 1) := by decide +kernel
theorem dL_told_247 : decode cL_told 247 = .ok (.iinc 11 1, 3) := by decide +kernel
theorem dL_told_250 : decode cL_told 250 = .ok (.goto (-25), 3) := by decide +kernel
theorem dL_told_253 : decode cL_told 253 = .ok (.aload_n 0, 1) := by decide +kernel
theorem dL_told_254 : decode cL_told 254 = .ok (.iconst 5, 1) := by decide +kernel
theorem dL_told_255 : decode cL_told 255 = .ok (.invokevirtual 55, 3) := by decide +kernel
theorem dL_told_258 : decode cL_told 258 = .ok (.iconst 0, 1) := by decide +kernel
theorem dL_told_259 : decode cL_told 259 = .ok (.aload_n 1, 1) := by decide +kernel
theorem dL_told_260 : decode cL_told 260 = .ok (.aload 7, 2) := by decide +kernel
theorem dL_told_262 : decode cL_told 262 = .ok (.invokestatic 58, 3) := by decide +kernel
theorem dL_told_265 : decode cL_told 265 = .ok (.if_icmp .ne 98, 3) := by decide +kernel
theorem dL_told_268 : decode cL_told 268 = .ok (.aload_n 0, 1) := by decide +kernel
theorem dL_told_269 : decode cL_told 269 = .ok (.bipush 6, 2) := by decide +kernel
theorem dL_told_271 : decode cL_told 271 = .ok (.invokevirtual 55, 3) := by decide +kernel
theorem dL_told_274 : decode cL_told 274 = .ok (.iconst 1, 1) := by decide +kernel
theorem dL_told_275 : decode cL_told 275 = .ok (.aload_n 1, 1) := by decide +kernel
theorem dL_told_276 : decode cL_told 276 = .ok (.aload 7, 2) := by decide +kernel
theorem dL_told_278 : decode cL_told 278 = .ok (.invokestatic 58, 3) := by decide +kernel
theorem dL_told_281 : decode cL_told 281 = .ok (.if_icmp .ne 82, 3) := by decide +kernel
theorem dL_told_284 : decode cL_told 284 = .ok (.aload_n 0, 1) := by decide +kernel
theorem dL_told_285 : decode cL_told 285 = .ok (.bipush 7, 2) := by decide +kernel
theorem dL_told_287 : decode cL_told 287 = .ok (.invokevirtual 55, 3) := by decide +kernel
theorem dL_told_290 : decode cL_told 290 = .ok (.aload 7, 2) := by decide +kernel
theorem dL_told_292 : decode cL_told 292 = .ok (.iconst 5, 1) := by decide +kernel
theorem dL_told_293 : decode cL_told 293 = .ok (.iaload, 1) := by decide +kernel
theorem dL_told_294 : decode cL_told 294 = .ok (.if_icmp .ne 69, 3) := by decide +kernel
theorem dL_told_297 : decode cL_told 297 = .ok (.aload_n 0, 1) := by decide +kernel
theorem dL_told_298 : decode cL_told 298 = .ok (.bipush 8, 2) := by decide +kernel
theorem dL_told_300 : decode cL_told 300 = .ok (.invokevirtual 55, 3) := by decide +kernel
theorem dL_told_303 : decode cL_told 303 = .ok (.iload 8, 2) := by decide +kernel
theorem dL_told_305 : decode cL_told 305 = .ok (.if_icmp .ne 58, 3) := by decide +kernel
theorem dL_told_308 : decode cL_told 308 = .ok (.aload_n 0, 1) := by decide +kernel
theorem dL_told_309 : decode cL_told 309 = .ok (.bipush 9, 2) := by decide +kernel
theorem dL_told_311 : decode cL_told 311 = .ok (.invokevirtual 55, 3) := by decide +kernel
theorem dL_told_314 : decode cL_told 314 = .ok (.iload 9, 2) := by decide +kernel
theorem dL_told_316 : decode cL_told 316 = .ok (.if_icmp .ne 47, 3) := by decide +kernel
theorem dL_told_319 : decode cL_told 319 = .ok (.aload_n 0, 1) := by decide +kernel
theorem dL_told_320 : decode cL_told 320 = .ok (.bipush 10, 2) := by decide +kernel
theorem dL_told_322 : decode cL_told 322 = .ok (.invokevirtual 55, 3) := by decide +kernel
theorem dL_told_325 : decode cL_told 325 = .ok (.aload 7, 2) := by decide +kernel
theorem dL_told_327 : decode cL_told 327 = .ok (.bipush 6, 2) := by decide +kernel
theorem dL_told_329 : decode cL_told 329 = .ok (.iaload, 1) := by decide +kernel
theorem dL_told_330 : decode cL_told 330 = .ok (.if_icmp .ne 33, 3) := by decide +kernel
theorem dL_told_333 : decode cL_told 333 = .ok (.aload_n 0, 1) := by decide +kernel
theorem dL_told_334 : decode cL_told 334 = .ok (.bipush 11, 2) := by decide +kernel
theorem dL_told_336 : decode cL_told 336 = .ok (.invokevirtual 55, 3) := by decide +kernel
theorem dL_told_339 : decode cL_told 339 = .ok (.iconst 3, 1) := by decide +kernel
theorem dL_told_340 : decode cL_told 340 = .ok (.aload_n 1, 1) := by decide +kernel
theorem dL_told_341 : decode cL_told 341 = .ok (.aload 7, 2) := by decide +kernel
theorem dL_told_343 : decode cL_told 343 = .ok (.invokestatic 58, 3) := by decide +kernel
theorem dL_told_346 : decode cL_told 346 = .ok (.if_icmp .ne 17, 3) := by decide +kernel
theorem dL_told_349 : decode cL_told 349 = .ok (.aload_n 0, 1) := by decide +kernel
theorem dL_told_350 : decode cL_told 350 = .ok (.bipush 12, 2) := by decide +kernel
theorem dL_told_352 : decode cL_told 352 = .ok (.invokevirtual 55, 3) := by decide +kernel
theorem dL_told_355 : decode cL_told 355 = .ok (.aload 7, 2) := by decide +kernel
theorem dL_told_357 : decode cL_told 357 = .ok (.bipush 7, 2) := by decide +kernel
theorem dL_told_359 : decode cL_told 359 = .ok (.iaload, 1) := by decide +kernel
theorem dL_told_360 : decode cL_told 360 = .ok (.if_icmp .eq 5, 3) := by decide +kernel
theorem dL_told_363 : decode cL_told 363 = .ok (.iconst 0, 1) := by decide +kernel
theorem dL_told_364 : decode cL_told 364 = .ok (.ireturn, 1) := by decide +kernel
theorem dL_told_365 : decode cL_told 365 = .ok (.aload_n 0, 1) := by decide +kernel
theorem dL_told_366 : decode cL_told 366 = .ok (.invokevirtual 61, 3) := by decide +kernel
theorem dL_told_369 : decode cL_told 369 = .ok (.iconst 0, 1) := by decide +kernel
theorem dL_told_370 : decode cL_told 370 = .ok (.aload_n 1, 1) := by decide +kernel
theorem dL_told_371 : decode cL_told 371 = .ok (.aload 7, 2) := by decide +kernel
theorem dL_told_373 : decode cL_told 373 = .ok (.invokestatic 58, 3) := by decide +kernel
theorem dL_told_376 : decode cL_told 376 = .ok (.ifCond .ne 7, 3) := by decide +kernel
theorem dL_told_379 : decode cL_told 379 = .ok (.dconst 0, 1) := by decide +kernel
theorem dL_told_380 : decode cL_told 380 = .ok (.goto 22, 3) := by decide +kernel
theorem dL_told_383 : decode cL_told 383 = .ok (.dconst 1, 1) := by decide +kernel
theorem dL_told_384 : decode cL_told 384 = .ok (.iload 10, 2) := by decide +kernel
theorem dL_told_386 : decode cL_told 386 = .ok (.i2d, 1) := by decide +kernel
theorem dL_told_387 : decode cL_told 387 = .ok (.dmul, 1) := by decide +kernel
theorem dL_told_388 : decode cL_told 388 = .ok (.aload 7, 2) := by decide +kernel
theorem dL_told_390 : decode cL_told 390 = .ok (.iconst 0, 1) := by decide +kernel
theorem dL_told_391 : decode cL_told 391 = .ok (.iaload, 1) := by decide +kernel
theorem dL_told_392 : decode cL_told 392 = .ok (.iconst 0, 1) := by decide +kernel
theorem dL_told_393 : decode cL_told 393 = .ok (.aload_n 1, 1) := by decide +kernel
theorem dL_told_394 : decode cL_told 394 = .ok (.aload 7, 2) := by decide +kernel
theorem dL_told_396 : decode cL_told 396 = .ok (.invokestatic 58, 3) := by decide +kernel
theorem dL_told_399 : decode cL_told 399 = .ok (.imul, 1) := by decide +kernel
theorem dL_told_400 : decode cL_told 400 = .ok (.i2d, 1) := by decide +kernel
theorem dL_told_401 : decode cL_told 401 = .ok (.ddiv, 1) := by decide +kernel
theorem dL_told_402 : decode cL_told 402 = .ok (.dcmp .l, 1) := by decide +kernel
theorem dL_told_403 : decode cL_told 403 = .ok (.ifCond .ne 7, 3) := by decide +kernel
theorem dL_told_406 : decode cL_told 406 = .ok (.iconst 1, 1) := by decide +kernel
theorem dL_told_407 : decode cL_told 407 = .ok (.goto 4, 3) := by decide +kernel
theorem dL_told_410 : decode cL_told 410 = .ok (.iconst 0, 1) := by decide +kernel
theorem dL_told_411 : decode cL_told 411 = .ok (.ireturn, 1) := by decide +kernel
theorem dL_same_0 : decode cL_same 0 = .ok (.iconst 0, 1) := by decide +kernel
theorem dL_same_1 : decode cL_same 1 = .ok (.istore_n 2, 1) := by decide +kernel
theorem dL_same_2 : decode cL_same 2 = .ok (.iload_n 2, 1) := by decide +kernel
theorem dL_same_3 : decode cL_same 3 = .ok (.aload_n 1, 1) := by decide +kernel
theorem dL_same_4 : decode cL_same 4 = .ok (.arraylength, 1) := by decide +kernel
theorem dL_same_5 : decode cL_same 5 = .ok (.if_icmp .ge 15, 3) := by decide +kernel
theorem dL_same_8 : decode cL_same 8 = .ok (.aload_n 0, 1) := by decide +kernel
theorem dL_same_9 : decode cL_same 9 = .ok (.iload_n 2, 1) := by decide +kernel
theorem dL_same_10 : decode cL_same 10 = .ok (.aload_n 1, 1) := by decide +kernel
theorem dL_same_11 : decode cL_same 11 = .ok (.iload_n 2, 1) := by decide +kernel
theorem dL_same_12 : decode cL_same 12 = .ok (.iaload, 1) := by decide +kernel
theorem dL_same_13 : decode cL_same 13 = .ok (.iastore, 1) := by decide +kernel
theorem dL_same_14 : decode cL_same 14 = .ok (.iinc 2 1, 3) := by decide +kernel
theorem dL_same_17 : decode cL_same 17 = .ok (.goto (-15), 3) := by decide +kernel
theorem dL_same_20 : decode cL_same 20 = .ok (.return_, 1) := by decide +kernel
theorem dL_fair_0 : decode cL_fair 0 = .ok (.iconst 0, 1) := by decide +kernel
theorem dL_fair_1 : decode cL_fair 1 = .ok (.istore_n 3, 1) := by decide +kernel
theorem dL_fair_2 : decode cL_fair 2 = .ok (.iconst 0, 1) := by decide +kernel
theorem dL_fair_3 : decode cL_fair 3 = .ok (.istore 4, 2) := by decide +kernel
theorem dL_fair_5 : decode cL_fair 5 = .ok (.iconst 0, 1) := by decide +kernel
theorem dL_fair_6 : decode cL_fair 6 = .ok (.istore 5, 2) := by decide +kernel
theorem dL_fair_8 : decode cL_fair 8 = .ok (.aload_n 2, 1) := by decide +kernel
theorem dL_fair_9 : decode cL_fair 9 = .ok (.iload_n 0, 1) := by decide +kernel
theorem dL_fair_10 : decode cL_fair 10 = .ok (.invokestatic 8, 3) := by decide +kernel
theorem dL_fair_13 : decode cL_fair 13 = .ok (.istore 6, 2) := by decide +kernel
theorem dL_fair_15 : decode cL_fair 15 = .ok (.iconst 0, 1) := by decide +kernel
theorem dL_fair_16 : decode cL_fair 16 = .ok (.istore 7, 2) := by decide +kernel
theorem dL_fair_18 : decode cL_fair 18 = .ok (.iload 7, 2) := by decide +kernel
theorem dL_fair_20 : decode cL_fair 20 = .ok (.sipush 256, 3) := by decide +kernel
theorem dL_fair_23 : decode cL_fair 23 = .ok (.if_icmp .ge 258, 3) := by decide +kernel
theorem dL_fair_26 : decode cL_fair 26 = .ok (.iload 6, 2) := by decide +kernel
theorem dL_fair_28 : decode cL_fair 28 = .ok (.ifCond .le 253, 3) := by decide +kernel
theorem dL_fair_31 : decode cL_fair 31 = .ok (.iconst 0, 1) := by decide +kernel
theorem dL_fair_32 : decode cL_fair 32 = .ok (.istore 8, 2) := by decide +kernel
theorem dL_fair_34 : decode cL_fair 34 = .ok (.iconst 1, 1) := by decide +kernel
theorem dL_fair_35 : decode cL_fair 35 = .ok (.istore 9, 2) := by decide +kernel
theorem dL_fair_37 : decode cL_fair 37 = .ok (.iconst 0, 1) := by decide +kernel
theorem dL_fair_38 : decode cL_fair 38 = .ok (.istore 10, 2) := by decide +kernel
theorem dL_fair_40 : decode cL_fair 40 = .ok (.iload 10, 2) := by decide +kernel
theorem dL_fair_42 : decode cL_fair 42 = .ok (.iconst 4, 1) := by decide +kernel
theorem dL_fair_43 : decode cL_fair 43 = .ok (.if_icmp .ge 81, 3) := by decide +kernel
theorem dL_fair_46 : decode cL_fair 46 = .ok (.iload 9, 2) := by decide +kernel
theorem dL_fair_48 : decode cL_fair 48 = .ok (.ifCond .eq 33, 3) := by decide +kernel
theorem dL_fair_51 : decode cL_fair 51 = .ok (.aload_n 2, 1) := by decide +kernel
theorem dL_fair_52 : decode cL_fair 52 = .ok (.iconst 4, 1) := by decide +kernel
theorem dL_fair_53 : decode cL_fair 53 = .ok (.iload_n 0, 1) := by decide +kernel
theorem dL_fair_54 : decode cL_fair 54 = .ok (.imul, 1) := by decide +kernel
theorem dL_fair_55 : decode cL_fair 55 = .ok (.iload 10, 2) := by decide +kernel
theorem dL_fair_57 : decode cL_fair 57 = .ok (.iadd, 1) := by decide +kernel
theorem dL_fair_58 : decode cL_fair 58 = .ok (.iaload, 1) := by decide +kernel
theorem dL_fair_59 : decode cL_fair 59 = .ok (.ifCond .gt 18, 3) := by decide +kernel
theorem dL_fair_62 : decode cL_fair 62 = .ok (.iload 7, 2) := by decide +kernel
theorem dL_fair_64 : decode cL_fair 64 = .ok (.bipush 6, 2) := by decide +kernel
theorem dL_fair_66 : decode cL_fair 66 = .ok (.iconst 2, 1) := by decide +kernel
theorem dL_fair_67 : decode cL_fair 67 = .ok (.iload 10, 2) := by decide +kernel
theorem dL_fair_69 : decode cL_fair 69 = .ok (.imul, 1) := by decide +kernel
theorem dL_fair_70 : decode cL_fair 70 = .ok (.isub, 1) := by decide +kernel
theorem dL_fair_71 : decode cL_fair 71 = .ok (.ishr, 1) := by decide +kernel
theorem dL_fair_72 : decode cL_fair 72 = .ok (.iconst 3, 1) := by decide +kernel
theorem dL_fair_73 : decode cL_fair 73 = .ok (.iand, 1) := by decide +kernel
theorem dL_fair_74 : decode cL_fair 74 = .ok (.ifCond .ne 7, 3) := by decide +kernel
theorem dL_fair_77 : decode cL_fair 77 = .ok (.iconst 1, 1) := by decide +kernel
theorem dL_fair_78 : decode cL_fair 78 = .ok (.goto 4, 3) := by decide +kernel
theorem dL_fair_81 : decode cL_fair 81 = .ok (.iconst 0, 1) := by decide +kernel
theorem dL_fair_82 : decode cL_fair 82 = .ok (.istore 9, 2) := by decide +kernel
theorem dL_fair_84 : decode cL_fair 84 = .ok (.iload 8, 2) := by decide +kernel
theorem dL_fair_86 : decode cL_fair 86 = .ok (.aload_n 2, 1) := by decide +kernel
theorem dL_fair_87 : decode cL_fair 87 = .ok (.iconst 4, 1) := by decide +kernel
theorem dL_fair_88 : decode cL_fair 88 = .ok (.iload_n 0, 1) := by decide +kernel
theorem dL_fair_89 : decode cL_fair 89 = .ok (.imul, 1) := by decide +kernel
theorem dL_fair_90 : decode cL_fair 90 = .ok (.iload 10, 2) := by decide +kernel
theorem dL_fair_92 : decode cL_fair 92 = .ok (.iadd, 1) := by decide +kernel
theorem dL_fair_93 : decode cL_fair 93 = .ok (.iaload, 1) := by decide +kernel
theorem dL_fair_94 : decode cL_fair 94 = .ok (.ifCond .le 20, 3) := by decide +kernel
theorem dL_fair_97 : decode cL_fair 97 = .ok (.iconst 1, 1) := by decide +kernel
theorem dL_fair_98 : decode cL_fair 98 = .ok (.iload 7, 2) := by decide +kernel
theorem dL_fair_100 : decode cL_fair 100 = .ok (.bipush 6, 2) := by decide +kernel
theorem dL_fair_102 : decode cL_fair 102 = .ok (.iconst 2, 1) := by decide +kernel
theorem dL_fair_103 : decode cL_fair 103 = .ok (.iload 10, 2) := by decide +kernel
theorem dL_fair_105 : decode cL_fair 105 = .ok (.imul, 1) := by decide +kernel
theorem dL_fair_106 : decode cL_fair 106 = .ok (.isub, 1) := by decide +kernel
theorem dL_fair_107 : decode cL_fair 107 = .ok (.ishr, 1) := by decide +kernel
theorem dL_fair_108 : decode cL_fair 108 = .ok (.iconst 3, 1) := by decide +kernel
theorem dL_fair_109 : decode cL_fair 109 = .ok (.iand, 1) := by decide +kernel
theorem dL_fair_110 : decode cL_fair 110 = .ok (.iadd, 1) := by decide +kernel
theorem dL_fair_111 : decode cL_fair 111 = .ok (.goto 4, 3) := by decide +kernel
theorem dL_fair_114 : decode cL_fair 114 = .ok (.iconst 0, 1) := by decide +kernel
theorem dL_fair_115 : decode cL_fair 115 = .ok (.iadd, 1) := by decide +kernel
theorem dL_fair_116 : decode cL_fair 116 = .ok (.istore 8, 2) := by decide +kernel
theorem dL_fair_118 : decode cL_fair 118 = .ok (.iinc 10 1, 3) := by decide +kernel
theorem dL_fair_121 : decode cL_fair 121 = .ok (.goto (-81), 3) := by decide +kernel
theorem dL_fair_124 : decode cL_fair 124 = .ok (.iconst 0, 1) := by decide +kernel
theorem dL_fair_125 : decode cL_fair 125 = .ok (.istore 10, 2) := by decide +kernel
theorem dL_fair_127 : decode cL_fair 127 = .ok (.iconst 0, 1) := by decide +kernel
theorem dL_fair_128 : decode cL_fair 128 = .ok (.istore 11, 2) := by decide +kernel
theorem dL_fair_130 : decode cL_fair 130 = .ok (.iload 11, 2) := by decide +kernel
theorem dL_fair_132 : decode cL_fair 132 = .ok (.iconst 4, 1) := by decide +kernel
theorem dL_fair_133 : decode cL_fair 133 = .ok (.if_icmp .ge 85, 3) := by decide +kernel
theorem dL_fair_136 : decode cL_fair 136 = .ok (.aload_n 2, 1) := by decide +kernel
theorem dL_fair_137 : decode cL_fair 137 = .ok (.iconst 4, 1) := by decide +kernel
theorem dL_fair_138 : decode cL_fair 138 = .ok (.iload_n 0, 1) := by decide +kernel
theorem dL_fair_139 : decode cL_fair 139 = .ok (.imul, 1) := by decide +kernel
theorem dL_fair_140 : decode cL_fair 140 = .ok (.iload 11, 2) := by decide +kernel
theorem dL_fair_142 : decode cL_fair 142 = .ok (.iadd, 1) := by decide +kernel
theorem dL_fair_143 : decode cL_fair 143 = .ok (.iaload, 1) := by decide +kernel
theorem dL_fair_144 : decode cL_fair 144 = .ok (.ifCond .le 35, 3) := by decide +kernel
theorem dL_fair_147 : decode cL_fair 147 = .ok (.iconst 1, 1) := by decide +kernel
theorem dL_fair_148 : decode cL_fair 148 = .ok (.iload 7, 2) := by decide +kernel
theorem dL_fair_150 : decode cL_fair 150 = .ok (.bipush 6, 2) := by decide +kernel
theorem dL_fair_152 : decode cL_fair 152 = .ok (.iconst 2, 1) := by decide +kernel
theorem dL_fair_153 : decode cL_fair 153 = .ok (.iload 11, 2) := by decide +kernel
theorem dL_fair_155 : decode cL_fair 155 = .ok (.imul, 1) := by decide +kernel
theorem dL_fair_156 : decode cL_fair 156 = .ok (.isub, 1) := by decide +kernel
theorem dL_fair_157 : decode cL_fair 157 = .ok (.ishr, 1) := by decide +kernel
theorem dL_fair_158 : decode cL_fair 158 = .ok (.iconst 3, 1) := by decide +kernel
theorem dL_fair_159 : decode cL_fair 159 = .ok (.iand, 1) := by decide +kernel
theorem dL_fair_160 : decode cL_fair 160 = .ok (.iadd, 1) := by decide +kernel
theorem dL_fair_161 : decode cL_fair 161 = .ok (.iload 6, 2) := by decide +kernel
theorem dL_fair_163 : decode cL_fair 163 = .ok (.imul, 1) := by decide +kernel
theorem dL_fair_164 : decode cL_fair 164 = .ok (.aload_n 2, 1) := by decide +kernel
theorem dL_fair_165 : decode cL_fair 165 = .ok (.iconst 4, 1) := by decide +kernel
theorem dL_fair_166 : decode cL_fair 166 = .ok (.iload_n 0, 1) := by decide +kernel
theorem dL_fair_167 : decode cL_fair 167 = .ok (.imul, 1) := by decide +kernel
theorem dL_fair_168 : decode cL_fair 168 = .ok (.iload 11, 2) := by decide +kernel
theorem dL_fair_170 : decode cL_fair 170 = .ok (.iadd, 1) := by decide +kernel
theorem dL_fair_171 : decode cL_fair 171 = .ok (.iaload, 1) := by decide +kernel
theorem dL_fair_172 : decode cL_fair 172 = .ok (.iload 8, 2) := by decide +kernel
theorem dL_fair_174 : decode cL_fair 174 = .ok (.imul, 1) := by decide +kernel
theorem dL_fair_175 : decode cL_fair 175 = .ok (.isub, 1) := by decide +kernel
theorem dL_fair_176 : decode cL_fair 176 = .ok (.goto 4, 3) := by decide +kernel
theorem dL_fair_179 : decode cL_fair 179 = .ok (.iconst 0, 1) := by decide +kernel
theorem dL_fair_180 : decode cL_fair 180 = .ok (.istore 12, 2) := by decide +kernel
theorem dL_fair_182 : decode cL_fair 182 = .ok (.iload 12, 2) := by decide +kernel
theorem dL_fair_184 : decode cL_fair 184 = .ok (.iload 10, 2) := by decide +kernel
theorem dL_fair_186 : decode cL_fair 186 = .ok (.if_icmp .le 8, 3) := by decide +kernel
theorem dL_fair_189 : decode cL_fair 189 = .ok (.iload 12, 2) := by decide +kernel
theorem dL_fair_191 : decode cL_fair 191 = .ok (.goto 19, 3) := by decide +kernel
theorem dL_fair_194 : decode cL_fair 194 = .ok (.iload 12, 2) := by decide +kernel
theorem dL_fair_196 : decode cL_fair 196 = .ok (.ineg, 1) := by decide +kernel
theorem dL_fair_197 : decode cL_fair 197 = .ok (.iload 10, 2) := by decide +kernel
theorem dL_fair_199 : decode cL_fair 199 = .ok (.if_icmp .le 9, 3) := by decide +kernel
theorem dL_fair_202 : decode cL_fair 202 = .ok (.iload 12, 2) := by decide +kernel
theorem dL_fair_204 : decode cL_fair 204 = .ok (.ineg, 1) := by decide +kernel
theorem dL_fair_205 : decode cL_fair 205 = .ok (.goto 5, 3) := by decide +kernel
theorem dL_fair_208 : decode cL_fair 208 = .ok (.iload 10, 2) := by decide +kernel
theorem dL_fair_210 : decode cL_fair 210 = .ok (.istore 10, 2) := by decide +kernel
theorem dL_fair_212 : decode cL_fair 212 = .ok (.iinc 11 1, 3) := by decide +kernel
theorem dL_fair_215 : decode cL_fair 215 = .ok (.goto (-85), 3) := by decide +kernel
theorem dL_fair_218 : decode cL_fair 218 = .ok (.iload 9, 2) := by decide +kernel
theorem dL_fair_220 : decode cL_fair 220 = .ok (.ifCond .eq 55, 3) := by decide +kernel
theorem dL_fair_223 : decode cL_fair 223 = .ok (.iload 5, 2) := by decide +kernel
theorem dL_fair_225 : decode cL_fair 225 = .ok (.ifCond .le 39, 3) := by decide +kernel
theorem dL_fair_228 : decode cL_fair 228 = .ok (.iload 10, 2) := by decide +kernel
theorem dL_fair_230 : decode cL_fair 230 = .ok (.iload 5, 2) := by decide +kernel
theorem dL_fair_232 : decode cL_fair 232 = .ok (.imul, 1) := by decide +kernel
theorem dL_fair_233 : decode cL_fair 233 = .ok (.iload 4, 2) := by decide +kernel
theorem dL_fair_235 : decode cL_fair 235 = .ok (.iload 8, 2) := by decide +kernel
theorem dL_fair_237 : decode cL_fair 237 = .ok (.imul, 1) := by decide +kernel
theorem dL_fair_238 : decode cL_fair 238 = .ok (.if_icmp .gt 37, 3) := by decide +kernel
theorem dL_fair_241 : decode cL_fair 241 = .ok (.iload 10, 2) := by decide +kernel
theorem dL_fair_243 : decode cL_fair 243 = .ok (.iload 5, 2) := by decide +kernel
theorem dL_fair_245 : decode cL_fair 245 = .ok (.imul, 1) := by decide +kernel
theorem dL_fair_246 : decode cL_fair 246 = .ok (.iload 4, 2) := by decide +kernel
theorem dL_fair_248 : decode cL_fair 248 = .ok (.iload 8, 2) := by decide +kernel
theorem dL_fair_250 : decode cL_fair 250 = .ok (.imul, 1) := by decide +kernel
theorem dL_fair_251 : decode cL_fair 251 = .ok (.if_icmp .ne 13, 3) := by decide +kernel
theorem dL_fair_254 : decode cL_fair 254 = .ok (.iload 8, 2) := by decide +kernel
theorem dL_fair_256 : decode cL_fair 256 = .ok (.iload 5, 2) := by decide +kernel
theorem dL_fair_258 : decode cL_fair 258 = .ok (.if_icmp .lt 6, 3) := by decide +kernel
theorem dL_fair_261 : decode cL_fair 261 = .ok (.goto 14, 3) := by decide +kernel
theorem dL_fair_264 : decode cL_fair 264 = .ok (.iload 7, 2) := by decide +kernel
theorem dL_fair_266 : decode cL_fair 266 = .ok (.istore_n 3, 1) := by decide +kernel
theorem dL_fair_267 : decode cL_fair 267 = .ok (.iload 10, 2) := by decide +kernel
theorem dL_fair_269 : decode cL_fair 269 = .ok (.istore 4, 2) := by decide +kernel
theorem dL_fair_271 : decode cL_fair 271 = .ok (.iload 8, 2) := by decide +kernel
theorem dL_fair_273 : decode cL_fair 273 = .ok (.istore 5, 2) := by decide +kernel
theorem dL_fair_275 : decode cL_fair 275 = .ok (.iinc 7 1, 3) := by decide +kernel
theorem dL_fair_278 : decode cL_fair 278 = .ok (.goto (-260), 3) := by decide +kernel
theorem dL_fair_281 : decode cL_fair 281 = .ok (.iload 6, 2) := by decide +kernel
theorem dL_fair_283 : decode cL_fair 283 = .ok (.ifCond .eq 13, 3) := by decide +kernel
theorem dL_fair_286 : decode cL_fair 286 = .ok (.aload_n 2, 1) := by decide +kernel
theorem dL_fair_287 : decode cL_fair 287 = .ok (.iconst 4, 1) := by decide +kernel
theorem dL_fair_288 : decode cL_fair 288 = .ok (.iload_n 0, 1) := by decide +kernel
theorem dL_fair_289 : decode cL_fair 289 = .ok (.imul, 1) := by decide +kernel
theorem dL_fair_290 : decode cL_fair 290 = .ok (.iload_n 1, 1) := by decide +kernel
theorem dL_fair_291 : decode cL_fair 291 = .ok (.iadd, 1) := by decide +kernel
theorem dL_fair_292 : decode cL_fair 292 = .ok (.iaload, 1) := by decide +kernel
theorem dL_fair_293 : decode cL_fair 293 = .ok (.ifCond .ne 7, 3) := by decide +kernel
theorem dL_fair_296 : decode cL_fair 296 = .ok (.iconst 0, 1) := by decide +kernel
theorem dL_fair_297 : decode cL_fair 297 = .ok (.goto 15, 3) := by decide +kernel
theorem dL_fair_300 : decode cL_fair 300 = .ok (.iconst 1, 1) := by decide +kernel
theorem dL_fair_301 : decode cL_fair 301 = .ok (.iload_n 3, 1) := by decide +kernel
theorem dL_fair_302 : decode cL_fair 302 = .ok (.bipush 6, 2) := by decide +kernel
theorem dL_fair_304 : decode cL_fair 304 = .ok (.iconst 2, 1) := by decide +kernel
theorem dL_fair_305 : decode cL_fair 305 = .ok (.iload_n 1, 1) := by decide +kernel
theorem dL_fair_306 : decode cL_fair 306 = .ok (.imul, 1) := by decide +kernel
theorem dL_fair_307 : decode cL_fair 307 = .ok (.isub, 1) := by decide +kernel
theorem dL_fair_308 : decode cL_fair 308 = .ok (.ishr, 1) := by decide +kernel
theorem dL_fair_309 : decode cL_fair 309 = .ok (.iconst 3, 1) := by decide +kernel
theorem dL_fair_310 : decode cL_fair 310 = .ok (.iand, 1) := by decide +kernel
theorem dL_fair_311 : decode cL_fair 311 = .ok (.iadd, 1) := by decide +kernel
theorem dL_fair_312 : decode cL_fair 312 = .ok (.ireturn, 1) := by decide +kernel
theorem dL_ahead_0 : decode cL_ahead 0 = .ok (.aload 8, 2) := by decide +kernel
theorem dL_ahead_2 : decode cL_ahead 2 = .ok (.iconst 0, 1) := by decide +kernel
theorem dL_ahead_3 : decode cL_ahead 3 = .ok (.iaload, 1) := by decide +kernel
theorem dL_ahead_4 : decode cL_ahead 4 = .ok (.ifCond .ne 5, 3) := by decide +kernel
theorem dL_ahead_7 : decode cL_ahead 7 = .ok (.iconst 1, 1) := by decide +kernel
theorem dL_ahead_8 : decode cL_ahead 8 = .ok (.ireturn, 1) := by decide +kernel
theorem dL_ahead_9 : decode cL_ahead 9 = .ok (.iload_n 1, 1) := by decide +kernel
theorem dL_ahead_10 : decode cL_ahead 10 = .ok (.aload 8, 2) := by decide +kernel
theorem dL_ahead_12 : decode cL_ahead 12 = .ok (.iconst 0, 1) := by decide +kernel
theorem dL_ahead_13 : decode cL_ahead 13 = .ok (.iaload, 1) := by decide +kernel
theorem dL_ahead_14 : decode cL_ahead 14 = .ok (.invokestatic 65, 3) := by decide +kernel
theorem dL_ahead_17 : decode cL_ahead 17 = .ok (.istore 9, 2) := by decide +kernel
theorem dL_ahead_19 : decode cL_ahead 19 = .ok (.iconst 1, 1) := by decide +kernel
theorem dL_ahead_20 : decode cL_ahead 20 = .ok (.iload_n 1, 1) := by decide +kernel
theorem dL_ahead_21 : decode cL_ahead 21 = .ok (.iconst 3, 1) := by decide +kernel
theorem dL_ahead_22 : decode cL_ahead 22 = .ok (.ishr, 1) := by decide +kernel
theorem dL_ahead_23 : decode cL_ahead 23 = .ok (.sipush 5000, 3) := by decide +kernel
theorem dL_ahead_26 : decode cL_ahead 26 = .ok (.invokestatic 65, 3) := by decide +kernel
theorem dL_ahead_29 : decode cL_ahead 29 = .ok (.iadd, 1) := by decide +kernel
theorem dL_ahead_30 : decode cL_ahead 30 = .ok (.istore 10, 2) := by decide +kernel
theorem dL_ahead_32 : decode cL_ahead 32 = .ok (.iconst (-1), 1) := by decide +kernel
theorem dL_ahead_33 : decode cL_ahead 33 = .ok (.istore 11, 2) := by decide +kernel
theorem dL_ahead_35 : decode cL_ahead 35 = .ok (.iconst (-1), 1) := by decide +kernel
theorem dL_ahead_36 : decode cL_ahead 36 = .ok (.istore 12, 2) := by decide +kernel
theorem dL_ahead_38 : decode cL_ahead 38 = .ok (.bipush 24, 2) := by decide +kernel
theorem dL_ahead_40 : decode cL_ahead 40 = .ok (.newarray .int, 2) := by decide +kernel
theorem dL_ahead_42 : decode cL_ahead 42 = .ok (.astore 13, 2) := by decide +kernel
theorem dL_ahead_44 : decode cL_ahead 44 = .ok (.bipush 20, 2) := by decide +kernel
theorem dL_ahead_46 : decode cL_ahead 46 = .ok (.newarray .int, 2) := by decide +kernel
theorem dL_ahead_48 : decode cL_ahead 48 = .ok (.astore 14, 2) := by decide +kernel
theorem dL_ahead_50 : decode cL_ahead 50 = .ok (.bipush 16, 2) := by decide +kernel
theorem dL_ahead_52 : decode cL_ahead 52 = .ok (.newarray .int, 2) := by decide +kernel
theorem dL_ahead_54 : decode cL_ahead 54 = .ok (.astore 15, 2) := by decide +kernel
theorem dL_ahead_56 : decode cL_ahead 56 = .ok (.bipush 8, 2) := by decide +kernel
theorem dL_ahead_58 : decode cL_ahead 58 = .ok (.newarray .int, 2) := by decide +kernel
theorem dL_ahead_60 : decode cL_ahead 60 = .ok (.astore 16, 2) := by decide +kernel
theorem dL_ahead_62 : decode cL_ahead 62 = .ok (.iconst 0, 1) := by decide +kernel
theorem dL_ahead_63 : decode cL_ahead 63 = .ok (.istore 17, 2) := by decide +kernel
theorem dL_ahead_65 : decode cL_ahead 65 = .ok (.iload 17, 2) := by decide +kernel
theorem dL_ahead_67 : decode cL_ahead 67 = .ok (.aload 8, 2) := by decide +kernel
theorem dL_ahead_69 : decode cL_ahead 69 = .ok (.iconst 1, 1) := by decide +kernel
theorem dL_ahead_70 : decode cL_ahead 70 = .ok (.iaload, 1) := by decide +kernel
theorem dL_ahead_71 : decode cL_ahead 71 = .ok (.if_icmp .ge 160, 3) := by decide +kernel
theorem dL_ahead_74 : decode cL_ahead 74 = .ok (.aload_n 0, 1) := by decide +kernel
theorem dL_ahead_75 : decode cL_ahead 75 = .ok (.iload 17, 2) := by decide +kernel
theorem dL_ahead_77 : decode cL_ahead 77 = .ok (.iload 9, 2) := by decide +kernel
theorem dL_ahead_79 : decode cL_ahead 79 = .ok (.invokevirtual 68, 3) := by decide +kernel
theorem dL_ahead_82 : decode cL_ahead 82 = .ok (.iload 17, 2) := by decide +kernel
theorem dL_ahead_84 : decode cL_ahead 84 = .ok (.iload 9, 2) := by decide +kernel
theorem dL_ahead_86 : decode cL_ahead 86 = .ok (.aload 4, 2) := by decide +kernel
theorem dL_ahead_88 : decode cL_ahead 88 = .ok (.invokestatic 71, 3) := by decide +kernel
theorem dL_ahead_91 : decode cL_ahead 91 = .ok (.if_icmp .eq 5, 3) := by decide +kernel
theorem dL_ahead_94 : decode cL_ahead 94 = .ok (.iconst 0, 1) := by decide +kernel
theorem dL_ahead_95 : decode cL_ahead 95 = .ok (.ireturn, 1) := by decide +kernel
theorem dL_ahead_96 : decode cL_ahead 96 = .ok (.aload_n 3, 1) := by decide +kernel
theorem dL_ahead_97 : decode cL_ahead 97 = .ok (.iconst 5, 1) := by decide +kernel
theorem dL_ahead_98 : decode cL_ahead 98 = .ok (.iload 17, 2) := by decide +kernel
theorem dL_ahead_100 : decode cL_ahead 100 = .ok (.imul, 1) := by decide +kernel
theorem dL_ahead_101 : decode cL_ahead 101 = .ok (.iconst 2, 1) := by decide +kernel
theorem dL_ahead_102 : decode cL_ahead 102 = .ok (.iadd, 1) := by decide +kernel
theorem dL_ahead_103 : decode cL_ahead 103 = .ok (.iaload, 1) := by decide +kernel
theorem dL_ahead_104 : decode cL_ahead 104 = .ok (.iconst 3, 1) := by decide +kernel
theorem dL_ahead_105 : decode cL_ahead 105 = .ok (.if_icmp .eq 6, 3) := by decide +kernel
theorem dL_ahead_108 : decode cL_ahead 108 = .ok (.goto 117, 3) := by decide +kernel
theorem dL_ahead_111 : decode cL_ahead 111 = .ok (.aload 13, 2) := by decide +kernel
theorem dL_ahead_113 : decode cL_ahead 113 = .ok (.aload_n 2, 1) := by decide +kernel
theorem dL_ahead_114 : decode cL_ahead 114 = .ok (.invokestatic 75, 3) := by decide +kernel
theorem dL_ahead_117 : decode cL_ahead 117 = .ok (.aload 14, 2) := by decide +kernel
theorem dL_ahead_119 : decode cL_ahead 119 = .ok (.aload_n 3, 1) := by decide +kernel
theorem dL_ahead_120 : decode cL_ahead 120 = .ok (.invokestatic 75, 3) := by decide +kernel
theorem dL_ahead_123 : decode cL_ahead 123 = .ok (.aload 15, 2) := by decide +kernel
theorem dL_ahead_125 : decode cL_ahead 125 = .ok (.aload 6, 2) := by decide +kernel
theorem dL_ahead_127 : decode cL_ahead 127 = .ok (.invokestatic 75, 3) := by decide +kernel
theorem dL_ahead_130 : decode cL_ahead 130 = .ok (.aload 16, 2) := by decide +kernel
theorem dL_ahead_132 : decode cL_ahead 132 = .ok (.aload 8, 2) := by decide +kernel
theorem dL_ahead_134 : decode cL_ahead 134 = .ok (.invokestatic 75, 3) := by decide +kernel
theorem dL_ahead_137 : decode cL_ahead 137 = .ok (.iload 17, 2) := by decide +kernel
theorem dL_ahead_139 : decode cL_ahead 139 = .ok (.iload 10, 2) := by decide +kernel
theorem dL_ahead_141 : decode cL_ahead 141 = .ok (.iconst 1, 1) := by decide +kernel
theorem dL_ahead_142 : decode cL_ahead 142 = .ok (.aload 13, 2) := by decide +kernel
theorem dL_ahead_144 : decode cL_ahead 144 = .ok (.aload 14, 2) := by decide +kernel
theorem dL_ahead_146 : decode cL_ahead 146 = .ok (.aload 5, 2) := by decide +kernel
theorem dL_ahead_148 : decode cL_ahead 148 = .ok (.aload 15, 2) := by decide +kernel
theorem dL_ahead_150 : decode cL_ahead 150 = .ok (.aload 7, 2) := by decide +kernel
theorem dL_ahead_152 : decode cL_ahead 152 = .ok (.aload 16, 2) := by decide +kernel
theorem dL_ahead_154 : decode cL_ahead 154 = .ok (.invokestatic 79, 3) := by decide +kernel
theorem dL_ahead_157 : decode cL_ahead 157 = .ok (.pop, 1) := by decide +kernel
theorem dL_ahead_158 : decode cL_ahead 158 = .ok (.aload 13, 2) := by decide +kernel
theorem dL_ahead_160 : decode cL_ahead 160 = .ok (.bipush 6, 2) := by decide +kernel
theorem dL_ahead_162 : decode cL_ahead 162 = .ok (.iload 9, 2) := by decide +kernel
theorem dL_ahead_164 : decode cL_ahead 164 = .ok (.imul, 1) := by decide +kernel
theorem dL_ahead_165 : decode cL_ahead 165 = .ok (.iaload, 1) := by decide +kernel
theorem dL_ahead_166 : decode cL_ahead 166 = .ok (.aload_n 2, 1) := by decide +kernel
theorem dL_ahead_167 : decode cL_ahead 167 = .ok (.bipush 6, 2) := by decide +kernel
theorem dL_ahead_169 : decode cL_ahead 169 = .ok (.iload 9, 2) := by decide +kernel
theorem dL_ahead_171 : decode cL_ahead 171 = .ok (.imul, 1) := by decide +kernel
theorem dL_ahead_172 : decode cL_ahead 172 = .ok (.iaload, 1) := by decide +kernel
theorem dL_ahead_173 : decode cL_ahead 173 = .ok (.isub, 1) := by decide +kernel
theorem dL_ahead_174 : decode cL_ahead 174 = .ok (.istore 18, 2) := by decide +kernel
theorem dL_ahead_176 : decode cL_ahead 176 = .ok (.aload_n 0, 1) := by decide +kernel
theorem dL_ahead_177 : decode cL_ahead 177 = .ok (.iload 17, 2) := by decide +kernel
theorem dL_ahead_179 : decode cL_ahead 179 = .ok (.iload 10, 2) := by decide +kernel
theorem dL_ahead_181 : decode cL_ahead 181 = .ok (.iload 9, 2) := by decide +kernel
theorem dL_ahead_183 : decode cL_ahead 183 = .ok (.invokevirtual 83, 3) := by decide +kernel
theorem dL_ahead_186 : decode cL_ahead 186 = .ok (.iload 18, 2) := by decide +kernel
theorem dL_ahead_188 : decode cL_ahead 188 = .ok (.if_icmp .eq 5, 3) := by decide +kernel
theorem dL_ahead_191 : decode cL_ahead 191 = .ok (.iconst 0, 1) := by decide +kernel
theorem dL_ahead_192 : decode cL_ahead 192 = .ok (.ireturn, 1) := by decide +kernel
theorem dL_ahead_193 : decode cL_ahead 193 = .ok (.iload 18, 2) := by decide +kernel
theorem dL_ahead_195 : decode cL_ahead 195 = .ok (.iload 12, 2) := by decide +kernel
theorem dL_ahead_197 : decode cL_ahead 197 = .ok (.if_icmp .le 8, 3) := by decide +kernel
theorem dL_ahead_200 : decode cL_ahead 200 = .ok (.iload 17, 2) := by decide +kernel
theorem dL_ahead_202 : decode cL_ahead 202 = .ok (.goto 5, 3) := by decide +kernel
theorem dL_ahead_205 : decode cL_ahead 205 = .ok (.iload 11, 2) := by decide +kernel
theorem dL_ahead_207 : decode cL_ahead 207 = .ok (.istore 11, 2) := by decide +kernel
theorem dL_ahead_209 : decode cL_ahead 209 = .ok (.iload 18, 2) := by decide +kernel
theorem dL_ahead_211 : decode cL_ahead 211 = .ok (.iload 12, 2) := by decide +kernel
theorem dL_ahead_213 : decode cL_ahead 213 = .ok (.if_icmp .le 8, 3) := by decide +kernel
theorem dL_ahead_216 : decode cL_ahead 216 = .ok (.iload 18, 2) := by decide +kernel
theorem dL_ahead_218 : decode cL_ahead 218 = .ok (.goto 5, 3) := by decide +kernel
theorem dL_ahead_221 : decode cL_ahead 221 = .ok (.iload 12, 2) := by decide +kernel
theorem dL_ahead_223 : decode cL_ahead 223 = .ok (.istore 12, 2) := by decide +kernel
theorem dL_ahead_225 : decode cL_ahead 225 = .ok (.iinc 17 1, 3) := by decide +kernel
theorem dL_ahead_228 : decode cL_ahead 228 = .ok (.goto (-163), 3) := by decide +kernel
theorem dL_ahead_231 : decode cL_ahead 231 = .ok (.aload_n 0, 1) := by decide +kernel
theorem dL_ahead_232 : decode cL_ahead 232 = .ok (.iload 9, 2) := by decide +kernel
theorem dL_ahead_234 : decode cL_ahead 234 = .ok (.iload 10, 2) := by decide +kernel
theorem dL_ahead_236 : decode cL_ahead 236 = .ok (.invokevirtual 86, 3) := by decide +kernel
theorem dL_ahead_239 : decode cL_ahead 239 = .ok (.iload 11, 2) := by decide +kernel
theorem dL_ahead_241 : decode cL_ahead 241 = .ok (.if_icmp .ne 7, 3) := by decide +kernel
theorem dL_ahead_244 : decode cL_ahead 244 = .ok (.iconst 1, 1) := by decide +kernel
theorem dL_ahead_245 : decode cL_ahead 245 = .ok (.goto 4, 3) := by decide +kernel
theorem dL_ahead_248 : decode cL_ahead 248 = .ok (.iconst 0, 1) := by decide +kernel
theorem dL_ahead_249 : decode cL_ahead 249 = .ok (.ireturn, 1) := by decide +kernel
theorem dL_money_0 : decode cL_money 0 = .ok (.iload_n 2, 1) := by decide +kernel
theorem dL_money_1 : decode cL_money 1 = .ok (.aload 5, 2) := by decide +kernel
theorem dL_money_3 : decode cL_money 3 = .ok (.iconst 0, 1) := by decide +kernel
theorem dL_money_4 : decode cL_money 4 = .ok (.iaload, 1) := by decide +kernel
theorem dL_money_5 : decode cL_money 5 = .ok (.invokestatic 65, 3) := by decide +kernel
theorem dL_money_8 : decode cL_money 8 = .ok (.istore 6, 2) := by decide +kernel
theorem dL_money_10 : decode cL_money 10 = .ok (.iload_n 2, 1) := by decide +kernel
theorem dL_money_11 : decode cL_money 11 = .ok (.iconst 3, 1) := by decide +kernel
theorem dL_money_12 : decode cL_money 12 = .ok (.ishr, 1) := by decide +kernel
theorem dL_money_13 : decode cL_money 13 = .ok (.aload 5, 2) := by decide +kernel
theorem dL_money_15 : decode cL_money 15 = .ok (.iconst 0, 1) := by decide +kernel
theorem dL_money_16 : decode cL_money 16 = .ok (.iaload, 1) := by decide +kernel
theorem dL_money_17 : decode cL_money 17 = .ok (.invokestatic 65, 3) := by decide +kernel
theorem dL_money_20 : decode cL_money 20 = .ok (.istore 7, 2) := by decide +kernel
theorem dL_money_22 : decode cL_money 22 = .ok (.iload_n 1, 1) := by decide +kernel
theorem dL_money_23 : decode cL_money 23 = .ok (.ifCond .ne 126, 3) := by decide +kernel
theorem dL_money_26 : decode cL_money 26 = .ok (.iload_n 3, 1) := by decide +kernel
theorem dL_money_27 : decode cL_money 27 = .ok (.aload 4, 2) := by decide +kernel
theorem dL_money_29 : decode cL_money 29 = .ok (.bipush 6, 2) := by decide +kernel
theorem dL_money_31 : decode cL_money 31 = .ok (.iload 7, 2) := by decide +kernel
theorem dL_money_33 : decode cL_money 33 = .ok (.imul, 1) := by decide +kernel
theorem dL_money_34 : decode cL_money 34 = .ok (.iaload, 1) := by decide +kernel
theorem dL_money_35 : decode cL_money 35 = .ok (.iconst 1, 1) := by decide +kernel
theorem dL_money_36 : decode cL_money 36 = .ok (.iadd, 1) := by decide +kernel
theorem dL_money_37 : decode cL_money 37 = .ok (.invokestatic 65, 3) := by decide +kernel
theorem dL_money_40 : decode cL_money 40 = .ok (.istore 8, 2) := by decide +kernel
theorem dL_money_42 : decode cL_money 42 = .ok (.aload 4, 2) := by decide +kernel
theorem dL_money_44 : decode cL_money 44 = .ok (.bipush 6, 2) := by decide +kernel
theorem dL_money_46 : decode cL_money 46 = .ok (.iload 6, 2) := by decide +kernel
theorem dL_money_48 : decode cL_money 48 = .ok (.imul, 1) := by decide +kernel
theorem dL_money_49 : decode cL_money 49 = .ok (.iconst 3, 1) := by decide +kernel
theorem dL_money_50 : decode cL_money 50 = .ok (.iadd, 1) := by decide +kernel
theorem dL_money_51 : decode cL_money 51 = .ok (.iaload, 1) := by decide +kernel
theorem dL_money_52 : decode cL_money 52 = .ok (.iload 7, 2) := by decide +kernel
theorem dL_money_54 : decode cL_money 54 = .ok (.if_icmp .eq 10, 3) := by decide +kernel
theorem dL_money_57 : decode cL_money 57 = .ok (.iload 8, 2) := by decide +kernel
theorem dL_money_59 : decode cL_money 59 = .ok (.ldc 89, 2) := by decide +kernel
theorem dL_money_61 : decode cL_money 61 = .ok (.if_icmp .le 5, 3) := by decide +kernel
theorem dL_money_64 : decode cL_money 64 = .ok (.iconst 1, 1) := by decide +kernel
theorem dL_money_65 : decode cL_money 65 = .ok (.ireturn, 1) := by decide +kernel
theorem dL_money_66 : decode cL_money 66 = .ok (.aload 4, 2) := by decide +kernel
theorem dL_money_68 : decode cL_money 68 = .ok (.bipush 6, 2) := by decide +kernel
theorem dL_money_70 : decode cL_money 70 = .ok (.iload 6, 2) := by decide +kernel
theorem dL_money_72 : decode cL_money 72 = .ok (.imul, 1) := by decide +kernel
theorem dL_money_73 : decode cL_money 73 = .ok (.iconst 3, 1) := by decide +kernel
theorem dL_money_74 : decode cL_money 74 = .ok (.iadd, 1) := by decide +kernel
theorem dL_money_75 : decode cL_money 75 = .ok (.iaload, 1) := by decide +kernel
theorem dL_money_76 : decode cL_money 76 = .ok (.istore 9, 2) := by decide +kernel
theorem dL_money_78 : decode cL_money 78 = .ok (.aload 4, 2) := by decide +kernel
theorem dL_money_80 : decode cL_money 80 = .ok (.bipush 6, 2) := by decide +kernel
theorem dL_money_82 : decode cL_money 82 = .ok (.iload 7, 2) := by decide +kernel
theorem dL_money_84 : decode cL_money 84 = .ok (.imul, 1) := by decide +kernel
theorem dL_money_85 : decode cL_money 85 = .ok (.dup2, 1) := by decide +kernel
theorem dL_money_86 : decode cL_money 86 = .ok (.iaload, 1) := by decide +kernel
theorem dL_money_87 : decode cL_money 87 = .ok (.iload 8, 2) := by decide +kernel
theorem dL_money_89 : decode cL_money 89 = .ok (.isub, 1) := by decide +kernel
theorem dL_money_90 : decode cL_money 90 = .ok (.iastore, 1) := by decide +kernel
theorem dL_money_91 : decode cL_money 91 = .ok (.aload 4, 2) := by decide +kernel
theorem dL_money_93 : decode cL_money 93 = .ok (.bipush 6, 2) := by decide +kernel
theorem dL_money_95 : decode cL_money 95 = .ok (.iload 9, 2) := by decide +kernel
theorem dL_money_97 : decode cL_money 97 = .ok (.imul, 1) := by decide +kernel
theorem dL_money_98 : decode cL_money 98 = .ok (.dup2, 1) := by decide +kernel
theorem dL_money_99 : decode cL_money 99 = .ok (.iaload, 1) := by decide +kernel
theorem dL_money_100 : decode cL_money 100 = .ok (.iload 8, 2) := by decide +kernel
theorem dL_money_102 : decode cL_money 102 = .ok (.iadd, 1) := by decide +kernel
theorem dL_money_103 : decode cL_money 103 = .ok (.iastore, 1) := by decide +kernel
theorem dL_money_104 : decode cL_money 104 = .ok (.aload 4, 2) := by decide +kernel
theorem dL_money_106 : decode cL_money 106 = .ok (.bipush 6, 2) := by decide +kernel
theorem dL_money_108 : decode cL_money 108 = .ok (.iload 6, 2) := by decide +kernel
theorem dL_money_110 : decode cL_money 110 = .ok (.imul, 1) := by decide +kernel
theorem dL_money_111 : decode cL_money 111 = .ok (.iconst 3, 1) := by decide +kernel
theorem dL_money_112 : decode cL_money 112 = .ok (.iadd, 1) := by decide +kernel
theorem dL_money_113 : decode cL_money 113 = .ok (.iload 7, 2) := by decide +kernel
theorem dL_money_115 : decode cL_money 115 = .ok (.iastore, 1) := by decide +kernel
theorem dL_money_116 : decode cL_money 116 = .ok (.aload 4, 2) := by decide +kernel
theorem dL_money_118 : decode cL_money 118 = .ok (.bipush 6, 2) := by decide +kernel
theorem dL_money_120 : decode cL_money 120 = .ok (.iload 6, 2) := by decide +kernel
theorem dL_money_122 : decode cL_money 122 = .ok (.imul, 1) := by decide +kernel
theorem dL_money_123 : decode cL_money 123 = .ok (.iconst 4, 1) := by decide +kernel
theorem dL_money_124 : decode cL_money 124 = .ok (.iadd, 1) := by decide +kernel
theorem dL_money_125 : decode cL_money 125 = .ok (.iload 8, 2) := by decide +kernel
theorem dL_money_127 : decode cL_money 127 = .ok (.iastore, 1) := by decide +kernel
theorem dL_money_128 : decode cL_money 128 = .ok (.aload_n 0, 1) := by decide +kernel
theorem dL_money_129 : decode cL_money 129 = .ok (.iload 6, 2) := by decide +kernel
theorem dL_money_131 : decode cL_money 131 = .ok (.iload 7, 2) := by decide +kernel
theorem dL_money_133 : decode cL_money 133 = .ok (.iload 8, 2) := by decide +kernel
theorem dL_money_135 : decode cL_money 135 = .ok (.invokevirtual 90, 3) := by decide +kernel
theorem dL_money_138 : decode cL_money 138 = .ok (.iload 9, 2) := by decide +kernel
theorem dL_money_140 : decode cL_money 140 = .ok (.if_icmp .ne 7, 3) := by decide +kernel
theorem dL_money_143 : decode cL_money 143 = .ok (.iconst 1, 1) := by decide +kernel
theorem dL_money_144 : decode cL_money 144 = .ok (.goto 4, 3) := by decide +kernel
theorem dL_money_147 : decode cL_money 147 = .ok (.iconst 0, 1) := by decide +kernel
theorem dL_money_148 : decode cL_money 148 = .ok (.ireturn, 1) := by decide +kernel
theorem dL_money_149 : decode cL_money 149 = .ok (.iload_n 1, 1) := by decide +kernel
theorem dL_money_150 : decode cL_money 150 = .ok (.iconst 1, 1) := by decide +kernel
theorem dL_money_151 : decode cL_money 151 = .ok (.if_icmp .ne 134, 3) := by decide +kernel
theorem dL_money_154 : decode cL_money 154 = .ok (.aload 4, 2) := by decide +kernel
theorem dL_money_156 : decode cL_money 156 = .ok (.bipush 6, 2) := by decide +kernel
theorem dL_money_158 : decode cL_money 158 = .ok (.iload 6, 2) := by decide +kernel
theorem dL_money_160 : decode cL_money 160 = .ok (.imul, 1) := by decide +kernel
theorem dL_money_161 : decode cL_money 161 = .ok (.iconst 4, 1) := by decide +kernel
theorem dL_money_162 : decode cL_money 162 = .ok (.iadd, 1) := by decide +kernel
theorem dL_money_163 : decode cL_money 163 = .ok (.iaload, 1) := by decide +kernel
theorem dL_money_164 : decode cL_money 164 = .ok (.aload 4, 2) := by decide +kernel
theorem dL_money_166 : decode cL_money 166 = .ok (.bipush 6, 2) := by decide +kernel
theorem dL_money_168 : decode cL_money 168 = .ok (.iload 6, 2) := by decide +kernel
theorem dL_money_170 : decode cL_money 170 = .ok (.imul, 1) := by decide +kernel
theorem dL_money_171 : decode cL_money 171 = .ok (.iconst 4, 1) := by decide +kernel
theorem dL_money_172 : decode cL_money 172 = .ok (.iadd, 1) := by decide +kernel
theorem dL_money_173 : decode cL_money 173 = .ok (.iaload, 1) := by decide +kernel
theorem dL_money_174 : decode cL_money 174 = .ok (.bipush 10, 2) := by decide +kernel
theorem dL_money_176 : decode cL_money 176 = .ok (.idiv, 1) := by decide +kernel
theorem dL_money_177 : decode cL_money 177 = .ok (.iadd, 1) := by decide +kernel
theorem dL_money_178 : decode cL_money 178 = .ok (.istore 8, 2) := by decide +kernel
theorem dL_money_180 : decode cL_money 180 = .ok (.aload 4, 2) := by decide +kernel
theorem dL_money_182 : decode cL_money 182 = .ok (.bipush 6, 2) := by decide +kernel
theorem dL_money_184 : decode cL_money 184 = .ok (.iload 6, 2) := by decide +kernel
theorem dL_money_186 : decode cL_money 186 = .ok (.imul, 1) := by decide +kernel
theorem dL_money_187 : decode cL_money 187 = .ok (.iconst 3, 1) := by decide +kernel
theorem dL_money_188 : decode cL_money 188 = .ok (.iadd, 1) := by decide +kernel
theorem dL_money_189 : decode cL_money 189 = .ok (.iaload, 1) := by decide +kernel
theorem dL_money_190 : decode cL_money 190 = .ok (.iload 6, 2) := by decide +kernel
theorem dL_money_192 : decode cL_money 192 = .ok (.if_icmp .eq 16, 3) := by decide +kernel
theorem dL_money_195 : decode cL_money 195 = .ok (.aload 4, 2) := by decide +kernel
theorem dL_money_197 : decode cL_money 197 = .ok (.bipush 6, 2) := by decide +kernel
theorem dL_money_199 : decode cL_money 199 = .ok (.iload 6, 2) := by decide +kernel
theorem dL_money_201 : decode cL_money 201 = .ok (.imul, 1) := by decide +kernel
theorem dL_money_202 : decode cL_money 202 = .ok (.iaload, 1) := by decide +kernel
theorem dL_money_203 : decode cL_money 203 = .ok (.iload 8, 2) := by decide +kernel
theorem dL_money_205 : decode cL_money 205 = .ok (.if_icmp .ge 5, 3) := by decide +kernel
theorem dL_money_208 : decode cL_money 208 = .ok (.iconst 1, 1) := by decide +kernel
theorem dL_money_209 : decode cL_money 209 = .ok (.ireturn, 1) := by decide +kernel
theorem dL_money_210 : decode cL_money 210 = .ok (.aload 4, 2) := by decide +kernel
theorem dL_money_212 : decode cL_money 212 = .ok (.bipush 6, 2) := by decide +kernel
theorem dL_money_214 : decode cL_money 214 = .ok (.iload 6, 2) := by decide +kernel
theorem dL_money_216 : decode cL_money 216 = .ok (.imul, 1) := by decide +kernel
theorem dL_money_217 : decode cL_money 217 = .ok (.dup2, 1) := by decide +kernel
theorem dL_money_218 : decode cL_money 218 = .ok (.iaload, 1) := by decide +kernel
theorem dL_money_219 : decode cL_money 219 = .ok (.iload 8, 2) := by decide +kernel
theorem dL_money_221 : decode cL_money 221 = .ok (.isub, 1) := by decide +kernel
theorem dL_money_222 : decode cL_money 222 = .ok (.iastore, 1) := by decide +kernel
theorem dL_money_223 : decode cL_money 223 = .ok (.aload 4, 2) := by decide +kernel
theorem dL_money_225 : decode cL_money 225 = .ok (.bipush 6, 2) := by decide +kernel
theorem dL_money_227 : decode cL_money 227 = .ok (.aload 4, 2) := by decide +kernel
theorem dL_money_229 : decode cL_money 229 = .ok (.bipush 6, 2) := by decide +kernel
theorem dL_money_231 : decode cL_money 231 = .ok (.iload 6, 2) := by decide +kernel
theorem dL_money_233 : decode cL_money 233 = .ok (.imul, 1) := by decide +kernel
theorem dL_money_234 : decode cL_money 234 = .ok (.iconst 3, 1) := by decide +kernel
theorem dL_money_235 : decode cL_money 235 = .ok (.iadd, 1) := by decide +kernel
theorem dL_money_236 : decode cL_money 236 = .ok (.iaload, 1) := by decide +kernel
theorem dL_money_237 : decode cL_money 237 = .ok (.imul, 1) := by decide +kernel
theorem dL_money_238 : decode cL_money 238 = .ok (.dup2, 1) := by decide +kernel
theorem dL_money_239 : decode cL_money 239 = .ok (.iaload, 1) := by decide +kernel
theorem dL_money_240 : decode cL_money 240 = .ok (.iload 8, 2) := by decide +kernel
theorem dL_money_242 : decode cL_money 242 = .ok (.iadd, 1) := by decide +kernel
theorem dL_money_243 : decode cL_money 243 = .ok (.iastore, 1) := by decide +kernel
theorem dL_money_244 : decode cL_money 244 = .ok (.aload 4, 2) := by decide +kernel
theorem dL_money_246 : decode cL_money 246 = .ok (.bipush 6, 2) := by decide +kernel
theorem dL_money_248 : decode cL_money 248 = .ok (.iload 6, 2) := by decide +kernel
theorem dL_money_250 : decode cL_money 250 = .ok (.imul, 1) := by decide +kernel
theorem dL_money_251 : decode cL_money 251 = .ok (.iconst 3, 1) := by decide +kernel
theorem dL_money_252 : decode cL_money 252 = .ok (.iadd, 1) := by decide +kernel
theorem dL_money_253 : decode cL_money 253 = .ok (.iload 6, 2) := by decide +kernel
theorem dL_money_255 : decode cL_money 255 = .ok (.iastore, 1) := by decide +kernel
theorem dL_money_256 : decode cL_money 256 = .ok (.aload 4, 2) := by decide +kernel
theorem dL_money_258 : decode cL_money 258 = .ok (.bipush 6, 2) := by decide +kernel
theorem dL_money_260 : decode cL_money 260 = .ok (.iload 6, 2) := by decide +kernel
theorem dL_money_262 : decode cL_money 262 = .ok (.imul, 1) := by decide +kernel
theorem dL_money_263 : decode cL_money 263 = .ok (.iconst 4, 1) := by decide +kernel
theorem dL_money_264 : decode cL_money 264 = .ok (.iadd, 1) := by decide +kernel
theorem dL_money_265 : decode cL_money 265 = .ok (.iload 8, 2) := by decide +kernel
theorem dL_money_267 : decode cL_money 267 = .ok (.iastore, 1) := by decide +kernel
theorem dL_money_268 : decode cL_money 268 = .ok (.aload_n 0, 1) := by decide +kernel
theorem dL_money_269 : decode cL_money 269 = .ok (.iload 6, 2) := by decide +kernel
theorem dL_money_271 : decode cL_money 271 = .ok (.invokevirtual 93, 3) := by decide +kernel
theorem dL_money_274 : decode cL_money 274 = .ok (.iload 8, 2) := by decide +kernel
theorem dL_money_276 : decode cL_money 276 = .ok (.if_icmp .ne 7, 3) := by decide +kernel
theorem dL_money_279 : decode cL_money 279 = .ok (.iconst 1, 1) := by decide +kernel
theorem dL_money_280 : decode cL_money 280 = .ok (.goto 4, 3) := by decide +kernel
theorem dL_money_283 : decode cL_money 283 = .ok (.iconst 0, 1) := by decide +kernel
theorem dL_money_284 : decode cL_money 284 = .ok (.ireturn, 1) := by decide +kernel
theorem dL_money_285 : decode cL_money 285 = .ok (.iload_n 1, 1) := by decide +kernel
theorem dL_money_286 : decode cL_money 286 = .ok (.iconst 2, 1) := by decide +kernel
theorem dL_money_287 : decode cL_money 287 = .ok (.if_icmp .ne 104, 3) := by decide +kernel
theorem dL_money_290 : decode cL_money 290 = .ok (.aload 5, 2) := by decide +kernel
theorem dL_money_292 : decode cL_money 292 = .ok (.iconst 3, 1) := by decide +kernel
theorem dL_money_293 : decode cL_money 293 = .ok (.iaload, 1) := by decide +kernel
theorem dL_money_294 : decode cL_money 294 = .ok (.ifCond .ne 5, 3) := by decide +kernel
theorem dL_money_297 : decode cL_money 297 = .ok (.iconst 1, 1) := by decide +kernel
theorem dL_money_298 : decode cL_money 298 = .ok (.ireturn, 1) := by decide +kernel
theorem dL_money_299 : decode cL_money 299 = .ok (.iconst 1, 1) := by decide +kernel
theorem dL_money_300 : decode cL_money 300 = .ok (.iload_n 3, 1) := by decide +kernel
theorem dL_money_301 : decode cL_money 301 = .ok (.aload 5, 2) := by decide +kernel
theorem dL_money_303 : decode cL_money 303 = .ok (.iconst 3, 1) := by decide +kernel
theorem dL_money_304 : decode cL_money 304 = .ok (.iaload, 1) := by decide +kernel
theorem dL_money_305 : decode cL_money 305 = .ok (.sipush 3000, 3) := by decide +kernel
theorem dL_money_308 : decode cL_money 308 = .ok (.if_icmp .ge 10, 3) := by decide +kernel
theorem dL_money_311 : decode cL_money 311 = .ok (.aload 5, 2) := by decide +kernel
theorem dL_money_313 : decode cL_money 313 = .ok (.iconst 3, 1) := by decide +kernel
theorem dL_money_314 : decode cL_money 314 = .ok (.iaload, 1) := by decide +kernel
theorem dL_money_315 : decode cL_money 315 = .ok (.goto 6, 3) := by decide +kernel
theorem dL_money_318 : decode cL_money 318 = .ok (.sipush 3000, 3) := by decide +kernel
theorem dL_money_321 : decode cL_money 321 = .ok (.invokestatic 65, 3) := by decide +kernel
theorem dL_money_324 : decode cL_money 324 = .ok (.iadd, 1) := by decide +kernel
theorem dL_money_325 : decode cL_money 325 = .ok (.istore 8, 2) := by decide +kernel
theorem dL_money_327 : decode cL_money 327 = .ok (.aload 5, 2) := by decide +kernel
theorem dL_money_329 : decode cL_money 329 = .ok (.iconst 3, 1) := by decide +kernel
theorem dL_money_330 : decode cL_money 330 = .ok (.dup2, 1) := by decide +kernel
theorem dL_money_331 : decode cL_money 331 = .ok (.iaload, 1) := by decide +kernel
theorem dL_money_332 : decode cL_money 332 = .ok (.iload 8, 2) := by decide +kernel
theorem dL_money_334 : decode cL_money 334 = .ok (.isub, 1) := by decide +kernel
theorem dL_money_335 : decode cL_money 335 = .ok (.iastore, 1) := by decide +kernel
theorem dL_money_336 : decode cL_money 336 = .ok (.aload 4, 2) := by decide +kernel
theorem dL_money_338 : decode cL_money 338 = .ok (.bipush 6, 2) := by decide +kernel
theorem dL_money_340 : decode cL_money 340 = .ok (.iload 6, 2) := by decide +kernel
theorem dL_money_342 : decode cL_money 342 = .ok (.imul, 1) := by decide +kernel
theorem dL_money_343 : decode cL_money 343 = .ok (.dup2, 1) := by decide +kernel
theorem dL_money_344 : decode cL_money 344 = .ok (.iaload, 1) := by decide +kernel
theorem dL_money_345 : decode cL_money 345 = .ok (.iload 8, 2) := by decide +kernel
theorem dL_money_347 : decode cL_money 347 = .ok (.iadd, 1) := by decide +kernel
theorem dL_money_348 : decode cL_money 348 = .ok (.iastore, 1) := by decide +kernel
theorem dL_money_349 : decode cL_money 349 = .ok (.aload 4, 2) := by decide +kernel
theorem dL_money_351 : decode cL_money 351 = .ok (.bipush 6, 2) := by decide +kernel
theorem dL_money_353 : decode cL_money 353 = .ok (.iload 6, 2) := by decide +kernel
theorem dL_money_355 : decode cL_money 355 = .ok (.imul, 1) := by decide +kernel
theorem dL_money_356 : decode cL_money 356 = .ok (.iconst 1, 1) := by decide +kernel
theorem dL_money_357 : decode cL_money 357 = .ok (.iadd, 1) := by decide +kernel
theorem dL_money_358 : decode cL_money 358 = .ok (.dup2, 1) := by decide +kernel
theorem dL_money_359 : decode cL_money 359 = .ok (.iaload, 1) := by decide +kernel
theorem dL_money_360 : decode cL_money 360 = .ok (.iload 8, 2) := by decide +kernel
theorem dL_money_362 : decode cL_money 362 = .ok (.iadd, 1) := by decide +kernel
theorem dL_money_363 : decode cL_money 363 = .ok (.iastore, 1) := by decide +kernel
theorem dL_money_364 : decode cL_money 364 = .ok (.aload_n 0, 1) := by decide +kernel
theorem dL_money_365 : decode cL_money 365 = .ok (.iload 6, 2) := by decide +kernel
theorem dL_money_367 : decode cL_money 367 = .ok (.iload 8, 2) := by decide +kernel
theorem dL_money_369 : decode cL_money 369 = .ok (.invokevirtual 96, 3) := by decide +kernel
theorem dL_money_372 : decode cL_money 372 = .ok (.aload 4, 2) := by decide +kernel
theorem dL_money_374 : decode cL_money 374 = .ok (.bipush 6, 2) := by decide +kernel
theorem dL_money_376 : decode cL_money 376 = .ok (.iload 6, 2) := by decide +kernel
theorem dL_money_378 : decode cL_money 378 = .ok (.imul, 1) := by decide +kernel
theorem dL_money_379 : decode cL_money 379 = .ok (.iconst 1, 1) := by decide +kernel
theorem dL_money_380 : decode cL_money 380 = .ok (.iadd, 1) := by decide +kernel
theorem dL_money_381 : decode cL_money 381 = .ok (.iaload, 1) := by decide +kernel
theorem dL_money_382 : decode cL_money 382 = .ok (.if_icmp .ne 7, 3) := by decide +kernel
theorem dL_money_385 : decode cL_money 385 = .ok (.iconst 1, 1) := by decide +kernel
theorem dL_money_386 : decode cL_money 386 = .ok (.goto 4, 3) := by decide +kernel
theorem dL_money_389 : decode cL_money 389 = .ok (.iconst 0, 1) := by decide +kernel
theorem dL_money_390 : decode cL_money 390 = .ok (.ireturn, 1) := by decide +kernel
theorem dL_money_391 : decode cL_money 391 = .ok (.aload 4, 2) := by decide +kernel
theorem dL_money_393 : decode cL_money 393 = .ok (.bipush 6, 2) := by decide +kernel
theorem dL_money_395 : decode cL_money 395 = .ok (.iload 6, 2) := by decide +kernel
theorem dL_money_397 : decode cL_money 397 = .ok (.imul, 1) := by decide +kernel
theorem dL_money_398 : decode cL_money 398 = .ok (.iaload, 1) := by decide +kernel
theorem dL_money_399 : decode cL_money 399 = .ok (.ifCond .ne 5, 3) := by decide +kernel
theorem dL_money_402 : decode cL_money 402 = .ok (.iconst 1, 1) := by decide +kernel
theorem dL_money_403 : decode cL_money 403 = .ok (.ireturn, 1) := by decide +kernel
theorem dL_money_404 : decode cL_money 404 = .ok (.iconst 1, 1) := by decide +kernel
theorem dL_money_405 : decode cL_money 405 = .ok (.iload_n 3, 1) := by decide +kernel
theorem dL_money_406 : decode cL_money 406 = .ok (.aload 4, 2) := by decide +kernel
theorem dL_money_408 : decode cL_money 408 = .ok (.bipush 6, 2) := by decide +kernel
theorem dL_money_410 : decode cL_money 410 = .ok (.iload 6, 2) := by decide +kernel
theorem dL_money_412 : decode cL_money 412 = .ok (.imul, 1) := by decide +kernel
theorem dL_money_413 : decode cL_money 413 = .ok (.iaload, 1) := by decide +kernel
theorem dL_money_414 : decode cL_money 414 = .ok (.sipush 3000, 3) := by decide +kernel
theorem dL_money_417 : decode cL_money 417 = .ok (.if_icmp .ge 14, 3) := by decide +kernel
theorem dL_money_420 : decode cL_money 420 = .ok (.aload 4, 2) := by decide +kernel
theorem dL_money_422 : decode cL_money 422 = .ok (.bipush 6, 2) := by decide +kernel
theorem dL_money_424 : decode cL_money 424 = .ok (.iload 6, 2) := by decide +kernel
theorem dL_money_426 : decode cL_money 426 = .ok (.imul, 1) := by decide +kernel
theorem dL_money_427 : decode cL_money 427 = .ok (.iaload, 1) := by decide +kernel
theorem dL_money_428 : decode cL_money 428 = .ok (.goto 6, 3) := by decide +kernel
theorem dL_money_431 : decode cL_money 431 = .ok (.sipush 3000, 3) := by decide +kernel
theorem dL_money_434 : decode cL_money 434 = .ok (.invokestatic 65, 3) := by decide +kernel
theorem dL_money_437 : decode cL_money 437 = .ok (.iadd, 1) := by decide +kernel
theorem dL_money_438 : decode cL_money 438 = .ok (.istore 8, 2) := by decide +kernel
theorem dL_money_440 : decode cL_money 440 = .ok (.aload 4, 2) := by decide +kernel
theorem dL_money_442 : decode cL_money 442 = .ok (.bipush 6, 2) := by decide +kernel
theorem dL_money_444 : decode cL_money 444 = .ok (.iload 6, 2) := by decide +kernel
theorem dL_money_446 : decode cL_money 446 = .ok (.imul, 1) := by decide +kernel
theorem dL_money_447 : decode cL_money 447 = .ok (.dup2, 1) := by decide +kernel
theorem dL_money_448 : decode cL_money 448 = .ok (.iaload, 1) := by decide +kernel
theorem dL_money_449 : decode cL_money 449 = .ok (.iload 8, 2) := by decide +kernel
theorem dL_money_451 : decode cL_money 451 = .ok (.isub, 1) := by decide +kernel
theorem dL_money_452 : decode cL_money 452 = .ok (.iastore, 1) := by decide +kernel
theorem dL_money_453 : decode cL_money 453 = .ok (.aload 4, 2) := by decide +kernel
theorem dL_money_455 : decode cL_money 455 = .ok (.bipush 6, 2) := by decide +kernel
theorem dL_money_457 : decode cL_money 457 = .ok (.iload 6, 2) := by decide +kernel
theorem dL_money_459 : decode cL_money 459 = .ok (.imul, 1) := by decide +kernel
theorem dL_money_460 : decode cL_money 460 = .ok (.iconst 5, 1) := by decide +kernel
theorem dL_money_461 : decode cL_money 461 = .ok (.iadd, 1) := by decide +kernel
theorem dL_money_462 : decode cL_money 462 = .ok (.dup2, 1) := by decide +kernel
theorem dL_money_463 : decode cL_money 463 = .ok (.iaload, 1) := by decide +kernel
theorem dL_money_464 : decode cL_money 464 = .ok (.iload 8, 2) := by decide +kernel
theorem dL_money_466 : decode cL_money 466 = .ok (.iadd, 1) := by decide +kernel
theorem dL_money_467 : decode cL_money 467 = .ok (.iastore, 1) := by decide +kernel
theorem dL_money_468 : decode cL_money 468 = .ok (.aload 5, 2) := by decide +kernel
theorem dL_money_470 : decode cL_money 470 = .ok (.iconst 5, 1) := by decide +kernel
theorem dL_money_471 : decode cL_money 471 = .ok (.dup2, 1) := by decide +kernel
theorem dL_money_472 : decode cL_money 472 = .ok (.iaload, 1) := by decide +kernel
theorem dL_money_473 : decode cL_money 473 = .ok (.iload 8, 2) := by decide +kernel
theorem dL_money_475 : decode cL_money 475 = .ok (.iadd, 1) := by decide +kernel
theorem dL_money_476 : decode cL_money 476 = .ok (.iastore, 1) := by decide +kernel
theorem dL_money_477 : decode cL_money 477 = .ok (.aload_n 0, 1) := by decide +kernel
theorem dL_money_478 : decode cL_money 478 = .ok (.iload 6, 2) := by decide +kernel
theorem dL_money_480 : decode cL_money 480 = .ok (.iload 8, 2) := by decide +kernel
theorem dL_money_482 : decode cL_money 482 = .ok (.invokevirtual 99, 3) := by decide +kernel
theorem dL_money_485 : decode cL_money 485 = .ok (.aload 4, 2) := by decide +kernel
theorem dL_money_487 : decode cL_money 487 = .ok (.bipush 6, 2) := by decide +kernel
theorem dL_money_489 : decode cL_money 489 = .ok (.iload 6, 2) := by decide +kernel
theorem dL_money_491 : decode cL_money 491 = .ok (.imul, 1) := by decide +kernel
theorem dL_money_492 : decode cL_money 492 = .ok (.iaload, 1) := by decide +kernel
theorem dL_money_493 : decode cL_money 493 = .ok (.if_icmp .ne 7, 3) := by decide +kernel
theorem dL_money_496 : decode cL_money 496 = .ok (.iconst 1, 1) := by decide +kernel
theorem dL_money_497 : decode cL_money 497 = .ok (.goto 4, 3) := by decide +kernel
theorem dL_money_500 : decode cL_money 500 = .ok (.iconst 0, 1) := by decide +kernel
theorem dL_money_501 : decode cL_money 501 = .ok (.ireturn, 1) := by decide +kernel
theorem dL_parts_0 : decode cL_parts 0 = .ok (.iconst 1, 1) := by decide +kernel
theorem dL_parts_1 : decode cL_parts 1 = .ok (.iload_n 2, 1) := by decide +kernel
theorem dL_parts_2 : decode cL_parts 2 = .ok (.iconst 1, 1) := by decide +kernel
theorem dL_parts_3 : decode cL_parts 3 = .ok (.aload 6, 2) := by decide +kernel
theorem dL_parts_5 : decode cL_parts 5 = .ok (.iconst 0, 1) := by decide +kernel
theorem dL_parts_6 : decode cL_parts 6 = .ok (.iaload, 1) := by decide +kernel
theorem dL_parts_7 : decode cL_parts 7 = .ok (.ishl, 1) := by decide +kernel
theorem dL_parts_8 : decode cL_parts 8 = .ok (.iconst 1, 1) := by decide +kernel
theorem dL_parts_9 : decode cL_parts 9 = .ok (.isub, 1) := by decide +kernel
theorem dL_parts_10 : decode cL_parts 10 = .ok (.invokestatic 65, 3) := by decide +kernel
theorem dL_parts_13 : decode cL_parts 13 = .ok (.iadd, 1) := by decide +kernel
theorem dL_parts_14 : decode cL_parts 14 = .ok (.istore 7, 2) := by decide +kernel
theorem dL_parts_16 : decode cL_parts 16 = .ok (.iconst 0, 1) := by decide +kernel
theorem dL_parts_17 : decode cL_parts 17 = .ok (.istore 8, 2) := by decide +kernel
theorem dL_parts_19 : decode cL_parts 19 = .ok (.iconst 1, 1) := by decide +kernel
theorem dL_parts_20 : decode cL_parts 20 = .ok (.istore 9, 2) := by decide +kernel
theorem dL_parts_22 : decode cL_parts 22 = .ok (.iconst 0, 1) := by decide +kernel
theorem dL_parts_23 : decode cL_parts 23 = .ok (.istore 10, 2) := by decide +kernel
theorem dL_parts_25 : decode cL_parts 25 = .ok (.aload_n 0, 1) := by decide +kernel
theorem dL_parts_26 : decode cL_parts 26 = .ok (.invokevirtual 102, 3) := by decide +kernel
theorem dL_parts_29 : decode cL_parts 29 = .ok (.pop, 1) := by decide +kernel
theorem dL_parts_30 : decode cL_parts 30 = .ok (.iconst 3, 1) := by decide +kernel
theorem dL_parts_31 : decode cL_parts 31 = .ok (.istore 11, 2) := by decide +kernel
theorem dL_parts_33 : decode cL_parts 33 = .ok (.iload 11, 2) := by decide +kernel
theorem dL_parts_35 : decode cL_parts 35 = .ok (.ifCond .lt 132, 3) := by decide +kernel
theorem dL_parts_38 : decode cL_parts 38 = .ok (.iload 7, 2) := by decide +kernel
theorem dL_parts_40 : decode cL_parts 40 = .ok (.iload 11, 2) := by decide +kernel
theorem dL_parts_42 : decode cL_parts 42 = .ok (.ishr, 1) := by decide +kernel
theorem dL_parts_43 : decode cL_parts 43 = .ok (.iconst 1, 1) := by decide +kernel
theorem dL_parts_44 : decode cL_parts 44 = .ok (.iand, 1) := by decide +kernel
theorem dL_parts_45 : decode cL_parts 45 = .ok (.ifCond .ne 7, 3) := by decide +kernel
theorem dL_parts_48 : decode cL_parts 48 = .ok (.iconst 0, 1) := by decide +kernel
theorem dL_parts_49 : decode cL_parts 49 = .ok (.goto 16, 3) := by decide +kernel
theorem dL_parts_52 : decode cL_parts 52 = .ok (.iconst 1, 1) := by decide +kernel
theorem dL_parts_53 : decode cL_parts 53 = .ok (.iload_n 3, 1) := by decide +kernel
theorem dL_parts_54 : decode cL_parts 54 = .ok (.iconst 4, 1) := by decide +kernel
theorem dL_parts_55 : decode cL_parts 55 = .ok (.iload 11, 2) := by decide +kernel
theorem dL_parts_57 : decode cL_parts 57 = .ok (.imul, 1) := by decide +kernel
theorem dL_parts_58 : decode cL_parts 58 = .ok (.ishr, 1) := by decide +kernel
theorem dL_parts_59 : decode cL_parts 59 = .ok (.bipush 9, 2) := by decide +kernel
theorem dL_parts_61 : decode cL_parts 61 = .ok (.invokestatic 65, 3) := by decide +kernel
theorem dL_parts_64 : decode cL_parts 64 = .ok (.iadd, 1) := by decide +kernel
theorem dL_parts_65 : decode cL_parts 65 = .ok (.istore 12, 2) := by decide +kernel
theorem dL_parts_67 : decode cL_parts 67 = .ok (.aload 5, 2) := by decide +kernel
theorem dL_parts_69 : decode cL_parts 69 = .ok (.iconst 4, 1) := by decide +kernel
theorem dL_parts_70 : decode cL_parts 70 = .ok (.iload_n 1, 1) := by decide +kernel
theorem dL_parts_71 : decode cL_parts 71 = .ok (.imul, 1) := by decide +kernel
theorem dL_parts_72 : decode cL_parts 72 = .ok (.iload 11, 2) := by decide +kernel
theorem dL_parts_74 : decode cL_parts 74 = .ok (.iadd, 1) := by decide +kernel
theorem dL_parts_75 : decode cL_parts 75 = .ok (.iload 12, 2) := by decide +kernel
theorem dL_parts_77 : decode cL_parts 77 = .ok (.iastore, 1) := by decide +kernel
theorem dL_parts_78 : decode cL_parts 78 = .ok (.iload 8, 2) := by decide +kernel
theorem dL_parts_80 : decode cL_parts 80 = .ok (.iload 12, 2) := by decide +kernel
theorem dL_parts_82 : decode cL_parts 82 = .ok (.iadd, 1) := by decide +kernel
theorem dL_parts_83 : decode cL_parts 83 = .ok (.istore 8, 2) := by decide +kernel
theorem dL_parts_85 : decode cL_parts 85 = .ok (.iload 12, 2) := by decide +kernel
theorem dL_parts_87 : decode cL_parts 87 = .ok (.ifCond .ne 6, 3) := by decide +kernel
theorem dL_parts_90 : decode cL_parts 90 = .ok (.goto 71, 3) := by decide +kernel
theorem dL_parts_93 : decode cL_parts 93 = .ok (.iload 9, 2) := by decide +kernel
theorem dL_parts_95 : decode cL_parts 95 = .ok (.ifCond .eq 60, 3) := by decide +kernel
theorem dL_parts_98 : decode cL_parts 98 = .ok (.iload 10, 2) := by decide +kernel
theorem dL_parts_100 : decode cL_parts 100 = .ok (.ifCond .eq 12, 3) := by decide +kernel
theorem dL_parts_103 : decode cL_parts 103 = .ok (.aload_n 0, 1) := by decide +kernel
theorem dL_parts_104 : decode cL_parts 104 = .ok (.bipush 44, 2) := by decide +kernel
theorem dL_parts_106 : decode cL_parts 106 = .ok (.invokevirtual 106, 3) := by decide +kernel
theorem dL_parts_109 : decode cL_parts 109 = .ok (.ifCond .le 46, 3) := by decide +kernel
theorem dL_parts_112 : decode cL_parts 112 = .ok (.aload_n 0, 1) := by decide +kernel
theorem dL_parts_113 : decode cL_parts 113 = .ok (.bipush 48, 2) := by decide +kernel
theorem dL_parts_115 : decode cL_parts 115 = .ok (.iload 11, 2) := by decide +kernel
theorem dL_parts_117 : decode cL_parts 117 = .ok (.iadd, 1) := by decide +kernel
theorem dL_parts_118 : decode cL_parts 118 = .ok (.invokevirtual 106, 3) := by decide +kernel
theorem dL_parts_121 : decode cL_parts 121 = .ok (.ifCond .le 34, 3) := by decide +kernel
theorem dL_parts_124 : decode cL_parts 124 = .ok (.iload 12, 2) := by decide +kernel
theorem dL_parts_126 : decode cL_parts 126 = .ok (.iconst 1, 1) := by decide +kernel
theorem dL_parts_127 : decode cL_parts 127 = .ok (.if_icmp .eq 24, 3) := by decide +kernel
theorem dL_parts_130 : decode cL_parts 130 = .ok (.aload_n 0, 1) := by decide +kernel
theorem dL_parts_131 : decode cL_parts 131 = .ok (.bipush 42, 2) := by decide +kernel
theorem dL_parts_133 : decode cL_parts 133 = .ok (.invokevirtual 106, 3) := by decide +kernel
theorem dL_parts_136 : decode cL_parts 136 = .ok (.ifCond .le 19, 3) := by decide +kernel
theorem dL_parts_139 : decode cL_parts 139 = .ok (.aload_n 0, 1) := by decide +kernel
theorem dL_parts_140 : decode cL_parts 140 = .ok (.bipush 48, 2) := by decide +kernel
theorem dL_parts_142 : decode cL_parts 142 = .ok (.iload 12, 2) := by decide +kernel
theorem dL_parts_144 : decode cL_parts 144 = .ok (.iadd, 1) := by decide +kernel
theorem dL_parts_145 : decode cL_parts 145 = .ok (.invokevirtual 106, 3) := by decide +kernel
theorem dL_parts_148 : decode cL_parts 148 = .ok (.ifCond .le 7, 3) := by decide +kernel
theorem dL_parts_151 : decode cL_parts 151 = .ok (.iconst 1, 1) := by decide +kernel
theorem dL_parts_152 : decode cL_parts 152 = .ok (.goto 4, 3) := by decide +kernel
theorem dL_parts_155 : decode cL_parts 155 = .ok (.iconst 0, 1) := by decide +kernel
theorem dL_parts_156 : decode cL_parts 156 = .ok (.istore 9, 2) := by decide +kernel
theorem dL_parts_158 : decode cL_parts 158 = .ok (.iconst 1, 1) := by decide +kernel
theorem dL_parts_159 : decode cL_parts 159 = .ok (.istore 10, 2) := by decide +kernel
theorem dL_parts_161 : decode cL_parts 161 = .ok (.iinc 11 (-1), 3) := by decide +kernel
theorem dL_parts_164 : decode cL_parts 164 = .ok (.goto (-131), 3) := by decide +kernel
theorem dL_parts_167 : decode cL_parts 167 = .ok (.aload 4, 2) := by decide +kernel
theorem dL_parts_169 : decode cL_parts 169 = .ok (.iconst 5, 1) := by decide +kernel
theorem dL_parts_170 : decode cL_parts 170 = .ok (.iload_n 1, 1) := by decide +kernel
theorem dL_parts_171 : decode cL_parts 171 = .ok (.imul, 1) := by decide +kernel
theorem dL_parts_172 : decode cL_parts 172 = .ok (.iconst 3, 1) := by decide +kernel
theorem dL_parts_173 : decode cL_parts 173 = .ok (.iadd, 1) := by decide +kernel
theorem dL_parts_174 : decode cL_parts 174 = .ok (.dup2, 1) := by decide +kernel
theorem dL_parts_175 : decode cL_parts 175 = .ok (.iaload, 1) := by decide +kernel
theorem dL_parts_176 : decode cL_parts 176 = .ok (.iconst 1, 1) := by decide +kernel
theorem dL_parts_177 : decode cL_parts 177 = .ok (.iadd, 1) := by decide +kernel
theorem dL_parts_178 : decode cL_parts 178 = .ok (.iastore, 1) := by decide +kernel
theorem dL_parts_179 : decode cL_parts 179 = .ok (.iload 9, 2) := by decide +kernel
theorem dL_parts_181 : decode cL_parts 181 = .ok (.ifCond .eq 17, 3) := by decide +kernel
theorem dL_parts_184 : decode cL_parts 184 = .ok (.aload_n 0, 1) := by decide +kernel
theorem dL_parts_185 : decode cL_parts 185 = .ok (.iload_n 1, 1) := by decide +kernel
theorem dL_parts_186 : decode cL_parts 186 = .ok (.invokevirtual 109, 3) := by decide +kernel
theorem dL_parts_189 : decode cL_parts 189 = .ok (.iload 8, 2) := by decide +kernel
theorem dL_parts_191 : decode cL_parts 191 = .ok (.if_icmp .ne 7, 3) := by decide +kernel
theorem dL_parts_194 : decode cL_parts 194 = .ok (.iconst 1, 1) := by decide +kernel
theorem dL_parts_195 : decode cL_parts 195 = .ok (.goto 4, 3) := by decide +kernel
theorem dL_parts_198 : decode cL_parts 198 = .ok (.iconst 0, 1) := by decide +kernel
theorem dL_parts_199 : decode cL_parts 199 = .ok (.ireturn, 1) := by decide +kernel
theorem dL_act_0 : decode cL_act 0 = .ok (.iload_n 1, 1) := by decide +kernel
theorem dL_act_1 : decode cL_act 1 = .ok (.ifCond .eq 10, 3) := by decide +kernel
theorem dL_act_4 : decode cL_act 4 = .ok (.aload 10, 2) := by decide +kernel
theorem dL_act_6 : decode cL_act 6 = .ok (.iconst 0, 1) := by decide +kernel
theorem dL_act_7 : decode cL_act 7 = .ok (.iaload, 1) := by decide +kernel
theorem dL_act_8 : decode cL_act 8 = .ok (.ifCond .ne 56, 3) := by decide +kernel
theorem dL_act_11 : decode cL_act 11 = .ok (.aload 10, 2) := by decide +kernel
theorem dL_act_13 : decode cL_act 13 = .ok (.iconst 0, 1) := by decide +kernel
theorem dL_act_14 : decode cL_act 14 = .ok (.iaload, 1) := by decide +kernel
theorem dL_act_15 : decode cL_act 15 = .ok (.iconst 4, 1) := by decide +kernel
theorem dL_act_16 : decode cL_act 16 = .ok (.if_icmp .ne 5, 3) := by decide +kernel
theorem dL_act_19 : decode cL_act 19 = .ok (.iconst 1, 1) := by decide +kernel
theorem dL_act_20 : decode cL_act 20 = .ok (.ireturn, 1) := by decide +kernel
theorem dL_act_21 : decode cL_act 21 = .ok (.aload 4, 2) := by decide +kernel
theorem dL_act_23 : decode cL_act 23 = .ok (.bipush 6, 2) := by decide +kernel
theorem dL_act_25 : decode cL_act 25 = .ok (.aload 10, 2) := by decide +kernel
theorem dL_act_27 : decode cL_act 27 = .ok (.iconst 0, 1) := by decide +kernel
theorem dL_act_28 : decode cL_act 28 = .ok (.iaload, 1) := by decide +kernel
theorem dL_act_29 : decode cL_act 29 = .ok (.imul, 1) := by decide +kernel
theorem dL_act_30 : decode cL_act 30 = .ok (.iconst 3, 1) := by decide +kernel
theorem dL_act_31 : decode cL_act 31 = .ok (.iadd, 1) := by decide +kernel
theorem dL_act_32 : decode cL_act 32 = .ok (.aload 10, 2) := by decide +kernel
theorem dL_act_34 : decode cL_act 34 = .ok (.iconst 0, 1) := by decide +kernel
theorem dL_act_35 : decode cL_act 35 = .ok (.iaload, 1) := by decide +kernel
theorem dL_act_36 : decode cL_act 36 = .ok (.iastore, 1) := by decide +kernel
theorem dL_act_37 : decode cL_act 37 = .ok (.aload 10, 2) := by decide +kernel
theorem dL_act_39 : decode cL_act 39 = .ok (.iconst 0, 1) := by decide +kernel
theorem dL_act_40 : decode cL_act 40 = .ok (.dup2, 1) := by decide +kernel
theorem dL_act_41 : decode cL_act 41 = .ok (.iaload, 1) := by decide +kernel
theorem dL_act_42 : decode cL_act 42 = .ok (.iconst 1, 1) := by decide +kernel
theorem dL_act_43 : decode cL_act 43 = .ok (.iadd, 1) := by decide +kernel
theorem dL_act_44 : decode cL_act 44 = .ok (.iastore, 1) := by decide +kernel
theorem dL_act_45 : decode cL_act 45 = .ok (.aload_n 0, 1) := by decide +kernel
theorem dL_act_46 : decode cL_act 46 = .ok (.invokevirtual 111, 3) := by decide +kernel
theorem dL_act_49 : decode cL_act 49 = .ok (.aload 10, 2) := by decide +kernel
theorem dL_act_51 : decode cL_act 51 = .ok (.iconst 0, 1) := by decide +kernel
theorem dL_act_52 : decode cL_act 52 = .ok (.iaload, 1) := by decide +kernel
theorem dL_act_53 : decode cL_act 53 = .ok (.iconst 1, 1) := by decide +kernel
theorem dL_act_54 : decode cL_act 54 = .ok (.isub, 1) := by decide +kernel
theorem dL_act_55 : decode cL_act 55 = .ok (.if_icmp .ne 7, 3) := by decide +kernel
theorem dL_act_58 : decode cL_act 58 = .ok (.iconst 1, 1) := by decide +kernel
theorem dL_act_59 : decode cL_act 59 = .ok (.goto 4, 3) := by decide +kernel
theorem dL_act_62 : decode cL_act 62 = .ok (.iconst 0, 1) := by decide +kernel
theorem dL_act_63 : decode cL_act 63 = .ok (.ireturn, 1) := by decide +kernel
theorem dL_act_64 : decode cL_act 64 = .ok (.iload_n 1, 1) := by decide +kernel
theorem dL_act_65 : decode cL_act 65 = .ok (.iconst 1, 1) := by decide +kernel
theorem dL_act_66 : decode cL_act 66 = .ok (.if_icmp .ne 84, 3) := by decide +kernel
theorem dL_act_69 : decode cL_act 69 = .ok (.iload_n 2, 1) := by decide +kernel
theorem dL_act_70 : decode cL_act 70 = .ok (.bipush 6, 2) := by decide +kernel
theorem dL_act_72 : decode cL_act 72 = .ok (.invokestatic 65, 3) := by decide +kernel
theorem dL_act_75 : decode cL_act 75 = .ok (.istore 11, 2) := by decide +kernel
theorem dL_act_77 : decode cL_act 77 = .ok (.aload 9, 2) := by decide +kernel
theorem dL_act_79 : decode cL_act 79 = .ok (.iload 11, 2) := by decide +kernel
theorem dL_act_81 : decode cL_act 81 = .ok (.iaload, 1) := by decide +kernel
theorem dL_act_82 : decode cL_act 82 = .ok (.istore 12, 2) := by decide +kernel
theorem dL_act_84 : decode cL_act 84 = .ok (.aload 9, 2) := by decide +kernel
theorem dL_act_86 : decode cL_act 86 = .ok (.iload 11, 2) := by decide +kernel
theorem dL_act_88 : decode cL_act 88 = .ok (.iload_n 3, 1) := by decide +kernel
theorem dL_act_89 : decode cL_act 89 = .ok (.iload 11, 2) := by decide +kernel
theorem dL_act_91 : decode cL_act 91 = .ok (.ifCond .ne 8, 3) := by decide +kernel
theorem dL_act_94 : decode cL_act 94 = .ok (.bipush 31, 2) := by decide +kernel
theorem dL_act_96 : decode cL_act 96 = .ok (.goto 28, 3) := by decide +kernel
theorem dL_act_99 : decode cL_act 99 = .ok (.iload 11, 2) := by decide +kernel
theorem dL_act_101 : decode cL_act 101 = .ok (.iconst 1, 1) := by decide +kernel
theorem dL_act_102 : decode cL_act 102 = .ok (.if_icmp .ne 8, 3) := by decide +kernel
theorem dL_act_105 : decode cL_act 105 = .ok (.bipush 21, 2) := by decide +kernel
theorem dL_act_107 : decode cL_act 107 = .ok (.goto 17, 3) := by decide +kernel
theorem dL_act_110 : decode cL_act 110 = .ok (.iload 11, 2) := by decide +kernel
theorem dL_act_112 : decode cL_act 112 = .ok (.iconst 2, 1) := by decide +kernel
theorem dL_act_113 : decode cL_act 113 = .ok (.if_icmp .ne 9, 3) := by decide +kernel
theorem dL_act_116 : decode cL_act 116 = .ok (.sipush 2000, 3) := by decide +kernel
theorem dL_act_119 : decode cL_act 119 = .ok (.goto 5, 3) := by decide +kernel
theorem dL_act_122 : decode cL_act 122 = .ok (.bipush 101, 2) := by decide +kernel
theorem dL_act_124 : decode cL_act 124 = .ok (.invokestatic 65, 3) := by decide +kernel
theorem dL_act_127 : decode cL_act 127 = .ok (.iastore, 1) := by decide +kernel
theorem dL_act_128 : decode cL_act 128 = .ok (.aload_n 0, 1) := by decide +kernel
theorem dL_act_129 : decode cL_act 129 = .ok (.iload 11, 2) := by decide +kernel
theorem dL_act_131 : decode cL_act 131 = .ok (.aload 9, 2) := by decide +kernel
theorem dL_act_133 : decode cL_act 133 = .ok (.iload 11, 2) := by decide +kernel
theorem dL_act_135 : decode cL_act 135 = .ok (.iaload, 1) := by decide +kernel
theorem dL_act_136 : decode cL_act 136 = .ok (.invokevirtual 114, 3) := by decide +kernel
theorem dL_act_139 : decode cL_act 139 = .ok (.iload 12, 2) := by decide +kernel
theorem dL_act_141 : decode cL_act 141 = .ok (.if_icmp .ne 7, 3) := by decide +kernel
theorem dL_act_144 : decode cL_act 144 = .ok (.iconst 1, 1) := by decide +kernel
theorem dL_act_145 : decode cL_act 145 = .ok (.goto 4, 3) := by decide +kernel
theorem dL_act_148 : decode cL_act 148 = .ok (.iconst 0, 1) := by decide +kernel
theorem dL_act_149 : decode cL_act 149 = .ok (.ireturn, 1) := by decide +kernel
theorem dL_act_150 : decode cL_act 150 = .ok (.iload_n 1, 1) := by decide +kernel
theorem dL_act_151 : decode cL_act 151 = .ok (.iconst 2, 1) := by decide +kernel
theorem dL_act_152 : decode cL_act 152 = .ok (.if_icmp .ne 50, 3) := by decide +kernel
theorem dL_act_155 : decode cL_act 155 = .ok (.aload 10, 2) := by decide +kernel
theorem dL_act_157 : decode cL_act 157 = .ok (.iconst 2, 1) := by decide +kernel
theorem dL_act_158 : decode cL_act 158 = .ok (.dup2, 1) := by decide +kernel
theorem dL_act_159 : decode cL_act 159 = .ok (.iaload, 1) := by decide +kernel
theorem dL_act_160 : decode cL_act 160 = .ok (.iconst 1, 1) := by decide +kernel
theorem dL_act_161 : decode cL_act 161 = .ok (.iadd, 1) := by decide +kernel
theorem dL_act_162 : decode cL_act 162 = .ok (.iastore, 1) := by decide +kernel
theorem dL_act_163 : decode cL_act 163 = .ok (.iconst 0, 1) := by decide +kernel
theorem dL_act_164 : decode cL_act 164 = .ok (.istore 11, 2) := by decide +kernel
theorem dL_act_166 : decode cL_act 166 = .ok (.iload 11, 2) := by decide +kernel
theorem dL_act_168 : decode cL_act 168 = .ok (.bipush 16, 2) := by decide +kernel
theorem dL_act_170 : decode cL_act 170 = .ok (.if_icmp .ge 15, 3) := by decide +kernel
theorem dL_act_173 : decode cL_act 173 = .ok (.aload 8, 2) := by decide +kernel
theorem dL_act_175 : decode cL_act 175 = .ok (.iload 11, 2) := by decide +kernel
theorem dL_act_177 : decode cL_act 177 = .ok (.iconst 0, 1) := by decide +kernel
theorem dL_act_178 : decode cL_act 178 = .ok (.iastore, 1) := by decide +kernel
theorem dL_act_179 : decode cL_act 179 = .ok (.iinc 11 1, 3) := by decide +kernel
theorem dL_act_182 : decode cL_act 182 = .ok (.goto (-16), 3) := by decide +kernel
theorem dL_act_185 : decode cL_act 185 = .ok (.aload_n 0, 1) := by decide +kernel
theorem dL_act_186 : decode cL_act 186 = .ok (.invokevirtual 117, 3) := by decide +kernel
theorem dL_act_189 : decode cL_act 189 = .ok (.aload 10, 2) := by decide +kernel
theorem dL_act_191 : decode cL_act 191 = .ok (.iconst 2, 1) := by decide +kernel
theorem dL_act_192 : decode cL_act 192 = .ok (.iaload, 1) := by decide +kernel
theorem dL_act_193 : decode cL_act 193 = .ok (.if_icmp .ne 7, 3) := by decide +kernel
theorem dL_act_196 : decode cL_act 196 = .ok (.iconst 1, 1) := by decide +kernel
theorem dL_act_197 : decode cL_act 197 = .ok (.goto 4, 3) := by decide +kernel
theorem dL_act_200 : decode cL_act 200 = .ok (.iconst 0, 1) := by decide +kernel
theorem dL_act_201 : decode cL_act 201 = .ok (.ireturn, 1) := by decide +kernel
theorem dL_act_202 : decode cL_act 202 = .ok (.iload_n 1, 1) := by decide +kernel
theorem dL_act_203 : decode cL_act 203 = .ok (.bipush 7, 2) := by decide +kernel
theorem dL_act_205 : decode cL_act 205 = .ok (.if_icmp .ge 17, 3) := by decide +kernel
theorem dL_act_208 : decode cL_act 208 = .ok (.aload_n 0, 1) := by decide +kernel
theorem dL_act_209 : decode cL_act 209 = .ok (.iload_n 1, 1) := by decide +kernel
theorem dL_act_210 : decode cL_act 210 = .ok (.iconst 3, 1) := by decide +kernel
theorem dL_act_211 : decode cL_act 211 = .ok (.isub, 1) := by decide +kernel
theorem dL_act_212 : decode cL_act 212 = .ok (.iload_n 2, 1) := by decide +kernel
theorem dL_act_213 : decode cL_act 213 = .ok (.iload_n 3, 1) := by decide +kernel
theorem dL_act_214 : decode cL_act 214 = .ok (.aload 4, 2) := by decide +kernel
theorem dL_act_216 : decode cL_act 216 = .ok (.aload 10, 2) := by decide +kernel
theorem dL_act_218 : decode cL_act 218 = .ok (.invokestatic 120, 3) := by decide +kernel
theorem dL_act_221 : decode cL_act 221 = .ok (.ireturn, 1) := by decide +kernel
theorem dL_act_222 : decode cL_act 222 = .ok (.iload_n 1, 1) := by decide +kernel
theorem dL_act_223 : decode cL_act 223 = .ok (.bipush 9, 2) := by decide +kernel
theorem dL_act_225 : decode cL_act 225 = .ok (.if_icmp .lt 10, 3) := by decide +kernel
theorem dL_act_228 : decode cL_act 228 = .ok (.aload 10, 2) := by decide +kernel
theorem dL_act_230 : decode cL_act 230 = .ok (.iconst 1, 1) := by decide +kernel
theorem dL_act_231 : decode cL_act 231 = .ok (.iaload, 1) := by decide +kernel
theorem dL_act_232 : decode cL_act 232 = .ok (.ifCond .ne 112, 3) := by decide +kernel
theorem dL_act_235 : decode cL_act 235 = .ok (.aload 10, 2) := by decide +kernel
theorem dL_act_237 : decode cL_act 237 = .ok (.iconst 1, 1) := by decide +kernel
theorem dL_act_238 : decode cL_act 238 = .ok (.iaload, 1) := by decide +kernel
theorem dL_act_239 : decode cL_act 239 = .ok (.iconst 4, 1) := by decide +kernel
theorem dL_act_240 : decode cL_act 240 = .ok (.if_icmp .ne 5, 3) := by decide +kernel
theorem dL_act_243 : decode cL_act 243 = .ok (.iconst 1, 1) := by decide +kernel
theorem dL_act_244 : decode cL_act 244 = .ok (.ireturn, 1) := by decide +kernel
theorem dL_act_245 : decode cL_act 245 = .ok (.iload_n 2, 1) := by decide +kernel
theorem dL_act_246 : decode cL_act 246 = .ok (.aload 10, 2) := by decide +kernel
theorem dL_act_248 : decode cL_act 248 = .ok (.iconst 0, 1) := by decide +kernel
theorem dL_act_249 : decode cL_act 249 = .ok (.iaload, 1) := by decide +kernel
theorem dL_act_250 : decode cL_act 250 = .ok (.invokestatic 65, 3) := by decide +kernel
theorem dL_act_253 : decode cL_act 253 = .ok (.istore 11, 2) := by decide +kernel
theorem dL_act_255 : decode cL_act 255 = .ok (.iconst 5, 1) := by decide +kernel
theorem dL_act_256 : decode cL_act 256 = .ok (.aload 10, 2) := by decide +kernel
theorem dL_act_258 : decode cL_act 258 = .ok (.iconst 1, 1) := by decide +kernel
theorem dL_act_259 : decode cL_act 259 = .ok (.iaload, 1) := by decide +kernel
theorem dL_act_260 : decode cL_act 260 = .ok (.imul, 1) := by decide +kernel
theorem dL_act_261 : decode cL_act 261 = .ok (.istore 12, 2) := by decide +kernel
theorem dL_act_263 : decode cL_act 263 = .ok (.aload 5, 2) := by decide +kernel
theorem dL_act_265 : decode cL_act 265 = .ok (.iload 12, 2) := by decide +kernel
theorem dL_act_267 : decode cL_act 267 = .ok (.iload 11, 2) := by decide +kernel
theorem dL_act_269 : decode cL_act 269 = .ok (.iastore, 1) := by decide +kernel
theorem dL_act_270 : decode cL_act 270 = .ok (.aload 5, 2) := by decide +kernel
theorem dL_act_272 : decode cL_act 272 = .ok (.iload 12, 2) := by decide +kernel
theorem dL_act_274 : decode cL_act 274 = .ok (.iconst 1, 1) := by decide +kernel
theorem dL_act_275 : decode cL_act 275 = .ok (.iadd, 1) := by decide +kernel
theorem dL_act_276 : decode cL_act 276 = .ok (.bipush 10, 2) := by decide +kernel
theorem dL_act_278 : decode cL_act 278 = .ok (.iload_n 3, 1) := by decide +kernel
theorem dL_act_279 : decode cL_act 279 = .ok (.sipush 9000, 3) := by decide +kernel
theorem dL_act_282 : decode cL_act 282 = .ok (.invokestatic 65, 3) := by decide +kernel
theorem dL_act_285 : decode cL_act 285 = .ok (.iadd, 1) := by decide +kernel
theorem dL_act_286 : decode cL_act 286 = .ok (.iastore, 1) := by decide +kernel
theorem dL_act_287 : decode cL_act 287 = .ok (.aload 5, 2) := by decide +kernel
theorem dL_act_289 : decode cL_act 289 = .ok (.iload 12, 2) := by decide +kernel
theorem dL_act_291 : decode cL_act 291 = .ok (.iconst 3, 1) := by decide +kernel
theorem dL_act_292 : decode cL_act 292 = .ok (.iadd, 1) := by decide +kernel
theorem dL_act_293 : decode cL_act 293 = .ok (.iconst 1, 1) := by decide +kernel
theorem dL_act_294 : decode cL_act 294 = .ok (.iastore, 1) := by decide +kernel
theorem dL_act_295 : decode cL_act 295 = .ok (.aload 7, 2) := by decide +kernel
theorem dL_act_297 : decode cL_act 297 = .ok (.iconst 4, 1) := by decide +kernel
theorem dL_act_298 : decode cL_act 298 = .ok (.aload 10, 2) := by decide +kernel
theorem dL_act_300 : decode cL_act 300 = .ok (.iconst 1, 1) := by decide +kernel
theorem dL_act_301 : decode cL_act 301 = .ok (.iaload, 1) := by decide +kernel
theorem dL_act_302 : decode cL_act 302 = .ok (.imul, 1) := by decide +kernel
theorem dL_act_303 : decode cL_act 303 = .ok (.iload 11, 2) := by decide +kernel
theorem dL_act_305 : decode cL_act 305 = .ok (.iadd, 1) := by decide +kernel
theorem dL_act_306 : decode cL_act 306 = .ok (.iconst 1, 1) := by decide +kernel
theorem dL_act_307 : decode cL_act 307 = .ok (.iastore, 1) := by decide +kernel
theorem dL_act_308 : decode cL_act 308 = .ok (.aload 10, 2) := by decide +kernel
theorem dL_act_310 : decode cL_act 310 = .ok (.iconst 1, 1) := by decide +kernel
theorem dL_act_311 : decode cL_act 311 = .ok (.dup2, 1) := by decide +kernel
theorem dL_act_312 : decode cL_act 312 = .ok (.iaload, 1) := by decide +kernel
theorem dL_act_313 : decode cL_act 313 = .ok (.iconst 1, 1) := by decide +kernel
theorem dL_act_314 : decode cL_act 314 = .ok (.iadd, 1) := by decide +kernel
theorem dL_act_315 : decode cL_act 315 = .ok (.iastore, 1) := by decide +kernel
theorem dL_act_316 : decode cL_act 316 = .ok (.aload_n 0, 1) := by decide +kernel
theorem dL_act_317 : decode cL_act 317 = .ok (.iload 11, 2) := by decide +kernel
theorem dL_act_319 : decode cL_act 319 = .ok (.aload 5, 2) := by decide +kernel
theorem dL_act_321 : decode cL_act 321 = .ok (.iload 12, 2) := by decide +kernel
theorem dL_act_323 : decode cL_act 323 = .ok (.iconst 1, 1) := by decide +kernel
theorem dL_act_324 : decode cL_act 324 = .ok (.iadd, 1) := by decide +kernel
theorem dL_act_325 : decode cL_act 325 = .ok (.iaload, 1) := by decide +kernel
theorem dL_act_326 : decode cL_act 326 = .ok (.invokevirtual 124, 3) := by decide +kernel
theorem dL_act_329 : decode cL_act 329 = .ok (.aload 10, 2) := by decide +kernel
theorem dL_act_331 : decode cL_act 331 = .ok (.iconst 1, 1) := by decide +kernel
theorem dL_act_332 : decode cL_act 332 = .ok (.iaload, 1) := by decide +kernel
theorem dL_act_333 : decode cL_act 333 = .ok (.iconst 1, 1) := by decide +kernel
theorem dL_act_334 : decode cL_act 334 = .ok (.isub, 1) := by decide +kernel
theorem dL_act_335 : decode cL_act 335 = .ok (.if_icmp .ne 7, 3) := by decide +kernel
theorem dL_act_338 : decode cL_act 338 = .ok (.iconst 1, 1) := by decide +kernel
theorem dL_act_339 : decode cL_act 339 = .ok (.goto 4, 3) := by decide +kernel
theorem dL_act_342 : decode cL_act 342 = .ok (.iconst 0, 1) := by decide +kernel
theorem dL_act_343 : decode cL_act 343 = .ok (.ireturn, 1) := by decide +kernel
theorem dL_act_344 : decode cL_act 344 = .ok (.iload_n 2, 1) := by decide +kernel
theorem dL_act_345 : decode cL_act 345 = .ok (.iconst 2, 1) := by decide +kernel
theorem dL_act_346 : decode cL_act 346 = .ok (.ishr, 1) := by decide +kernel
theorem dL_act_347 : decode cL_act 347 = .ok (.aload 10, 2) := by decide +kernel
theorem dL_act_349 : decode cL_act 349 = .ok (.iconst 1, 1) := by decide +kernel
theorem dL_act_350 : decode cL_act 350 = .ok (.iaload, 1) := by decide +kernel
theorem dL_act_351 : decode cL_act 351 = .ok (.invokestatic 65, 3) := by decide +kernel
theorem dL_act_354 : decode cL_act 354 = .ok (.istore 11, 2) := by decide +kernel
theorem dL_act_356 : decode cL_act 356 = .ok (.iload_n 3, 1) := by decide +kernel
theorem dL_act_357 : decode cL_act 357 = .ok (.iconst 5, 1) := by decide +kernel
theorem dL_act_358 : decode cL_act 358 = .ok (.ishr, 1) := by decide +kernel
theorem dL_act_359 : decode cL_act 359 = .ok (.aload 10, 2) := by decide +kernel
theorem dL_act_361 : decode cL_act 361 = .ok (.iconst 0, 1) := by decide +kernel
theorem dL_act_362 : decode cL_act 362 = .ok (.iaload, 1) := by decide +kernel
theorem dL_act_363 : decode cL_act 363 = .ok (.invokestatic 65, 3) := by decide +kernel
theorem dL_act_366 : decode cL_act 366 = .ok (.istore 12, 2) := by decide +kernel
theorem dL_act_368 : decode cL_act 368 = .ok (.aload 5, 2) := by decide +kernel
theorem dL_act_370 : decode cL_act 370 = .ok (.iconst 5, 1) := by decide +kernel
theorem dL_act_371 : decode cL_act 371 = .ok (.iload 11, 2) := by decide +kernel
theorem dL_act_373 : decode cL_act 373 = .ok (.imul, 1) := by decide +kernel
theorem dL_act_374 : decode cL_act 374 = .ok (.iconst 2, 1) := by decide +kernel
theorem dL_act_375 : decode cL_act 375 = .ok (.iadd, 1) := by decide +kernel
theorem dL_act_376 : decode cL_act 376 = .ok (.iaload, 1) := by decide +kernel
theorem dL_act_377 : decode cL_act 377 = .ok (.istore 13, 2) := by decide +kernel
theorem dL_act_379 : decode cL_act 379 = .ok (.iload_n 1, 1) := by decide +kernel
theorem dL_act_380 : decode cL_act 380 = .ok (.bipush 14, 2) := by decide +kernel
theorem dL_act_382 : decode cL_act 382 = .ok (.if_icmp .ge 87, 3) := by decide +kernel
theorem dL_act_385 : decode cL_act 385 = .ok (.iload 13, 2) := by decide +kernel
theorem dL_act_387 : decode cL_act 387 = .ok (.iconst 2, 1) := by decide +kernel
theorem dL_act_388 : decode cL_act 388 = .ok (.if_icmp .gt 15, 3) := by decide +kernel
theorem dL_act_391 : decode cL_act 391 = .ok (.aload 6, 2) := by decide +kernel
theorem dL_act_393 : decode cL_act 393 = .ok (.iload 11, 2) := by decide +kernel
theorem dL_act_395 : decode cL_act 395 = .ok (.invokestatic 8, 3) := by decide +kernel
theorem dL_act_398 : decode cL_act 398 = .ok (.bipush 9, 2) := by decide +kernel
theorem dL_act_400 : decode cL_act 400 = .ok (.if_icmp .ne 5, 3) := by decide +kernel
theorem dL_act_403 : decode cL_act 403 = .ok (.iconst 1, 1) := by decide +kernel
theorem dL_act_404 : decode cL_act 404 = .ok (.ireturn, 1) := by decide +kernel
theorem dL_act_405 : decode cL_act 405 = .ok (.aload 5, 2) := by decide +kernel
theorem dL_act_407 : decode cL_act 407 = .ok (.iconst 5, 1) := by decide +kernel
theorem dL_act_408 : decode cL_act 408 = .ok (.iload 11, 2) := by decide +kernel
theorem dL_act_410 : decode cL_act 410 = .ok (.imul, 1) := by decide +kernel
theorem dL_act_411 : decode cL_act 411 = .ok (.iconst 2, 1) := by decide +kernel
theorem dL_act_412 : decode cL_act 412 = .ok (.iadd, 1) := by decide +kernel
theorem dL_act_413 : decode cL_act 413 = .ok (.aload 6, 2) := by decide +kernel
theorem dL_act_415 : decode cL_act 415 = .ok (.iload 11, 2) := by decide +kernel
theorem dL_act_417 : decode cL_act 417 = .ok (.invokestatic 8, 3) := by decide +kernel
theorem dL_act_420 : decode cL_act 420 = .ok (.ifCond .ne 7, 3) := by decide +kernel
theorem dL_act_423 : decode cL_act 423 = .ok (.iconst 1, 1) := by decide +kernel
theorem dL_act_424 : decode cL_act 424 = .ok (.goto 4, 3) := by decide +kernel
theorem dL_act_427 : decode cL_act 427 = .ok (.iconst 2, 1) := by decide +kernel
theorem dL_act_428 : decode cL_act 428 = .ok (.iastore, 1) := by decide +kernel
theorem dL_act_429 : decode cL_act 429 = .ok (.aload 6, 2) := by decide +kernel
theorem dL_act_431 : decode cL_act 431 = .ok (.iconst 4, 1) := by decide +kernel
theorem dL_act_432 : decode cL_act 432 = .ok (.iload 11, 2) := by decide +kernel
theorem dL_act_434 : decode cL_act 434 = .ok (.imul, 1) := by decide +kernel
theorem dL_act_435 : decode cL_act 435 = .ok (.iload 12, 2) := by decide +kernel
theorem dL_act_437 : decode cL_act 437 = .ok (.iadd, 1) := by decide +kernel
theorem dL_act_438 : decode cL_act 438 = .ok (.dup2, 1) := by decide +kernel
theorem dL_act_439 : decode cL_act 439 = .ok (.iaload, 1) := by decide +kernel
theorem dL_act_440 : decode cL_act 440 = .ok (.iconst 1, 1) := by decide +kernel
theorem dL_act_441 : decode cL_act 441 = .ok (.iadd, 1) := by decide +kernel
theorem dL_act_442 : decode cL_act 442 = .ok (.iastore, 1) := by decide +kernel
theorem dL_act_443 : decode cL_act 443 = .ok (.aload_n 0, 1) := by decide +kernel
theorem dL_act_444 : decode cL_act 444 = .ok (.iload 11, 2) := by decide +kernel
theorem dL_act_446 : decode cL_act 446 = .ok (.iload 12, 2) := by decide +kernel
theorem dL_act_448 : decode cL_act 448 = .ok (.invokevirtual 127, 3) := by decide +kernel
theorem dL_act_451 : decode cL_act 451 = .ok (.aload 5, 2) := by decide +kernel
theorem dL_act_453 : decode cL_act 453 = .ok (.iconst 5, 1) := by decide +kernel
theorem dL_act_454 : decode cL_act 454 = .ok (.iload 11, 2) := by decide +kernel
theorem dL_act_456 : decode cL_act 456 = .ok (.imul, 1) := by decide +kernel
theorem dL_act_457 : decode cL_act 457 = .ok (.iconst 2, 1) := by decide +kernel
theorem dL_act_458 : decode cL_act 458 = .ok (.iadd, 1) := by decide +kernel
theorem dL_act_459 : decode cL_act 459 = .ok (.iaload, 1) := by decide +kernel
theorem dL_act_460 : decode cL_act 460 = .ok (.if_icmp .ne 7, 3) := by decide +kernel
theorem dL_act_463 : decode cL_act 463 = .ok (.iconst 1, 1) := by decide +kernel
theorem dL_act_464 : decode cL_act 464 = .ok (.goto 4, 3) := by decide +kernel
theorem dL_act_467 : decode cL_act 467 = .ok (.iconst 0, 1) := by decide +kernel
theorem dL_act_468 : decode cL_act 468 = .ok (.ireturn, 1) := by decide +kernel
theorem dL_act_469 : decode cL_act 469 = .ok (.iload_n 1, 1) := by decide +kernel
theorem dL_act_470 : decode cL_act 470 = .ok (.bipush 14, 2) := by decide +kernel
theorem dL_act_472 : decode cL_act 472 = .ok (.if_icmp .ne 80, 3) := by decide +kernel
theorem dL_act_475 : decode cL_act 475 = .ok (.iload 13, 2) := by decide +kernel
theorem dL_act_477 : decode cL_act 477 = .ok (.iconst 2, 1) := by decide +kernel
theorem dL_act_478 : decode cL_act 478 = .ok (.if_icmp .le 5, 3) := by decide +kernel
theorem dL_act_481 : decode cL_act 481 = .ok (.iconst 1, 1) := by decide +kernel
theorem dL_act_482 : decode cL_act 482 = .ok (.ireturn, 1) := by decide +kernel
theorem dL_act_483 : decode cL_act 483 = .ok (.aload 5, 2) := by decide +kernel
theorem dL_act_485 : decode cL_act 485 = .ok (.iconst 5, 1) := by decide +kernel
theorem dL_act_486 : decode cL_act 486 = .ok (.iload 11, 2) := by decide +kernel
theorem dL_act_488 : decode cL_act 488 = .ok (.imul, 1) := by decide +kernel
theorem dL_act_489 : decode cL_act 489 = .ok (.iconst 1, 1) := by decide +kernel
theorem dL_act_490 : decode cL_act 490 = .ok (.iadd, 1) := by decide +kernel
theorem dL_act_491 : decode cL_act 491 = .ok (.iaload, 1) := by decide +kernel
theorem dL_act_492 : decode cL_act 492 = .ok (.istore 14, 2) := by decide +kernel
theorem dL_act_494 : decode cL_act 494 = .ok (.aload 5, 2) := by decide +kernel
theorem dL_act_496 : decode cL_act 496 = .ok (.iconst 5, 1) := by decide +kernel
theorem dL_act_497 : decode cL_act 497 = .ok (.iload 11, 2) := by decide +kernel
theorem dL_act_499 : decode cL_act 499 = .ok (.imul, 1) := by decide +kernel
theorem dL_act_500 : decode cL_act 500 = .ok (.iconst 1, 1) := by decide +kernel
theorem dL_act_501 : decode cL_act 501 = .ok (.iadd, 1) := by decide +kernel
theorem dL_act_502 : decode cL_act 502 = .ok (.bipush 10, 2) := by decide +kernel
theorem dL_act_504 : decode cL_act 504 = .ok (.iload_n 3, 1) := by decide +kernel
theorem dL_act_505 : decode cL_act 505 = .ok (.sipush 9000, 3) := by decide +kernel
theorem dL_act_508 : decode cL_act 508 = .ok (.invokestatic 65, 3) := by decide +kernel
theorem dL_act_511 : decode cL_act 511 = .ok (.iadd, 1) := by decide +kernel
theorem dL_act_512 : decode cL_act 512 = .ok (.iastore, 1) := by decide +kernel
theorem dL_act_513 : decode cL_act 513 = .ok (.aload 5, 2) := by decide +kernel
theorem dL_act_515 : decode cL_act 515 = .ok (.iconst 5, 1) := by decide +kernel
theorem dL_act_516 : decode cL_act 516 = .ok (.iload 11, 2) := by decide +kernel
theorem dL_act_518 : decode cL_act 518 = .ok (.imul, 1) := by decide +kernel
theorem dL_act_519 : decode cL_act 519 = .ok (.iconst 3, 1) := by decide +kernel
theorem dL_act_520 : decode cL_act 520 = .ok (.iadd, 1) := by decide +kernel
theorem dL_act_521 : decode cL_act 521 = .ok (.dup2, 1) := by decide +kernel
theorem dL_act_522 : decode cL_act 522 = .ok (.iaload, 1) := by decide +kernel
theorem dL_act_523 : decode cL_act 523 = .ok (.iconst 1, 1) := by decide +kernel
theorem dL_act_524 : decode cL_act 524 = .ok (.iadd, 1) := by decide +kernel
theorem dL_act_525 : decode cL_act 525 = .ok (.iastore, 1) := by decide +kernel
theorem dL_act_526 : decode cL_act 526 = .ok (.aload_n 0, 1) := by decide +kernel
theorem dL_act_527 : decode cL_act 527 = .ok (.iload 11, 2) := by decide +kernel
theorem dL_act_529 : decode cL_act 529 = .ok (.aload 5, 2) := by decide +kernel
theorem dL_act_531 : decode cL_act 531 = .ok (.iconst 5, 1) := by decide +kernel
theorem dL_act_532 : decode cL_act 532 = .ok (.iload 11, 2) := by decide +kernel
theorem dL_act_534 : decode cL_act 534 = .ok (.imul, 1) := by decide +kernel
theorem dL_act_535 : decode cL_act 535 = .ok (.iconst 1, 1) := by decide +kernel
theorem dL_act_536 : decode cL_act 536 = .ok (.iadd, 1) := by decide +kernel
theorem dL_act_537 : decode cL_act 537 = .ok (.iaload, 1) := by decide +kernel
theorem dL_act_538 : decode cL_act 538 = .ok (.invokevirtual 130, 3) := by decide +kernel
theorem dL_act_541 : decode cL_act 541 = .ok (.iload 14, 2) := by decide +kernel
theorem dL_act_543 : decode cL_act 543 = .ok (.if_icmp .ne 7, 3) := by decide +kernel
theorem dL_act_546 : decode cL_act 546 = .ok (.iconst 1, 1) := by decide +kernel
theorem dL_act_547 : decode cL_act 547 = .ok (.goto 4, 3) := by decide +kernel
theorem dL_act_550 : decode cL_act 550 = .ok (.iconst 0, 1) := by decide +kernel
theorem dL_act_551 : decode cL_act 551 = .ok (.ireturn, 1) := by decide +kernel
theorem dL_act_552 : decode cL_act 552 = .ok (.iload_n 1, 1) := by decide +kernel
theorem dL_act_553 : decode cL_act 553 = .ok (.bipush 17, 2) := by decide +kernel
theorem dL_act_555 : decode cL_act 555 = .ok (.if_icmp .ge 34, 3) := by decide +kernel
theorem dL_act_558 : decode cL_act 558 = .ok (.iload 13, 2) := by decide +kernel
theorem dL_act_560 : decode cL_act 560 = .ok (.iconst 4, 1) := by decide +kernel
theorem dL_act_561 : decode cL_act 561 = .ok (.if_icmp .eq 22, 3) := by decide +kernel
theorem dL_act_564 : decode cL_act 564 = .ok (.aload_n 0, 1) := by decide +kernel
theorem dL_act_565 : decode cL_act 565 = .ok (.iload 11, 2) := by decide +kernel
theorem dL_act_567 : decode cL_act 567 = .ok (.iload_n 2, 1) := by decide +kernel
theorem dL_act_568 : decode cL_act 568 = .ok (.iconst 3, 1) := by decide +kernel
theorem dL_act_569 : decode cL_act 569 = .ok (.ishr, 1) := by decide +kernel
theorem dL_act_570 : decode cL_act 570 = .ok (.iload_n 3, 1) := by decide +kernel
theorem dL_act_571 : decode cL_act 571 = .ok (.aload 5, 2) := by decide +kernel
theorem dL_act_573 : decode cL_act 573 = .ok (.aload 7, 2) := by decide +kernel
theorem dL_act_575 : decode cL_act 575 = .ok (.aload 10, 2) := by decide +kernel
theorem dL_act_577 : decode cL_act 577 = .ok (.invokestatic 133, 3) := by decide +kernel
theorem dL_act_580 : decode cL_act 580 = .ok (.ifCond .eq 7, 3) := by decide +kernel
theorem dL_act_583 : decode cL_act 583 = .ok (.iconst 1, 1) := by decide +kernel
theorem dL_act_584 : decode cL_act 584 = .ok (.goto 4, 3) := by decide +kernel
theorem dL_act_587 : decode cL_act 587 = .ok (.iconst 0, 1) := by decide +kernel
theorem dL_act_588 : decode cL_act 588 = .ok (.ireturn, 1) := by decide +kernel
theorem dL_act_589 : decode cL_act 589 = .ok (.iload_n 1, 1) := by decide +kernel
theorem dL_act_590 : decode cL_act 590 = .ok (.bipush 20, 2) := by decide +kernel
theorem dL_act_592 : decode cL_act 592 = .ok (.if_icmp .ge 69, 3) := by decide +kernel
theorem dL_act_595 : decode cL_act 595 = .ok (.iload 13, 2) := by decide +kernel
theorem dL_act_597 : decode cL_act 597 = .ok (.iconst 1, 1) := by decide +kernel
theorem dL_act_598 : decode cL_act 598 = .ok (.if_icmp .lt 9, 3) := by decide +kernel
theorem dL_act_601 : decode cL_act 601 = .ok (.iload 13, 2) := by decide +kernel
theorem dL_act_603 : decode cL_act 603 = .ok (.iconst 2, 1) := by decide +kernel
theorem dL_act_604 : decode cL_act 604 = .ok (.if_icmp .le 5, 3) := by decide +kernel
theorem dL_act_607 : decode cL_act 607 = .ok (.iconst 1, 1) := by decide +kernel
theorem dL_act_608 : decode cL_act 608 = .ok (.ireturn, 1) := by decide +kernel
theorem dL_act_609 : decode cL_act 609 = .ok (.aload 5, 2) := by decide +kernel
theorem dL_act_611 : decode cL_act 611 = .ok (.iconst 5, 1) := by decide +kernel
theorem dL_act_612 : decode cL_act 612 = .ok (.iload 11, 2) := by decide +kernel
theorem dL_act_614 : decode cL_act 614 = .ok (.imul, 1) := by decide +kernel
theorem dL_act_615 : decode cL_act 615 = .ok (.iconst 2, 1) := by decide +kernel
theorem dL_act_616 : decode cL_act 616 = .ok (.iadd, 1) := by decide +kernel
theorem dL_act_617 : decode cL_act 617 = .ok (.iconst 3, 1) := by decide +kernel
theorem dL_act_618 : decode cL_act 618 = .ok (.iastore, 1) := by decide +kernel
theorem dL_act_619 : decode cL_act 619 = .ok (.aload_n 0, 1) := by decide +kernel
theorem dL_act_620 : decode cL_act 620 = .ok (.iload 11, 2) := by decide +kernel
theorem dL_act_622 : decode cL_act 622 = .ok (.invokevirtual 137, 3) := by decide +kernel
theorem dL_act_625 : decode cL_act 625 = .ok (.iload 11, 2) := by decide +kernel
theorem dL_act_627 : decode cL_act 627 = .ok (.aload 5, 2) := by decide +kernel
theorem dL_act_629 : decode cL_act 629 = .ok (.iconst 5, 1) := by decide +kernel
theorem dL_act_630 : decode cL_act 630 = .ok (.iload 11, 2) := by decide +kernel
theorem dL_act_632 : decode cL_act 632 = .ok (.imul, 1) := by decide +kernel
theorem dL_act_633 : decode cL_act 633 = .ok (.iconst 1, 1) := by decide +kernel
theorem dL_act_634 : decode cL_act 634 = .ok (.iadd, 1) := by decide +kernel
theorem dL_act_635 : decode cL_act 635 = .ok (.iaload, 1) := by decide +kernel
theorem dL_act_636 : decode cL_act 636 = .ok (.iconst 0, 1) := by decide +kernel
theorem dL_act_637 : decode cL_act 637 = .ok (.aload 4, 2) := by decide +kernel
theorem dL_act_639 : decode cL_act 639 = .ok (.aload 5, 2) := by decide +kernel
theorem dL_act_641 : decode cL_act 641 = .ok (.aload 7, 2) := by decide +kernel
theorem dL_act_643 : decode cL_act 643 = .ok (.aload 8, 2) := by decide +kernel
theorem dL_act_645 : decode cL_act 645 = .ok (.aload 9, 2) := by decide +kernel
theorem dL_act_647 : decode cL_act 647 = .ok (.aload 10, 2) := by decide +kernel
theorem dL_act_649 : decode cL_act 649 = .ok (.invokestatic 79, 3) := by decide +kernel
theorem dL_act_652 : decode cL_act 652 = .ok (.if_icmp .ne 7, 3) := by decide +kernel
theorem dL_act_655 : decode cL_act 655 = .ok (.iconst 1, 1) := by decide +kernel
theorem dL_act_656 : decode cL_act 656 = .ok (.goto 4, 3) := by decide +kernel
theorem dL_act_659 : decode cL_act 659 = .ok (.iconst 0, 1) := by decide +kernel
theorem dL_act_660 : decode cL_act 660 = .ok (.ireturn, 1) := by decide +kernel
theorem dL_act_661 : decode cL_act 661 = .ok (.iload_n 1, 1) := by decide +kernel
theorem dL_act_662 : decode cL_act 662 = .ok (.bipush 20, 2) := by decide +kernel
theorem dL_act_664 : decode cL_act 664 = .ok (.if_icmp .ne 70, 3) := by decide +kernel
theorem dL_act_667 : decode cL_act 667 = .ok (.iload 13, 2) := by decide +kernel
theorem dL_act_669 : decode cL_act 669 = .ok (.iconst 2, 1) := by decide +kernel
theorem dL_act_670 : decode cL_act 670 = .ok (.if_icmp .le 5, 3) := by decide +kernel
theorem dL_act_673 : decode cL_act 673 = .ok (.iconst 1, 1) := by decide +kernel
theorem dL_act_674 : decode cL_act 674 = .ok (.ireturn, 1) := by decide +kernel
theorem dL_act_675 : decode cL_act 675 = .ok (.iload 11, 2) := by decide +kernel
theorem dL_act_677 : decode cL_act 677 = .ok (.aload 5, 2) := by decide +kernel
theorem dL_act_679 : decode cL_act 679 = .ok (.aload 9, 2) := by decide +kernel
theorem dL_act_681 : decode cL_act 681 = .ok (.invokestatic 39, 3) := by decide +kernel
theorem dL_act_684 : decode cL_act 684 = .ok (.istore 14, 2) := by decide +kernel
theorem dL_act_686 : decode cL_act 686 = .ok (.aload 5, 2) := by decide +kernel
theorem dL_act_688 : decode cL_act 688 = .ok (.iconst 5, 1) := by decide +kernel
theorem dL_act_689 : decode cL_act 689 = .ok (.iload 11, 2) := by decide +kernel
theorem dL_act_691 : decode cL_act 691 = .ok (.imul, 1) := by decide +kernel
theorem dL_act_692 : decode cL_act 692 = .ok (.iconst 2, 1) := by decide +kernel
theorem dL_act_693 : decode cL_act 693 = .ok (.iadd, 1) := by decide +kernel
theorem dL_act_694 : decode cL_act 694 = .ok (.iconst 4, 1) := by decide +kernel
theorem dL_act_695 : decode cL_act 695 = .ok (.iastore, 1) := by decide +kernel
theorem dL_act_696 : decode cL_act 696 = .ok (.iload 11, 2) := by decide +kernel
theorem dL_act_698 : decode cL_act 698 = .ok (.iload 14, 2) := by decide +kernel
theorem dL_act_700 : decode cL_act 700 = .ok (.iconst 0, 1) := by decide +kernel
theorem dL_act_701 : decode cL_act 701 = .ok (.aload 4, 2) := by decide +kernel
theorem dL_act_703 : decode cL_act 703 = .ok (.aload 5, 2) := by decide +kernel
theorem dL_act_705 : decode cL_act 705 = .ok (.aload 7, 2) := by decide +kernel
theorem dL_act_707 : decode cL_act 707 = .ok (.aload 8, 2) := by decide +kernel
theorem dL_act_709 : decode cL_act 709 = .ok (.aload 9, 2) := by decide +kernel
theorem dL_act_711 : decode cL_act 711 = .ok (.aload 10, 2) := by decide +kernel
theorem dL_act_713 : decode cL_act 713 = .ok (.invokestatic 79, 3) := by decide +kernel
theorem dL_act_716 : decode cL_act 716 = .ok (.pop, 1) := by decide +kernel
theorem dL_act_717 : decode cL_act 717 = .ok (.aload_n 0, 1) := by decide +kernel
theorem dL_act_718 : decode cL_act 718 = .ok (.iload 11, 2) := by decide +kernel
theorem dL_act_720 : decode cL_act 720 = .ok (.invokevirtual 140, 3) := by decide +kernel
theorem dL_act_723 : decode cL_act 723 = .ok (.iload 14, 2) := by decide +kernel
theorem dL_act_725 : decode cL_act 725 = .ok (.if_icmp .ne 7, 3) := by decide +kernel
theorem dL_act_728 : decode cL_act 728 = .ok (.iconst 1, 1) := by decide +kernel
theorem dL_act_729 : decode cL_act 729 = .ok (.goto 4, 3) := by decide +kernel
theorem dL_act_732 : decode cL_act 732 = .ok (.iconst 0, 1) := by decide +kernel
theorem dL_act_733 : decode cL_act 733 = .ok (.ireturn, 1) := by decide +kernel
theorem dL_act_734 : decode cL_act 734 = .ok (.iload_n 1, 1) := by decide +kernel
theorem dL_act_735 : decode cL_act 735 = .ok (.bipush 24, 2) := by decide +kernel
theorem dL_act_737 : decode cL_act 737 = .ok (.if_icmp .ge 60, 3) := by decide +kernel
theorem dL_act_740 : decode cL_act 740 = .ok (.iload 13, 2) := by decide +kernel
theorem dL_act_742 : decode cL_act 742 = .ok (.iconst 3, 1) := by decide +kernel
theorem dL_act_743 : decode cL_act 743 = .ok (.if_icmp .ne 48, 3) := by decide +kernel
theorem dL_act_746 : decode cL_act 746 = .ok (.aload_n 0, 1) := by decide +kernel
theorem dL_act_747 : decode cL_act 747 = .ok (.iload 11, 2) := by decide +kernel
theorem dL_act_749 : decode cL_act 749 = .ok (.iconst 1, 1) := by decide +kernel
theorem dL_act_750 : decode cL_act 750 = .ok (.iload_n 3, 1) := by decide +kernel
theorem dL_act_751 : decode cL_act 751 = .ok (.sipush 4000, 3) := by decide +kernel
theorem dL_act_754 : decode cL_act 754 = .ok (.invokestatic 65, 3) := by decide +kernel
theorem dL_act_757 : decode cL_act 757 = .ok (.iadd, 1) := by decide +kernel
theorem dL_act_758 : decode cL_act 758 = .ok (.invokevirtual 142, 3) := by decide +kernel
theorem dL_act_761 : decode cL_act 761 = .ok (.iload 11, 2) := by decide +kernel
theorem dL_act_763 : decode cL_act 763 = .ok (.iconst 1, 1) := by decide +kernel
theorem dL_act_764 : decode cL_act 764 = .ok (.iload_n 3, 1) := by decide +kernel
theorem dL_act_765 : decode cL_act 765 = .ok (.sipush 4000, 3) := by decide +kernel
theorem dL_act_768 : decode cL_act 768 = .ok (.invokestatic 65, 3) := by decide +kernel
theorem dL_act_771 : decode cL_act 771 = .ok (.iadd, 1) := by decide +kernel
theorem dL_act_772 : decode cL_act 772 = .ok (.iconst 1, 1) := by decide +kernel
theorem dL_act_773 : decode cL_act 773 = .ok (.aload 4, 2) := by decide +kernel
theorem dL_act_775 : decode cL_act 775 = .ok (.aload 5, 2) := by decide +kernel
theorem dL_act_777 : decode cL_act 777 = .ok (.aload 7, 2) := by decide +kernel
theorem dL_act_779 : decode cL_act 779 = .ok (.aload 8, 2) := by decide +kernel
theorem dL_act_781 : decode cL_act 781 = .ok (.aload 9, 2) := by decide +kernel
theorem dL_act_783 : decode cL_act 783 = .ok (.aload 10, 2) := by decide +kernel
theorem dL_act_785 : decode cL_act 785 = .ok (.invokestatic 79, 3) := by decide +kernel
theorem dL_act_788 : decode cL_act 788 = .ok (.if_icmp .ne 7, 3) := by decide +kernel
theorem dL_act_791 : decode cL_act 791 = .ok (.iconst 1, 1) := by decide +kernel
theorem dL_act_792 : decode cL_act 792 = .ok (.goto 4, 3) := by decide +kernel
theorem dL_act_795 : decode cL_act 795 = .ok (.iconst 0, 1) := by decide +kernel
theorem dL_act_796 : decode cL_act 796 = .ok (.ireturn, 1) := by decide +kernel
theorem dL_act_797 : decode cL_act 797 = .ok (.iload 11, 2) := by decide +kernel
theorem dL_act_799 : decode cL_act 799 = .ok (.iload 12, 2) := by decide +kernel
theorem dL_act_801 : decode cL_act 801 = .ok (.aload 5, 2) := by decide +kernel
theorem dL_act_803 : decode cL_act 803 = .ok (.aload 6, 2) := by decide +kernel
theorem dL_act_805 : decode cL_act 805 = .ok (.aload 7, 2) := by decide +kernel
theorem dL_act_807 : decode cL_act 807 = .ok (.invokestatic 28, 3) := by decide +kernel
theorem dL_act_810 : decode cL_act 810 = .ok (.ifCond .ne 5, 3) := by decide +kernel
theorem dL_act_813 : decode cL_act 813 = .ok (.iconst 1, 1) := by decide +kernel
theorem dL_act_814 : decode cL_act 814 = .ok (.ireturn, 1) := by decide +kernel
theorem dL_act_815 : decode cL_act 815 = .ok (.iconst 0, 1) := by decide +kernel
theorem dL_act_816 : decode cL_act 816 = .ok (.istore 14, 2) := by decide +kernel
theorem dL_act_818 : decode cL_act 818 = .ok (.iload 14, 2) := by decide +kernel
theorem dL_act_820 : decode cL_act 820 = .ok (.iconst 4, 1) := by decide +kernel
theorem dL_act_821 : decode cL_act 821 = .ok (.if_icmp .ge 29, 3) := by decide +kernel
theorem dL_act_824 : decode cL_act 824 = .ok (.aload 7, 2) := by decide +kernel
theorem dL_act_826 : decode cL_act 826 = .ok (.iconst 4, 1) := by decide +kernel
theorem dL_act_827 : decode cL_act 827 = .ok (.iload 11, 2) := by decide +kernel
theorem dL_act_829 : decode cL_act 829 = .ok (.imul, 1) := by decide +kernel
theorem dL_act_830 : decode cL_act 830 = .ok (.iload 14, 2) := by decide +kernel
theorem dL_act_832 : decode cL_act 832 = .ok (.iadd, 1) := by decide +kernel
theorem dL_act_833 : decode cL_act 833 = .ok (.aload 6, 2) := by decide +kernel
theorem dL_act_835 : decode cL_act 835 = .ok (.iconst 4, 1) := by decide +kernel
theorem dL_act_836 : decode cL_act 836 = .ok (.iload 11, 2) := by decide +kernel
theorem dL_act_838 : decode cL_act 838 = .ok (.imul, 1) := by decide +kernel
theorem dL_act_839 : decode cL_act 839 = .ok (.iload 14, 2) := by decide +kernel
theorem dL_act_841 : decode cL_act 841 = .ok (.iadd, 1) := by decide +kernel
theorem dL_act_842 : decode cL_act 842 = .ok (.iaload, 1) := by decide +kernel
theorem dL_act_843 : decode cL_act 843 = .ok (.iastore, 1) := by decide +kernel
theorem dL_act_844 : decode cL_act 844 = .ok (.iinc 14 1, 3) := by decide +kernel
theorem dL_act_847 : decode cL_act 847 = .ok (.goto (-29), 3) := by decide +kernel
theorem dL_act_850 : decode cL_act 850 = .ok (.aload 5, 2) := by decide +kernel
theorem dL_act_852 : decode cL_act 852 = .ok (.iconst 5, 1) := by decide +kernel
theorem dL_act_853 : decode cL_act 853 = .ok (.iload 11, 2) := by decide +kernel
theorem dL_act_855 : decode cL_act 855 = .ok (.imul, 1) := by decide +kernel
theorem dL_act_856 : decode cL_act 856 = .ok (.iconst 3, 1) := by decide +kernel
theorem dL_act_857 : decode cL_act 857 = .ok (.iadd, 1) := by decide +kernel
theorem dL_act_858 : decode cL_act 858 = .ok (.dup2, 1) := by decide +kernel
theorem dL_act_859 : decode cL_act 859 = .ok (.iaload, 1) := by decide +kernel
theorem dL_act_860 : decode cL_act 860 = .ok (.iconst 1, 1) := by decide +kernel
theorem dL_act_861 : decode cL_act 861 = .ok (.iadd, 1) := by decide +kernel
theorem dL_act_862 : decode cL_act 862 = .ok (.iastore, 1) := by decide +kernel
theorem dL_act_863 : decode cL_act 863 = .ok (.aload 10, 2) := by decide +kernel
theorem dL_act_865 : decode cL_act 865 = .ok (.bipush 6, 2) := by decide +kernel
theorem dL_act_867 : decode cL_act 867 = .ok (.dup2, 1) := by decide +kernel
theorem dL_act_868 : decode cL_act 868 = .ok (.iaload, 1) := by decide +kernel
theorem dL_act_869 : decode cL_act 869 = .ok (.iconst 1, 1) := by decide +kernel
theorem dL_act_870 : decode cL_act 870 = .ok (.iadd, 1) := by decide +kernel
theorem dL_act_871 : decode cL_act 871 = .ok (.iastore, 1) := by decide +kernel
theorem dL_act_872 : decode cL_act 872 = .ok (.aload_n 0, 1) := by decide +kernel
theorem dL_act_873 : decode cL_act 873 = .ok (.iload 11, 2) := by decide +kernel
theorem dL_act_875 : decode cL_act 875 = .ok (.iload 12, 2) := by decide +kernel
theorem dL_act_877 : decode cL_act 877 = .ok (.invokevirtual 145, 3) := by decide +kernel
theorem dL_act_880 : decode cL_act 880 = .ok (.aload 6, 2) := by decide +kernel
theorem dL_act_882 : decode cL_act 882 = .ok (.iconst 4, 1) := by decide +kernel
theorem dL_act_883 : decode cL_act 883 = .ok (.iload 11, 2) := by decide +kernel
theorem dL_act_885 : decode cL_act 885 = .ok (.imul, 1) := by decide +kernel
theorem dL_act_886 : decode cL_act 886 = .ok (.iload 12, 2) := by decide +kernel
theorem dL_act_888 : decode cL_act 888 = .ok (.iadd, 1) := by decide +kernel
theorem dL_act_889 : decode cL_act 889 = .ok (.iaload, 1) := by decide +kernel
theorem dL_act_890 : decode cL_act 890 = .ok (.if_icmp .ne 7, 3) := by decide +kernel
theorem dL_act_893 : decode cL_act 893 = .ok (.iconst 1, 1) := by decide +kernel
theorem dL_act_894 : decode cL_act 894 = .ok (.goto 4, 3) := by decide +kernel
theorem dL_act_897 : decode cL_act 897 = .ok (.iconst 0, 1) := by decide +kernel
theorem dL_act_898 : decode cL_act 898 = .ok (.ireturn, 1) := by decide +kernel
theorem dL_law_0 : decode cL_law 0 = .ok (.new 23, 3) := by decide +kernel
theorem dL_law_3 : decode cL_law 3 = .ok (.dup, 1) := by decide +kernel
theorem dL_law_4 : decode cL_law 4 = .ok (.invokespecial 148, 3) := by decide +kernel
theorem dL_law_7 : decode cL_law 7 = .ok (.astore_n 1, 1) := by decide +kernel
theorem dL_law_8 : decode cL_law 8 = .ok (.bipush 24, 2) := by decide +kernel
theorem dL_law_10 : decode cL_law 10 = .ok (.newarray .int, 2) := by decide +kernel
theorem dL_law_12 : decode cL_law 12 = .ok (.astore_n 2, 1) := by decide +kernel
theorem dL_law_13 : decode cL_law 13 = .ok (.bipush 20, 2) := by decide +kernel
theorem dL_law_15 : decode cL_law 15 = .ok (.newarray .int, 2) := by decide +kernel
theorem dL_law_17 : decode cL_law 17 = .ok (.astore_n 3, 1) := by decide +kernel
theorem dL_law_18 : decode cL_law 18 = .ok (.bipush 16, 2) := by decide +kernel
theorem dL_law_20 : decode cL_law 20 = .ok (.newarray .int, 2) := by decide +kernel
theorem dL_law_22 : decode cL_law 22 = .ok (.astore 4, 2) := by decide +kernel
theorem dL_law_24 : decode cL_law 24 = .ok (.bipush 16, 2) := by decide +kernel
theorem dL_law_26 : decode cL_law 26 = .ok (.newarray .int, 2) := by decide +kernel
theorem dL_law_28 : decode cL_law 28 = .ok (.astore 5, 2) := by decide +kernel
theorem dL_law_30 : decode cL_law 30 = .ok (.bipush 16, 2) := by decide +kernel
theorem dL_law_32 : decode cL_law 32 = .ok (.newarray .int, 2) := by decide +kernel
theorem dL_law_34 : decode cL_law 34 = .ok (.astore 6, 2) := by decide +kernel
theorem dL_law_36 : decode cL_law 36 = .ok (.bipush 6, 2) := by decide +kernel
theorem dL_law_38 : decode cL_law 38 = .ok (.newarray .int, 2) := by decide +kernel
theorem dL_law_40 : decode cL_law 40 = .ok (.astore 7, 2) := by decide +kernel
theorem dL_law_42 : decode cL_law 42 = .ok (.bipush 8, 2) := by decide +kernel
theorem dL_law_44 : decode cL_law 44 = .ok (.newarray .int, 2) := by decide +kernel
theorem dL_law_46 : decode cL_law 46 = .ok (.astore 8, 2) := by decide +kernel
theorem dL_law_48 : decode cL_law 48 = .ok (.aload 7, 2) := by decide +kernel
theorem dL_law_50 : decode cL_law 50 = .ok (.iconst 0, 1) := by decide +kernel
theorem dL_law_51 : decode cL_law 51 = .ok (.bipush 10, 2) := by decide +kernel
theorem dL_law_53 : decode cL_law 53 = .ok (.iastore, 1) := by decide +kernel
theorem dL_law_54 : decode cL_law 54 = .ok (.aload 7, 2) := by decide +kernel
theorem dL_law_56 : decode cL_law 56 = .ok (.iconst 1, 1) := by decide +kernel
theorem dL_law_57 : decode cL_law 57 = .ok (.iconst 5, 1) := by decide +kernel
theorem dL_law_58 : decode cL_law 58 = .ok (.iastore, 1) := by decide +kernel
theorem dL_law_59 : decode cL_law 59 = .ok (.aload 7, 2) := by decide +kernel
theorem dL_law_61 : decode cL_law 61 = .ok (.iconst 3, 1) := by decide +kernel
theorem dL_law_62 : decode cL_law 62 = .ok (.bipush 10, 2) := by decide +kernel
theorem dL_law_64 : decode cL_law 64 = .ok (.iastore, 1) := by decide +kernel
theorem dL_law_65 : decode cL_law 65 = .ok (.aload 7, 2) := by decide +kernel
theorem dL_law_67 : decode cL_law 67 = .ok (.iconst 4, 1) := by decide +kernel
theorem dL_law_68 : decode cL_law 68 = .ok (.bipush 25, 2) := by decide +kernel
theorem dL_law_70 : decode cL_law 70 = .ok (.iastore, 1) := by decide +kernel
theorem dL_law_71 : decode cL_law 71 = .ok (.aload 7, 2) := by decide +kernel
theorem dL_law_73 : decode cL_law 73 = .ok (.iconst 5, 1) := by decide +kernel
theorem dL_law_74 : decode cL_law 74 = .ok (.bipush 50, 2) := by decide +kernel
theorem dL_law_76 : decode cL_law 76 = .ok (.iastore, 1) := by decide +kernel
theorem dL_law_77 : decode cL_law 77 = .ok (.aload_n 1, 1) := by decide +kernel
theorem dL_law_78 : decode cL_law 78 = .ok (.aload_n 2, 1) := by decide +kernel
theorem dL_law_79 : decode cL_law 79 = .ok (.aload_n 3, 1) := by decide +kernel
theorem dL_law_80 : decode cL_law 80 = .ok (.aload 4, 2) := by decide +kernel
theorem dL_law_82 : decode cL_law 82 = .ok (.aload 5, 2) := by decide +kernel
theorem dL_law_84 : decode cL_law 84 = .ok (.aload 6, 2) := by decide +kernel
theorem dL_law_86 : decode cL_law 86 = .ok (.aload 7, 2) := by decide +kernel
theorem dL_law_88 : decode cL_law 88 = .ok (.aload 8, 2) := by decide +kernel
theorem dL_law_90 : decode cL_law 90 = .ok (.invokestatic 149, 3) := by decide +kernel
theorem dL_law_93 : decode cL_law 93 = .ok (.ifCond .ne 5, 3) := by decide +kernel
theorem dL_law_96 : decode cL_law 96 = .ok (.iconst 0, 1) := by decide +kernel
theorem dL_law_97 : decode cL_law 97 = .ok (.ireturn, 1) := by decide +kernel
theorem dL_law_98 : decode cL_law 98 = .ok (.iconst 0, 1) := by decide +kernel
theorem dL_law_99 : decode cL_law 99 = .ok (.istore 9, 2) := by decide +kernel
theorem dL_law_101 : decode cL_law 101 = .ok (.iload 9, 2) := by decide +kernel
theorem dL_law_103 : decode cL_law 103 = .ok (.bipush 32, 2) := by decide +kernel
theorem dL_law_105 : decode cL_law 105 = .ok (.if_icmp .ge 185, 3) := by decide +kernel
theorem dL_law_108 : decode cL_law 108 = .ok (.aload_n 0, 1) := by decide +kernel
theorem dL_law_109 : decode cL_law 109 = .ok (.iconst 2, 1) := by decide +kernel
theorem dL_law_110 : decode cL_law 110 = .ok (.iload 9, 2) := by decide +kernel
theorem dL_law_112 : decode cL_law 112 = .ok (.imul, 1) := by decide +kernel
theorem dL_law_113 : decode cL_law 113 = .ok (.invokestatic 153, 3) := by decide +kernel
theorem dL_law_116 : decode cL_law 116 = .ok (.ldc 156, 2) := by decide +kernel
theorem dL_law_118 : decode cL_law 118 = .ok (.iand, 1) := by decide +kernel
theorem dL_law_119 : decode cL_law 119 = .ok (.istore 10, 2) := by decide +kernel
theorem dL_law_121 : decode cL_law 121 = .ok (.aload_n 0, 1) := by decide +kernel
theorem dL_law_122 : decode cL_law 122 = .ok (.iconst 2, 1) := by decide +kernel
theorem dL_law_123 : decode cL_law 123 = .ok (.iload 9, 2) := by decide +kernel
theorem dL_law_125 : decode cL_law 125 = .ok (.imul, 1) := by decide +kernel
theorem dL_law_126 : decode cL_law 126 = .ok (.iconst 1, 1) := by decide +kernel
theorem dL_law_127 : decode cL_law 127 = .ok (.iadd, 1) := by decide +kernel
theorem dL_law_128 : decode cL_law 128 = .ok (.invokestatic 153, 3) := by decide +kernel
theorem dL_law_131 : decode cL_law 131 = .ok (.ldc 156, 2) := by decide +kernel
theorem dL_law_133 : decode cL_law 133 = .ok (.iand, 1) := by decide +kernel
theorem dL_law_134 : decode cL_law 134 = .ok (.istore 11, 2) := by decide +kernel
theorem dL_law_136 : decode cL_law 136 = .ok (.iload 9, 2) := by decide +kernel
theorem dL_law_138 : decode cL_law 138 = .ok (.iconst 3, 1) := by decide +kernel
theorem dL_law_139 : decode cL_law 139 = .ok (.if_icmp .ge 7, 3) := by decide +kernel
theorem dL_law_142 : decode cL_law 142 = .ok (.iconst 0, 1) := by decide +kernel
theorem dL_law_143 : decode cL_law 143 = .ok (.goto 60, 3) := by decide +kernel
theorem dL_law_146 : decode cL_law 146 = .ok (.iload 9, 2) := by decide +kernel
theorem dL_law_148 : decode cL_law 148 = .ok (.iconst 3, 1) := by decide +kernel
theorem dL_law_149 : decode cL_law 149 = .ok (.if_icmp .ne 8, 3) := by decide +kernel
theorem dL_law_152 : decode cL_law 152 = .ok (.bipush 8, 2) := by decide +kernel
theorem dL_law_154 : decode cL_law 154 = .ok (.goto 49, 3) := by decide +kernel
theorem dL_law_157 : decode cL_law 157 = .ok (.iload 9, 2) := by decide +kernel
theorem dL_law_159 : decode cL_law 159 = .ok (.bipush 6, 2) := by decide +kernel
theorem dL_law_161 : decode cL_law 161 = .ok (.if_icmp .ge 8, 3) := by decide +kernel
theorem dL_law_164 : decode cL_law 164 = .ok (.bipush 10, 2) := by decide +kernel
theorem dL_law_166 : decode cL_law 166 = .ok (.goto 37, 3) := by decide +kernel
theorem dL_law_169 : decode cL_law 169 = .ok (.iload 9, 2) := by decide +kernel
theorem dL_law_171 : decode cL_law 171 = .ok (.bipush 6, 2) := by decide +kernel
theorem dL_law_173 : decode cL_law 173 = .ok (.if_icmp .ne 8, 3) := by decide +kernel
theorem dL_law_176 : decode cL_law 176 = .ok (.bipush 15, 2) := by decide +kernel
theorem dL_law_178 : decode cL_law 178 = .ok (.goto 25, 3) := by decide +kernel
theorem dL_law_181 : decode cL_law 181 = .ok (.iload 9, 2) := by decide +kernel
theorem dL_law_183 : decode cL_law 183 = .ok (.bipush 7, 2) := by decide +kernel
theorem dL_law_185 : decode cL_law 185 = .ok (.if_icmp .ne 8, 3) := by decide +kernel
theorem dL_law_188 : decode cL_law 188 = .ok (.bipush 18, 2) := by decide +kernel
theorem dL_law_190 : decode cL_law 190 = .ok (.goto 13, 3) := by decide +kernel
theorem dL_law_193 : decode cL_law 193 = .ok (.iload 10, 2) := by decide +kernel
theorem dL_law_195 : decode cL_law 195 = .ok (.bipush 13, 2) := by decide +kernel
theorem dL_law_197 : decode cL_law 197 = .ok (.ishr, 1) := by decide +kernel
theorem dL_law_198 : decode cL_law 198 = .ok (.bipush 25, 2) := by decide +kernel
theorem dL_law_200 : decode cL_law 200 = .ok (.invokestatic 65, 3) := by decide +kernel
theorem dL_law_203 : decode cL_law 203 = .ok (.istore 12, 2) := by decide +kernel
theorem dL_law_205 : decode cL_law 205 = .ok (.aload_n 1, 1) := by decide +kernel
theorem dL_law_206 : decode cL_law 206 = .ok (.iload 12, 2) := by decide +kernel
theorem dL_law_208 : decode cL_law 208 = .ok (.iload 10, 2) := by decide +kernel
theorem dL_law_210 : decode cL_law 210 = .ok (.iload 11, 2) := by decide +kernel
theorem dL_law_212 : decode cL_law 212 = .ok (.aload_n 2, 1) := by decide +kernel
theorem dL_law_213 : decode cL_law 213 = .ok (.aload_n 3, 1) := by decide +kernel
theorem dL_law_214 : decode cL_law 214 = .ok (.aload 4, 2) := by decide +kernel
theorem dL_law_216 : decode cL_law 216 = .ok (.aload 5, 2) := by decide +kernel
theorem dL_law_218 : decode cL_law 218 = .ok (.aload 6, 2) := by decide +kernel
theorem dL_law_220 : decode cL_law 220 = .ok (.aload 7, 2) := by decide +kernel
theorem dL_law_222 : decode cL_law 222 = .ok (.aload 8, 2) := by decide +kernel
theorem dL_law_224 : decode cL_law 224 = .ok (.invokestatic 157, 3) := by decide +kernel
theorem dL_law_227 : decode cL_law 227 = .ok (.ifCond .eq 22, 3) := by decide +kernel
theorem dL_law_230 : decode cL_law 230 = .ok (.aload_n 1, 1) := by decide +kernel
theorem dL_law_231 : decode cL_law 231 = .ok (.aload_n 2, 1) := by decide +kernel
theorem dL_law_232 : decode cL_law 232 = .ok (.aload_n 3, 1) := by decide +kernel
theorem dL_law_233 : decode cL_law 233 = .ok (.aload 4, 2) := by decide +kernel
theorem dL_law_235 : decode cL_law 235 = .ok (.aload 5, 2) := by decide +kernel
theorem dL_law_237 : decode cL_law 237 = .ok (.aload 6, 2) := by decide +kernel
theorem dL_law_239 : decode cL_law 239 = .ok (.aload 7, 2) := by decide +kernel
theorem dL_law_241 : decode cL_law 241 = .ok (.aload 8, 2) := by decide +kernel
theorem dL_law_243 : decode cL_law 243 = .ok (.invokestatic 149, 3) := by decide +kernel
theorem dL_law_246 : decode cL_law 246 = .ok (.ifCond .ne 5, 3) := by decide +kernel
theorem dL_law_249 : decode cL_law 249 = .ok (.iconst 0, 1) := by decide +kernel
theorem dL_law_250 : decode cL_law 250 = .ok (.ireturn, 1) := by decide +kernel
theorem dL_law_251 : decode cL_law 251 = .ok (.iload 9, 2) := by decide +kernel
theorem dL_law_253 : decode cL_law 253 = .ok (.iconst 4, 1) := by decide +kernel
theorem dL_law_254 : decode cL_law 254 = .ok (.irem, 1) := by decide +kernel
theorem dL_law_255 : decode cL_law 255 = .ok (.iconst 3, 1) := by decide +kernel
theorem dL_law_256 : decode cL_law 256 = .ok (.if_icmp .ne 28, 3) := by decide +kernel
theorem dL_law_259 : decode cL_law 259 = .ok (.aload_n 1, 1) := by decide +kernel
theorem dL_law_260 : decode cL_law 260 = .ok (.iload 11, 2) := by decide +kernel
theorem dL_law_262 : decode cL_law 262 = .ok (.iconst 3, 1) := by decide +kernel
theorem dL_law_263 : decode cL_law 263 = .ok (.ishr, 1) := by decide +kernel
theorem dL_law_264 : decode cL_law 264 = .ok (.aload_n 2, 1) := by decide +kernel
theorem dL_law_265 : decode cL_law 265 = .ok (.aload_n 3, 1) := by decide +kernel
theorem dL_law_266 : decode cL_law 266 = .ok (.aload 4, 2) := by decide +kernel
theorem dL_law_268 : decode cL_law 268 = .ok (.aload 5, 2) := by decide +kernel
theorem dL_law_270 : decode cL_law 270 = .ok (.aload 6, 2) := by decide +kernel
theorem dL_law_272 : decode cL_law 272 = .ok (.aload 7, 2) := by decide +kernel
theorem dL_law_274 : decode cL_law 274 = .ok (.aload 8, 2) := by decide +kernel
theorem dL_law_276 : decode cL_law 276 = .ok (.invokestatic 161, 3) := by decide +kernel
theorem dL_law_279 : decode cL_law 279 = .ok (.ifCond .ne 5, 3) := by decide +kernel
theorem dL_law_282 : decode cL_law 282 = .ok (.iconst 0, 1) := by decide +kernel
theorem dL_law_283 : decode cL_law 283 = .ok (.ireturn, 1) := by decide +kernel
theorem dL_law_284 : decode cL_law 284 = .ok (.iinc 9 1, 3) := by decide +kernel
theorem dL_law_287 : decode cL_law 287 = .ok (.goto (-186), 3) := by decide +kernel
theorem dL_law_290 : decode cL_law 290 = .ok (.aload_n 1, 1) := by decide +kernel
theorem dL_law_291 : decode cL_law 291 = .ok (.bipush 13, 2) := by decide +kernel
theorem dL_law_293 : decode cL_law 293 = .ok (.invokevirtual 55, 3) := by decide +kernel
theorem dL_law_296 : decode cL_law 296 = .ok (.ifCond .le 7, 3) := by decide +kernel
theorem dL_law_299 : decode cL_law 299 = .ok (.iconst 1, 1) := by decide +kernel
theorem dL_law_300 : decode cL_law 300 = .ok (.goto 4, 3) := by decide +kernel
theorem dL_law_303 : decode cL_law 303 = .ok (.iconst 0, 1) := by decide +kernel
theorem dL_law_304 : decode cL_law 304 = .ok (.ireturn, 1) := by decide +kernel
end
section
theorem dX0_init_0 : decode cX0_init 0 = .ok (.aload_n 0, 1) := by decide +kernel
theorem dX0_init_1 : decode cX0_init 1 = .ok (.invokespecial 3, 3) := by decide +kernel
theorem dX0_init_4 : decode cX0_init 4 = .ok (.aload_n 0, 1) := by decide +kernel
theorem dX0_init_5 : decode cX0_init 5 = .ok (.bipush 12, 2) := by decide +kernel
theorem dX0_init_7 : decode cX0_init 7 = .ok (.newarray .int, 2) := by decide +kernel
theorem dX0_init_9 : decode cX0_init 9 = .ok (.putfield 9, 3) := by decide +kernel
theorem dX0_init_12 : decode cX0_init 12 = .ok (.aload_n 0, 1) := by decide +kernel
theorem dX0_init_13 : decode cX0_init 13 = .ok (.bipush 12, 2) := by decide +kernel
theorem dX0_init_15 : decode cX0_init 15 = .ok (.newarray .int, 2) := by decide +kernel
theorem dX0_init_17 : decode cX0_init 17 = .ok (.putfield 15, 3) := by decide +kernel
theorem dX0_init_20 : decode cX0_init 20 = .ok (.return_, 1) := by decide +kernel
theorem dX0_divideFee_0 : decode cX0_divideFee 0 = .ok (.aload_n 0, 1) := by decide +kernel
theorem dX0_divideFee_1 : decode cX0_divideFee 1 = .ok (.aload_n 1, 1) := by decide +kernel
theorem dX0_divideFee_2 : decode cX0_divideFee 2 = .ok (.iload_n 2, 1) := by decide +kernel
theorem dX0_divideFee_3 : decode cX0_divideFee 3 = .ok (.iload_n 3, 1) := by decide +kernel
theorem dX0_divideFee_4 : decode cX0_divideFee 4 = .ok (.invokevirtual 18, 3) := by decide +kernel
theorem dX0_divideFee_7 : decode cX0_divideFee 7 = .ok (.aload_n 0, 1) := by decide +kernel
theorem dX0_divideFee_8 : decode cX0_divideFee 8 = .ok (.aload_n 1, 1) := by decide +kernel
theorem dX0_divideFee_9 : decode cX0_divideFee 9 = .ok (.getfield 22, 3) := by decide +kernel
theorem dX0_divideFee_12 : decode cX0_divideFee 12 = .ok (.iload_n 2, 1) := by decide +kernel
theorem dX0_divideFee_13 : decode cX0_divideFee 13 = .ok (.iload_n 3, 1) := by decide +kernel
theorem dX0_divideFee_14 : decode cX0_divideFee 14 = .ok (.aload_n 0, 1) := by decide +kernel
theorem dX0_divideFee_15 : decode cX0_divideFee 15 = .ok (.getfield 28, 3) := by decide +kernel
theorem dX0_divideFee_18 : decode cX0_divideFee 18 = .ok (.isub, 1) := by decide +kernel
theorem dX0_divideFee_19 : decode cX0_divideFee 19 = .ok (.invokevirtual 32, 3) := by decide +kernel
theorem dX0_divideFee_22 : decode cX0_divideFee 22 = .ok (.return_, 1) := by decide +kernel
theorem dX0_divideRoyalty_0 : decode cX0_divideRoyalty 0 = .ok (.aload_n 0, 1) := by decide +kernel
theorem dX0_divideRoyalty_1 : decode cX0_divideRoyalty 1 = .ok (.aload_n 1, 1) := by decide +kernel
theorem dX0_divideRoyalty_2 : decode cX0_divideRoyalty 2 = .ok (.iload_n 2, 1) := by decide +kernel
theorem dX0_divideRoyalty_3 : decode cX0_divideRoyalty 3 = .ok (.iload_n 3, 1) := by decide +kernel
theorem dX0_divideRoyalty_4 : decode cX0_divideRoyalty 4 = .ok (.invokevirtual 18, 3) := by decide +kernel
theorem dX0_divideRoyalty_7 : decode cX0_divideRoyalty 7 = .ok (.aload_n 0, 1) := by decide +kernel
theorem dX0_divideRoyalty_8 : decode cX0_divideRoyalty 8 = .ok (.iload_n 3, 1) := by decide +kernel
theorem dX0_divideRoyalty_9 : decode cX0_divideRoyalty 9 = .ok (.aload_n 1, 1) := by decide +kernel
theorem dX0_divideRoyalty_10 : decode cX0_divideRoyalty 10 = .ok (.getfield 36, 3) := by decide +kernel
theorem dX0_divideRoyalty_13 : decode cX0_divideRoyalty 13 = .ok (.iconst 1, 1) := by decide +kernel
theorem dX0_divideRoyalty_14 : decode cX0_divideRoyalty 14 = .ok (.iaload, 1) := by decide +kernel
theorem dX0_divideRoyalty_15 : decode cX0_divideRoyalty 15 = .ok (.imul, 1) := by decide +kernel
theorem dX0_divideRoyalty_16 : decode cX0_divideRoyalty 16 = .ok (.bipush 100, 2) := by decide +kernel
theorem dX0_divideRoyalty_18 : decode cX0_divideRoyalty 18 = .ok (.idiv, 1) := by decide +kernel
theorem dX0_divideRoyalty_19 : decode cX0_divideRoyalty 19 = .ok (.putfield 39, 3) := by decide +kernel
theorem dX0_divideRoyalty_22 : decode cX0_divideRoyalty 22 = .ok (.aload_n 0, 1) := by decide +kernel
theorem dX0_divideRoyalty_23 : decode cX0_divideRoyalty 23 = .ok (.aload_n 1, 1) := by decide +kernel
theorem dX0_divideRoyalty_24 : decode cX0_divideRoyalty 24 = .ok (.getfield 22, 3) := by decide +kernel
theorem dX0_divideRoyalty_27 : decode cX0_divideRoyalty 27 = .ok (.iload_n 2, 1) := by decide +kernel
theorem dX0_divideRoyalty_28 : decode cX0_divideRoyalty 28 = .ok (.iload_n 3, 1) := by decide +kernel
theorem dX0_divideRoyalty_29 : decode cX0_divideRoyalty 29 = .ok (.aload_n 0, 1) := by decide +kernel
theorem dX0_divideRoyalty_30 : decode cX0_divideRoyalty 30 = .ok (.getfield 28, 3) := by decide +kernel
theorem dX0_divideRoyalty_33 : decode cX0_divideRoyalty 33 = .ok (.isub, 1) := by decide +kernel
theorem dX0_divideRoyalty_34 : decode cX0_divideRoyalty 34 = .ok (.aload_n 0, 1) := by decide +kernel
theorem dX0_divideRoyalty_35 : decode cX0_divideRoyalty 35 = .ok (.getfield 39, 3) := by decide +kernel
theorem dX0_divideRoyalty_38 : decode cX0_divideRoyalty 38 = .ok (.isub, 1) := by decide +kernel
theorem dX0_divideRoyalty_39 : decode cX0_divideRoyalty 39 = .ok (.invokevirtual 32, 3) := by decide +kernel
theorem dX0_divideRoyalty_42 : decode cX0_divideRoyalty 42 = .ok (.aload_n 1, 1) := by decide +kernel
theorem dX0_divideRoyalty_43 : decode cX0_divideRoyalty 43 = .ok (.getfield 36, 3) := by decide +kernel
theorem dX0_divideRoyalty_46 : decode cX0_divideRoyalty 46 = .ok (.iconst 2, 1) := by decide +kernel
theorem dX0_divideRoyalty_47 : decode cX0_divideRoyalty 47 = .ok (.iaload, 1) := by decide +kernel
theorem dX0_divideRoyalty_48 : decode cX0_divideRoyalty 48 = .ok (.ifCond .le 18, 3) := by decide +kernel
theorem dX0_divideRoyalty_51 : decode cX0_divideRoyalty 51 = .ok (.aload_n 0, 1) := by decide +kernel
theorem dX0_divideRoyalty_52 : decode cX0_divideRoyalty 52 = .ok (.aload_n 1, 1) := by decide +kernel
theorem dX0_divideRoyalty_53 : decode cX0_divideRoyalty 53 = .ok (.getfield 22, 3) := by decide +kernel
theorem dX0_divideRoyalty_56 : decode cX0_divideRoyalty 56 = .ok (.iload_n 2, 1) := by decide +kernel
theorem dX0_divideRoyalty_57 : decode cX0_divideRoyalty 57 = .ok (.aload_n 1, 1) := by decide +kernel
theorem dX0_divideRoyalty_58 : decode cX0_divideRoyalty 58 = .ok (.getfield 36, 3) := by decide +kernel
theorem dX0_divideRoyalty_61 : decode cX0_divideRoyalty 61 = .ok (.iconst 2, 1) := by decide +kernel
theorem dX0_divideRoyalty_62 : decode cX0_divideRoyalty 62 = .ok (.iaload, 1) := by decide +kernel
theorem dX0_divideRoyalty_63 : decode cX0_divideRoyalty 63 = .ok (.invokevirtual 42, 3) := by decide +kernel
theorem dX0_divideRoyalty_66 : decode cX0_divideRoyalty 66 = .ok (.return_, 1) := by decide +kernel
theorem dX0_begin_0 : decode cX0_begin 0 = .ok (.aload_n 0, 1) := by decide +kernel
theorem dX0_begin_1 : decode cX0_begin 1 = .ok (.iload_n 3, 1) := by decide +kernel
theorem dX0_begin_2 : decode cX0_begin 2 = .ok (.aload_n 1, 1) := by decide +kernel
theorem dX0_begin_3 : decode cX0_begin 3 = .ok (.getfield 36, 3) := by decide +kernel
theorem dX0_begin_6 : decode cX0_begin 6 = .ok (.iconst 0, 1) := by decide +kernel
theorem dX0_begin_7 : decode cX0_begin 7 = .ok (.iaload, 1) := by decide +kernel
theorem dX0_begin_8 : decode cX0_begin 8 = .ok (.imul, 1) := by decide +kernel
theorem dX0_begin_9 : decode cX0_begin 9 = .ok (.bipush 100, 2) := by decide +kernel
theorem dX0_begin_11 : decode cX0_begin 11 = .ok (.idiv, 1) := by decide +kernel
theorem dX0_begin_12 : decode cX0_begin 12 = .ok (.putfield 28, 3) := by decide +kernel
theorem dX0_begin_15 : decode cX0_begin 15 = .ok (.aload_n 0, 1) := by decide +kernel
theorem dX0_begin_16 : decode cX0_begin 16 = .ok (.iconst 0, 1) := by decide +kernel
theorem dX0_begin_17 : decode cX0_begin 17 = .ok (.putfield 45, 3) := by decide +kernel
theorem dX0_begin_20 : decode cX0_begin 20 = .ok (.aload_n 0, 1) := by decide +kernel
theorem dX0_begin_21 : decode cX0_begin 21 = .ok (.aload_n 1, 1) := by decide +kernel
theorem dX0_begin_22 : decode cX0_begin 22 = .ok (.getfield 48, 3) := by decide +kernel
theorem dX0_begin_25 : decode cX0_begin 25 = .ok (.getfield 52, 3) := by decide +kernel
theorem dX0_begin_28 : decode cX0_begin 28 = .ok (.aload_n 1, 1) := by decide +kernel
theorem dX0_begin_29 : decode cX0_begin 29 = .ok (.getfield 22, 3) := by decide +kernel
theorem dX0_begin_32 : decode cX0_begin 32 = .ok (.getfield 57, 3) := by decide +kernel
theorem dX0_begin_35 : decode cX0_begin 35 = .ok (.iload_n 2, 1) := by decide +kernel
theorem dX0_begin_36 : decode cX0_begin 36 = .ok (.iaload, 1) := by decide +kernel
theorem dX0_begin_37 : decode cX0_begin 37 = .ok (.iaload, 1) := by decide +kernel
theorem dX0_begin_38 : decode cX0_begin 38 = .ok (.putfield 62, 3) := by decide +kernel
theorem dX0_begin_41 : decode cX0_begin 41 = .ok (.aload_n 0, 1) := by decide +kernel
theorem dX0_begin_42 : decode cX0_begin 42 = .ok (.iconst 0, 1) := by decide +kernel
theorem dX0_begin_43 : decode cX0_begin 43 = .ok (.putfield 39, 3) := by decide +kernel
theorem dX0_begin_46 : decode cX0_begin 46 = .ok (.return_, 1) := by decide +kernel
theorem dX0_split_0 : decode cX0_split 0 = .ok (.iconst 1, 1) := by decide +kernel
theorem dX0_split_1 : decode cX0_split 1 = .ok (.aload_n 1, 1) := by decide +kernel
theorem dX0_split_2 : decode cX0_split 2 = .ok (.iload_n 2, 1) := by decide +kernel
theorem dX0_split_3 : decode cX0_split 3 = .ok (.invokevirtual 65, 3) := by decide +kernel
theorem dX0_split_6 : decode cX0_split 6 = .ok (.invokestatic 69, 3) := by decide +kernel
theorem dX0_split_9 : decode cX0_split 9 = .ok (.istore 4, 2) := by decide +kernel
theorem dX0_split_11 : decode cX0_split 11 = .ok (.iload_n 3, 1) := by decide +kernel
theorem dX0_split_12 : decode cX0_split 12 = .ok (.istore 5, 2) := by decide +kernel
theorem dX0_split_14 : decode cX0_split 14 = .ok (.iconst 0, 1) := by decide +kernel
theorem dX0_split_15 : decode cX0_split 15 = .ok (.istore 6, 2) := by decide +kernel
theorem dX0_split_17 : decode cX0_split 17 = .ok (.iload 6, 2) := by decide +kernel
theorem dX0_split_19 : decode cX0_split 19 = .ok (.bipush 12, 2) := by decide +kernel
theorem dX0_split_21 : decode cX0_split 21 = .ok (.if_icmp .ge 60, 3) := by decide +kernel
theorem dX0_split_24 : decode cX0_split 24 = .ok (.iload_n 3, 1) := by decide +kernel
theorem dX0_split_25 : decode cX0_split 25 = .ok (.aload_n 1, 1) := by decide +kernel
theorem dX0_split_26 : decode cX0_split 26 = .ok (.getfield 75, 3) := by decide +kernel
theorem dX0_split_29 : decode cX0_split 29 = .ok (.iload_n 2, 1) := by decide +kernel
theorem dX0_split_30 : decode cX0_split 30 = .ok (.iload 6, 2) := by decide +kernel
theorem dX0_split_32 : decode cX0_split 32 = .ok (.invokestatic 78, 3) := by decide +kernel
theorem dX0_split_35 : decode cX0_split 35 = .ok (.iaload, 1) := by decide +kernel
theorem dX0_split_36 : decode cX0_split 36 = .ok (.imul, 1) := by decide +kernel
theorem dX0_split_37 : decode cX0_split 37 = .ok (.istore 7, 2) := by decide +kernel
theorem dX0_split_39 : decode cX0_split 39 = .ok (.aload_n 0, 1) := by decide +kernel
theorem dX0_split_40 : decode cX0_split 40 = .ok (.getfield 9, 3) := by decide +kernel
theorem dX0_split_43 : decode cX0_split 43 = .ok (.iload 6, 2) := by decide +kernel
theorem dX0_split_45 : decode cX0_split 45 = .ok (.iload 7, 2) := by decide +kernel
theorem dX0_split_47 : decode cX0_split 47 = .ok (.iload 4, 2) := by decide +kernel
theorem dX0_split_49 : decode cX0_split 49 = .ok (.idiv, 1) := by decide +kernel
theorem dX0_split_50 : decode cX0_split 50 = .ok (.iastore, 1) := by decide +kernel
theorem dX0_split_51 : decode cX0_split 51 = .ok (.aload_n 0, 1) := by decide +kernel
theorem dX0_split_52 : decode cX0_split 52 = .ok (.getfield 15, 3) := by decide +kernel
theorem dX0_split_55 : decode cX0_split 55 = .ok (.iload 6, 2) := by decide +kernel
theorem dX0_split_57 : decode cX0_split 57 = .ok (.iload 7, 2) := by decide +kernel
theorem dX0_split_59 : decode cX0_split 59 = .ok (.iload 4, 2) := by decide +kernel
theorem dX0_split_61 : decode cX0_split 61 = .ok (.irem, 1) := by decide +kernel
theorem dX0_split_62 : decode cX0_split 62 = .ok (.iastore, 1) := by decide +kernel
theorem dX0_split_63 : decode cX0_split 63 = .ok (.iload 5, 2) := by decide +kernel
theorem dX0_split_65 : decode cX0_split 65 = .ok (.aload_n 0, 1) := by decide +kernel
theorem dX0_split_66 : decode cX0_split 66 = .ok (.getfield 9, 3) := by decide +kernel
theorem dX0_split_69 : decode cX0_split 69 = .ok (.iload 6, 2) := by decide +kernel
theorem dX0_split_71 : decode cX0_split 71 = .ok (.iaload, 1) := by decide +kernel
theorem dX0_split_72 : decode cX0_split 72 = .ok (.isub, 1) := by decide +kernel
theorem dX0_split_73 : decode cX0_split 73 = .ok (.istore 5, 2) := by decide +kernel
theorem dX0_split_75 : decode cX0_split 75 = .ok (.iinc 6 1, 3) := by decide +kernel
theorem dX0_split_78 : decode cX0_split 78 = .ok (.goto (-61), 3) := by decide +kernel
theorem dX0_split_81 : decode cX0_split 81 = .ok (.iconst 0, 1) := by decide +kernel
theorem dX0_split_82 : decode cX0_split 82 = .ok (.istore 6, 2) := by decide +kernel
theorem dX0_split_84 : decode cX0_split 84 = .ok (.iload 6, 2) := by decide +kernel
theorem dX0_split_86 : decode cX0_split 86 = .ok (.iload 5, 2) := by decide +kernel
theorem dX0_split_88 : decode cX0_split 88 = .ok (.if_icmp .ge 19, 3) := by decide +kernel
theorem dX0_split_91 : decode cX0_split 91 = .ok (.iload 6, 2) := by decide +kernel
theorem dX0_split_93 : decode cX0_split 93 = .ok (.iconst 4, 1) := by decide +kernel
theorem dX0_split_94 : decode cX0_split 94 = .ok (.if_icmp .ge 13, 3) := by decide +kernel
theorem dX0_split_97 : decode cX0_split 97 = .ok (.aload_n 0, 1) := by decide +kernel
theorem dX0_split_98 : decode cX0_split 98 = .ok (.invokevirtual 81, 3) := by decide +kernel
theorem dX0_split_101 : decode cX0_split 101 = .ok (.iinc 6 1, 3) := by decide +kernel
theorem dX0_split_104 : decode cX0_split 104 = .ok (.goto (-20), 3) := by decide +kernel
theorem dX0_split_107 : decode cX0_split 107 = .ok (.return_, 1) := by decide +kernel
theorem dX0_giveUnit_0 : decode cX0_giveUnit 0 = .ok (.iconst 0, 1) := by decide +kernel
theorem dX0_giveUnit_1 : decode cX0_giveUnit 1 = .ok (.istore_n 1, 1) := by decide +kernel
theorem dX0_giveUnit_2 : decode cX0_giveUnit 2 = .ok (.iconst 1, 1) := by decide +kernel
theorem dX0_giveUnit_3 : decode cX0_giveUnit 3 = .ok (.istore_n 2, 1) := by decide +kernel
theorem dX0_giveUnit_4 : decode cX0_giveUnit 4 = .ok (.iload_n 2, 1) := by decide +kernel
theorem dX0_giveUnit_5 : decode cX0_giveUnit 5 = .ok (.bipush 12, 2) := by decide +kernel
theorem dX0_giveUnit_7 : decode cX0_giveUnit 7 = .ok (.if_icmp .ge 30, 3) := by decide +kernel
theorem dX0_giveUnit_10 : decode cX0_giveUnit 10 = .ok (.aload_n 0, 1) := by decide +kernel
theorem dX0_giveUnit_11 : decode cX0_giveUnit 11 = .ok (.getfield 15, 3) := by decide +kernel
theorem dX0_giveUnit_14 : decode cX0_giveUnit 14 = .ok (.iload_n 2, 1) := by decide +kernel
theorem dX0_giveUnit_15 : decode cX0_giveUnit 15 = .ok (.iaload, 1) := by decide +kernel
theorem dX0_giveUnit_16 : decode cX0_giveUnit 16 = .ok (.aload_n 0, 1) := by decide +kernel
theorem dX0_giveUnit_17 : decode cX0_giveUnit 17 = .ok (.getfield 15, 3) := by decide +kernel
theorem dX0_giveUnit_20 : decode cX0_giveUnit 20 = .ok (.iload_n 1, 1) := by decide +kernel
theorem dX0_giveUnit_21 : decode cX0_giveUnit 21 = .ok (.iaload, 1) := by decide +kernel
theorem dX0_giveUnit_22 : decode cX0_giveUnit 22 = .ok (.if_icmp .le 7, 3) := by decide +kernel
theorem dX0_giveUnit_25 : decode cX0_giveUnit 25 = .ok (.iload_n 2, 1) := by decide +kernel
theorem dX0_giveUnit_26 : decode cX0_giveUnit 26 = .ok (.goto 4, 3) := by decide +kernel
theorem dX0_giveUnit_29 : decode cX0_giveUnit 29 = .ok (.iload_n 1, 1) := by decide +kernel
theorem dX0_giveUnit_30 : decode cX0_giveUnit 30 = .ok (.istore_n 1, 1) := by decide +kernel
theorem dX0_giveUnit_31 : decode cX0_giveUnit 31 = .ok (.iinc 2 1, 3) := by decide +kernel
theorem dX0_giveUnit_34 : decode cX0_giveUnit 34 = .ok (.goto (-30), 3) := by decide +kernel
theorem dX0_giveUnit_37 : decode cX0_giveUnit 37 = .ok (.aload_n 0, 1) := by decide +kernel
theorem dX0_giveUnit_38 : decode cX0_giveUnit 38 = .ok (.getfield 9, 3) := by decide +kernel
theorem dX0_giveUnit_41 : decode cX0_giveUnit 41 = .ok (.iload_n 1, 1) := by decide +kernel
theorem dX0_giveUnit_42 : decode cX0_giveUnit 42 = .ok (.dup2, 1) := by decide +kernel
theorem dX0_giveUnit_43 : decode cX0_giveUnit 43 = .ok (.iaload, 1) := by decide +kernel
theorem dX0_giveUnit_44 : decode cX0_giveUnit 44 = .ok (.iconst 1, 1) := by decide +kernel
theorem dX0_giveUnit_45 : decode cX0_giveUnit 45 = .ok (.iadd, 1) := by decide +kernel
theorem dX0_giveUnit_46 : decode cX0_giveUnit 46 = .ok (.iastore, 1) := by decide +kernel
theorem dX0_giveUnit_47 : decode cX0_giveUnit 47 = .ok (.aload_n 0, 1) := by decide +kernel
theorem dX0_giveUnit_48 : decode cX0_giveUnit 48 = .ok (.getfield 15, 3) := by decide +kernel
theorem dX0_giveUnit_51 : decode cX0_giveUnit 51 = .ok (.iload_n 1, 1) := by decide +kernel
theorem dX0_giveUnit_52 : decode cX0_giveUnit 52 = .ok (.iconst 0, 1) := by decide +kernel
theorem dX0_giveUnit_53 : decode cX0_giveUnit 53 = .ok (.iastore, 1) := by decide +kernel
theorem dX0_giveUnit_54 : decode cX0_giveUnit 54 = .ok (.return_, 1) := by decide +kernel
theorem dX0_cutToCap_0 : decode cX0_cutToCap 0 = .ok (.iconst 0, 1) := by decide +kernel
theorem dX0_cutToCap_1 : decode cX0_cutToCap 1 = .ok (.istore 4, 2) := by decide +kernel
theorem dX0_cutToCap_3 : decode cX0_cutToCap 3 = .ok (.iload 4, 2) := by decide +kernel
theorem dX0_cutToCap_5 : decode cX0_cutToCap 5 = .ok (.bipush 12, 2) := by decide +kernel
theorem dX0_cutToCap_7 : decode cX0_cutToCap 7 = .ok (.if_icmp .ge 67, 3) := by decide +kernel
theorem dX0_cutToCap_10 : decode cX0_cutToCap 10 = .ok (.iconst 0, 1) := by decide +kernel
theorem dX0_cutToCap_11 : decode cX0_cutToCap 11 = .ok (.iload_n 3, 1) := by decide +kernel
theorem dX0_cutToCap_12 : decode cX0_cutToCap 12 = .ok (.aload_n 1, 1) := by decide +kernel
theorem dX0_cutToCap_13 : decode cX0_cutToCap 13 = .ok (.getfield 84, 3) := by decide +kernel
theorem dX0_cutToCap_16 : decode cX0_cutToCap 16 = .ok (.iload_n 2, 1) := by decide +kernel
theorem dX0_cutToCap_17 : decode cX0_cutToCap 17 = .ok (.iload 4, 2) := by decide +kernel
theorem dX0_cutToCap_19 : decode cX0_cutToCap 19 = .ok (.invokestatic 78, 3) := by decide +kernel
theorem dX0_cutToCap_22 : decode cX0_cutToCap 22 = .ok (.iaload, 1) := by decide +kernel
theorem dX0_cutToCap_23 : decode cX0_cutToCap 23 = .ok (.isub, 1) := by decide +kernel
theorem dX0_cutToCap_24 : decode cX0_cutToCap 24 = .ok (.invokestatic 69, 3) := by decide +kernel
theorem dX0_cutToCap_27 : decode cX0_cutToCap 27 = .ok (.istore 5, 2) := by decide +kernel
theorem dX0_cutToCap_29 : decode cX0_cutToCap 29 = .ok (.iconst 0, 1) := by decide +kernel
theorem dX0_cutToCap_30 : decode cX0_cutToCap 30 = .ok (.aload_n 0, 1) := by decide +kernel
theorem dX0_cutToCap_31 : decode cX0_cutToCap 31 = .ok (.getfield 9, 3) := by decide +kernel
theorem dX0_cutToCap_34 : decode cX0_cutToCap 34 = .ok (.iload 4, 2) := by decide +kernel
theorem dX0_cutToCap_36 : decode cX0_cutToCap 36 = .ok (.iaload, 1) := by decide +kernel
theorem dX0_cutToCap_37 : decode cX0_cutToCap 37 = .ok (.iload 5, 2) := by decide +kernel
theorem dX0_cutToCap_39 : decode cX0_cutToCap 39 = .ok (.isub, 1) := by decide +kernel
theorem dX0_cutToCap_40 : decode cX0_cutToCap 40 = .ok (.invokestatic 69, 3) := by decide +kernel
theorem dX0_cutToCap_43 : decode cX0_cutToCap 43 = .ok (.istore 6, 2) := by decide +kernel
theorem dX0_cutToCap_45 : decode cX0_cutToCap 45 = .ok (.aload_n 0, 1) := by decide +kernel
theorem dX0_cutToCap_46 : decode cX0_cutToCap 46 = .ok (.getfield 9, 3) := by decide +kernel
theorem dX0_cutToCap_49 : decode cX0_cutToCap 49 = .ok (.iload 4, 2) := by decide +kernel
theorem dX0_cutToCap_51 : decode cX0_cutToCap 51 = .ok (.dup2, 1) := by decide +kernel
theorem dX0_cutToCap_52 : decode cX0_cutToCap 52 = .ok (.iaload, 1) := by decide +kernel
theorem dX0_cutToCap_53 : decode cX0_cutToCap 53 = .ok (.iload 6, 2) := by decide +kernel
theorem dX0_cutToCap_55 : decode cX0_cutToCap 55 = .ok (.isub, 1) := by decide +kernel
theorem dX0_cutToCap_56 : decode cX0_cutToCap 56 = .ok (.iastore, 1) := by decide +kernel
theorem dX0_cutToCap_57 : decode cX0_cutToCap 57 = .ok (.aload_n 0, 1) := by decide +kernel
theorem dX0_cutToCap_58 : decode cX0_cutToCap 58 = .ok (.dup, 1) := by decide +kernel
theorem dX0_cutToCap_59 : decode cX0_cutToCap 59 = .ok (.getfield 45, 3) := by decide +kernel
theorem dX0_cutToCap_62 : decode cX0_cutToCap 62 = .ok (.iload 6, 2) := by decide +kernel
theorem dX0_cutToCap_64 : decode cX0_cutToCap 64 = .ok (.iadd, 1) := by decide +kernel
theorem dX0_cutToCap_65 : decode cX0_cutToCap 65 = .ok (.putfield 45, 3) := by decide +kernel
theorem dX0_cutToCap_68 : decode cX0_cutToCap 68 = .ok (.iinc 4 1, 3) := by decide +kernel
theorem dX0_cutToCap_71 : decode cX0_cutToCap 71 = .ok (.goto (-68), 3) := by decide +kernel
theorem dX0_cutToCap_74 : decode cX0_cutToCap 74 = .ok (.return_, 1) := by decide +kernel
end
section
theorem dX1_init_0 : decode cX1_init 0 = .ok (.aload_n 0, 1) := by decide +kernel
theorem dX1_init_1 : decode cX1_init 1 = .ok (.invokespecial 3, 3) := by decide +kernel
theorem dX1_init_4 : decode cX1_init 4 = .ok (.aload_n 0, 1) := by decide +kernel
theorem dX1_init_5 : decode cX1_init 5 = .ok (.bipush 12, 2) := by decide +kernel
theorem dX1_init_7 : decode cX1_init 7 = .ok (.newarray .int, 2) := by decide +kernel
theorem dX1_init_9 : decode cX1_init 9 = .ok (.putfield 9, 3) := by decide +kernel
theorem dX1_init_12 : decode cX1_init 12 = .ok (.aload_n 0, 1) := by decide +kernel
theorem dX1_init_13 : decode cX1_init 13 = .ok (.iconst 4, 1) := by decide +kernel
theorem dX1_init_14 : decode cX1_init 14 = .ok (.newarray .int, 2) := by decide +kernel
theorem dX1_init_16 : decode cX1_init 16 = .ok (.putfield 15, 3) := by decide +kernel
theorem dX1_init_19 : decode cX1_init 19 = .ok (.aload_n 0, 1) := by decide +kernel
theorem dX1_init_20 : decode cX1_init 20 = .ok (.iconst 4, 1) := by decide +kernel
theorem dX1_init_21 : decode cX1_init 21 = .ok (.newarray .int, 2) := by decide +kernel
theorem dX1_init_23 : decode cX1_init 23 = .ok (.putfield 18, 3) := by decide +kernel
theorem dX1_init_26 : decode cX1_init 26 = .ok (.aload_n 0, 1) := by decide +kernel
theorem dX1_init_27 : decode cX1_init 27 = .ok (.iconst 4, 1) := by decide +kernel
theorem dX1_init_28 : decode cX1_init 28 = .ok (.newarray .int, 2) := by decide +kernel
theorem dX1_init_30 : decode cX1_init 30 = .ok (.putfield 21, 3) := by decide +kernel
theorem dX1_init_33 : decode cX1_init 33 = .ok (.return_, 1) := by decide +kernel
theorem dX1_find_0 : decode cX1_find 0 = .ok (.aload_n 0, 1) := by decide +kernel
theorem dX1_find_1 : decode cX1_find 1 = .ok (.aload_n 1, 1) := by decide +kernel
theorem dX1_find_2 : decode cX1_find 2 = .ok (.iload_n 2, 1) := by decide +kernel
theorem dX1_find_3 : decode cX1_find 3 = .ok (.invokevirtual 24, 3) := by decide +kernel
theorem dX1_find_6 : decode cX1_find 6 = .ok (.aload_n 0, 1) := by decide +kernel
theorem dX1_find_7 : decode cX1_find 7 = .ok (.getfield 28, 3) := by decide +kernel
theorem dX1_find_10 : decode cX1_find 10 = .ok (.ifCond .ne 7, 3) := by decide +kernel
theorem dX1_find_13 : decode cX1_find 13 = .ok (.iconst 0, 1) := by decide +kernel
theorem dX1_find_14 : decode cX1_find 14 = .ok (.goto 11, 3) := by decide +kernel
theorem dX1_find_17 : decode cX1_find 17 = .ok (.iconst 1, 1) := by decide +kernel
theorem dX1_find_18 : decode cX1_find 18 = .ok (.iconst 2, 1) := by decide +kernel
theorem dX1_find_19 : decode cX1_find 19 = .ok (.aload_n 0, 1) := by decide +kernel
theorem dX1_find_20 : decode cX1_find 20 = .ok (.getfield 28, 3) := by decide +kernel
theorem dX1_find_23 : decode cX1_find 23 = .ok (.imul, 1) := by decide +kernel
theorem dX1_find_24 : decode cX1_find 24 = .ok (.ishl, 1) := by decide +kernel
theorem dX1_find_25 : decode cX1_find 25 = .ok (.istore_n 3, 1) := by decide +kernel
theorem dX1_find_26 : decode cX1_find 26 = .ok (.iconst 1, 1) := by decide +kernel
theorem dX1_find_27 : decode cX1_find 27 = .ok (.istore 4, 2) := by decide +kernel
theorem dX1_find_29 : decode cX1_find 29 = .ok (.iconst 0, 1) := by decide +kernel
theorem dX1_find_30 : decode cX1_find 30 = .ok (.istore 5, 2) := by decide +kernel
theorem dX1_find_32 : decode cX1_find 32 = .ok (.iconst 0, 1) := by decide +kernel
theorem dX1_find_33 : decode cX1_find 33 = .ok (.istore 6, 2) := by decide +kernel
theorem dX1_find_35 : decode cX1_find 35 = .ok (.iload 6, 2) := by decide +kernel
theorem dX1_find_37 : decode cX1_find 37 = .ok (.iload_n 3, 1) := by decide +kernel
theorem dX1_find_38 : decode cX1_find 38 = .ok (.if_icmp .ge 72, 3) := by decide +kernel
theorem dX1_find_41 : decode cX1_find 41 = .ok (.iload 4, 2) := by decide +kernel
theorem dX1_find_43 : decode cX1_find 43 = .ok (.ifCond .le 67, 3) := by decide +kernel
theorem dX1_find_46 : decode cX1_find 46 = .ok (.aload_n 0, 1) := by decide +kernel
theorem dX1_find_47 : decode cX1_find 47 = .ok (.iload 6, 2) := by decide +kernel
theorem dX1_find_49 : decode cX1_find 49 = .ok (.invokevirtual 32, 3) := by decide +kernel
theorem dX1_find_52 : decode cX1_find 52 = .ok (.istore 7, 2) := by decide +kernel
theorem dX1_find_54 : decode cX1_find 54 = .ok (.aload_n 0, 1) := by decide +kernel
theorem dX1_find_55 : decode cX1_find 55 = .ok (.iload 7, 2) := by decide +kernel
theorem dX1_find_57 : decode cX1_find 57 = .ok (.invokevirtual 36, 3) := by decide +kernel
theorem dX1_find_60 : decode cX1_find 60 = .ok (.istore 8, 2) := by decide +kernel
theorem dX1_find_62 : decode cX1_find 62 = .ok (.iload 8, 2) := by decide +kernel
theorem dX1_find_64 : decode cX1_find 64 = .ok (.iload 5, 2) := by decide +kernel
theorem dX1_find_66 : decode cX1_find 66 = .ok (.imul, 1) := by decide +kernel
theorem dX1_find_67 : decode cX1_find 67 = .ok (.iload 4, 2) := by decide +kernel
theorem dX1_find_69 : decode cX1_find 69 = .ok (.iload 7, 2) := by decide +kernel
theorem dX1_find_71 : decode cX1_find 71 = .ok (.imul, 1) := by decide +kernel
theorem dX1_find_72 : decode cX1_find 72 = .ok (.isub, 1) := by decide +kernel
theorem dX1_find_73 : decode cX1_find 73 = .ok (.istore 9, 2) := by decide +kernel
theorem dX1_find_75 : decode cX1_find 75 = .ok (.iload 9, 2) := by decide +kernel
theorem dX1_find_77 : decode cX1_find 77 = .ok (.ifCond .lt 15, 3) := by decide +kernel
theorem dX1_find_80 : decode cX1_find 80 = .ok (.iload 9, 2) := by decide +kernel
theorem dX1_find_82 : decode cX1_find 82 = .ok (.ifCond .ne 22, 3) := by decide +kernel
theorem dX1_find_85 : decode cX1_find 85 = .ok (.iload 7, 2) := by decide +kernel
theorem dX1_find_87 : decode cX1_find 87 = .ok (.iload 5, 2) := by decide +kernel
theorem dX1_find_89 : decode cX1_find 89 = .ok (.if_icmp .ge 15, 3) := by decide +kernel
theorem dX1_find_92 : decode cX1_find 92 = .ok (.iload 8, 2) := by decide +kernel
theorem dX1_find_94 : decode cX1_find 94 = .ok (.istore 4, 2) := by decide +kernel
theorem dX1_find_96 : decode cX1_find 96 = .ok (.iload 7, 2) := by decide +kernel
theorem dX1_find_98 : decode cX1_find 98 = .ok (.istore 5, 2) := by decide +kernel
theorem dX1_find_100 : decode cX1_find 100 = .ok (.aload_n 0, 1) := by decide +kernel
theorem dX1_find_101 : decode cX1_find 101 = .ok (.invokevirtual 39, 3) := by decide +kernel
theorem dX1_find_104 : decode cX1_find 104 = .ok (.iinc 6 1, 3) := by decide +kernel
theorem dX1_find_107 : decode cX1_find 107 = .ok (.goto (-72), 3) := by decide +kernel
theorem dX1_find_110 : decode cX1_find 110 = .ok (.return_, 1) := by decide +kernel
theorem dX1_begin_0 : decode cX1_begin 0 = .ok (.aload_n 1, 1) := by decide +kernel
theorem dX1_begin_1 : decode cX1_begin 1 = .ok (.iload_n 2, 1) := by decide +kernel
theorem dX1_begin_2 : decode cX1_begin 2 = .ok (.invokevirtual 42, 3) := by decide +kernel
theorem dX1_begin_5 : decode cX1_begin 5 = .ok (.istore_n 3, 1) := by decide +kernel
theorem dX1_begin_6 : decode cX1_begin 6 = .ok (.aload_n 0, 1) := by decide +kernel
theorem dX1_begin_7 : decode cX1_begin 7 = .ok (.iconst 0, 1) := by decide +kernel
theorem dX1_begin_8 : decode cX1_begin 8 = .ok (.putfield 28, 3) := by decide +kernel
theorem dX1_begin_11 : decode cX1_begin 11 = .ok (.aload_n 0, 1) := by decide +kernel
theorem dX1_begin_12 : decode cX1_begin 12 = .ok (.iconst 0, 1) := by decide +kernel
theorem dX1_begin_13 : decode cX1_begin 13 = .ok (.putfield 46, 3) := by decide +kernel
theorem dX1_begin_16 : decode cX1_begin 16 = .ok (.iconst 0, 1) := by decide +kernel
theorem dX1_begin_17 : decode cX1_begin 17 = .ok (.istore 4, 2) := by decide +kernel
theorem dX1_begin_19 : decode cX1_begin 19 = .ok (.iload 4, 2) := by decide +kernel
theorem dX1_begin_21 : decode cX1_begin 21 = .ok (.bipush 12, 2) := by decide +kernel
theorem dX1_begin_23 : decode cX1_begin 23 = .ok (.if_icmp .ge 93, 3) := by decide +kernel
theorem dX1_begin_26 : decode cX1_begin 26 = .ok (.aload_n 0, 1) := by decide +kernel
theorem dX1_begin_27 : decode cX1_begin 27 = .ok (.getfield 9, 3) := by decide +kernel
theorem dX1_begin_30 : decode cX1_begin 30 = .ok (.iload 4, 2) := by decide +kernel
theorem dX1_begin_32 : decode cX1_begin 32 = .ok (.iconst 0, 1) := by decide +kernel
theorem dX1_begin_33 : decode cX1_begin 33 = .ok (.iastore, 1) := by decide +kernel
theorem dX1_begin_34 : decode cX1_begin 34 = .ok (.iload_n 3, 1) := by decide +kernel
theorem dX1_begin_35 : decode cX1_begin 35 = .ok (.iload 4, 2) := by decide +kernel
theorem dX1_begin_37 : decode cX1_begin 37 = .ok (.invokestatic 49, 3) := by decide +kernel
theorem dX1_begin_40 : decode cX1_begin 40 = .ok (.ifCond .eq 70, 3) := by decide +kernel
theorem dX1_begin_43 : decode cX1_begin 43 = .ok (.aload_n 0, 1) := by decide +kernel
theorem dX1_begin_44 : decode cX1_begin 44 = .ok (.getfield 28, 3) := by decide +kernel
theorem dX1_begin_47 : decode cX1_begin 47 = .ok (.iconst 4, 1) := by decide +kernel
theorem dX1_begin_48 : decode cX1_begin 48 = .ok (.if_icmp .ge 62, 3) := by decide +kernel
theorem dX1_begin_51 : decode cX1_begin 51 = .ok (.aload_n 0, 1) := by decide +kernel
theorem dX1_begin_52 : decode cX1_begin 52 = .ok (.getfield 15, 3) := by decide +kernel
theorem dX1_begin_55 : decode cX1_begin 55 = .ok (.aload_n 0, 1) := by decide +kernel
theorem dX1_begin_56 : decode cX1_begin 56 = .ok (.getfield 28, 3) := by decide +kernel
theorem dX1_begin_59 : decode cX1_begin 59 = .ok (.iload 4, 2) := by decide +kernel
theorem dX1_begin_61 : decode cX1_begin 61 = .ok (.iastore, 1) := by decide +kernel
theorem dX1_begin_62 : decode cX1_begin 62 = .ok (.aload_n 0, 1) := by decide +kernel
theorem dX1_begin_63 : decode cX1_begin 63 = .ok (.getfield 18, 3) := by decide +kernel
theorem dX1_begin_66 : decode cX1_begin 66 = .ok (.aload_n 0, 1) := by decide +kernel
theorem dX1_begin_67 : decode cX1_begin 67 = .ok (.getfield 28, 3) := by decide +kernel
theorem dX1_begin_70 : decode cX1_begin 70 = .ok (.aload_n 1, 1) := by decide +kernel
theorem dX1_begin_71 : decode cX1_begin 71 = .ok (.getfield 53, 3) := by decide +kernel
theorem dX1_begin_74 : decode cX1_begin 74 = .ok (.iload_n 2, 1) := by decide +kernel
theorem dX1_begin_75 : decode cX1_begin 75 = .ok (.iload 4, 2) := by decide +kernel
theorem dX1_begin_77 : decode cX1_begin 77 = .ok (.invokestatic 54, 3) := by decide +kernel
theorem dX1_begin_80 : decode cX1_begin 80 = .ok (.iaload, 1) := by decide +kernel
theorem dX1_begin_81 : decode cX1_begin 81 = .ok (.iastore, 1) := by decide +kernel
theorem dX1_begin_82 : decode cX1_begin 82 = .ok (.aload_n 0, 1) := by decide +kernel
theorem dX1_begin_83 : decode cX1_begin 83 = .ok (.dup, 1) := by decide +kernel
theorem dX1_begin_84 : decode cX1_begin 84 = .ok (.getfield 46, 3) := by decide +kernel
theorem dX1_begin_87 : decode cX1_begin 87 = .ok (.aload_n 0, 1) := by decide +kernel
theorem dX1_begin_88 : decode cX1_begin 88 = .ok (.getfield 18, 3) := by decide +kernel
theorem dX1_begin_91 : decode cX1_begin 91 = .ok (.aload_n 0, 1) := by decide +kernel
theorem dX1_begin_92 : decode cX1_begin 92 = .ok (.getfield 28, 3) := by decide +kernel
theorem dX1_begin_95 : decode cX1_begin 95 = .ok (.iaload, 1) := by decide +kernel
theorem dX1_begin_96 : decode cX1_begin 96 = .ok (.iadd, 1) := by decide +kernel
theorem dX1_begin_97 : decode cX1_begin 97 = .ok (.putfield 46, 3) := by decide +kernel
theorem dX1_begin_100 : decode cX1_begin 100 = .ok (.aload_n 0, 1) := by decide +kernel
theorem dX1_begin_101 : decode cX1_begin 101 = .ok (.dup, 1) := by decide +kernel
theorem dX1_begin_102 : decode cX1_begin 102 = .ok (.getfield 28, 3) := by decide +kernel
theorem dX1_begin_105 : decode cX1_begin 105 = .ok (.iconst 1, 1) := by decide +kernel
theorem dX1_begin_106 : decode cX1_begin 106 = .ok (.iadd, 1) := by decide +kernel
theorem dX1_begin_107 : decode cX1_begin 107 = .ok (.putfield 28, 3) := by decide +kernel
theorem dX1_begin_110 : decode cX1_begin 110 = .ok (.iinc 4 1, 3) := by decide +kernel
theorem dX1_begin_113 : decode cX1_begin 113 = .ok (.goto (-94), 3) := by decide +kernel
theorem dX1_begin_116 : decode cX1_begin 116 = .ok (.return_, 1) := by decide +kernel
theorem dX1_setTrial_0 : decode cX1_setTrial 0 = .ok (.iload_n 1, 1) := by decide +kernel
theorem dX1_setTrial_1 : decode cX1_setTrial 1 = .ok (.istore_n 2, 1) := by decide +kernel
theorem dX1_setTrial_2 : decode cX1_setTrial 2 = .ok (.iconst 0, 1) := by decide +kernel
theorem dX1_setTrial_3 : decode cX1_setTrial 3 = .ok (.istore_n 3, 1) := by decide +kernel
theorem dX1_setTrial_4 : decode cX1_setTrial 4 = .ok (.aload_n 0, 1) := by decide +kernel
theorem dX1_setTrial_5 : decode cX1_setTrial 5 = .ok (.getfield 28, 3) := by decide +kernel
theorem dX1_setTrial_8 : decode cX1_setTrial 8 = .ok (.iconst 1, 1) := by decide +kernel
theorem dX1_setTrial_9 : decode cX1_setTrial 9 = .ok (.isub, 1) := by decide +kernel
theorem dX1_setTrial_10 : decode cX1_setTrial 10 = .ok (.istore 4, 2) := by decide +kernel
theorem dX1_setTrial_12 : decode cX1_setTrial 12 = .ok (.iload 4, 2) := by decide +kernel
theorem dX1_setTrial_14 : decode cX1_setTrial 14 = .ok (.ifCond .lt 35, 3) := by decide +kernel
theorem dX1_setTrial_17 : decode cX1_setTrial 17 = .ok (.aload_n 0, 1) := by decide +kernel
theorem dX1_setTrial_18 : decode cX1_setTrial 18 = .ok (.getfield 21, 3) := by decide +kernel
theorem dX1_setTrial_21 : decode cX1_setTrial 21 = .ok (.iload 4, 2) := by decide +kernel
theorem dX1_setTrial_23 : decode cX1_setTrial 23 = .ok (.iload_n 2, 1) := by decide +kernel
theorem dX1_setTrial_24 : decode cX1_setTrial 24 = .ok (.iconst 4, 1) := by decide +kernel
theorem dX1_setTrial_25 : decode cX1_setTrial 25 = .ok (.irem, 1) := by decide +kernel
theorem dX1_setTrial_26 : decode cX1_setTrial 26 = .ok (.iconst 1, 1) := by decide +kernel
theorem dX1_setTrial_27 : decode cX1_setTrial 27 = .ok (.iadd, 1) := by decide +kernel
theorem dX1_setTrial_28 : decode cX1_setTrial 28 = .ok (.iastore, 1) := by decide +kernel
theorem dX1_setTrial_29 : decode cX1_setTrial 29 = .ok (.iload_n 2, 1) := by decide +kernel
theorem dX1_setTrial_30 : decode cX1_setTrial 30 = .ok (.iconst 4, 1) := by decide +kernel
theorem dX1_setTrial_31 : decode cX1_setTrial 31 = .ok (.idiv, 1) := by decide +kernel
theorem dX1_setTrial_32 : decode cX1_setTrial 32 = .ok (.istore_n 2, 1) := by decide +kernel
theorem dX1_setTrial_33 : decode cX1_setTrial 33 = .ok (.iload_n 3, 1) := by decide +kernel
theorem dX1_setTrial_34 : decode cX1_setTrial 34 = .ok (.aload_n 0, 1) := by decide +kernel
theorem dX1_setTrial_35 : decode cX1_setTrial 35 = .ok (.getfield 21, 3) := by decide +kernel
theorem dX1_setTrial_38 : decode cX1_setTrial 38 = .ok (.iload 4, 2) := by decide +kernel
theorem dX1_setTrial_40 : decode cX1_setTrial 40 = .ok (.iaload, 1) := by decide +kernel
theorem dX1_setTrial_41 : decode cX1_setTrial 41 = .ok (.iadd, 1) := by decide +kernel
theorem dX1_setTrial_42 : decode cX1_setTrial 42 = .ok (.istore_n 3, 1) := by decide +kernel
theorem dX1_setTrial_43 : decode cX1_setTrial 43 = .ok (.iinc 4 (-1), 3) := by decide +kernel
theorem dX1_setTrial_46 : decode cX1_setTrial 46 = .ok (.goto (-34), 3) := by decide +kernel
theorem dX1_setTrial_49 : decode cX1_setTrial 49 = .ok (.iload_n 3, 1) := by decide +kernel
theorem dX1_setTrial_50 : decode cX1_setTrial 50 = .ok (.ireturn, 1) := by decide +kernel
theorem dX1_gap_0 : decode cX1_gap 0 = .ok (.iconst 0, 1) := by decide +kernel
theorem dX1_gap_1 : decode cX1_gap 1 = .ok (.istore_n 2, 1) := by decide +kernel
theorem dX1_gap_2 : decode cX1_gap 2 = .ok (.iconst 0, 1) := by decide +kernel
theorem dX1_gap_3 : decode cX1_gap 3 = .ok (.istore_n 3, 1) := by decide +kernel
theorem dX1_gap_4 : decode cX1_gap 4 = .ok (.iload_n 3, 1) := by decide +kernel
theorem dX1_gap_5 : decode cX1_gap 5 = .ok (.aload_n 0, 1) := by decide +kernel
theorem dX1_gap_6 : decode cX1_gap 6 = .ok (.getfield 28, 3) := by decide +kernel
theorem dX1_gap_9 : decode cX1_gap 9 = .ok (.if_icmp .ge 37, 3) := by decide +kernel
theorem dX1_gap_12 : decode cX1_gap 12 = .ok (.iload_n 2, 1) := by decide +kernel
theorem dX1_gap_13 : decode cX1_gap 13 = .ok (.aload_n 0, 1) := by decide +kernel
theorem dX1_gap_14 : decode cX1_gap 14 = .ok (.getfield 21, 3) := by decide +kernel
theorem dX1_gap_17 : decode cX1_gap 17 = .ok (.iload_n 3, 1) := by decide +kernel
theorem dX1_gap_18 : decode cX1_gap 18 = .ok (.iaload, 1) := by decide +kernel
theorem dX1_gap_19 : decode cX1_gap 19 = .ok (.aload_n 0, 1) := by decide +kernel
theorem dX1_gap_20 : decode cX1_gap 20 = .ok (.getfield 46, 3) := by decide +kernel
theorem dX1_gap_23 : decode cX1_gap 23 = .ok (.imul, 1) := by decide +kernel
theorem dX1_gap_24 : decode cX1_gap 24 = .ok (.aload_n 0, 1) := by decide +kernel
theorem dX1_gap_25 : decode cX1_gap 25 = .ok (.getfield 18, 3) := by decide +kernel
theorem dX1_gap_28 : decode cX1_gap 28 = .ok (.iload_n 3, 1) := by decide +kernel
theorem dX1_gap_29 : decode cX1_gap 29 = .ok (.iaload, 1) := by decide +kernel
theorem dX1_gap_30 : decode cX1_gap 30 = .ok (.iload_n 1, 1) := by decide +kernel
theorem dX1_gap_31 : decode cX1_gap 31 = .ok (.imul, 1) := by decide +kernel
theorem dX1_gap_32 : decode cX1_gap 32 = .ok (.isub, 1) := by decide +kernel
theorem dX1_gap_33 : decode cX1_gap 33 = .ok (.invokestatic 58, 3) := by decide +kernel
theorem dX1_gap_36 : decode cX1_gap 36 = .ok (.invokestatic 63, 3) := by decide +kernel
theorem dX1_gap_39 : decode cX1_gap 39 = .ok (.istore_n 2, 1) := by decide +kernel
theorem dX1_gap_40 : decode cX1_gap 40 = .ok (.iinc 3 1, 3) := by decide +kernel
theorem dX1_gap_43 : decode cX1_gap 43 = .ok (.goto (-39), 3) := by decide +kernel
theorem dX1_gap_46 : decode cX1_gap 46 = .ok (.iload_n 2, 1) := by decide +kernel
theorem dX1_gap_47 : decode cX1_gap 47 = .ok (.ireturn, 1) := by decide +kernel
theorem dX1_keepTrial_0 : decode cX1_keepTrial 0 = .ok (.iconst 0, 1) := by decide +kernel
theorem dX1_keepTrial_1 : decode cX1_keepTrial 1 = .ok (.istore_n 1, 1) := by decide +kernel
theorem dX1_keepTrial_2 : decode cX1_keepTrial 2 = .ok (.iload_n 1, 1) := by decide +kernel
theorem dX1_keepTrial_3 : decode cX1_keepTrial 3 = .ok (.aload_n 0, 1) := by decide +kernel
theorem dX1_keepTrial_4 : decode cX1_keepTrial 4 = .ok (.getfield 28, 3) := by decide +kernel
theorem dX1_keepTrial_7 : decode cX1_keepTrial 7 = .ok (.if_icmp .ge 26, 3) := by decide +kernel
theorem dX1_keepTrial_10 : decode cX1_keepTrial 10 = .ok (.aload_n 0, 1) := by decide +kernel
theorem dX1_keepTrial_11 : decode cX1_keepTrial 11 = .ok (.getfield 9, 3) := by decide +kernel
theorem dX1_keepTrial_14 : decode cX1_keepTrial 14 = .ok (.aload_n 0, 1) := by decide +kernel
theorem dX1_keepTrial_15 : decode cX1_keepTrial 15 = .ok (.getfield 15, 3) := by decide +kernel
theorem dX1_keepTrial_18 : decode cX1_keepTrial 18 = .ok (.iload_n 1, 1) := by decide +kernel
theorem dX1_keepTrial_19 : decode cX1_keepTrial 19 = .ok (.iaload, 1) := by decide +kernel
theorem dX1_keepTrial_20 : decode cX1_keepTrial 20 = .ok (.aload_n 0, 1) := by decide +kernel
theorem dX1_keepTrial_21 : decode cX1_keepTrial 21 = .ok (.getfield 21, 3) := by decide +kernel
theorem dX1_keepTrial_24 : decode cX1_keepTrial 24 = .ok (.iload_n 1, 1) := by decide +kernel
theorem dX1_keepTrial_25 : decode cX1_keepTrial 25 = .ok (.iaload, 1) := by decide +kernel
theorem dX1_keepTrial_26 : decode cX1_keepTrial 26 = .ok (.iastore, 1) := by decide +kernel
theorem dX1_keepTrial_27 : decode cX1_keepTrial 27 = .ok (.iinc 1 1, 3) := by decide +kernel
theorem dX1_keepTrial_30 : decode cX1_keepTrial 30 = .ok (.goto (-28), 3) := by decide +kernel
theorem dX1_keepTrial_33 : decode cX1_keepTrial 33 = .ok (.return_, 1) := by decide +kernel
end
section
theorem dX2_init_0 : decode cX2_init 0 = .ok (.aload_n 0, 1) := by decide +kernel
theorem dX2_init_1 : decode cX2_init 1 = .ok (.invokespecial 3, 3) := by decide +kernel
theorem dX2_init_4 : decode cX2_init 4 = .ok (.aload_n 0, 1) := by decide +kernel
theorem dX2_init_5 : decode cX2_init 5 = .ok (.bipush 60, 2) := by decide +kernel
theorem dX2_init_7 : decode cX2_init 7 = .ok (.newarray .int, 2) := by decide +kernel
theorem dX2_init_9 : decode cX2_init 9 = .ok (.putfield 11, 3) := by decide +kernel
theorem dX2_init_12 : decode cX2_init 12 = .ok (.aload_n 0, 1) := by decide +kernel
theorem dX2_init_13 : decode cX2_init 13 = .ok (.bipush 12, 2) := by decide +kernel
theorem dX2_init_15 : decode cX2_init 15 = .ok (.newarray .int, 2) := by decide +kernel
theorem dX2_init_17 : decode cX2_init 17 = .ok (.putfield 15, 3) := by decide +kernel
theorem dX2_init_20 : decode cX2_init 20 = .ok (.return_, 1) := by decide +kernel
theorem dX2_isList_0 : decode cX2_isList 0 = .ok (.aload_n 0, 1) := by decide +kernel
theorem dX2_isList_1 : decode cX2_isList 1 = .ok (.invokevirtual 18, 3) := by decide +kernel
theorem dX2_isList_4 : decode cX2_isList 4 = .ok (.aload_n 0, 1) := by decide +kernel
theorem dX2_isList_5 : decode cX2_isList 5 = .ok (.getfield 22, 3) := by decide +kernel
theorem dX2_isList_8 : decode cX2_isList 8 = .ok (.if_icmp .lt 18, 3) := by decide +kernel
theorem dX2_isList_11 : decode cX2_isList 11 = .ok (.aload_n 0, 1) := by decide +kernel
theorem dX2_isList_12 : decode cX2_isList 12 = .ok (.getfield 26, 3) := by decide +kernel
theorem dX2_isList_15 : decode cX2_isList 15 = .ok (.ifCond .eq 11, 3) := by decide +kernel
theorem dX2_isList_18 : decode cX2_isList 18 = .ok (.aload_n 0, 1) := by decide +kernel
theorem dX2_isList_19 : decode cX2_isList 19 = .ok (.getfield 26, 3) := by decide +kernel
theorem dX2_isList_22 : decode cX2_isList 22 = .ok (.iconst 3, 1) := by decide +kernel
theorem dX2_isList_23 : decode cX2_isList 23 = .ok (.if_icmp .ne 5, 3) := by decide +kernel
theorem dX2_isList_26 : decode cX2_isList 26 = .ok (.iconst 0, 1) := by decide +kernel
theorem dX2_isList_27 : decode cX2_isList 27 = .ok (.ireturn, 1) := by decide +kernel
theorem dX2_isList_28 : decode cX2_isList 28 = .ok (.aload_n 0, 1) := by decide +kernel
theorem dX2_isList_29 : decode cX2_isList 29 = .ok (.getfield 15, 3) := by decide +kernel
theorem dX2_isList_32 : decode cX2_isList 32 = .ok (.aload_n 0, 1) := by decide +kernel
theorem dX2_isList_33 : decode cX2_isList 33 = .ok (.getfield 29, 3) := by decide +kernel
theorem dX2_isList_36 : decode cX2_isList 36 = .ok (.iaload, 1) := by decide +kernel
theorem dX2_isList_37 : decode cX2_isList 37 = .ok (.ifCond .eq 5, 3) := by decide +kernel
theorem dX2_isList_40 : decode cX2_isList 40 = .ok (.iconst 0, 1) := by decide +kernel
theorem dX2_isList_41 : decode cX2_isList 41 = .ok (.ireturn, 1) := by decide +kernel
theorem dX2_isList_42 : decode cX2_isList 42 = .ok (.aload_n 0, 1) := by decide +kernel
theorem dX2_isList_43 : decode cX2_isList 43 = .ok (.invokevirtual 32, 3) := by decide +kernel
theorem dX2_isList_46 : decode cX2_isList 46 = .ok (.iconst 1, 1) := by decide +kernel
theorem dX2_isList_47 : decode cX2_isList 47 = .ok (.ireturn, 1) := by decide +kernel
theorem dX2_greatestPen_0 : decode cX2_greatestPen 0 = .ok (.iconst (-1), 1) := by decide +kernel
theorem dX2_greatestPen_1 : decode cX2_greatestPen 1 = .ok (.istore_n 1, 1) := by decide +kernel
theorem dX2_greatestPen_2 : decode cX2_greatestPen 2 = .ok (.iconst 0, 1) := by decide +kernel
theorem dX2_greatestPen_3 : decode cX2_greatestPen 3 = .ok (.istore_n 2, 1) := by decide +kernel
theorem dX2_greatestPen_4 : decode cX2_greatestPen 4 = .ok (.iload_n 2, 1) := by decide +kernel
theorem dX2_greatestPen_5 : decode cX2_greatestPen 5 = .ok (.bipush 12, 2) := by decide +kernel
theorem dX2_greatestPen_7 : decode cX2_greatestPen 7 = .ok (.if_icmp .ge 24, 3) := by decide +kernel
theorem dX2_greatestPen_10 : decode cX2_greatestPen 10 = .ok (.aload_n 0, 1) := by decide +kernel
theorem dX2_greatestPen_11 : decode cX2_greatestPen 11 = .ok (.getfield 15, 3) := by decide +kernel
theorem dX2_greatestPen_14 : decode cX2_greatestPen 14 = .ok (.iload_n 2, 1) := by decide +kernel
theorem dX2_greatestPen_15 : decode cX2_greatestPen 15 = .ok (.iaload, 1) := by decide +kernel
theorem dX2_greatestPen_16 : decode cX2_greatestPen 16 = .ok (.ifCond .le 7, 3) := by decide +kernel
theorem dX2_greatestPen_19 : decode cX2_greatestPen 19 = .ok (.iload_n 2, 1) := by decide +kernel
theorem dX2_greatestPen_20 : decode cX2_greatestPen 20 = .ok (.goto 4, 3) := by decide +kernel
theorem dX2_greatestPen_23 : decode cX2_greatestPen 23 = .ok (.iload_n 1, 1) := by decide +kernel
theorem dX2_greatestPen_24 : decode cX2_greatestPen 24 = .ok (.istore_n 1, 1) := by decide +kernel
theorem dX2_greatestPen_25 : decode cX2_greatestPen 25 = .ok (.iinc 2 1, 3) := by decide +kernel
theorem dX2_greatestPen_28 : decode cX2_greatestPen 28 = .ok (.goto (-24), 3) := by decide +kernel
theorem dX2_greatestPen_31 : decode cX2_greatestPen 31 = .ok (.iload_n 1, 1) := by decide +kernel
theorem dX2_greatestPen_32 : decode cX2_greatestPen 32 = .ok (.ireturn, 1) := by decide +kernel
theorem dX2_readToError_0 : decode cX2_readToError 0 = .ok (.aload_n 0, 1) := by decide +kernel
theorem dX2_readToError_1 : decode cX2_readToError 1 = .ok (.getfield 15, 3) := by decide +kernel
theorem dX2_readToError_4 : decode cX2_readToError 4 = .ok (.iconst 0, 1) := by decide +kernel
theorem dX2_readToError_5 : decode cX2_readToError 5 = .ok (.invokestatic 35, 3) := by decide +kernel
theorem dX2_readToError_8 : decode cX2_readToError 8 = .ok (.aload_n 0, 1) := by decide +kernel
theorem dX2_readToError_9 : decode cX2_readToError 9 = .ok (.iconst 0, 1) := by decide +kernel
theorem dX2_readToError_10 : decode cX2_readToError 10 = .ok (.putfield 26, 3) := by decide +kernel
theorem dX2_readToError_13 : decode cX2_readToError 13 = .ok (.aload_n 0, 1) := by decide +kernel
theorem dX2_readToError_14 : decode cX2_readToError 14 = .ok (.iconst 0, 1) := by decide +kernel
theorem dX2_readToError_15 : decode cX2_readToError 15 = .ok (.putfield 29, 3) := by decide +kernel
theorem dX2_readToError_18 : decode cX2_readToError 18 = .ok (.aload_n 0, 1) := by decide +kernel
theorem dX2_readToError_19 : decode cX2_readToError 19 = .ok (.iconst 1, 1) := by decide +kernel
theorem dX2_readToError_20 : decode cX2_readToError 20 = .ok (.putfield 41, 3) := by decide +kernel
theorem dX2_readToError_23 : decode cX2_readToError 23 = .ok (.aload_n 0, 1) := by decide +kernel
theorem dX2_readToError_24 : decode cX2_readToError 24 = .ok (.iconst 0, 1) := by decide +kernel
theorem dX2_readToError_25 : decode cX2_readToError 25 = .ok (.putfield 44, 3) := by decide +kernel
theorem dX2_readToError_28 : decode cX2_readToError 28 = .ok (.iconst 0, 1) := by decide +kernel
theorem dX2_readToError_29 : decode cX2_readToError 29 = .ok (.istore_n 1, 1) := by decide +kernel
theorem dX2_readToError_30 : decode cX2_readToError 30 = .ok (.iload_n 1, 1) := by decide +kernel
theorem dX2_readToError_31 : decode cX2_readToError 31 = .ok (.aload_n 0, 1) := by decide +kernel
theorem dX2_readToError_32 : decode cX2_readToError 32 = .ok (.getfield 22, 3) := by decide +kernel
theorem dX2_readToError_35 : decode cX2_readToError 35 = .ok (.if_icmp .ge 24, 3) := by decide +kernel
theorem dX2_readToError_38 : decode cX2_readToError 38 = .ok (.aload_n 0, 1) := by decide +kernel
theorem dX2_readToError_39 : decode cX2_readToError 39 = .ok (.aload_n 0, 1) := by decide +kernel
theorem dX2_readToError_40 : decode cX2_readToError 40 = .ok (.getfield 11, 3) := by decide +kernel
theorem dX2_readToError_43 : decode cX2_readToError 43 = .ok (.iload_n 1, 1) := by decide +kernel
theorem dX2_readToError_44 : decode cX2_readToError 44 = .ok (.iaload, 1) := by decide +kernel
theorem dX2_readToError_45 : decode cX2_readToError 45 = .ok (.invokevirtual 47, 3) := by decide +kernel
theorem dX2_readToError_48 : decode cX2_readToError 48 = .ok (.ifCond .ne 5, 3) := by decide +kernel
theorem dX2_readToError_51 : decode cX2_readToError 51 = .ok (.iload_n 1, 1) := by decide +kernel
theorem dX2_readToError_52 : decode cX2_readToError 52 = .ok (.ireturn, 1) := by decide +kernel
theorem dX2_readToError_53 : decode cX2_readToError 53 = .ok (.iinc 1 1, 3) := by decide +kernel
theorem dX2_readToError_56 : decode cX2_readToError 56 = .ok (.goto (-26), 3) := by decide +kernel
theorem dX2_readToError_59 : decode cX2_readToError 59 = .ok (.aload_n 0, 1) := by decide +kernel
theorem dX2_readToError_60 : decode cX2_readToError 60 = .ok (.getfield 22, 3) := by decide +kernel
theorem dX2_readToError_63 : decode cX2_readToError 63 = .ok (.ireturn, 1) := by decide +kernel
theorem dX2_takes_0 : decode cX2_takes 0 = .ok (.aload_n 0, 1) := by decide +kernel
theorem dX2_takes_1 : decode cX2_takes 1 = .ok (.getfield 26, 3) := by decide +kernel
theorem dX2_takes_4 : decode cX2_takes 4 = .ok (.tableswitch 72 0 3 #[32, 38, 44, 66], 32) := by decide +kernel
theorem dX2_takes_36 : decode cX2_takes 36 = .ok (.aload_n 0, 1) := by decide +kernel
theorem dX2_takes_37 : decode cX2_takes 37 = .ok (.iload_n 1, 1) := by decide +kernel
theorem dX2_takes_38 : decode cX2_takes 38 = .ok (.invokevirtual 51, 3) := by decide +kernel
theorem dX2_takes_41 : decode cX2_takes 41 = .ok (.ireturn, 1) := by decide +kernel
theorem dX2_takes_42 : decode cX2_takes 42 = .ok (.aload_n 0, 1) := by decide +kernel
theorem dX2_takes_43 : decode cX2_takes 43 = .ok (.iload_n 1, 1) := by decide +kernel
theorem dX2_takes_44 : decode cX2_takes 44 = .ok (.invokevirtual 54, 3) := by decide +kernel
theorem dX2_takes_47 : decode cX2_takes 47 = .ok (.ireturn, 1) := by decide +kernel
theorem dX2_takes_48 : decode cX2_takes 48 = .ok (.aload_n 0, 1) := by decide +kernel
theorem dX2_takes_49 : decode cX2_takes 49 = .ok (.iload_n 1, 1) := by decide +kernel
theorem dX2_takes_50 : decode cX2_takes 50 = .ok (.invokevirtual 57, 3) := by decide +kernel
theorem dX2_takes_53 : decode cX2_takes 53 = .ok (.ifCond .ne 11, 3) := by decide +kernel
theorem dX2_takes_56 : decode cX2_takes 56 = .ok (.aload_n 0, 1) := by decide +kernel
theorem dX2_takes_57 : decode cX2_takes 57 = .ok (.iload_n 1, 1) := by decide +kernel
theorem dX2_takes_58 : decode cX2_takes 58 = .ok (.invokevirtual 60, 3) := by decide +kernel
theorem dX2_takes_61 : decode cX2_takes 61 = .ok (.ifCond .eq 7, 3) := by decide +kernel
theorem dX2_takes_64 : decode cX2_takes 64 = .ok (.iconst 1, 1) := by decide +kernel
theorem dX2_takes_65 : decode cX2_takes 65 = .ok (.goto 4, 3) := by decide +kernel
theorem dX2_takes_68 : decode cX2_takes 68 = .ok (.iconst 0, 1) := by decide +kernel
theorem dX2_takes_69 : decode cX2_takes 69 = .ok (.ireturn, 1) := by decide +kernel
theorem dX2_takes_70 : decode cX2_takes 70 = .ok (.aload_n 0, 1) := by decide +kernel
theorem dX2_takes_71 : decode cX2_takes 71 = .ok (.iload_n 1, 1) := by decide +kernel
theorem dX2_takes_72 : decode cX2_takes 72 = .ok (.invokevirtual 63, 3) := by decide +kernel
theorem dX2_takes_75 : decode cX2_takes 75 = .ok (.ireturn, 1) := by decide +kernel
theorem dX2_takes_76 : decode cX2_takes 76 = .ok (.aload_n 0, 1) := by decide +kernel
theorem dX2_takes_77 : decode cX2_takes 77 = .ok (.iload_n 1, 1) := by decide +kernel
theorem dX2_takes_78 : decode cX2_takes 78 = .ok (.invokevirtual 60, 3) := by decide +kernel
theorem dX2_takes_81 : decode cX2_takes 81 = .ok (.ireturn, 1) := by decide +kernel
theorem dX2_takesDigit_0 : decode cX2_takesDigit 0 = .ok (.iload_n 1, 1) := by decide +kernel
theorem dX2_takesDigit_1 : decode cX2_takesDigit 1 = .ok (.bipush 49, 2) := by decide +kernel
theorem dX2_takesDigit_3 : decode cX2_takesDigit 3 = .ok (.if_icmp .ne 8, 3) := by decide +kernel
theorem dX2_takesDigit_6 : decode cX2_takesDigit 6 = .ok (.aload_n 0, 1) := by decide +kernel
theorem dX2_takesDigit_7 : decode cX2_takesDigit 7 = .ok (.invokevirtual 66, 3) := by decide +kernel
theorem dX2_takesDigit_10 : decode cX2_takesDigit 10 = .ok (.ireturn, 1) := by decide +kernel
theorem dX2_takesDigit_11 : decode cX2_takesDigit 11 = .ok (.iload_n 1, 1) := by decide +kernel
theorem dX2_takesDigit_12 : decode cX2_takesDigit 12 = .ok (.bipush 48, 2) := by decide +kernel
theorem dX2_takesDigit_14 : decode cX2_takesDigit 14 = .ok (.if_icmp .lt 24, 3) := by decide +kernel
theorem dX2_takesDigit_17 : decode cX2_takesDigit 17 = .ok (.iload_n 1, 1) := by decide +kernel
theorem dX2_takesDigit_18 : decode cX2_takesDigit 18 = .ok (.bipush 57, 2) := by decide +kernel
theorem dX2_takesDigit_20 : decode cX2_takesDigit 20 = .ok (.if_icmp .gt 18, 3) := by decide +kernel
theorem dX2_takesDigit_23 : decode cX2_takesDigit 23 = .ok (.aload_n 0, 1) := by decide +kernel
theorem dX2_takesDigit_24 : decode cX2_takesDigit 24 = .ok (.iload_n 1, 1) := by decide +kernel
theorem dX2_takesDigit_25 : decode cX2_takesDigit 25 = .ok (.bipush 48, 2) := by decide +kernel
theorem dX2_takesDigit_27 : decode cX2_takesDigit 27 = .ok (.isub, 1) := by decide +kernel
theorem dX2_takesDigit_28 : decode cX2_takesDigit 28 = .ok (.invokevirtual 70, 3) := by decide +kernel
theorem dX2_takesDigit_31 : decode cX2_takesDigit 31 = .ok (.ifCond .eq 7, 3) := by decide +kernel
theorem dX2_takesDigit_34 : decode cX2_takesDigit 34 = .ok (.iconst 1, 1) := by decide +kernel
theorem dX2_takesDigit_35 : decode cX2_takesDigit 35 = .ok (.goto 4, 3) := by decide +kernel
theorem dX2_takesDigit_38 : decode cX2_takesDigit 38 = .ok (.iconst 0, 1) := by decide +kernel
theorem dX2_takesDigit_39 : decode cX2_takesDigit 39 = .ok (.ireturn, 1) := by decide +kernel
theorem dX2_takesOne_0 : decode cX2_takesOne 0 = .ok (.aload_n 0, 1) := by decide +kernel
theorem dX2_takesOne_1 : decode cX2_takesOne 1 = .ok (.getfield 15, 3) := by decide +kernel
theorem dX2_takesOne_4 : decode cX2_takesOne 4 = .ok (.iconst 1, 1) := by decide +kernel
theorem dX2_takesOne_5 : decode cX2_takesOne 5 = .ok (.iaload, 1) := by decide +kernel
theorem dX2_takesOne_6 : decode cX2_takesOne 6 = .ok (.ifCond .eq 25, 3) := by decide +kernel
theorem dX2_takesOne_9 : decode cX2_takesOne 9 = .ok (.aload_n 0, 1) := by decide +kernel
theorem dX2_takesOne_10 : decode cX2_takesOne 10 = .ok (.getfield 15, 3) := by decide +kernel
theorem dX2_takesOne_13 : decode cX2_takesOne 13 = .ok (.bipush 10, 2) := by decide +kernel
theorem dX2_takesOne_15 : decode cX2_takesOne 15 = .ok (.iaload, 1) := by decide +kernel
theorem dX2_takesOne_16 : decode cX2_takesOne 16 = .ok (.ifCond .eq 15, 3) := by decide +kernel
theorem dX2_takesOne_19 : decode cX2_takesOne 19 = .ok (.aload_n 0, 1) := by decide +kernel
theorem dX2_takesOne_20 : decode cX2_takesOne 20 = .ok (.getfield 15, 3) := by decide +kernel
theorem dX2_takesOne_23 : decode cX2_takesOne 23 = .ok (.bipush 11, 2) := by decide +kernel
theorem dX2_takesOne_25 : decode cX2_takesOne 25 = .ok (.iaload, 1) := by decide +kernel
theorem dX2_takesOne_26 : decode cX2_takesOne 26 = .ok (.ifCond .eq 5, 3) := by decide +kernel
theorem dX2_takesOne_29 : decode cX2_takesOne 29 = .ok (.iconst 0, 1) := by decide +kernel
theorem dX2_takesOne_30 : decode cX2_takesOne 30 = .ok (.ireturn, 1) := by decide +kernel
theorem dX2_takesOne_31 : decode cX2_takesOne 31 = .ok (.aload_n 0, 1) := by decide +kernel
theorem dX2_takesOne_32 : decode cX2_takesOne 32 = .ok (.iconst 1, 1) := by decide +kernel
theorem dX2_takesOne_33 : decode cX2_takesOne 33 = .ok (.putfield 29, 3) := by decide +kernel
theorem dX2_takesOne_36 : decode cX2_takesOne 36 = .ok (.aload_n 0, 1) := by decide +kernel
theorem dX2_takesOne_37 : decode cX2_takesOne 37 = .ok (.iconst 1, 1) := by decide +kernel
theorem dX2_takesOne_38 : decode cX2_takesOne 38 = .ok (.putfield 26, 3) := by decide +kernel
theorem dX2_takesOne_41 : decode cX2_takesOne 41 = .ok (.iconst 1, 1) := by decide +kernel
theorem dX2_takesOne_42 : decode cX2_takesOne 42 = .ok (.ireturn, 1) := by decide +kernel
theorem dX2_takesAfterOne_0 : decode cX2_takesAfterOne 0 = .ok (.iload_n 1, 1) := by decide +kernel
theorem dX2_takesAfterOne_1 : decode cX2_takesAfterOne 1 = .ok (.bipush 48, 2) := by decide +kernel
theorem dX2_takesAfterOne_3 : decode cX2_takesAfterOne 3 = .ok (.if_icmp .eq 9, 3) := by decide +kernel
theorem dX2_takesAfterOne_6 : decode cX2_takesAfterOne 6 = .ok (.iload_n 1, 1) := by decide +kernel
theorem dX2_takesAfterOne_7 : decode cX2_takesAfterOne 7 = .ok (.bipush 49, 2) := by decide +kernel
theorem dX2_takesAfterOne_9 : decode cX2_takesAfterOne 9 = .ok (.if_icmp .ne 15, 3) := by decide +kernel
theorem dX2_takesAfterOne_12 : decode cX2_takesAfterOne 12 = .ok (.aload_n 0, 1) := by decide +kernel
theorem dX2_takesAfterOne_13 : decode cX2_takesAfterOne 13 = .ok (.bipush 10, 2) := by decide +kernel
theorem dX2_takesAfterOne_15 : decode cX2_takesAfterOne 15 = .ok (.iload_n 1, 1) := by decide +kernel
theorem dX2_takesAfterOne_16 : decode cX2_takesAfterOne 16 = .ok (.iadd, 1) := by decide +kernel
theorem dX2_takesAfterOne_17 : decode cX2_takesAfterOne 17 = .ok (.bipush 48, 2) := by decide +kernel
theorem dX2_takesAfterOne_19 : decode cX2_takesAfterOne 19 = .ok (.isub, 1) := by decide +kernel
theorem dX2_takesAfterOne_20 : decode cX2_takesAfterOne 20 = .ok (.invokevirtual 70, 3) := by decide +kernel
theorem dX2_takesAfterOne_23 : decode cX2_takesAfterOne 23 = .ok (.ireturn, 1) := by decide +kernel
theorem dX2_takesAfterOne_24 : decode cX2_takesAfterOne 24 = .ok (.aload_n 0, 1) := by decide +kernel
theorem dX2_takesAfterOne_25 : decode cX2_takesAfterOne 25 = .ok (.getfield 15, 3) := by decide +kernel
theorem dX2_takesAfterOne_28 : decode cX2_takesAfterOne 28 = .ok (.iconst 1, 1) := by decide +kernel
theorem dX2_takesAfterOne_29 : decode cX2_takesAfterOne 29 = .ok (.iaload, 1) := by decide +kernel
theorem dX2_takesAfterOne_30 : decode cX2_takesAfterOne 30 = .ok (.ifCond .ne 23, 3) := by decide +kernel
theorem dX2_takesAfterOne_33 : decode cX2_takesAfterOne 33 = .ok (.aload_n 0, 1) := by decide +kernel
theorem dX2_takesAfterOne_34 : decode cX2_takesAfterOne 34 = .ok (.iload_n 1, 1) := by decide +kernel
theorem dX2_takesAfterOne_35 : decode cX2_takesAfterOne 35 = .ok (.invokevirtual 57, 3) := by decide +kernel
theorem dX2_takesAfterOne_38 : decode cX2_takesAfterOne 38 = .ok (.ifCond .ne 11, 3) := by decide +kernel
theorem dX2_takesAfterOne_41 : decode cX2_takesAfterOne 41 = .ok (.aload_n 0, 1) := by decide +kernel
theorem dX2_takesAfterOne_42 : decode cX2_takesAfterOne 42 = .ok (.iload_n 1, 1) := by decide +kernel
theorem dX2_takesAfterOne_43 : decode cX2_takesAfterOne 43 = .ok (.invokevirtual 60, 3) := by decide +kernel
theorem dX2_takesAfterOne_46 : decode cX2_takesAfterOne 46 = .ok (.ifCond .eq 7, 3) := by decide +kernel
theorem dX2_takesAfterOne_49 : decode cX2_takesAfterOne 49 = .ok (.iconst 1, 1) := by decide +kernel
theorem dX2_takesAfterOne_50 : decode cX2_takesAfterOne 50 = .ok (.goto 4, 3) := by decide +kernel
theorem dX2_takesAfterOne_53 : decode cX2_takesAfterOne 53 = .ok (.iconst 0, 1) := by decide +kernel
theorem dX2_takesAfterOne_54 : decode cX2_takesAfterOne 54 = .ok (.ireturn, 1) := by decide +kernel
theorem dX2_takesPen_0 : decode cX2_takesPen 0 = .ok (.iload_n 1, 1) := by decide +kernel
theorem dX2_takesPen_1 : decode cX2_takesPen 1 = .ok (.ifCond .lt 18, 3) := by decide +kernel
theorem dX2_takesPen_4 : decode cX2_takesPen 4 = .ok (.iload_n 1, 1) := by decide +kernel
theorem dX2_takesPen_5 : decode cX2_takesPen 5 = .ok (.bipush 12, 2) := by decide +kernel
theorem dX2_takesPen_7 : decode cX2_takesPen 7 = .ok (.if_icmp .ge 12, 3) := by decide +kernel
theorem dX2_takesPen_10 : decode cX2_takesPen 10 = .ok (.aload_n 0, 1) := by decide +kernel
theorem dX2_takesPen_11 : decode cX2_takesPen 11 = .ok (.getfield 15, 3) := by decide +kernel
theorem dX2_takesPen_14 : decode cX2_takesPen 14 = .ok (.iload_n 1, 1) := by decide +kernel
theorem dX2_takesPen_15 : decode cX2_takesPen 15 = .ok (.iaload, 1) := by decide +kernel
theorem dX2_takesPen_16 : decode cX2_takesPen 16 = .ok (.ifCond .eq 5, 3) := by decide +kernel
theorem dX2_takesPen_19 : decode cX2_takesPen 19 = .ok (.iconst 0, 1) := by decide +kernel
theorem dX2_takesPen_20 : decode cX2_takesPen 20 = .ok (.ireturn, 1) := by decide +kernel
theorem dX2_takesPen_21 : decode cX2_takesPen 21 = .ok (.aload_n 0, 1) := by decide +kernel
theorem dX2_takesPen_22 : decode cX2_takesPen 22 = .ok (.iload_n 1, 1) := by decide +kernel
theorem dX2_takesPen_23 : decode cX2_takesPen 23 = .ok (.putfield 29, 3) := by decide +kernel
theorem dX2_takesPen_26 : decode cX2_takesPen 26 = .ok (.aload_n 0, 1) := by decide +kernel
theorem dX2_takesPen_27 : decode cX2_takesPen 27 = .ok (.iconst 2, 1) := by decide +kernel
theorem dX2_takesPen_28 : decode cX2_takesPen 28 = .ok (.putfield 26, 3) := by decide +kernel
theorem dX2_takesPen_31 : decode cX2_takesPen 31 = .ok (.iconst 1, 1) := by decide +kernel
theorem dX2_takesPen_32 : decode cX2_takesPen 32 = .ok (.ireturn, 1) := by decide +kernel
theorem dX2_takesStar_0 : decode cX2_takesStar 0 = .ok (.iload_n 1, 1) := by decide +kernel
theorem dX2_takesStar_1 : decode cX2_takesStar 1 = .ok (.bipush 42, 2) := by decide +kernel
theorem dX2_takesStar_3 : decode cX2_takesStar 3 = .ok (.if_icmp .eq 5, 3) := by decide +kernel
theorem dX2_takesStar_6 : decode cX2_takesStar 6 = .ok (.iconst 0, 1) := by decide +kernel
theorem dX2_takesStar_7 : decode cX2_takesStar 7 = .ok (.ireturn, 1) := by decide +kernel
theorem dX2_takesStar_8 : decode cX2_takesStar 8 = .ok (.aload_n 0, 1) := by decide +kernel
theorem dX2_takesStar_9 : decode cX2_takesStar 9 = .ok (.iconst 3, 1) := by decide +kernel
theorem dX2_takesStar_10 : decode cX2_takesStar 10 = .ok (.putfield 26, 3) := by decide +kernel
theorem dX2_takesStar_13 : decode cX2_takesStar 13 = .ok (.iconst 1, 1) := by decide +kernel
theorem dX2_takesStar_14 : decode cX2_takesStar 14 = .ok (.ireturn, 1) := by decide +kernel
theorem dX2_takesFactor_0 : decode cX2_takesFactor 0 = .ok (.iload_n 1, 1) := by decide +kernel
theorem dX2_takesFactor_1 : decode cX2_takesFactor 1 = .ok (.bipush 50, 2) := by decide +kernel
theorem dX2_takesFactor_3 : decode cX2_takesFactor 3 = .ok (.if_icmp .lt 9, 3) := by decide +kernel
theorem dX2_takesFactor_6 : decode cX2_takesFactor 6 = .ok (.iload_n 1, 1) := by decide +kernel
theorem dX2_takesFactor_7 : decode cX2_takesFactor 7 = .ok (.bipush 57, 2) := by decide +kernel
theorem dX2_takesFactor_9 : decode cX2_takesFactor 9 = .ok (.if_icmp .le 5, 3) := by decide +kernel
theorem dX2_takesFactor_12 : decode cX2_takesFactor 12 = .ok (.iconst 0, 1) := by decide +kernel
theorem dX2_takesFactor_13 : decode cX2_takesFactor 13 = .ok (.ireturn, 1) := by decide +kernel
theorem dX2_takesFactor_14 : decode cX2_takesFactor 14 = .ok (.aload_n 0, 1) := by decide +kernel
theorem dX2_takesFactor_15 : decode cX2_takesFactor 15 = .ok (.iload_n 1, 1) := by decide +kernel
theorem dX2_takesFactor_16 : decode cX2_takesFactor 16 = .ok (.bipush 48, 2) := by decide +kernel
theorem dX2_takesFactor_18 : decode cX2_takesFactor 18 = .ok (.isub, 1) := by decide +kernel
theorem dX2_takesFactor_19 : decode cX2_takesFactor 19 = .ok (.putfield 41, 3) := by decide +kernel
theorem dX2_takesFactor_22 : decode cX2_takesFactor 22 = .ok (.aload_n 0, 1) := by decide +kernel
theorem dX2_takesFactor_23 : decode cX2_takesFactor 23 = .ok (.iconst 4, 1) := by decide +kernel
theorem dX2_takesFactor_24 : decode cX2_takesFactor 24 = .ok (.putfield 26, 3) := by decide +kernel
theorem dX2_takesFactor_27 : decode cX2_takesFactor 27 = .ok (.iconst 1, 1) := by decide +kernel
theorem dX2_takesFactor_28 : decode cX2_takesFactor 28 = .ok (.ireturn, 1) := by decide +kernel
theorem dX2_takesComma_0 : decode cX2_takesComma 0 = .ok (.iload_n 1, 1) := by decide +kernel
theorem dX2_takesComma_1 : decode cX2_takesComma 1 = .ok (.bipush 44, 2) := by decide +kernel
theorem dX2_takesComma_3 : decode cX2_takesComma 3 = .ok (.if_icmp .ne 11, 3) := by decide +kernel
theorem dX2_takesComma_6 : decode cX2_takesComma 6 = .ok (.aload_n 0, 1) := by decide +kernel
theorem dX2_takesComma_7 : decode cX2_takesComma 7 = .ok (.getfield 44, 3) := by decide +kernel
theorem dX2_takesComma_10 : decode cX2_takesComma 10 = .ok (.iconst 3, 1) := by decide +kernel
theorem dX2_takesComma_11 : decode cX2_takesComma 11 = .ok (.if_icmp .lt 5, 3) := by decide +kernel
theorem dX2_takesComma_14 : decode cX2_takesComma 14 = .ok (.iconst 0, 1) := by decide +kernel
theorem dX2_takesComma_15 : decode cX2_takesComma 15 = .ok (.ireturn, 1) := by decide +kernel
theorem dX2_takesComma_16 : decode cX2_takesComma 16 = .ok (.aload_n 0, 1) := by decide +kernel
theorem dX2_takesComma_17 : decode cX2_takesComma 17 = .ok (.invokevirtual 32, 3) := by decide +kernel
theorem dX2_takesComma_20 : decode cX2_takesComma 20 = .ok (.aload_n 0, 1) := by decide +kernel
theorem dX2_takesComma_21 : decode cX2_takesComma 21 = .ok (.iconst 0, 1) := by decide +kernel
theorem dX2_takesComma_22 : decode cX2_takesComma 22 = .ok (.putfield 26, 3) := by decide +kernel
theorem dX2_takesComma_25 : decode cX2_takesComma 25 = .ok (.iconst 1, 1) := by decide +kernel
theorem dX2_takesComma_26 : decode cX2_takesComma 26 = .ok (.ireturn, 1) := by decide +kernel
theorem dX2_endItem_0 : decode cX2_endItem 0 = .ok (.aload_n 0, 1) := by decide +kernel
theorem dX2_endItem_1 : decode cX2_endItem 1 = .ok (.getfield 15, 3) := by decide +kernel
theorem dX2_endItem_4 : decode cX2_endItem 4 = .ok (.aload_n 0, 1) := by decide +kernel
theorem dX2_endItem_5 : decode cX2_endItem 5 = .ok (.getfield 29, 3) := by decide +kernel
theorem dX2_endItem_8 : decode cX2_endItem 8 = .ok (.aload_n 0, 1) := by decide +kernel
theorem dX2_endItem_9 : decode cX2_endItem 9 = .ok (.getfield 41, 3) := by decide +kernel
theorem dX2_endItem_12 : decode cX2_endItem 12 = .ok (.iastore, 1) := by decide +kernel
theorem dX2_endItem_13 : decode cX2_endItem 13 = .ok (.aload_n 0, 1) := by decide +kernel
theorem dX2_endItem_14 : decode cX2_endItem 14 = .ok (.iconst 1, 1) := by decide +kernel
theorem dX2_endItem_15 : decode cX2_endItem 15 = .ok (.putfield 41, 3) := by decide +kernel
theorem dX2_endItem_18 : decode cX2_endItem 18 = .ok (.aload_n 0, 1) := by decide +kernel
theorem dX2_endItem_19 : decode cX2_endItem 19 = .ok (.dup, 1) := by decide +kernel
theorem dX2_endItem_20 : decode cX2_endItem 20 = .ok (.getfield 44, 3) := by decide +kernel
theorem dX2_endItem_23 : decode cX2_endItem 23 = .ok (.iconst 1, 1) := by decide +kernel
theorem dX2_endItem_24 : decode cX2_endItem 24 = .ok (.iadd, 1) := by decide +kernel
theorem dX2_endItem_25 : decode cX2_endItem 25 = .ok (.putfield 44, 3) := by decide +kernel
theorem dX2_endItem_28 : decode cX2_endItem 28 = .ok (.return_, 1) := by decide +kernel
end
section
theorem dX3_init_0 : decode cX3_init 0 = .ok (.aload_n 0, 1) := by decide +kernel
theorem dX3_init_1 : decode cX3_init 1 = .ok (.invokespecial 3, 3) := by decide +kernel
theorem dX3_init_4 : decode cX3_init 4 = .ok (.aload_n 0, 1) := by decide +kernel
theorem dX3_init_5 : decode cX3_init 5 = .ok (.bipush 12, 2) := by decide +kernel
theorem dX3_init_7 : decode cX3_init 7 = .ok (.newarray .int, 2) := by decide +kernel
theorem dX3_init_9 : decode cX3_init 9 = .ok (.putfield 9, 3) := by decide +kernel
theorem dX3_init_12 : decode cX3_init 12 = .ok (.aload_n 0, 1) := by decide +kernel
theorem dX3_init_13 : decode cX3_init 13 = .ok (.bipush 12, 2) := by decide +kernel
theorem dX3_init_15 : decode cX3_init 15 = .ok (.newarray .int, 2) := by decide +kernel
theorem dX3_init_17 : decode cX3_init 17 = .ok (.putfield 15, 3) := by decide +kernel
theorem dX3_init_20 : decode cX3_init 20 = .ok (.aload_n 0, 1) := by decide +kernel
theorem dX3_init_21 : decode cX3_init 21 = .ok (.bipush 12, 2) := by decide +kernel
theorem dX3_init_23 : decode cX3_init 23 = .ok (.newarray .int, 2) := by decide +kernel
theorem dX3_init_25 : decode cX3_init 25 = .ok (.putfield 18, 3) := by decide +kernel
theorem dX3_init_28 : decode cX3_init 28 = .ok (.aload_n 0, 1) := by decide +kernel
theorem dX3_init_29 : decode cX3_init 29 = .ok (.bipush 12, 2) := by decide +kernel
theorem dX3_init_31 : decode cX3_init 31 = .ok (.newarray .int, 2) := by decide +kernel
theorem dX3_init_33 : decode cX3_init 33 = .ok (.putfield 21, 3) := by decide +kernel
theorem dX3_init_36 : decode cX3_init 36 = .ok (.aload_n 0, 1) := by decide +kernel
theorem dX3_init_37 : decode cX3_init 37 = .ok (.bipush 12, 2) := by decide +kernel
theorem dX3_init_39 : decode cX3_init 39 = .ok (.newarray .int, 2) := by decide +kernel
theorem dX3_init_41 : decode cX3_init 41 = .ok (.putfield 24, 3) := by decide +kernel
theorem dX3_init_44 : decode cX3_init 44 = .ok (.aload_n 0, 1) := by decide +kernel
theorem dX3_init_45 : decode cX3_init 45 = .ok (.bipush 12, 2) := by decide +kernel
theorem dX3_init_47 : decode cX3_init 47 = .ok (.newarray .int, 2) := by decide +kernel
theorem dX3_init_49 : decode cX3_init 49 = .ok (.putfield 27, 3) := by decide +kernel
theorem dX3_init_52 : decode cX3_init 52 = .ok (.return_, 1) := by decide +kernel
theorem dX3_copyFrom_0 : decode cX3_copyFrom 0 = .ok (.aload_n 0, 1) := by decide +kernel
theorem dX3_copyFrom_1 : decode cX3_copyFrom 1 = .ok (.aload_n 1, 1) := by decide +kernel
theorem dX3_copyFrom_2 : decode cX3_copyFrom 2 = .ok (.getfield 30, 3) := by decide +kernel
theorem dX3_copyFrom_5 : decode cX3_copyFrom 5 = .ok (.putfield 30, 3) := by decide +kernel
theorem dX3_copyFrom_8 : decode cX3_copyFrom 8 = .ok (.aload_n 1, 1) := by decide +kernel
theorem dX3_copyFrom_9 : decode cX3_copyFrom 9 = .ok (.getfield 9, 3) := by decide +kernel
theorem dX3_copyFrom_12 : decode cX3_copyFrom 12 = .ok (.aload_n 0, 1) := by decide +kernel
theorem dX3_copyFrom_13 : decode cX3_copyFrom 13 = .ok (.getfield 9, 3) := by decide +kernel
theorem dX3_copyFrom_16 : decode cX3_copyFrom 16 = .ok (.invokestatic 34, 3) := by decide +kernel
theorem dX3_copyFrom_19 : decode cX3_copyFrom 19 = .ok (.aload_n 1, 1) := by decide +kernel
theorem dX3_copyFrom_20 : decode cX3_copyFrom 20 = .ok (.getfield 15, 3) := by decide +kernel
theorem dX3_copyFrom_23 : decode cX3_copyFrom 23 = .ok (.aload_n 0, 1) := by decide +kernel
theorem dX3_copyFrom_24 : decode cX3_copyFrom 24 = .ok (.getfield 15, 3) := by decide +kernel
theorem dX3_copyFrom_27 : decode cX3_copyFrom 27 = .ok (.invokestatic 34, 3) := by decide +kernel
theorem dX3_copyFrom_30 : decode cX3_copyFrom 30 = .ok (.aload_n 1, 1) := by decide +kernel
theorem dX3_copyFrom_31 : decode cX3_copyFrom 31 = .ok (.getfield 18, 3) := by decide +kernel
theorem dX3_copyFrom_34 : decode cX3_copyFrom 34 = .ok (.aload_n 0, 1) := by decide +kernel
theorem dX3_copyFrom_35 : decode cX3_copyFrom 35 = .ok (.getfield 18, 3) := by decide +kernel
theorem dX3_copyFrom_38 : decode cX3_copyFrom 38 = .ok (.invokestatic 34, 3) := by decide +kernel
theorem dX3_copyFrom_41 : decode cX3_copyFrom 41 = .ok (.aload_n 1, 1) := by decide +kernel
theorem dX3_copyFrom_42 : decode cX3_copyFrom 42 = .ok (.getfield 21, 3) := by decide +kernel
theorem dX3_copyFrom_45 : decode cX3_copyFrom 45 = .ok (.aload_n 0, 1) := by decide +kernel
theorem dX3_copyFrom_46 : decode cX3_copyFrom 46 = .ok (.getfield 21, 3) := by decide +kernel
theorem dX3_copyFrom_49 : decode cX3_copyFrom 49 = .ok (.invokestatic 34, 3) := by decide +kernel
theorem dX3_copyFrom_52 : decode cX3_copyFrom 52 = .ok (.aload_n 1, 1) := by decide +kernel
theorem dX3_copyFrom_53 : decode cX3_copyFrom 53 = .ok (.getfield 24, 3) := by decide +kernel
theorem dX3_copyFrom_56 : decode cX3_copyFrom 56 = .ok (.aload_n 0, 1) := by decide +kernel
theorem dX3_copyFrom_57 : decode cX3_copyFrom 57 = .ok (.getfield 24, 3) := by decide +kernel
theorem dX3_copyFrom_60 : decode cX3_copyFrom 60 = .ok (.invokestatic 34, 3) := by decide +kernel
theorem dX3_copyFrom_63 : decode cX3_copyFrom 63 = .ok (.aload_n 1, 1) := by decide +kernel
theorem dX3_copyFrom_64 : decode cX3_copyFrom 64 = .ok (.getfield 27, 3) := by decide +kernel
theorem dX3_copyFrom_67 : decode cX3_copyFrom 67 = .ok (.aload_n 0, 1) := by decide +kernel
theorem dX3_copyFrom_68 : decode cX3_copyFrom 68 = .ok (.getfield 27, 3) := by decide +kernel
theorem dX3_copyFrom_71 : decode cX3_copyFrom 71 = .ok (.invokestatic 34, 3) := by decide +kernel
theorem dX3_copyFrom_74 : decode cX3_copyFrom 74 = .ok (.return_, 1) := by decide +kernel
theorem dX3_passByline_0 : decode cX3_passByline 0 = .ok (.aload_n 0, 1) := by decide +kernel
theorem dX3_passByline_1 : decode cX3_passByline 1 = .ok (.getfield 9, 3) := by decide +kernel
theorem dX3_passByline_4 : decode cX3_passByline 4 = .ok (.iload_n 2, 1) := by decide +kernel
theorem dX3_passByline_5 : decode cX3_passByline 5 = .ok (.dup2, 1) := by decide +kernel
theorem dX3_passByline_6 : decode cX3_passByline 6 = .ok (.iaload, 1) := by decide +kernel
theorem dX3_passByline_7 : decode cX3_passByline 7 = .ok (.iload_n 3, 1) := by decide +kernel
theorem dX3_passByline_8 : decode cX3_passByline 8 = .ok (.isub, 1) := by decide +kernel
theorem dX3_passByline_9 : decode cX3_passByline 9 = .ok (.iastore, 1) := by decide +kernel
theorem dX3_passByline_10 : decode cX3_passByline 10 = .ok (.aload_n 0, 1) := by decide +kernel
theorem dX3_passByline_11 : decode cX3_passByline 11 = .ok (.getfield 9, 3) := by decide +kernel
theorem dX3_passByline_14 : decode cX3_passByline 14 = .ok (.aload_n 0, 1) := by decide +kernel
theorem dX3_passByline_15 : decode cX3_passByline 15 = .ok (.getfield 21, 3) := by decide +kernel
theorem dX3_passByline_18 : decode cX3_passByline 18 = .ok (.iload_n 1, 1) := by decide +kernel
theorem dX3_passByline_19 : decode cX3_passByline 19 = .ok (.iaload, 1) := by decide +kernel
theorem dX3_passByline_20 : decode cX3_passByline 20 = .ok (.dup2, 1) := by decide +kernel
theorem dX3_passByline_21 : decode cX3_passByline 21 = .ok (.iaload, 1) := by decide +kernel
theorem dX3_passByline_22 : decode cX3_passByline 22 = .ok (.iload_n 3, 1) := by decide +kernel
theorem dX3_passByline_23 : decode cX3_passByline 23 = .ok (.iadd, 1) := by decide +kernel
theorem dX3_passByline_24 : decode cX3_passByline 24 = .ok (.iastore, 1) := by decide +kernel
theorem dX3_passByline_25 : decode cX3_passByline 25 = .ok (.aload_n 0, 1) := by decide +kernel
theorem dX3_passByline_26 : decode cX3_passByline 26 = .ok (.getfield 21, 3) := by decide +kernel
theorem dX3_passByline_29 : decode cX3_passByline 29 = .ok (.iload_n 1, 1) := by decide +kernel
theorem dX3_passByline_30 : decode cX3_passByline 30 = .ok (.iload_n 2, 1) := by decide +kernel
theorem dX3_passByline_31 : decode cX3_passByline 31 = .ok (.iastore, 1) := by decide +kernel
theorem dX3_passByline_32 : decode cX3_passByline 32 = .ok (.aload_n 0, 1) := by decide +kernel
theorem dX3_passByline_33 : decode cX3_passByline 33 = .ok (.getfield 24, 3) := by decide +kernel
theorem dX3_passByline_36 : decode cX3_passByline 36 = .ok (.iload_n 1, 1) := by decide +kernel
theorem dX3_passByline_37 : decode cX3_passByline 37 = .ok (.iload_n 3, 1) := by decide +kernel
theorem dX3_passByline_38 : decode cX3_passByline 38 = .ok (.iastore, 1) := by decide +kernel
theorem dX3_passByline_39 : decode cX3_passByline 39 = .ok (.return_, 1) := by decide +kernel
theorem dX3_earn_0 : decode cX3_earn 0 = .ok (.iload_n 2, 1) := by decide +kernel
theorem dX3_earn_1 : decode cX3_earn 1 = .ok (.aload_n 0, 1) := by decide +kernel
theorem dX3_earn_2 : decode cX3_earn 2 = .ok (.getfield 15, 3) := by decide +kernel
theorem dX3_earn_5 : decode cX3_earn 5 = .ok (.iload_n 1, 1) := by decide +kernel
theorem dX3_earn_6 : decode cX3_earn 6 = .ok (.iaload, 1) := by decide +kernel
theorem dX3_earn_7 : decode cX3_earn 7 = .ok (.invokestatic 38, 3) := by decide +kernel
theorem dX3_earn_10 : decode cX3_earn 10 = .ok (.istore_n 3, 1) := by decide +kernel
theorem dX3_earn_11 : decode cX3_earn 11 = .ok (.aload_n 0, 1) := by decide +kernel
theorem dX3_earn_12 : decode cX3_earn 12 = .ok (.getfield 18, 3) := by decide +kernel
theorem dX3_earn_15 : decode cX3_earn 15 = .ok (.iload_n 1, 1) := by decide +kernel
theorem dX3_earn_16 : decode cX3_earn 16 = .ok (.dup2, 1) := by decide +kernel
theorem dX3_earn_17 : decode cX3_earn 17 = .ok (.iaload, 1) := by decide +kernel
theorem dX3_earn_18 : decode cX3_earn 18 = .ok (.iload_n 2, 1) := by decide +kernel
theorem dX3_earn_19 : decode cX3_earn 19 = .ok (.iadd, 1) := by decide +kernel
theorem dX3_earn_20 : decode cX3_earn 20 = .ok (.iastore, 1) := by decide +kernel
theorem dX3_earn_21 : decode cX3_earn 21 = .ok (.aload_n 0, 1) := by decide +kernel
theorem dX3_earn_22 : decode cX3_earn 22 = .ok (.getfield 15, 3) := by decide +kernel
theorem dX3_earn_25 : decode cX3_earn 25 = .ok (.iload_n 1, 1) := by decide +kernel
theorem dX3_earn_26 : decode cX3_earn 26 = .ok (.dup2, 1) := by decide +kernel
theorem dX3_earn_27 : decode cX3_earn 27 = .ok (.iaload, 1) := by decide +kernel
theorem dX3_earn_28 : decode cX3_earn 28 = .ok (.iload_n 3, 1) := by decide +kernel
theorem dX3_earn_29 : decode cX3_earn 29 = .ok (.isub, 1) := by decide +kernel
theorem dX3_earn_30 : decode cX3_earn 30 = .ok (.iastore, 1) := by decide +kernel
theorem dX3_earn_31 : decode cX3_earn 31 = .ok (.aload_n 0, 1) := by decide +kernel
theorem dX3_earn_32 : decode cX3_earn 32 = .ok (.getfield 9, 3) := by decide +kernel
theorem dX3_earn_35 : decode cX3_earn 35 = .ok (.iload_n 1, 1) := by decide +kernel
theorem dX3_earn_36 : decode cX3_earn 36 = .ok (.dup2, 1) := by decide +kernel
theorem dX3_earn_37 : decode cX3_earn 37 = .ok (.iaload, 1) := by decide +kernel
theorem dX3_earn_38 : decode cX3_earn 38 = .ok (.iload_n 2, 1) := by decide +kernel
theorem dX3_earn_39 : decode cX3_earn 39 = .ok (.iload_n 3, 1) := by decide +kernel
theorem dX3_earn_40 : decode cX3_earn 40 = .ok (.isub, 1) := by decide +kernel
theorem dX3_earn_41 : decode cX3_earn 41 = .ok (.iadd, 1) := by decide +kernel
theorem dX3_earn_42 : decode cX3_earn 42 = .ok (.iastore, 1) := by decide +kernel
theorem dX3_earn_43 : decode cX3_earn 43 = .ok (.iload_n 3, 1) := by decide +kernel
theorem dX3_earn_44 : decode cX3_earn 44 = .ok (.ireturn, 1) := by decide +kernel
theorem dX3_bylinesOf_0 : decode cX3_bylinesOf 0 = .ok (.iconst 0, 1) := by decide +kernel
theorem dX3_bylinesOf_1 : decode cX3_bylinesOf 1 = .ok (.istore_n 2, 1) := by decide +kernel
theorem dX3_bylinesOf_2 : decode cX3_bylinesOf 2 = .ok (.iconst 0, 1) := by decide +kernel
theorem dX3_bylinesOf_3 : decode cX3_bylinesOf 3 = .ok (.istore_n 3, 1) := by decide +kernel
theorem dX3_bylinesOf_4 : decode cX3_bylinesOf 4 = .ok (.iload_n 3, 1) := by decide +kernel
theorem dX3_bylinesOf_5 : decode cX3_bylinesOf 5 = .ok (.aload_n 0, 1) := by decide +kernel
theorem dX3_bylinesOf_6 : decode cX3_bylinesOf 6 = .ok (.getfield 30, 3) := by decide +kernel
theorem dX3_bylinesOf_9 : decode cX3_bylinesOf 9 = .ok (.if_icmp .ge 27, 3) := by decide +kernel
theorem dX3_bylinesOf_12 : decode cX3_bylinesOf 12 = .ok (.iload_n 2, 1) := by decide +kernel
theorem dX3_bylinesOf_13 : decode cX3_bylinesOf 13 = .ok (.aload_n 0, 1) := by decide +kernel
theorem dX3_bylinesOf_14 : decode cX3_bylinesOf 14 = .ok (.getfield 21, 3) := by decide +kernel
theorem dX3_bylinesOf_17 : decode cX3_bylinesOf 17 = .ok (.iload_n 3, 1) := by decide +kernel
theorem dX3_bylinesOf_18 : decode cX3_bylinesOf 18 = .ok (.iaload, 1) := by decide +kernel
theorem dX3_bylinesOf_19 : decode cX3_bylinesOf 19 = .ok (.iload_n 1, 1) := by decide +kernel
theorem dX3_bylinesOf_20 : decode cX3_bylinesOf 20 = .ok (.if_icmp .ne 7, 3) := by decide +kernel
theorem dX3_bylinesOf_23 : decode cX3_bylinesOf 23 = .ok (.iconst 1, 1) := by decide +kernel
theorem dX3_bylinesOf_24 : decode cX3_bylinesOf 24 = .ok (.goto 4, 3) := by decide +kernel
theorem dX3_bylinesOf_27 : decode cX3_bylinesOf 27 = .ok (.iconst 0, 1) := by decide +kernel
theorem dX3_bylinesOf_28 : decode cX3_bylinesOf 28 = .ok (.iadd, 1) := by decide +kernel
theorem dX3_bylinesOf_29 : decode cX3_bylinesOf 29 = .ok (.istore_n 2, 1) := by decide +kernel
theorem dX3_bylinesOf_30 : decode cX3_bylinesOf 30 = .ok (.iinc 3 1, 3) := by decide +kernel
theorem dX3_bylinesOf_33 : decode cX3_bylinesOf 33 = .ok (.goto (-29), 3) := by decide +kernel
theorem dX3_bylinesOf_36 : decode cX3_bylinesOf 36 = .ok (.iload_n 2, 1) := by decide +kernel
theorem dX3_bylinesOf_37 : decode cX3_bylinesOf 37 = .ok (.ireturn, 1) := by decide +kernel
theorem dX3_bylinesAway_0 : decode cX3_bylinesAway 0 = .ok (.iconst 0, 1) := by decide +kernel
theorem dX3_bylinesAway_1 : decode cX3_bylinesAway 1 = .ok (.istore_n 1, 1) := by decide +kernel
theorem dX3_bylinesAway_2 : decode cX3_bylinesAway 2 = .ok (.iconst 0, 1) := by decide +kernel
theorem dX3_bylinesAway_3 : decode cX3_bylinesAway 3 = .ok (.istore_n 2, 1) := by decide +kernel
theorem dX3_bylinesAway_4 : decode cX3_bylinesAway 4 = .ok (.iload_n 2, 1) := by decide +kernel
theorem dX3_bylinesAway_5 : decode cX3_bylinesAway 5 = .ok (.aload_n 0, 1) := by decide +kernel
theorem dX3_bylinesAway_6 : decode cX3_bylinesAway 6 = .ok (.getfield 30, 3) := by decide +kernel
theorem dX3_bylinesAway_9 : decode cX3_bylinesAway 9 = .ok (.if_icmp .ge 27, 3) := by decide +kernel
theorem dX3_bylinesAway_12 : decode cX3_bylinesAway 12 = .ok (.iload_n 1, 1) := by decide +kernel
theorem dX3_bylinesAway_13 : decode cX3_bylinesAway 13 = .ok (.aload_n 0, 1) := by decide +kernel
theorem dX3_bylinesAway_14 : decode cX3_bylinesAway 14 = .ok (.getfield 21, 3) := by decide +kernel
theorem dX3_bylinesAway_17 : decode cX3_bylinesAway 17 = .ok (.iload_n 2, 1) := by decide +kernel
theorem dX3_bylinesAway_18 : decode cX3_bylinesAway 18 = .ok (.iaload, 1) := by decide +kernel
theorem dX3_bylinesAway_19 : decode cX3_bylinesAway 19 = .ok (.iload_n 2, 1) := by decide +kernel
theorem dX3_bylinesAway_20 : decode cX3_bylinesAway 20 = .ok (.if_icmp .eq 7, 3) := by decide +kernel
theorem dX3_bylinesAway_23 : decode cX3_bylinesAway 23 = .ok (.iconst 1, 1) := by decide +kernel
theorem dX3_bylinesAway_24 : decode cX3_bylinesAway 24 = .ok (.goto 4, 3) := by decide +kernel
theorem dX3_bylinesAway_27 : decode cX3_bylinesAway 27 = .ok (.iconst 0, 1) := by decide +kernel
theorem dX3_bylinesAway_28 : decode cX3_bylinesAway 28 = .ok (.iadd, 1) := by decide +kernel
theorem dX3_bylinesAway_29 : decode cX3_bylinesAway 29 = .ok (.istore_n 1, 1) := by decide +kernel
theorem dX3_bylinesAway_30 : decode cX3_bylinesAway 30 = .ok (.iinc 2 1, 3) := by decide +kernel
theorem dX3_bylinesAway_33 : decode cX3_bylinesAway 33 = .ok (.goto (-29), 3) := by decide +kernel
theorem dX3_bylinesAway_36 : decode cX3_bylinesAway 36 = .ok (.iload_n 1, 1) := by decide +kernel
theorem dX3_bylinesAway_37 : decode cX3_bylinesAway 37 = .ok (.ireturn, 1) := by decide +kernel
theorem dX3_placeOf_0 : decode cX3_placeOf 0 = .ok (.iconst 0, 1) := by decide +kernel
theorem dX3_placeOf_1 : decode cX3_placeOf 1 = .ok (.istore_n 2, 1) := by decide +kernel
theorem dX3_placeOf_2 : decode cX3_placeOf 2 = .ok (.iconst 0, 1) := by decide +kernel
theorem dX3_placeOf_3 : decode cX3_placeOf 3 = .ok (.istore_n 3, 1) := by decide +kernel
theorem dX3_placeOf_4 : decode cX3_placeOf 4 = .ok (.iload_n 3, 1) := by decide +kernel
theorem dX3_placeOf_5 : decode cX3_placeOf 5 = .ok (.aload_n 0, 1) := by decide +kernel
theorem dX3_placeOf_6 : decode cX3_placeOf 6 = .ok (.getfield 30, 3) := by decide +kernel
theorem dX3_placeOf_9 : decode cX3_placeOf 9 = .ok (.if_icmp .ge 64, 3) := by decide +kernel
theorem dX3_placeOf_12 : decode cX3_placeOf 12 = .ok (.aload_n 0, 1) := by decide +kernel
theorem dX3_placeOf_13 : decode cX3_placeOf 13 = .ok (.getfield 9, 3) := by decide +kernel
theorem dX3_placeOf_16 : decode cX3_placeOf 16 = .ok (.iload_n 3, 1) := by decide +kernel
theorem dX3_placeOf_17 : decode cX3_placeOf 17 = .ok (.iaload, 1) := by decide +kernel
theorem dX3_placeOf_18 : decode cX3_placeOf 18 = .ok (.aload_n 0, 1) := by decide +kernel
theorem dX3_placeOf_19 : decode cX3_placeOf 19 = .ok (.getfield 9, 3) := by decide +kernel
theorem dX3_placeOf_22 : decode cX3_placeOf 22 = .ok (.iload_n 1, 1) := by decide +kernel
theorem dX3_placeOf_23 : decode cX3_placeOf 23 = .ok (.iaload, 1) := by decide +kernel
theorem dX3_placeOf_24 : decode cX3_placeOf 24 = .ok (.if_icmp .gt 23, 3) := by decide +kernel
theorem dX3_placeOf_27 : decode cX3_placeOf 27 = .ok (.aload_n 0, 1) := by decide +kernel
theorem dX3_placeOf_28 : decode cX3_placeOf 28 = .ok (.getfield 9, 3) := by decide +kernel
theorem dX3_placeOf_31 : decode cX3_placeOf 31 = .ok (.iload_n 3, 1) := by decide +kernel
theorem dX3_placeOf_32 : decode cX3_placeOf 32 = .ok (.iaload, 1) := by decide +kernel
theorem dX3_placeOf_33 : decode cX3_placeOf 33 = .ok (.aload_n 0, 1) := by decide +kernel
theorem dX3_placeOf_34 : decode cX3_placeOf 34 = .ok (.getfield 9, 3) := by decide +kernel
theorem dX3_placeOf_37 : decode cX3_placeOf 37 = .ok (.iload_n 1, 1) := by decide +kernel
theorem dX3_placeOf_38 : decode cX3_placeOf 38 = .ok (.iaload, 1) := by decide +kernel
theorem dX3_placeOf_39 : decode cX3_placeOf 39 = .ok (.if_icmp .ne 12, 3) := by decide +kernel
theorem dX3_placeOf_42 : decode cX3_placeOf 42 = .ok (.iload_n 3, 1) := by decide +kernel
theorem dX3_placeOf_43 : decode cX3_placeOf 43 = .ok (.iload_n 1, 1) := by decide +kernel
theorem dX3_placeOf_44 : decode cX3_placeOf 44 = .ok (.if_icmp .ge 7, 3) := by decide +kernel
theorem dX3_placeOf_47 : decode cX3_placeOf 47 = .ok (.iconst 1, 1) := by decide +kernel
theorem dX3_placeOf_48 : decode cX3_placeOf 48 = .ok (.goto 4, 3) := by decide +kernel
theorem dX3_placeOf_51 : decode cX3_placeOf 51 = .ok (.iconst 0, 1) := by decide +kernel
theorem dX3_placeOf_52 : decode cX3_placeOf 52 = .ok (.istore 4, 2) := by decide +kernel
theorem dX3_placeOf_54 : decode cX3_placeOf 54 = .ok (.iload_n 2, 1) := by decide +kernel
theorem dX3_placeOf_55 : decode cX3_placeOf 55 = .ok (.iload 4, 2) := by decide +kernel
theorem dX3_placeOf_57 : decode cX3_placeOf 57 = .ok (.ifCond .eq 7, 3) := by decide +kernel
theorem dX3_placeOf_60 : decode cX3_placeOf 60 = .ok (.iconst 1, 1) := by decide +kernel
theorem dX3_placeOf_61 : decode cX3_placeOf 61 = .ok (.goto 4, 3) := by decide +kernel
theorem dX3_placeOf_64 : decode cX3_placeOf 64 = .ok (.iconst 0, 1) := by decide +kernel
theorem dX3_placeOf_65 : decode cX3_placeOf 65 = .ok (.iadd, 1) := by decide +kernel
theorem dX3_placeOf_66 : decode cX3_placeOf 66 = .ok (.istore_n 2, 1) := by decide +kernel
theorem dX3_placeOf_67 : decode cX3_placeOf 67 = .ok (.iinc 3 1, 3) := by decide +kernel
theorem dX3_placeOf_70 : decode cX3_placeOf 70 = .ok (.goto (-66), 3) := by decide +kernel
theorem dX3_placeOf_73 : decode cX3_placeOf 73 = .ok (.iload_n 2, 1) := by decide +kernel
theorem dX3_placeOf_74 : decode cX3_placeOf 74 = .ok (.ireturn, 1) := by decide +kernel
theorem dX3_differences_0 : decode cX3_differences 0 = .ok (.iconst 0, 1) := by decide +kernel
theorem dX3_differences_1 : decode cX3_differences 1 = .ok (.istore_n 1, 1) := by decide +kernel
theorem dX3_differences_2 : decode cX3_differences 2 = .ok (.iconst 0, 1) := by decide +kernel
theorem dX3_differences_3 : decode cX3_differences 3 = .ok (.istore_n 2, 1) := by decide +kernel
theorem dX3_differences_4 : decode cX3_differences 4 = .ok (.iload_n 2, 1) := by decide +kernel
theorem dX3_differences_5 : decode cX3_differences 5 = .ok (.aload_n 0, 1) := by decide +kernel
theorem dX3_differences_6 : decode cX3_differences 6 = .ok (.getfield 30, 3) := by decide +kernel
theorem dX3_differences_9 : decode cX3_differences 9 = .ok (.if_icmp .ge 46, 3) := by decide +kernel
theorem dX3_differences_12 : decode cX3_differences 12 = .ok (.iload_n 2, 1) := by decide +kernel
theorem dX3_differences_13 : decode cX3_differences 13 = .ok (.iconst 1, 1) := by decide +kernel
theorem dX3_differences_14 : decode cX3_differences 14 = .ok (.iadd, 1) := by decide +kernel
theorem dX3_differences_15 : decode cX3_differences 15 = .ok (.istore_n 3, 1) := by decide +kernel
theorem dX3_differences_16 : decode cX3_differences 16 = .ok (.iload_n 3, 1) := by decide +kernel
theorem dX3_differences_17 : decode cX3_differences 17 = .ok (.aload_n 0, 1) := by decide +kernel
theorem dX3_differences_18 : decode cX3_differences 18 = .ok (.getfield 30, 3) := by decide +kernel
theorem dX3_differences_21 : decode cX3_differences 21 = .ok (.if_icmp .ge 28, 3) := by decide +kernel
theorem dX3_differences_24 : decode cX3_differences 24 = .ok (.iload_n 1, 1) := by decide +kernel
theorem dX3_differences_25 : decode cX3_differences 25 = .ok (.aload_n 0, 1) := by decide +kernel
theorem dX3_differences_26 : decode cX3_differences 26 = .ok (.getfield 9, 3) := by decide +kernel
theorem dX3_differences_29 : decode cX3_differences 29 = .ok (.iload_n 2, 1) := by decide +kernel
theorem dX3_differences_30 : decode cX3_differences 30 = .ok (.iaload, 1) := by decide +kernel
theorem dX3_differences_31 : decode cX3_differences 31 = .ok (.aload_n 0, 1) := by decide +kernel
theorem dX3_differences_32 : decode cX3_differences 32 = .ok (.getfield 9, 3) := by decide +kernel
theorem dX3_differences_35 : decode cX3_differences 35 = .ok (.iload_n 3, 1) := by decide +kernel
theorem dX3_differences_36 : decode cX3_differences 36 = .ok (.iaload, 1) := by decide +kernel
theorem dX3_differences_37 : decode cX3_differences 37 = .ok (.isub, 1) := by decide +kernel
theorem dX3_differences_38 : decode cX3_differences 38 = .ok (.invokestatic 42, 3) := by decide +kernel
theorem dX3_differences_41 : decode cX3_differences 41 = .ok (.iadd, 1) := by decide +kernel
theorem dX3_differences_42 : decode cX3_differences 42 = .ok (.istore_n 1, 1) := by decide +kernel
theorem dX3_differences_43 : decode cX3_differences 43 = .ok (.iinc 3 1, 3) := by decide +kernel
theorem dX3_differences_46 : decode cX3_differences 46 = .ok (.goto (-30), 3) := by decide +kernel
theorem dX3_differences_49 : decode cX3_differences 49 = .ok (.iinc 2 1, 3) := by decide +kernel
theorem dX3_differences_52 : decode cX3_differences 52 = .ok (.goto (-48), 3) := by decide +kernel
theorem dX3_differences_55 : decode cX3_differences 55 = .ok (.iload_n 1, 1) := by decide +kernel
theorem dX3_differences_56 : decode cX3_differences 56 = .ok (.ireturn, 1) := by decide +kernel
end
section
theorem dX4_init_0 : decode cX4_init 0 = .ok (.aload_n 0, 1) := by decide +kernel
theorem dX4_init_1 : decode cX4_init 1 = .ok (.invokespecial 3, 3) := by decide +kernel
theorem dX4_init_4 : decode cX4_init 4 = .ok (.aload_n 0, 1) := by decide +kernel
theorem dX4_init_5 : decode cX4_init 5 = .ok (.bipush 20, 2) := by decide +kernel
theorem dX4_init_7 : decode cX4_init 7 = .ok (.newarray .int, 2) := by decide +kernel
theorem dX4_init_9 : decode cX4_init 9 = .ok (.putfield 9, 3) := by decide +kernel
theorem dX4_init_12 : decode cX4_init 12 = .ok (.aload_n 0, 1) := by decide +kernel
theorem dX4_init_13 : decode cX4_init 13 = .ok (.bipush 20, 2) := by decide +kernel
theorem dX4_init_15 : decode cX4_init 15 = .ok (.newarray .int, 2) := by decide +kernel
theorem dX4_init_17 : decode cX4_init 17 = .ok (.putfield 15, 3) := by decide +kernel
theorem dX4_init_20 : decode cX4_init 20 = .ok (.aload_n 0, 1) := by decide +kernel
theorem dX4_init_21 : decode cX4_init 21 = .ok (.bipush 20, 2) := by decide +kernel
theorem dX4_init_23 : decode cX4_init 23 = .ok (.newarray .int, 2) := by decide +kernel
theorem dX4_init_25 : decode cX4_init 25 = .ok (.putfield 18, 3) := by decide +kernel
theorem dX4_init_28 : decode cX4_init 28 = .ok (.aload_n 0, 1) := by decide +kernel
theorem dX4_init_29 : decode cX4_init 29 = .ok (.bipush 20, 2) := by decide +kernel
theorem dX4_init_31 : decode cX4_init 31 = .ok (.newarray .int, 2) := by decide +kernel
theorem dX4_init_33 : decode cX4_init 33 = .ok (.putfield 21, 3) := by decide +kernel
theorem dX4_init_36 : decode cX4_init 36 = .ok (.aload_n 0, 1) := by decide +kernel
theorem dX4_init_37 : decode cX4_init 37 = .ok (.bipush 20, 2) := by decide +kernel
theorem dX4_init_39 : decode cX4_init 39 = .ok (.newarray .int, 2) := by decide +kernel
theorem dX4_init_41 : decode cX4_init 41 = .ok (.putfield 24, 3) := by decide +kernel
theorem dX4_init_44 : decode cX4_init 44 = .ok (.aload_n 0, 1) := by decide +kernel
theorem dX4_init_45 : decode cX4_init 45 = .ok (.sipush 240, 3) := by decide +kernel
theorem dX4_init_48 : decode cX4_init 48 = .ok (.newarray .int, 2) := by decide +kernel
theorem dX4_init_50 : decode cX4_init 50 = .ok (.putfield 27, 3) := by decide +kernel
theorem dX4_init_53 : decode cX4_init 53 = .ok (.aload_n 0, 1) := by decide +kernel
theorem dX4_init_54 : decode cX4_init 54 = .ok (.sipush 240, 3) := by decide +kernel
theorem dX4_init_57 : decode cX4_init 57 = .ok (.newarray .int, 2) := by decide +kernel
theorem dX4_init_59 : decode cX4_init 59 = .ok (.putfield 30, 3) := by decide +kernel
theorem dX4_init_62 : decode cX4_init 62 = .ok (.aload_n 0, 1) := by decide +kernel
theorem dX4_init_63 : decode cX4_init 63 = .ok (.sipush 240, 3) := by decide +kernel
theorem dX4_init_66 : decode cX4_init 66 = .ok (.newarray .int, 2) := by decide +kernel
theorem dX4_init_68 : decode cX4_init 68 = .ok (.putfield 33, 3) := by decide +kernel
theorem dX4_init_71 : decode cX4_init 71 = .ok (.return_, 1) := by decide +kernel
theorem dX4_copyFrom_0 : decode cX4_copyFrom 0 = .ok (.aload_n 0, 1) := by decide +kernel
theorem dX4_copyFrom_1 : decode cX4_copyFrom 1 = .ok (.aload_n 1, 1) := by decide +kernel
theorem dX4_copyFrom_2 : decode cX4_copyFrom 2 = .ok (.getfield 36, 3) := by decide +kernel
theorem dX4_copyFrom_5 : decode cX4_copyFrom 5 = .ok (.putfield 36, 3) := by decide +kernel
theorem dX4_copyFrom_8 : decode cX4_copyFrom 8 = .ok (.aload_n 1, 1) := by decide +kernel
theorem dX4_copyFrom_9 : decode cX4_copyFrom 9 = .ok (.getfield 9, 3) := by decide +kernel
theorem dX4_copyFrom_12 : decode cX4_copyFrom 12 = .ok (.aload_n 0, 1) := by decide +kernel
theorem dX4_copyFrom_13 : decode cX4_copyFrom 13 = .ok (.getfield 9, 3) := by decide +kernel
theorem dX4_copyFrom_16 : decode cX4_copyFrom 16 = .ok (.invokestatic 40, 3) := by decide +kernel
theorem dX4_copyFrom_19 : decode cX4_copyFrom 19 = .ok (.aload_n 1, 1) := by decide +kernel
theorem dX4_copyFrom_20 : decode cX4_copyFrom 20 = .ok (.getfield 15, 3) := by decide +kernel
theorem dX4_copyFrom_23 : decode cX4_copyFrom 23 = .ok (.aload_n 0, 1) := by decide +kernel
theorem dX4_copyFrom_24 : decode cX4_copyFrom 24 = .ok (.getfield 15, 3) := by decide +kernel
theorem dX4_copyFrom_27 : decode cX4_copyFrom 27 = .ok (.invokestatic 40, 3) := by decide +kernel
theorem dX4_copyFrom_30 : decode cX4_copyFrom 30 = .ok (.aload_n 1, 1) := by decide +kernel
theorem dX4_copyFrom_31 : decode cX4_copyFrom 31 = .ok (.getfield 18, 3) := by decide +kernel
theorem dX4_copyFrom_34 : decode cX4_copyFrom 34 = .ok (.aload_n 0, 1) := by decide +kernel
theorem dX4_copyFrom_35 : decode cX4_copyFrom 35 = .ok (.getfield 18, 3) := by decide +kernel
theorem dX4_copyFrom_38 : decode cX4_copyFrom 38 = .ok (.invokestatic 40, 3) := by decide +kernel
theorem dX4_copyFrom_41 : decode cX4_copyFrom 41 = .ok (.aload_n 1, 1) := by decide +kernel
theorem dX4_copyFrom_42 : decode cX4_copyFrom 42 = .ok (.getfield 21, 3) := by decide +kernel
theorem dX4_copyFrom_45 : decode cX4_copyFrom 45 = .ok (.aload_n 0, 1) := by decide +kernel
theorem dX4_copyFrom_46 : decode cX4_copyFrom 46 = .ok (.getfield 21, 3) := by decide +kernel
theorem dX4_copyFrom_49 : decode cX4_copyFrom 49 = .ok (.invokestatic 40, 3) := by decide +kernel
theorem dX4_copyFrom_52 : decode cX4_copyFrom 52 = .ok (.aload_n 1, 1) := by decide +kernel
theorem dX4_copyFrom_53 : decode cX4_copyFrom 53 = .ok (.getfield 24, 3) := by decide +kernel
theorem dX4_copyFrom_56 : decode cX4_copyFrom 56 = .ok (.aload_n 0, 1) := by decide +kernel
theorem dX4_copyFrom_57 : decode cX4_copyFrom 57 = .ok (.getfield 24, 3) := by decide +kernel
theorem dX4_copyFrom_60 : decode cX4_copyFrom 60 = .ok (.invokestatic 40, 3) := by decide +kernel
theorem dX4_copyFrom_63 : decode cX4_copyFrom 63 = .ok (.aload_n 1, 1) := by decide +kernel
theorem dX4_copyFrom_64 : decode cX4_copyFrom 64 = .ok (.getfield 27, 3) := by decide +kernel
theorem dX4_copyFrom_67 : decode cX4_copyFrom 67 = .ok (.aload_n 0, 1) := by decide +kernel
theorem dX4_copyFrom_68 : decode cX4_copyFrom 68 = .ok (.getfield 27, 3) := by decide +kernel
theorem dX4_copyFrom_71 : decode cX4_copyFrom 71 = .ok (.invokestatic 40, 3) := by decide +kernel
theorem dX4_copyFrom_74 : decode cX4_copyFrom 74 = .ok (.aload_n 1, 1) := by decide +kernel
theorem dX4_copyFrom_75 : decode cX4_copyFrom 75 = .ok (.getfield 30, 3) := by decide +kernel
theorem dX4_copyFrom_78 : decode cX4_copyFrom 78 = .ok (.aload_n 0, 1) := by decide +kernel
theorem dX4_copyFrom_79 : decode cX4_copyFrom 79 = .ok (.getfield 30, 3) := by decide +kernel
theorem dX4_copyFrom_82 : decode cX4_copyFrom 82 = .ok (.invokestatic 40, 3) := by decide +kernel
theorem dX4_copyFrom_85 : decode cX4_copyFrom 85 = .ok (.aload_n 1, 1) := by decide +kernel
theorem dX4_copyFrom_86 : decode cX4_copyFrom 86 = .ok (.getfield 33, 3) := by decide +kernel
theorem dX4_copyFrom_89 : decode cX4_copyFrom 89 = .ok (.aload_n 0, 1) := by decide +kernel
theorem dX4_copyFrom_90 : decode cX4_copyFrom 90 = .ok (.getfield 33, 3) := by decide +kernel
theorem dX4_copyFrom_93 : decode cX4_copyFrom 93 = .ok (.invokestatic 40, 3) := by decide +kernel
theorem dX4_copyFrom_96 : decode cX4_copyFrom 96 = .ok (.return_, 1) := by decide +kernel
theorem dX4_begin_0 : decode cX4_begin 0 = .ok (.aload_n 0, 1) := by decide +kernel
theorem dX4_begin_1 : decode cX4_begin 1 = .ok (.getfield 36, 3) := by decide +kernel
theorem dX4_begin_4 : decode cX4_begin 4 = .ok (.istore_n 3, 1) := by decide +kernel
theorem dX4_begin_5 : decode cX4_begin 5 = .ok (.aload_n 0, 1) := by decide +kernel
theorem dX4_begin_6 : decode cX4_begin 6 = .ok (.getfield 9, 3) := by decide +kernel
theorem dX4_begin_9 : decode cX4_begin 9 = .ok (.iload_n 3, 1) := by decide +kernel
theorem dX4_begin_10 : decode cX4_begin 10 = .ok (.iload_n 1, 1) := by decide +kernel
theorem dX4_begin_11 : decode cX4_begin 11 = .ok (.iastore, 1) := by decide +kernel
theorem dX4_begin_12 : decode cX4_begin 12 = .ok (.aload_n 0, 1) := by decide +kernel
theorem dX4_begin_13 : decode cX4_begin 13 = .ok (.getfield 15, 3) := by decide +kernel
theorem dX4_begin_16 : decode cX4_begin 16 = .ok (.iload_n 3, 1) := by decide +kernel
theorem dX4_begin_17 : decode cX4_begin 17 = .ok (.iload_n 2, 1) := by decide +kernel
theorem dX4_begin_18 : decode cX4_begin 18 = .ok (.iastore, 1) := by decide +kernel
theorem dX4_begin_19 : decode cX4_begin 19 = .ok (.aload_n 0, 1) := by decide +kernel
theorem dX4_begin_20 : decode cX4_begin 20 = .ok (.getfield 21, 3) := by decide +kernel
theorem dX4_begin_23 : decode cX4_begin 23 = .ok (.iload_n 3, 1) := by decide +kernel
theorem dX4_begin_24 : decode cX4_begin 24 = .ok (.iconst 1, 1) := by decide +kernel
theorem dX4_begin_25 : decode cX4_begin 25 = .ok (.iastore, 1) := by decide +kernel
theorem dX4_begin_26 : decode cX4_begin 26 = .ok (.aload_n 0, 1) := by decide +kernel
theorem dX4_begin_27 : decode cX4_begin 27 = .ok (.getfield 27, 3) := by decide +kernel
theorem dX4_begin_30 : decode cX4_begin 30 = .ok (.iload_n 3, 1) := by decide +kernel
theorem dX4_begin_31 : decode cX4_begin 31 = .ok (.iload_n 1, 1) := by decide +kernel
theorem dX4_begin_32 : decode cX4_begin 32 = .ok (.invokestatic 44, 3) := by decide +kernel
theorem dX4_begin_35 : decode cX4_begin 35 = .ok (.iconst 1, 1) := by decide +kernel
theorem dX4_begin_36 : decode cX4_begin 36 = .ok (.iastore, 1) := by decide +kernel
theorem dX4_begin_37 : decode cX4_begin 37 = .ok (.aload_n 0, 1) := by decide +kernel
theorem dX4_begin_38 : decode cX4_begin 38 = .ok (.iload_n 3, 1) := by decide +kernel
theorem dX4_begin_39 : decode cX4_begin 39 = .ok (.iconst 1, 1) := by decide +kernel
theorem dX4_begin_40 : decode cX4_begin 40 = .ok (.iadd, 1) := by decide +kernel
theorem dX4_begin_41 : decode cX4_begin 41 = .ok (.putfield 36, 3) := by decide +kernel
theorem dX4_begin_44 : decode cX4_begin 44 = .ok (.iload_n 3, 1) := by decide +kernel
theorem dX4_begin_45 : decode cX4_begin 45 = .ok (.ireturn, 1) := by decide +kernel
theorem dX4_allParts_0 : decode cX4_allParts 0 = .ok (.aload_n 0, 1) := by decide +kernel
theorem dX4_allParts_1 : decode cX4_allParts 1 = .ok (.getfield 27, 3) := by decide +kernel
theorem dX4_allParts_4 : decode cX4_allParts 4 = .ok (.iload_n 1, 1) := by decide +kernel
theorem dX4_allParts_5 : decode cX4_allParts 5 = .ok (.invokestatic 48, 3) := by decide +kernel
theorem dX4_allParts_8 : decode cX4_allParts 8 = .ok (.ireturn, 1) := by decide +kernel
theorem dX4_allDrafts_0 : decode cX4_allDrafts 0 = .ok (.aload_n 0, 1) := by decide +kernel
theorem dX4_allDrafts_1 : decode cX4_allDrafts 1 = .ok (.getfield 30, 3) := by decide +kernel
theorem dX4_allDrafts_4 : decode cX4_allDrafts 4 = .ok (.iload_n 1, 1) := by decide +kernel
theorem dX4_allDrafts_5 : decode cX4_allDrafts 5 = .ok (.invokestatic 48, 3) := by decide +kernel
theorem dX4_allDrafts_8 : decode cX4_allDrafts 8 = .ok (.ireturn, 1) := by decide +kernel
theorem dX4_draftsBy_0 : decode cX4_draftsBy 0 = .ok (.iconst 0, 1) := by decide +kernel
theorem dX4_draftsBy_1 : decode cX4_draftsBy 1 = .ok (.istore_n 2, 1) := by decide +kernel
theorem dX4_draftsBy_2 : decode cX4_draftsBy 2 = .ok (.iconst 0, 1) := by decide +kernel
theorem dX4_draftsBy_3 : decode cX4_draftsBy 3 = .ok (.istore_n 3, 1) := by decide +kernel
theorem dX4_draftsBy_4 : decode cX4_draftsBy 4 = .ok (.iload_n 3, 1) := by decide +kernel
theorem dX4_draftsBy_5 : decode cX4_draftsBy 5 = .ok (.aload_n 0, 1) := by decide +kernel
theorem dX4_draftsBy_6 : decode cX4_draftsBy 6 = .ok (.getfield 36, 3) := by decide +kernel
theorem dX4_draftsBy_9 : decode cX4_draftsBy 9 = .ok (.if_icmp .ge 22, 3) := by decide +kernel
theorem dX4_draftsBy_12 : decode cX4_draftsBy 12 = .ok (.iload_n 2, 1) := by decide +kernel
theorem dX4_draftsBy_13 : decode cX4_draftsBy 13 = .ok (.aload_n 0, 1) := by decide +kernel
theorem dX4_draftsBy_14 : decode cX4_draftsBy 14 = .ok (.getfield 30, 3) := by decide +kernel
theorem dX4_draftsBy_17 : decode cX4_draftsBy 17 = .ok (.iload_n 3, 1) := by decide +kernel
theorem dX4_draftsBy_18 : decode cX4_draftsBy 18 = .ok (.iload_n 1, 1) := by decide +kernel
theorem dX4_draftsBy_19 : decode cX4_draftsBy 19 = .ok (.invokestatic 44, 3) := by decide +kernel
theorem dX4_draftsBy_22 : decode cX4_draftsBy 22 = .ok (.iaload, 1) := by decide +kernel
theorem dX4_draftsBy_23 : decode cX4_draftsBy 23 = .ok (.iadd, 1) := by decide +kernel
theorem dX4_draftsBy_24 : decode cX4_draftsBy 24 = .ok (.istore_n 2, 1) := by decide +kernel
theorem dX4_draftsBy_25 : decode cX4_draftsBy 25 = .ok (.iinc 3 1, 3) := by decide +kernel
theorem dX4_draftsBy_28 : decode cX4_draftsBy 28 = .ok (.goto (-24), 3) := by decide +kernel
theorem dX4_draftsBy_31 : decode cX4_draftsBy 31 = .ok (.iload_n 2, 1) := by decide +kernel
theorem dX4_draftsBy_32 : decode cX4_draftsBy 32 = .ok (.ireturn, 1) := by decide +kernel
theorem dX4_sharers_0 : decode cX4_sharers 0 = .ok (.iconst 0, 1) := by decide +kernel
theorem dX4_sharers_1 : decode cX4_sharers 1 = .ok (.istore_n 2, 1) := by decide +kernel
theorem dX4_sharers_2 : decode cX4_sharers 2 = .ok (.iconst 0, 1) := by decide +kernel
theorem dX4_sharers_3 : decode cX4_sharers 3 = .ok (.istore_n 3, 1) := by decide +kernel
theorem dX4_sharers_4 : decode cX4_sharers 4 = .ok (.iload_n 3, 1) := by decide +kernel
theorem dX4_sharers_5 : decode cX4_sharers 5 = .ok (.bipush 12, 2) := by decide +kernel
theorem dX4_sharers_7 : decode cX4_sharers 7 = .ok (.if_icmp .ge 30, 3) := by decide +kernel
theorem dX4_sharers_10 : decode cX4_sharers 10 = .ok (.iload_n 2, 1) := by decide +kernel
theorem dX4_sharers_11 : decode cX4_sharers 11 = .ok (.aload_n 0, 1) := by decide +kernel
theorem dX4_sharers_12 : decode cX4_sharers 12 = .ok (.getfield 27, 3) := by decide +kernel
theorem dX4_sharers_15 : decode cX4_sharers 15 = .ok (.iload_n 1, 1) := by decide +kernel
theorem dX4_sharers_16 : decode cX4_sharers 16 = .ok (.iload_n 3, 1) := by decide +kernel
theorem dX4_sharers_17 : decode cX4_sharers 17 = .ok (.invokestatic 44, 3) := by decide +kernel
theorem dX4_sharers_20 : decode cX4_sharers 20 = .ok (.iaload, 1) := by decide +kernel
theorem dX4_sharers_21 : decode cX4_sharers 21 = .ok (.ifCond .le 7, 3) := by decide +kernel
theorem dX4_sharers_24 : decode cX4_sharers 24 = .ok (.iconst 1, 1) := by decide +kernel
theorem dX4_sharers_25 : decode cX4_sharers 25 = .ok (.goto 4, 3) := by decide +kernel
theorem dX4_sharers_28 : decode cX4_sharers 28 = .ok (.iconst 0, 1) := by decide +kernel
theorem dX4_sharers_29 : decode cX4_sharers 29 = .ok (.iadd, 1) := by decide +kernel
theorem dX4_sharers_30 : decode cX4_sharers 30 = .ok (.istore_n 2, 1) := by decide +kernel
theorem dX4_sharers_31 : decode cX4_sharers 31 = .ok (.iinc 3 1, 3) := by decide +kernel
theorem dX4_sharers_34 : decode cX4_sharers 34 = .ok (.goto (-30), 3) := by decide +kernel
theorem dX4_sharers_37 : decode cX4_sharers 37 = .ok (.iload_n 2, 1) := by decide +kernel
theorem dX4_sharers_38 : decode cX4_sharers 38 = .ok (.ireturn, 1) := by decide +kernel
theorem dX4_inStage_0 : decode cX4_inStage 0 = .ok (.iconst 0, 1) := by decide +kernel
theorem dX4_inStage_1 : decode cX4_inStage 1 = .ok (.istore_n 2, 1) := by decide +kernel
theorem dX4_inStage_2 : decode cX4_inStage 2 = .ok (.iconst 0, 1) := by decide +kernel
theorem dX4_inStage_3 : decode cX4_inStage 3 = .ok (.istore_n 3, 1) := by decide +kernel
theorem dX4_inStage_4 : decode cX4_inStage 4 = .ok (.iload_n 3, 1) := by decide +kernel
theorem dX4_inStage_5 : decode cX4_inStage 5 = .ok (.aload_n 0, 1) := by decide +kernel
theorem dX4_inStage_6 : decode cX4_inStage 6 = .ok (.getfield 36, 3) := by decide +kernel
theorem dX4_inStage_9 : decode cX4_inStage 9 = .ok (.if_icmp .ge 27, 3) := by decide +kernel
theorem dX4_inStage_12 : decode cX4_inStage 12 = .ok (.iload_n 2, 1) := by decide +kernel
theorem dX4_inStage_13 : decode cX4_inStage 13 = .ok (.aload_n 0, 1) := by decide +kernel
theorem dX4_inStage_14 : decode cX4_inStage 14 = .ok (.getfield 18, 3) := by decide +kernel
theorem dX4_inStage_17 : decode cX4_inStage 17 = .ok (.iload_n 3, 1) := by decide +kernel
theorem dX4_inStage_18 : decode cX4_inStage 18 = .ok (.iaload, 1) := by decide +kernel
theorem dX4_inStage_19 : decode cX4_inStage 19 = .ok (.iload_n 1, 1) := by decide +kernel
theorem dX4_inStage_20 : decode cX4_inStage 20 = .ok (.if_icmp .ne 7, 3) := by decide +kernel
theorem dX4_inStage_23 : decode cX4_inStage 23 = .ok (.iconst 1, 1) := by decide +kernel
theorem dX4_inStage_24 : decode cX4_inStage 24 = .ok (.goto 4, 3) := by decide +kernel
theorem dX4_inStage_27 : decode cX4_inStage 27 = .ok (.iconst 0, 1) := by decide +kernel
theorem dX4_inStage_28 : decode cX4_inStage 28 = .ok (.iadd, 1) := by decide +kernel
theorem dX4_inStage_29 : decode cX4_inStage 29 = .ok (.istore_n 2, 1) := by decide +kernel
theorem dX4_inStage_30 : decode cX4_inStage 30 = .ok (.iinc 3 1, 3) := by decide +kernel
theorem dX4_inStage_33 : decode cX4_inStage 33 = .ok (.goto (-29), 3) := by decide +kernel
theorem dX4_inStage_36 : decode cX4_inStage 36 = .ok (.iload_n 2, 1) := by decide +kernel
theorem dX4_inStage_37 : decode cX4_inStage 37 = .ok (.ireturn, 1) := by decide +kernel
theorem dX4_disputers_0 : decode cX4_disputers 0 = .ok (.aload_n 0, 1) := by decide +kernel
theorem dX4_disputers_1 : decode cX4_disputers 1 = .ok (.getfield 18, 3) := by decide +kernel
theorem dX4_disputers_4 : decode cX4_disputers 4 = .ok (.iload_n 1, 1) := by decide +kernel
theorem dX4_disputers_5 : decode cX4_disputers 5 = .ok (.iaload, 1) := by decide +kernel
theorem dX4_disputers_6 : decode cX4_disputers 6 = .ok (.iconst 4, 1) := by decide +kernel
theorem dX4_disputers_7 : decode cX4_disputers 7 = .ok (.if_icmp .ne 5, 3) := by decide +kernel
theorem dX4_disputers_10 : decode cX4_disputers 10 = .ok (.iconst 0, 1) := by decide +kernel
theorem dX4_disputers_11 : decode cX4_disputers 11 = .ok (.ireturn, 1) := by decide +kernel
theorem dX4_disputers_12 : decode cX4_disputers 12 = .ok (.aload_n 0, 1) := by decide +kernel
theorem dX4_disputers_13 : decode cX4_disputers 13 = .ok (.iload_n 1, 1) := by decide +kernel
theorem dX4_disputers_14 : decode cX4_disputers 14 = .ok (.invokevirtual 52, 3) := by decide +kernel
theorem dX4_disputers_17 : decode cX4_disputers 17 = .ok (.istore_n 2, 1) := by decide +kernel
theorem dX4_disputers_18 : decode cX4_disputers 18 = .ok (.aload_n 0, 1) := by decide +kernel
theorem dX4_disputers_19 : decode cX4_disputers 19 = .ok (.iload_n 1, 1) := by decide +kernel
theorem dX4_disputers_20 : decode cX4_disputers 20 = .ok (.invokevirtual 56, 3) := by decide +kernel
theorem dX4_disputers_23 : decode cX4_disputers 23 = .ok (.istore_n 3, 1) := by decide +kernel
theorem dX4_disputers_24 : decode cX4_disputers 24 = .ok (.iconst 0, 1) := by decide +kernel
theorem dX4_disputers_25 : decode cX4_disputers 25 = .ok (.istore 4, 2) := by decide +kernel
theorem dX4_disputers_27 : decode cX4_disputers 27 = .ok (.iconst 0, 1) := by decide +kernel
theorem dX4_disputers_28 : decode cX4_disputers 28 = .ok (.istore 5, 2) := by decide +kernel
theorem dX4_disputers_30 : decode cX4_disputers 30 = .ok (.iload 5, 2) := by decide +kernel
theorem dX4_disputers_32 : decode cX4_disputers 32 = .ok (.bipush 12, 2) := by decide +kernel
theorem dX4_disputers_34 : decode cX4_disputers 34 = .ok (.if_icmp .ge 63, 3) := by decide +kernel
theorem dX4_disputers_37 : decode cX4_disputers 37 = .ok (.aload_n 0, 1) := by decide +kernel
theorem dX4_disputers_38 : decode cX4_disputers 38 = .ok (.getfield 27, 3) := by decide +kernel
theorem dX4_disputers_41 : decode cX4_disputers 41 = .ok (.iload_n 1, 1) := by decide +kernel
theorem dX4_disputers_42 : decode cX4_disputers 42 = .ok (.iload 5, 2) := by decide +kernel
theorem dX4_disputers_44 : decode cX4_disputers 44 = .ok (.invokestatic 44, 3) := by decide +kernel
theorem dX4_disputers_47 : decode cX4_disputers 47 = .ok (.iaload, 1) := by decide +kernel
theorem dX4_disputers_48 : decode cX4_disputers 48 = .ok (.iload_n 3, 1) := by decide +kernel
theorem dX4_disputers_49 : decode cX4_disputers 49 = .ok (.imul, 1) := by decide +kernel
theorem dX4_disputers_50 : decode cX4_disputers 50 = .ok (.aload_n 0, 1) := by decide +kernel
theorem dX4_disputers_51 : decode cX4_disputers 51 = .ok (.getfield 30, 3) := by decide +kernel
theorem dX4_disputers_54 : decode cX4_disputers 54 = .ok (.iload_n 1, 1) := by decide +kernel
theorem dX4_disputers_55 : decode cX4_disputers 55 = .ok (.iload 5, 2) := by decide +kernel
theorem dX4_disputers_57 : decode cX4_disputers 57 = .ok (.invokestatic 44, 3) := by decide +kernel
theorem dX4_disputers_60 : decode cX4_disputers 60 = .ok (.iaload, 1) := by decide +kernel
theorem dX4_disputers_61 : decode cX4_disputers 61 = .ok (.iload_n 2, 1) := by decide +kernel
theorem dX4_disputers_62 : decode cX4_disputers 62 = .ok (.imul, 1) := by decide +kernel
theorem dX4_disputers_63 : decode cX4_disputers 63 = .ok (.if_icmp .ge 7, 3) := by decide +kernel
theorem dX4_disputers_66 : decode cX4_disputers 66 = .ok (.iconst 1, 1) := by decide +kernel
theorem dX4_disputers_67 : decode cX4_disputers 67 = .ok (.goto 4, 3) := by decide +kernel
theorem dX4_disputers_70 : decode cX4_disputers 70 = .ok (.iconst 0, 1) := by decide +kernel
theorem dX4_disputers_71 : decode cX4_disputers 71 = .ok (.istore 6, 2) := by decide +kernel
theorem dX4_disputers_73 : decode cX4_disputers 73 = .ok (.iload 4, 2) := by decide +kernel
theorem dX4_disputers_75 : decode cX4_disputers 75 = .ok (.iload 6, 2) := by decide +kernel
theorem dX4_disputers_77 : decode cX4_disputers 77 = .ok (.ifCond .eq 10, 3) := by decide +kernel
theorem dX4_disputers_80 : decode cX4_disputers 80 = .ok (.iconst 1, 1) := by decide +kernel
theorem dX4_disputers_81 : decode cX4_disputers 81 = .ok (.iload 5, 2) := by decide +kernel
theorem dX4_disputers_83 : decode cX4_disputers 83 = .ok (.ishl, 1) := by decide +kernel
theorem dX4_disputers_84 : decode cX4_disputers 84 = .ok (.goto 4, 3) := by decide +kernel
theorem dX4_disputers_87 : decode cX4_disputers 87 = .ok (.iconst 0, 1) := by decide +kernel
theorem dX4_disputers_88 : decode cX4_disputers 88 = .ok (.ior, 1) := by decide +kernel
theorem dX4_disputers_89 : decode cX4_disputers 89 = .ok (.istore 4, 2) := by decide +kernel
theorem dX4_disputers_91 : decode cX4_disputers 91 = .ok (.iinc 5 1, 3) := by decide +kernel
theorem dX4_disputers_94 : decode cX4_disputers 94 = .ok (.goto (-64), 3) := by decide +kernel
theorem dX4_disputers_97 : decode cX4_disputers 97 = .ok (.iload 4, 2) := by decide +kernel
theorem dX4_disputers_99 : decode cX4_disputers 99 = .ok (.ireturn, 1) := by decide +kernel
theorem dX4_takeParts_0 : decode cX4_takeParts 0 = .ok (.iconst 0, 1) := by decide +kernel
theorem dX4_takeParts_1 : decode cX4_takeParts 1 = .ok (.istore_n 3, 1) := by decide +kernel
theorem dX4_takeParts_2 : decode cX4_takeParts 2 = .ok (.iload_n 3, 1) := by decide +kernel
theorem dX4_takeParts_3 : decode cX4_takeParts 3 = .ok (.bipush 12, 2) := by decide +kernel
theorem dX4_takeParts_5 : decode cX4_takeParts 5 = .ok (.if_icmp .ge 28, 3) := by decide +kernel
theorem dX4_takeParts_8 : decode cX4_takeParts 8 = .ok (.iload_n 3, 1) := by decide +kernel
theorem dX4_takeParts_9 : decode cX4_takeParts 9 = .ok (.aload_n 2, 1) := by decide +kernel
theorem dX4_takeParts_10 : decode cX4_takeParts 10 = .ok (.arraylength, 1) := by decide +kernel
theorem dX4_takeParts_11 : decode cX4_takeParts 11 = .ok (.if_icmp .ge 22, 3) := by decide +kernel
theorem dX4_takeParts_14 : decode cX4_takeParts 14 = .ok (.aload_n 0, 1) := by decide +kernel
theorem dX4_takeParts_15 : decode cX4_takeParts 15 = .ok (.getfield 27, 3) := by decide +kernel
theorem dX4_takeParts_18 : decode cX4_takeParts 18 = .ok (.iload_n 1, 1) := by decide +kernel
theorem dX4_takeParts_19 : decode cX4_takeParts 19 = .ok (.iload_n 3, 1) := by decide +kernel
theorem dX4_takeParts_20 : decode cX4_takeParts 20 = .ok (.invokestatic 44, 3) := by decide +kernel
theorem dX4_takeParts_23 : decode cX4_takeParts 23 = .ok (.aload_n 2, 1) := by decide +kernel
theorem dX4_takeParts_24 : decode cX4_takeParts 24 = .ok (.iload_n 3, 1) := by decide +kernel
theorem dX4_takeParts_25 : decode cX4_takeParts 25 = .ok (.iaload, 1) := by decide +kernel
theorem dX4_takeParts_26 : decode cX4_takeParts 26 = .ok (.iastore, 1) := by decide +kernel
theorem dX4_takeParts_27 : decode cX4_takeParts 27 = .ok (.iinc 3 1, 3) := by decide +kernel
theorem dX4_takeParts_30 : decode cX4_takeParts 30 = .ok (.goto (-28), 3) := by decide +kernel
theorem dX4_takeParts_33 : decode cX4_takeParts 33 = .ok (.return_, 1) := by decide +kernel
theorem dX4_takePartsFromDrafts_0 : decode cX4_takePartsFromDrafts 0 = .ok (.aload_n 0, 1) := by decide +kernel
theorem dX4_takePartsFromDrafts_1 : decode cX4_takePartsFromDrafts 1 = .ok (.iload_n 1, 1) := by decide +kernel
theorem dX4_takePartsFromDrafts_2 : decode cX4_takePartsFromDrafts 2 = .ok (.invokevirtual 59, 3) := by decide +kernel
theorem dX4_takePartsFromDrafts_5 : decode cX4_takePartsFromDrafts 5 = .ok (.istore_n 2, 1) := by decide +kernel
theorem dX4_takePartsFromDrafts_6 : decode cX4_takePartsFromDrafts 6 = .ok (.iconst 0, 1) := by decide +kernel
theorem dX4_takePartsFromDrafts_7 : decode cX4_takePartsFromDrafts 7 = .ok (.istore_n 3, 1) := by decide +kernel
theorem dX4_takePartsFromDrafts_8 : decode cX4_takePartsFromDrafts 8 = .ok (.iload_n 3, 1) := by decide +kernel
theorem dX4_takePartsFromDrafts_9 : decode cX4_takePartsFromDrafts 9 = .ok (.bipush 12, 2) := by decide +kernel
theorem dX4_takePartsFromDrafts_11 : decode cX4_takePartsFromDrafts 11 = .ok (.if_icmp .ge 41, 3) := by decide +kernel
theorem dX4_takePartsFromDrafts_14 : decode cX4_takePartsFromDrafts 14 = .ok (.aload_n 0, 1) := by decide +kernel
theorem dX4_takePartsFromDrafts_15 : decode cX4_takePartsFromDrafts 15 = .ok (.getfield 27, 3) := by decide +kernel
theorem dX4_takePartsFromDrafts_18 : decode cX4_takePartsFromDrafts 18 = .ok (.iload_n 1, 1) := by decide +kernel
theorem dX4_takePartsFromDrafts_19 : decode cX4_takePartsFromDrafts 19 = .ok (.iload_n 3, 1) := by decide +kernel
theorem dX4_takePartsFromDrafts_20 : decode cX4_takePartsFromDrafts 20 = .ok (.invokestatic 44, 3) := by decide +kernel
theorem dX4_takePartsFromDrafts_23 : decode cX4_takePartsFromDrafts 23 = .ok (.iload_n 2, 1) := by decide +kernel
theorem dX4_takePartsFromDrafts_24 : decode cX4_takePartsFromDrafts 24 = .ok (.iload_n 3, 1) := by decide +kernel
theorem dX4_takePartsFromDrafts_25 : decode cX4_takePartsFromDrafts 25 = .ok (.invokestatic 62, 3) := by decide +kernel
theorem dX4_takePartsFromDrafts_28 : decode cX4_takePartsFromDrafts 28 = .ok (.ifCond .eq 16, 3) := by decide +kernel
theorem dX4_takePartsFromDrafts_31 : decode cX4_takePartsFromDrafts 31 = .ok (.aload_n 0, 1) := by decide +kernel
theorem dX4_takePartsFromDrafts_32 : decode cX4_takePartsFromDrafts 32 = .ok (.getfield 30, 3) := by decide +kernel
theorem dX4_takePartsFromDrafts_35 : decode cX4_takePartsFromDrafts 35 = .ok (.iload_n 1, 1) := by decide +kernel
theorem dX4_takePartsFromDrafts_36 : decode cX4_takePartsFromDrafts 36 = .ok (.iload_n 3, 1) := by decide +kernel
theorem dX4_takePartsFromDrafts_37 : decode cX4_takePartsFromDrafts 37 = .ok (.invokestatic 44, 3) := by decide +kernel
theorem dX4_takePartsFromDrafts_40 : decode cX4_takePartsFromDrafts 40 = .ok (.iaload, 1) := by decide +kernel
theorem dX4_takePartsFromDrafts_41 : decode cX4_takePartsFromDrafts 41 = .ok (.goto 4, 3) := by decide +kernel
theorem dX4_takePartsFromDrafts_44 : decode cX4_takePartsFromDrafts 44 = .ok (.iconst 0, 1) := by decide +kernel
theorem dX4_takePartsFromDrafts_45 : decode cX4_takePartsFromDrafts 45 = .ok (.iastore, 1) := by decide +kernel
theorem dX4_takePartsFromDrafts_46 : decode cX4_takePartsFromDrafts 46 = .ok (.iinc 3 1, 3) := by decide +kernel
theorem dX4_takePartsFromDrafts_49 : decode cX4_takePartsFromDrafts 49 = .ok (.goto (-41), 3) := by decide +kernel
theorem dX4_takePartsFromDrafts_52 : decode cX4_takePartsFromDrafts 52 = .ok (.return_, 1) := by decide +kernel
theorem dX4_addToYear_0 : decode cX4_addToYear 0 = .ok (.iconst 0, 1) := by decide +kernel
theorem dX4_addToYear_1 : decode cX4_addToYear 1 = .ok (.istore_n 3, 1) := by decide +kernel
theorem dX4_addToYear_2 : decode cX4_addToYear 2 = .ok (.iload_n 3, 1) := by decide +kernel
theorem dX4_addToYear_3 : decode cX4_addToYear 3 = .ok (.bipush 12, 2) := by decide +kernel
theorem dX4_addToYear_5 : decode cX4_addToYear 5 = .ok (.if_icmp .ge 31, 3) := by decide +kernel
theorem dX4_addToYear_8 : decode cX4_addToYear 8 = .ok (.iload_n 3, 1) := by decide +kernel
theorem dX4_addToYear_9 : decode cX4_addToYear 9 = .ok (.aload_n 2, 1) := by decide +kernel
theorem dX4_addToYear_10 : decode cX4_addToYear 10 = .ok (.arraylength, 1) := by decide +kernel
theorem dX4_addToYear_11 : decode cX4_addToYear 11 = .ok (.if_icmp .ge 25, 3) := by decide +kernel
theorem dX4_addToYear_14 : decode cX4_addToYear 14 = .ok (.aload_n 0, 1) := by decide +kernel
theorem dX4_addToYear_15 : decode cX4_addToYear 15 = .ok (.getfield 33, 3) := by decide +kernel
theorem dX4_addToYear_18 : decode cX4_addToYear 18 = .ok (.iload_n 1, 1) := by decide +kernel
theorem dX4_addToYear_19 : decode cX4_addToYear 19 = .ok (.iload_n 3, 1) := by decide +kernel
theorem dX4_addToYear_20 : decode cX4_addToYear 20 = .ok (.invokestatic 44, 3) := by decide +kernel
theorem dX4_addToYear_23 : decode cX4_addToYear 23 = .ok (.dup2, 1) := by decide +kernel
theorem dX4_addToYear_24 : decode cX4_addToYear 24 = .ok (.iaload, 1) := by decide +kernel
theorem dX4_addToYear_25 : decode cX4_addToYear 25 = .ok (.aload_n 2, 1) := by decide +kernel
theorem dX4_addToYear_26 : decode cX4_addToYear 26 = .ok (.iload_n 3, 1) := by decide +kernel
theorem dX4_addToYear_27 : decode cX4_addToYear 27 = .ok (.iaload, 1) := by decide +kernel
theorem dX4_addToYear_28 : decode cX4_addToYear 28 = .ok (.iadd, 1) := by decide +kernel
theorem dX4_addToYear_29 : decode cX4_addToYear 29 = .ok (.iastore, 1) := by decide +kernel
theorem dX4_addToYear_30 : decode cX4_addToYear 30 = .ok (.iinc 3 1, 3) := by decide +kernel
theorem dX4_addToYear_33 : decode cX4_addToYear 33 = .ok (.goto (-31), 3) := by decide +kernel
theorem dX4_addToYear_36 : decode cX4_addToYear 36 = .ok (.return_, 1) := by decide +kernel
theorem dX4_writers_0 : decode cX4_writers 0 = .ok (.iconst 0, 1) := by decide +kernel
theorem dX4_writers_1 : decode cX4_writers 1 = .ok (.istore_n 2, 1) := by decide +kernel
theorem dX4_writers_2 : decode cX4_writers 2 = .ok (.iconst 0, 1) := by decide +kernel
theorem dX4_writers_3 : decode cX4_writers 3 = .ok (.istore_n 3, 1) := by decide +kernel
theorem dX4_writers_4 : decode cX4_writers 4 = .ok (.iload_n 3, 1) := by decide +kernel
theorem dX4_writers_5 : decode cX4_writers 5 = .ok (.iconst 4, 1) := by decide +kernel
theorem dX4_writers_6 : decode cX4_writers 6 = .ok (.if_icmp .ge 34, 3) := by decide +kernel
theorem dX4_writers_9 : decode cX4_writers 9 = .ok (.aload_n 0, 1) := by decide +kernel
theorem dX4_writers_10 : decode cX4_writers 10 = .ok (.iload_n 1, 1) := by decide +kernel
theorem dX4_writers_11 : decode cX4_writers 11 = .ok (.iload_n 2, 1) := by decide +kernel
theorem dX4_writers_12 : decode cX4_writers 12 = .ok (.invokevirtual 66, 3) := by decide +kernel
theorem dX4_writers_15 : decode cX4_writers 15 = .ok (.istore 4, 2) := by decide +kernel
theorem dX4_writers_17 : decode cX4_writers 17 = .ok (.iload_n 2, 1) := by decide +kernel
theorem dX4_writers_18 : decode cX4_writers 18 = .ok (.iload 4, 2) := by decide +kernel
theorem dX4_writers_20 : decode cX4_writers 20 = .ok (.iconst (-1), 1) := by decide +kernel
theorem dX4_writers_21 : decode cX4_writers 21 = .ok (.if_icmp .ne 7, 3) := by decide +kernel
theorem dX4_writers_24 : decode cX4_writers 24 = .ok (.iconst 0, 1) := by decide +kernel
theorem dX4_writers_25 : decode cX4_writers 25 = .ok (.goto 7, 3) := by decide +kernel
theorem dX4_writers_28 : decode cX4_writers 28 = .ok (.iconst 1, 1) := by decide +kernel
theorem dX4_writers_29 : decode cX4_writers 29 = .ok (.iload 4, 2) := by decide +kernel
theorem dX4_writers_31 : decode cX4_writers 31 = .ok (.ishl, 1) := by decide +kernel
theorem dX4_writers_32 : decode cX4_writers 32 = .ok (.ior, 1) := by decide +kernel
theorem dX4_writers_33 : decode cX4_writers 33 = .ok (.istore_n 2, 1) := by decide +kernel
theorem dX4_writers_34 : decode cX4_writers 34 = .ok (.iinc 3 1, 3) := by decide +kernel
theorem dX4_writers_37 : decode cX4_writers 37 = .ok (.goto (-33), 3) := by decide +kernel
theorem dX4_writers_40 : decode cX4_writers 40 = .ok (.iload_n 2, 1) := by decide +kernel
theorem dX4_writers_41 : decode cX4_writers 41 = .ok (.ireturn, 1) := by decide +kernel
theorem dX4_writerWithMost_0 : decode cX4_writerWithMost 0 = .ok (.iconst (-1), 1) := by decide +kernel
theorem dX4_writerWithMost_1 : decode cX4_writerWithMost 1 = .ok (.istore_n 3, 1) := by decide +kernel
theorem dX4_writerWithMost_2 : decode cX4_writerWithMost 2 = .ok (.iconst 0, 1) := by decide +kernel
theorem dX4_writerWithMost_3 : decode cX4_writerWithMost 3 = .ok (.istore 4, 2) := by decide +kernel
theorem dX4_writerWithMost_5 : decode cX4_writerWithMost 5 = .ok (.iconst 0, 1) := by decide +kernel
theorem dX4_writerWithMost_6 : decode cX4_writerWithMost 6 = .ok (.istore 5, 2) := by decide +kernel
theorem dX4_writerWithMost_8 : decode cX4_writerWithMost 8 = .ok (.iload 5, 2) := by decide +kernel
theorem dX4_writerWithMost_10 : decode cX4_writerWithMost 10 = .ok (.bipush 12, 2) := by decide +kernel
theorem dX4_writerWithMost_12 : decode cX4_writerWithMost 12 = .ok (.if_icmp .ge 50, 3) := by decide +kernel
theorem dX4_writerWithMost_15 : decode cX4_writerWithMost 15 = .ok (.aload_n 0, 1) := by decide +kernel
theorem dX4_writerWithMost_16 : decode cX4_writerWithMost 16 = .ok (.getfield 30, 3) := by decide +kernel
theorem dX4_writerWithMost_19 : decode cX4_writerWithMost 19 = .ok (.iload_n 1, 1) := by decide +kernel
theorem dX4_writerWithMost_20 : decode cX4_writerWithMost 20 = .ok (.iload 5, 2) := by decide +kernel
theorem dX4_writerWithMost_22 : decode cX4_writerWithMost 22 = .ok (.invokestatic 44, 3) := by decide +kernel
theorem dX4_writerWithMost_25 : decode cX4_writerWithMost 25 = .ok (.iaload, 1) := by decide +kernel
theorem dX4_writerWithMost_26 : decode cX4_writerWithMost 26 = .ok (.iload 4, 2) := by decide +kernel
theorem dX4_writerWithMost_28 : decode cX4_writerWithMost 28 = .ok (.if_icmp .le 28, 3) := by decide +kernel
theorem dX4_writerWithMost_31 : decode cX4_writerWithMost 31 = .ok (.iload_n 2, 1) := by decide +kernel
theorem dX4_writerWithMost_32 : decode cX4_writerWithMost 32 = .ok (.iload 5, 2) := by decide +kernel
theorem dX4_writerWithMost_34 : decode cX4_writerWithMost 34 = .ok (.invokestatic 62, 3) := by decide +kernel
theorem dX4_writerWithMost_37 : decode cX4_writerWithMost 37 = .ok (.ifCond .ne 19, 3) := by decide +kernel
theorem dX4_writerWithMost_40 : decode cX4_writerWithMost 40 = .ok (.iload 5, 2) := by decide +kernel
theorem dX4_writerWithMost_42 : decode cX4_writerWithMost 42 = .ok (.istore_n 3, 1) := by decide +kernel
theorem dX4_writerWithMost_43 : decode cX4_writerWithMost 43 = .ok (.aload_n 0, 1) := by decide +kernel
theorem dX4_writerWithMost_44 : decode cX4_writerWithMost 44 = .ok (.getfield 30, 3) := by decide +kernel
theorem dX4_writerWithMost_47 : decode cX4_writerWithMost 47 = .ok (.iload_n 1, 1) := by decide +kernel
theorem dX4_writerWithMost_48 : decode cX4_writerWithMost 48 = .ok (.iload 5, 2) := by decide +kernel
theorem dX4_writerWithMost_50 : decode cX4_writerWithMost 50 = .ok (.invokestatic 44, 3) := by decide +kernel
theorem dX4_writerWithMost_53 : decode cX4_writerWithMost 53 = .ok (.iaload, 1) := by decide +kernel
theorem dX4_writerWithMost_54 : decode cX4_writerWithMost 54 = .ok (.istore 4, 2) := by decide +kernel
theorem dX4_writerWithMost_56 : decode cX4_writerWithMost 56 = .ok (.iinc 5 1, 3) := by decide +kernel
theorem dX4_writerWithMost_59 : decode cX4_writerWithMost 59 = .ok (.goto (-51), 3) := by decide +kernel
theorem dX4_writerWithMost_62 : decode cX4_writerWithMost 62 = .ok (.iload_n 3, 1) := by decide +kernel
theorem dX4_writerWithMost_63 : decode cX4_writerWithMost 63 = .ok (.ireturn, 1) := by decide +kernel
end
section
theorem dX5_init_0 : decode cX5_init 0 = .ok (.aload_n 0, 1) := by decide +kernel
theorem dX5_init_1 : decode cX5_init 1 = .ok (.invokespecial 3, 3) := by decide +kernel
theorem dX5_init_4 : decode cX5_init 4 = .ok (.aload_n 0, 1) := by decide +kernel
theorem dX5_init_5 : decode cX5_init 5 = .ok (.new 9, 3) := by decide +kernel
theorem dX5_init_8 : decode cX5_init 8 = .ok (.dup, 1) := by decide +kernel
theorem dX5_init_9 : decode cX5_init 9 = .ok (.invokespecial 11, 3) := by decide +kernel
theorem dX5_init_12 : decode cX5_init 12 = .ok (.putfield 12, 3) := by decide +kernel
theorem dX5_init_15 : decode cX5_init 15 = .ok (.aload_n 0, 1) := by decide +kernel
theorem dX5_init_16 : decode cX5_init 16 = .ok (.new 18, 3) := by decide +kernel
theorem dX5_init_19 : decode cX5_init 19 = .ok (.dup, 1) := by decide +kernel
theorem dX5_init_20 : decode cX5_init 20 = .ok (.invokespecial 20, 3) := by decide +kernel
theorem dX5_init_23 : decode cX5_init 23 = .ok (.putfield 21, 3) := by decide +kernel
theorem dX5_init_26 : decode cX5_init 26 = .ok (.aload_n 0, 1) := by decide +kernel
theorem dX5_init_27 : decode cX5_init 27 = .ok (.getstatic 25, 3) := by decide +kernel
theorem dX5_init_30 : decode cX5_init 30 = .ok (.invokevirtual 29, 3) := by decide +kernel
theorem dX5_init_33 : decode cX5_init 33 = .ok (.checkcast 30, 3) := by decide +kernel
theorem dX5_init_36 : decode cX5_init 36 = .ok (.putfield 34, 3) := by decide +kernel
theorem dX5_init_39 : decode cX5_init 39 = .ok (.return_, 1) := by decide +kernel
theorem dX5_copyFrom_0 : decode cX5_copyFrom 0 = .ok (.aload_n 0, 1) := by decide +kernel
theorem dX5_copyFrom_1 : decode cX5_copyFrom 1 = .ok (.getfield 12, 3) := by decide +kernel
theorem dX5_copyFrom_4 : decode cX5_copyFrom 4 = .ok (.aload_n 1, 1) := by decide +kernel
theorem dX5_copyFrom_5 : decode cX5_copyFrom 5 = .ok (.getfield 12, 3) := by decide +kernel
theorem dX5_copyFrom_8 : decode cX5_copyFrom 8 = .ok (.invokevirtual 37, 3) := by decide +kernel
theorem dX5_copyFrom_11 : decode cX5_copyFrom 11 = .ok (.aload_n 0, 1) := by decide +kernel
theorem dX5_copyFrom_12 : decode cX5_copyFrom 12 = .ok (.getfield 21, 3) := by decide +kernel
theorem dX5_copyFrom_15 : decode cX5_copyFrom 15 = .ok (.aload_n 1, 1) := by decide +kernel
theorem dX5_copyFrom_16 : decode cX5_copyFrom 16 = .ok (.getfield 21, 3) := by decide +kernel
theorem dX5_copyFrom_19 : decode cX5_copyFrom 19 = .ok (.invokevirtual 41, 3) := by decide +kernel
theorem dX5_copyFrom_22 : decode cX5_copyFrom 22 = .ok (.aload_n 1, 1) := by decide +kernel
theorem dX5_copyFrom_23 : decode cX5_copyFrom 23 = .ok (.getfield 34, 3) := by decide +kernel
theorem dX5_copyFrom_26 : decode cX5_copyFrom 26 = .ok (.aload_n 0, 1) := by decide +kernel
theorem dX5_copyFrom_27 : decode cX5_copyFrom 27 = .ok (.getfield 34, 3) := by decide +kernel
theorem dX5_copyFrom_30 : decode cX5_copyFrom 30 = .ok (.invokestatic 44, 3) := by decide +kernel
theorem dX5_copyFrom_33 : decode cX5_copyFrom 33 = .ok (.aload_n 0, 1) := by decide +kernel
theorem dX5_copyFrom_34 : decode cX5_copyFrom 34 = .ok (.aload_n 1, 1) := by decide +kernel
theorem dX5_copyFrom_35 : decode cX5_copyFrom 35 = .ok (.getfield 48, 3) := by decide +kernel
theorem dX5_copyFrom_38 : decode cX5_copyFrom 38 = .ok (.putfield 48, 3) := by decide +kernel
theorem dX5_copyFrom_41 : decode cX5_copyFrom 41 = .ok (.aload_n 0, 1) := by decide +kernel
theorem dX5_copyFrom_42 : decode cX5_copyFrom 42 = .ok (.aload_n 1, 1) := by decide +kernel
theorem dX5_copyFrom_43 : decode cX5_copyFrom 43 = .ok (.getfield 52, 3) := by decide +kernel
theorem dX5_copyFrom_46 : decode cX5_copyFrom 46 = .ok (.putfield 52, 3) := by decide +kernel
theorem dX5_copyFrom_49 : decode cX5_copyFrom 49 = .ok (.aload_n 0, 1) := by decide +kernel
theorem dX5_copyFrom_50 : decode cX5_copyFrom 50 = .ok (.aload_n 1, 1) := by decide +kernel
theorem dX5_copyFrom_51 : decode cX5_copyFrom 51 = .ok (.getfield 55, 3) := by decide +kernel
theorem dX5_copyFrom_54 : decode cX5_copyFrom 54 = .ok (.putfield 55, 3) := by decide +kernel
theorem dX5_copyFrom_57 : decode cX5_copyFrom 57 = .ok (.aload_n 0, 1) := by decide +kernel
theorem dX5_copyFrom_58 : decode cX5_copyFrom 58 = .ok (.aload_n 1, 1) := by decide +kernel
theorem dX5_copyFrom_59 : decode cX5_copyFrom 59 = .ok (.getfield 58, 3) := by decide +kernel
theorem dX5_copyFrom_62 : decode cX5_copyFrom 62 = .ok (.putfield 58, 3) := by decide +kernel
theorem dX5_copyFrom_65 : decode cX5_copyFrom 65 = .ok (.aload_n 0, 1) := by decide +kernel
theorem dX5_copyFrom_66 : decode cX5_copyFrom 66 = .ok (.aload_n 1, 1) := by decide +kernel
theorem dX5_copyFrom_67 : decode cX5_copyFrom 67 = .ok (.getfield 61, 3) := by decide +kernel
theorem dX5_copyFrom_70 : decode cX5_copyFrom 70 = .ok (.putfield 61, 3) := by decide +kernel
theorem dX5_copyFrom_73 : decode cX5_copyFrom 73 = .ok (.return_, 1) := by decide +kernel
theorem dX5_killFee_0 : decode cX5_killFee 0 = .ok (.aload_n 0, 1) := by decide +kernel
theorem dX5_killFee_1 : decode cX5_killFee 1 = .ok (.getfield 21, 3) := by decide +kernel
theorem dX5_killFee_4 : decode cX5_killFee 4 = .ok (.getfield 64, 3) := by decide +kernel
theorem dX5_killFee_7 : decode cX5_killFee 7 = .ok (.iload_n 1, 1) := by decide +kernel
theorem dX5_killFee_8 : decode cX5_killFee 8 = .ok (.iaload, 1) := by decide +kernel
theorem dX5_killFee_9 : decode cX5_killFee 9 = .ok (.istore_n 2, 1) := by decide +kernel
theorem dX5_killFee_10 : decode cX5_killFee 10 = .ok (.iload_n 2, 1) := by decide +kernel
theorem dX5_killFee_11 : decode cX5_killFee 11 = .ok (.ifCond .lt 8, 3) := by decide +kernel
theorem dX5_killFee_14 : decode cX5_killFee 14 = .ok (.iload_n 2, 1) := by decide +kernel
theorem dX5_killFee_15 : decode cX5_killFee 15 = .ok (.iconst 2, 1) := by decide +kernel
theorem dX5_killFee_16 : decode cX5_killFee 16 = .ok (.if_icmp .le 5, 3) := by decide +kernel
theorem dX5_killFee_19 : decode cX5_killFee 19 = .ok (.iconst 0, 1) := by decide +kernel
theorem dX5_killFee_20 : decode cX5_killFee 20 = .ok (.ireturn, 1) := by decide +kernel
theorem dX5_killFee_21 : decode cX5_killFee 21 = .ok (.aload_n 0, 1) := by decide +kernel
theorem dX5_killFee_22 : decode cX5_killFee 22 = .ok (.getfield 21, 3) := by decide +kernel
theorem dX5_killFee_25 : decode cX5_killFee 25 = .ok (.getfield 67, 3) := by decide +kernel
theorem dX5_killFee_28 : decode cX5_killFee 28 = .ok (.iload_n 1, 1) := by decide +kernel
theorem dX5_killFee_29 : decode cX5_killFee 29 = .ok (.iaload, 1) := by decide +kernel
theorem dX5_killFee_30 : decode cX5_killFee 30 = .ok (.aload_n 0, 1) := by decide +kernel
theorem dX5_killFee_31 : decode cX5_killFee 31 = .ok (.getfield 34, 3) := by decide +kernel
theorem dX5_killFee_34 : decode cX5_killFee 34 = .ok (.iconst 3, 1) := by decide +kernel
theorem dX5_killFee_35 : decode cX5_killFee 35 = .ok (.iload_n 2, 1) := by decide +kernel
theorem dX5_killFee_36 : decode cX5_killFee 36 = .ok (.iadd, 1) := by decide +kernel
theorem dX5_killFee_37 : decode cX5_killFee 37 = .ok (.iaload, 1) := by decide +kernel
theorem dX5_killFee_38 : decode cX5_killFee 38 = .ok (.imul, 1) := by decide +kernel
theorem dX5_killFee_39 : decode cX5_killFee 39 = .ok (.bipush 100, 2) := by decide +kernel
theorem dX5_killFee_41 : decode cX5_killFee 41 = .ok (.idiv, 1) := by decide +kernel
theorem dX5_killFee_42 : decode cX5_killFee 42 = .ok (.ireturn, 1) := by decide +kernel
end
section
theorem dX6_init_0 : decode cX6_init 0 = .ok (.aload_n 0, 1) := by decide +kernel
theorem dX6_init_1 : decode cX6_init 1 = .ok (.invokespecial 1, 3) := by decide +kernel
theorem dX6_init_4 : decode cX6_init 4 = .ok (.aload_n 0, 1) := by decide +kernel
theorem dX6_init_5 : decode cX6_init 5 = .ok (.bipush 7, 2) := by decide +kernel
theorem dX6_init_7 : decode cX6_init 7 = .ok (.anewarray 9, 3) := by decide +kernel
theorem dX6_init_10 : decode cX6_init 10 = .ok (.putfield 11, 3) := by decide +kernel
theorem dX6_init_13 : decode cX6_init 13 = .ok (.aload_n 0, 1) := by decide +kernel
theorem dX6_init_14 : decode cX6_init 14 = .ok (.new 15, 3) := by decide +kernel
theorem dX6_init_17 : decode cX6_init 17 = .ok (.dup, 1) := by decide +kernel
theorem dX6_init_18 : decode cX6_init 18 = .ok (.invokespecial 17, 3) := by decide +kernel
theorem dX6_init_21 : decode cX6_init 21 = .ok (.putfield 18, 3) := by decide +kernel
theorem dX6_init_24 : decode cX6_init 24 = .ok (.aload_n 0, 1) := by decide +kernel
theorem dX6_init_25 : decode cX6_init 25 = .ok (.new 22, 3) := by decide +kernel
theorem dX6_init_28 : decode cX6_init 28 = .ok (.dup, 1) := by decide +kernel
theorem dX6_init_29 : decode cX6_init 29 = .ok (.invokespecial 24, 3) := by decide +kernel
theorem dX6_init_32 : decode cX6_init 32 = .ok (.putfield 25, 3) := by decide +kernel
theorem dX6_init_35 : decode cX6_init 35 = .ok (.aload_n 0, 1) := by decide +kernel
theorem dX6_init_36 : decode cX6_init 36 = .ok (.new 29, 3) := by decide +kernel
theorem dX6_init_39 : decode cX6_init 39 = .ok (.dup, 1) := by decide +kernel
theorem dX6_init_40 : decode cX6_init 40 = .ok (.invokespecial 31, 3) := by decide +kernel
theorem dX6_init_43 : decode cX6_init 43 = .ok (.putfield 32, 3) := by decide +kernel
theorem dX6_init_46 : decode cX6_init 46 = .ok (.aload_n 0, 1) := by decide +kernel
theorem dX6_init_47 : decode cX6_init 47 = .ok (.bipush 12, 2) := by decide +kernel
theorem dX6_init_49 : decode cX6_init 49 = .ok (.newarray .int, 2) := by decide +kernel
theorem dX6_init_51 : decode cX6_init 51 = .ok (.putfield 36, 3) := by decide +kernel
theorem dX6_init_54 : decode cX6_init 54 = .ok (.aload_n 0, 1) := by decide +kernel
theorem dX6_init_55 : decode cX6_init 55 = .ok (.bipush 12, 2) := by decide +kernel
theorem dX6_init_57 : decode cX6_init 57 = .ok (.newarray .int, 2) := by decide +kernel
theorem dX6_init_59 : decode cX6_init 59 = .ok (.putfield 40, 3) := by decide +kernel
theorem dX6_init_62 : decode cX6_init 62 = .ok (.iconst 0, 1) := by decide +kernel
theorem dX6_init_63 : decode cX6_init 63 = .ok (.istore_n 1, 1) := by decide +kernel
theorem dX6_init_64 : decode cX6_init 64 = .ok (.iload_n 1, 1) := by decide +kernel
theorem dX6_init_65 : decode cX6_init 65 = .ok (.aload_n 0, 1) := by decide +kernel
theorem dX6_init_66 : decode cX6_init 66 = .ok (.getfield 11, 3) := by decide +kernel
theorem dX6_init_69 : decode cX6_init 69 = .ok (.arraylength, 1) := by decide +kernel
theorem dX6_init_70 : decode cX6_init 70 = .ok (.if_icmp .ge 22, 3) := by decide +kernel
theorem dX6_init_73 : decode cX6_init 73 = .ok (.aload_n 0, 1) := by decide +kernel
theorem dX6_init_74 : decode cX6_init 74 = .ok (.getfield 11, 3) := by decide +kernel
theorem dX6_init_77 : decode cX6_init 77 = .ok (.iload_n 1, 1) := by decide +kernel
theorem dX6_init_78 : decode cX6_init 78 = .ok (.new 9, 3) := by decide +kernel
theorem dX6_init_81 : decode cX6_init 81 = .ok (.dup, 1) := by decide +kernel
theorem dX6_init_82 : decode cX6_init 82 = .ok (.invokespecial 43, 3) := by decide +kernel
theorem dX6_init_85 : decode cX6_init 85 = .ok (.aastore, 1) := by decide +kernel
theorem dX6_init_86 : decode cX6_init 86 = .ok (.iinc 1 1, 3) := by decide +kernel
theorem dX6_init_89 : decode cX6_init 89 = .ok (.goto (-25), 3) := by decide +kernel
theorem dX6_init_92 : decode cX6_init 92 = .ok (.aload_n 0, 1) := by decide +kernel
theorem dX6_init_93 : decode cX6_init 93 = .ok (.aload_n 0, 1) := by decide +kernel
theorem dX6_init_94 : decode cX6_init 94 = .ok (.getfield 11, 3) := by decide +kernel
theorem dX6_init_97 : decode cX6_init 97 = .ok (.iconst 0, 1) := by decide +kernel
theorem dX6_init_98 : decode cX6_init 98 = .ok (.aaload, 1) := by decide +kernel
theorem dX6_init_99 : decode cX6_init 99 = .ok (.putfield 44, 3) := by decide +kernel
theorem dX6_init_102 : decode cX6_init 102 = .ok (.return_, 1) := by decide +kernel
theorem dX6_addPen_0 : decode cX6_addPen 0 = .ok (.aload_n 0, 1) := by decide +kernel
theorem dX6_addPen_1 : decode cX6_addPen 1 = .ok (.getfield 44, 3) := by decide +kernel
theorem dX6_addPen_4 : decode cX6_addPen 4 = .ok (.getfield 48, 3) := by decide +kernel
theorem dX6_addPen_7 : decode cX6_addPen 7 = .ok (.getfield 52, 3) := by decide +kernel
theorem dX6_addPen_10 : decode cX6_addPen 10 = .ok (.bipush 12, 2) := by decide +kernel
theorem dX6_addPen_12 : decode cX6_addPen 12 = .ok (.if_icmp .lt 13, 3) := by decide +kernel
theorem dX6_addPen_15 : decode cX6_addPen 15 = .ok (.new 58, 3) := by decide +kernel
theorem dX6_addPen_18 : decode cX6_addPen 18 = .ok (.dup, 1) := by decide +kernel
theorem dX6_addPen_19 : decode cX6_addPen 19 = .ok (.ldc 60, 2) := by decide +kernel
theorem dX6_addPen_21 : decode cX6_addPen 21 = .ok (.invokespecial 62, 3) := by decide +kernel
theorem dX6_addPen_24 : decode cX6_addPen 24 = .ok (.athrow, 1) := by decide +kernel
theorem dX6_addPen_25 : decode cX6_addPen 25 = .ok (.aload_n 0, 1) := by decide +kernel
theorem dX6_addPen_26 : decode cX6_addPen 26 = .ok (.invokevirtual 65, 3) := by decide +kernel
theorem dX6_addPen_29 : decode cX6_addPen 29 = .ok (.aload_n 0, 1) := by decide +kernel
theorem dX6_addPen_30 : decode cX6_addPen 30 = .ok (.getfield 44, 3) := by decide +kernel
theorem dX6_addPen_33 : decode cX6_addPen 33 = .ok (.getfield 48, 3) := by decide +kernel
theorem dX6_addPen_36 : decode cX6_addPen 36 = .ok (.getfield 52, 3) := by decide +kernel
theorem dX6_addPen_39 : decode cX6_addPen 39 = .ok (.istore_n 1, 1) := by decide +kernel
theorem dX6_addPen_40 : decode cX6_addPen 40 = .ok (.aload_n 0, 1) := by decide +kernel
theorem dX6_addPen_41 : decode cX6_addPen 41 = .ok (.getfield 44, 3) := by decide +kernel
theorem dX6_addPen_44 : decode cX6_addPen 44 = .ok (.getfield 48, 3) := by decide +kernel
theorem dX6_addPen_47 : decode cX6_addPen 47 = .ok (.getfield 68, 3) := by decide +kernel
theorem dX6_addPen_50 : decode cX6_addPen 50 = .ok (.iload_n 1, 1) := by decide +kernel
theorem dX6_addPen_51 : decode cX6_addPen 51 = .ok (.iload_n 1, 1) := by decide +kernel
theorem dX6_addPen_52 : decode cX6_addPen 52 = .ok (.iastore, 1) := by decide +kernel
theorem dX6_addPen_53 : decode cX6_addPen 53 = .ok (.aload_n 0, 1) := by decide +kernel
theorem dX6_addPen_54 : decode cX6_addPen 54 = .ok (.getfield 44, 3) := by decide +kernel
theorem dX6_addPen_57 : decode cX6_addPen 57 = .ok (.getfield 48, 3) := by decide +kernel
theorem dX6_addPen_60 : decode cX6_addPen 60 = .ok (.iload_n 1, 1) := by decide +kernel
theorem dX6_addPen_61 : decode cX6_addPen 61 = .ok (.iconst 1, 1) := by decide +kernel
theorem dX6_addPen_62 : decode cX6_addPen 62 = .ok (.iadd, 1) := by decide +kernel
theorem dX6_addPen_63 : decode cX6_addPen 63 = .ok (.putfield 52, 3) := by decide +kernel
theorem dX6_addPen_66 : decode cX6_addPen 66 = .ok (.iload_n 1, 1) := by decide +kernel
theorem dX6_addPen_67 : decode cX6_addPen 67 = .ok (.ireturn, 1) := by decide +kernel
theorem dX6_sell_0 : decode cX6_sell 0 = .ok (.aload_n 0, 1) := by decide +kernel
theorem dX6_sell_1 : decode cX6_sell 1 = .ok (.iload_n 1, 1) := by decide +kernel
theorem dX6_sell_2 : decode cX6_sell 2 = .ok (.invokevirtual 71, 3) := by decide +kernel
theorem dX6_sell_5 : decode cX6_sell 5 = .ok (.aload_n 0, 1) := by decide +kernel
theorem dX6_sell_6 : decode cX6_sell 6 = .ok (.iload_n 2, 1) := by decide +kernel
theorem dX6_sell_7 : decode cX6_sell 7 = .ok (.invokevirtual 71, 3) := by decide +kernel
theorem dX6_sell_10 : decode cX6_sell 10 = .ok (.iload_n 3, 1) := by decide +kernel
theorem dX6_sell_11 : decode cX6_sell 11 = .ok (.iconst 0, 1) := by decide +kernel
theorem dX6_sell_12 : decode cX6_sell 12 = .ok (.ldc 75, 2) := by decide +kernel
theorem dX6_sell_14 : decode cX6_sell 14 = .ok (.invokestatic 76, 3) := by decide +kernel
theorem dX6_sell_17 : decode cX6_sell 17 = .ok (.aload_n 0, 1) := by decide +kernel
theorem dX6_sell_18 : decode cX6_sell 18 = .ok (.getfield 44, 3) := by decide +kernel
theorem dX6_sell_21 : decode cX6_sell 21 = .ok (.getfield 48, 3) := by decide +kernel
theorem dX6_sell_24 : decode cX6_sell 24 = .ok (.getfield 68, 3) := by decide +kernel
theorem dX6_sell_27 : decode cX6_sell 27 = .ok (.iload_n 1, 1) := by decide +kernel
theorem dX6_sell_28 : decode cX6_sell 28 = .ok (.iaload, 1) := by decide +kernel
theorem dX6_sell_29 : decode cX6_sell 29 = .ok (.istore 4, 2) := by decide +kernel
theorem dX6_sell_31 : decode cX6_sell 31 = .ok (.iload 4, 2) := by decide +kernel
theorem dX6_sell_33 : decode cX6_sell 33 = .ok (.iload_n 2, 1) := by decide +kernel
theorem dX6_sell_34 : decode cX6_sell 34 = .ok (.if_icmp .ne 13, 3) := by decide +kernel
theorem dX6_sell_37 : decode cX6_sell 37 = .ok (.new 80, 3) := by decide +kernel
theorem dX6_sell_40 : decode cX6_sell 40 = .ok (.dup, 1) := by decide +kernel
theorem dX6_sell_41 : decode cX6_sell 41 = .ok (.ldc 82, 2) := by decide +kernel
theorem dX6_sell_43 : decode cX6_sell 43 = .ok (.invokespecial 84, 3) := by decide +kernel
theorem dX6_sell_46 : decode cX6_sell 46 = .ok (.athrow, 1) := by decide +kernel
theorem dX6_sell_47 : decode cX6_sell 47 = .ok (.aload_n 0, 1) := by decide +kernel
theorem dX6_sell_48 : decode cX6_sell 48 = .ok (.getfield 44, 3) := by decide +kernel
theorem dX6_sell_51 : decode cX6_sell 51 = .ok (.getfield 48, 3) := by decide +kernel
theorem dX6_sell_54 : decode cX6_sell 54 = .ok (.getfield 85, 3) := by decide +kernel
theorem dX6_sell_57 : decode cX6_sell 57 = .ok (.iload_n 2, 1) := by decide +kernel
theorem dX6_sell_58 : decode cX6_sell 58 = .ok (.iaload, 1) := by decide +kernel
theorem dX6_sell_59 : decode cX6_sell 59 = .ok (.iload_n 3, 1) := by decide +kernel
theorem dX6_sell_60 : decode cX6_sell 60 = .ok (.invokestatic 88, 3) := by decide +kernel
theorem dX6_sell_63 : decode cX6_sell 63 = .ok (.aload_n 0, 1) := by decide +kernel
theorem dX6_sell_64 : decode cX6_sell 64 = .ok (.invokevirtual 65, 3) := by decide +kernel
theorem dX6_sell_67 : decode cX6_sell 67 = .ok (.aload_n 0, 1) := by decide +kernel
theorem dX6_sell_68 : decode cX6_sell 68 = .ok (.getfield 44, 3) := by decide +kernel
theorem dX6_sell_71 : decode cX6_sell 71 = .ok (.getfield 48, 3) := by decide +kernel
theorem dX6_sell_74 : decode cX6_sell 74 = .ok (.iload_n 1, 1) := by decide +kernel
theorem dX6_sell_75 : decode cX6_sell 75 = .ok (.iload_n 2, 1) := by decide +kernel
theorem dX6_sell_76 : decode cX6_sell 76 = .ok (.iload_n 3, 1) := by decide +kernel
theorem dX6_sell_77 : decode cX6_sell 77 = .ok (.invokevirtual 92, 3) := by decide +kernel
theorem dX6_sell_80 : decode cX6_sell 80 = .ok (.iload 4, 2) := by decide +kernel
theorem dX6_sell_82 : decode cX6_sell 82 = .ok (.ireturn, 1) := by decide +kernel
theorem dX6_buyBack_0 : decode cX6_buyBack 0 = .ok (.aload_n 0, 1) := by decide +kernel
theorem dX6_buyBack_1 : decode cX6_buyBack 1 = .ok (.iload_n 1, 1) := by decide +kernel
theorem dX6_buyBack_2 : decode cX6_buyBack 2 = .ok (.invokevirtual 71, 3) := by decide +kernel
theorem dX6_buyBack_5 : decode cX6_buyBack 5 = .ok (.aload_n 0, 1) := by decide +kernel
theorem dX6_buyBack_6 : decode cX6_buyBack 6 = .ok (.getfield 44, 3) := by decide +kernel
theorem dX6_buyBack_9 : decode cX6_buyBack 9 = .ok (.getfield 48, 3) := by decide +kernel
theorem dX6_buyBack_12 : decode cX6_buyBack 12 = .ok (.getfield 68, 3) := by decide +kernel
theorem dX6_buyBack_15 : decode cX6_buyBack 15 = .ok (.iload_n 1, 1) := by decide +kernel
theorem dX6_buyBack_16 : decode cX6_buyBack 16 = .ok (.iaload, 1) := by decide +kernel
theorem dX6_buyBack_17 : decode cX6_buyBack 17 = .ok (.iload_n 1, 1) := by decide +kernel
theorem dX6_buyBack_18 : decode cX6_buyBack 18 = .ok (.if_icmp .ne 13, 3) := by decide +kernel
theorem dX6_buyBack_21 : decode cX6_buyBack 21 = .ok (.new 58, 3) := by decide +kernel
theorem dX6_buyBack_24 : decode cX6_buyBack 24 = .ok (.dup, 1) := by decide +kernel
theorem dX6_buyBack_25 : decode cX6_buyBack 25 = .ok (.ldc 95, 2) := by decide +kernel
theorem dX6_buyBack_27 : decode cX6_buyBack 27 = .ok (.invokespecial 62, 3) := by decide +kernel
theorem dX6_buyBack_30 : decode cX6_buyBack 30 = .ok (.athrow, 1) := by decide +kernel
theorem dX6_buyBack_31 : decode cX6_buyBack 31 = .ok (.aload_n 0, 1) := by decide +kernel
theorem dX6_buyBack_32 : decode cX6_buyBack 32 = .ok (.getfield 44, 3) := by decide +kernel
theorem dX6_buyBack_35 : decode cX6_buyBack 35 = .ok (.getfield 48, 3) := by decide +kernel
theorem dX6_buyBack_38 : decode cX6_buyBack 38 = .ok (.getfield 97, 3) := by decide +kernel
theorem dX6_buyBack_41 : decode cX6_buyBack 41 = .ok (.iload_n 1, 1) := by decide +kernel
theorem dX6_buyBack_42 : decode cX6_buyBack 42 = .ok (.iaload, 1) := by decide +kernel
theorem dX6_buyBack_43 : decode cX6_buyBack 43 = .ok (.aload_n 0, 1) := by decide +kernel
theorem dX6_buyBack_44 : decode cX6_buyBack 44 = .ok (.getfield 44, 3) := by decide +kernel
theorem dX6_buyBack_47 : decode cX6_buyBack 47 = .ok (.getfield 48, 3) := by decide +kernel
theorem dX6_buyBack_50 : decode cX6_buyBack 50 = .ok (.getfield 97, 3) := by decide +kernel
theorem dX6_buyBack_53 : decode cX6_buyBack 53 = .ok (.iload_n 1, 1) := by decide +kernel
theorem dX6_buyBack_54 : decode cX6_buyBack 54 = .ok (.iaload, 1) := by decide +kernel
theorem dX6_buyBack_55 : decode cX6_buyBack 55 = .ok (.bipush 10, 2) := by decide +kernel
theorem dX6_buyBack_57 : decode cX6_buyBack 57 = .ok (.idiv, 1) := by decide +kernel
theorem dX6_buyBack_58 : decode cX6_buyBack 58 = .ok (.iadd, 1) := by decide +kernel
theorem dX6_buyBack_59 : decode cX6_buyBack 59 = .ok (.istore_n 2, 1) := by decide +kernel
theorem dX6_buyBack_60 : decode cX6_buyBack 60 = .ok (.aload_n 0, 1) := by decide +kernel
theorem dX6_buyBack_61 : decode cX6_buyBack 61 = .ok (.getfield 44, 3) := by decide +kernel
theorem dX6_buyBack_64 : decode cX6_buyBack 64 = .ok (.getfield 48, 3) := by decide +kernel
theorem dX6_buyBack_67 : decode cX6_buyBack 67 = .ok (.getfield 85, 3) := by decide +kernel
theorem dX6_buyBack_70 : decode cX6_buyBack 70 = .ok (.iload_n 1, 1) := by decide +kernel
theorem dX6_buyBack_71 : decode cX6_buyBack 71 = .ok (.iaload, 1) := by decide +kernel
theorem dX6_buyBack_72 : decode cX6_buyBack 72 = .ok (.iload_n 2, 1) := by decide +kernel
theorem dX6_buyBack_73 : decode cX6_buyBack 73 = .ok (.invokestatic 88, 3) := by decide +kernel
theorem dX6_buyBack_76 : decode cX6_buyBack 76 = .ok (.aload_n 0, 1) := by decide +kernel
theorem dX6_buyBack_77 : decode cX6_buyBack 77 = .ok (.invokevirtual 65, 3) := by decide +kernel
theorem dX6_buyBack_80 : decode cX6_buyBack 80 = .ok (.aload_n 0, 1) := by decide +kernel
theorem dX6_buyBack_81 : decode cX6_buyBack 81 = .ok (.getfield 44, 3) := by decide +kernel
theorem dX6_buyBack_84 : decode cX6_buyBack 84 = .ok (.getfield 48, 3) := by decide +kernel
theorem dX6_buyBack_87 : decode cX6_buyBack 87 = .ok (.iload_n 1, 1) := by decide +kernel
theorem dX6_buyBack_88 : decode cX6_buyBack 88 = .ok (.iload_n 1, 1) := by decide +kernel
theorem dX6_buyBack_89 : decode cX6_buyBack 89 = .ok (.iload_n 2, 1) := by decide +kernel
theorem dX6_buyBack_90 : decode cX6_buyBack 90 = .ok (.invokevirtual 92, 3) := by decide +kernel
theorem dX6_buyBack_93 : decode cX6_buyBack 93 = .ok (.iload_n 2, 1) := by decide +kernel
theorem dX6_buyBack_94 : decode cX6_buyBack 94 = .ok (.ireturn, 1) := by decide +kernel
theorem dX6_advance_0 : decode cX6_advance 0 = .ok (.aload_n 0, 1) := by decide +kernel
theorem dX6_advance_1 : decode cX6_advance 1 = .ok (.iload_n 1, 1) := by decide +kernel
theorem dX6_advance_2 : decode cX6_advance 2 = .ok (.invokevirtual 71, 3) := by decide +kernel
theorem dX6_advance_5 : decode cX6_advance 5 = .ok (.iload_n 2, 1) := by decide +kernel
theorem dX6_advance_6 : decode cX6_advance 6 = .ok (.iconst 1, 1) := by decide +kernel
theorem dX6_advance_7 : decode cX6_advance 7 = .ok (.ldc 75, 2) := by decide +kernel
theorem dX6_advance_9 : decode cX6_advance 9 = .ok (.invokestatic 76, 3) := by decide +kernel
theorem dX6_advance_12 : decode cX6_advance 12 = .ok (.aload_n 0, 1) := by decide +kernel
theorem dX6_advance_13 : decode cX6_advance 13 = .ok (.getfield 44, 3) := by decide +kernel
theorem dX6_advance_16 : decode cX6_advance 16 = .ok (.getfield 100, 3) := by decide +kernel
theorem dX6_advance_19 : decode cX6_advance 19 = .ok (.iload_n 2, 1) := by decide +kernel
theorem dX6_advance_20 : decode cX6_advance 20 = .ok (.invokestatic 88, 3) := by decide +kernel
theorem dX6_advance_23 : decode cX6_advance 23 = .ok (.aload_n 0, 1) := by decide +kernel
theorem dX6_advance_24 : decode cX6_advance 24 = .ok (.invokevirtual 65, 3) := by decide +kernel
theorem dX6_advance_27 : decode cX6_advance 27 = .ok (.aload_n 0, 1) := by decide +kernel
theorem dX6_advance_28 : decode cX6_advance 28 = .ok (.getfield 44, 3) := by decide +kernel
theorem dX6_advance_31 : decode cX6_advance 31 = .ok (.dup, 1) := by decide +kernel
theorem dX6_advance_32 : decode cX6_advance 32 = .ok (.getfield 100, 3) := by decide +kernel
theorem dX6_advance_35 : decode cX6_advance 35 = .ok (.iload_n 2, 1) := by decide +kernel
theorem dX6_advance_36 : decode cX6_advance 36 = .ok (.isub, 1) := by decide +kernel
theorem dX6_advance_37 : decode cX6_advance 37 = .ok (.putfield 100, 3) := by decide +kernel
theorem dX6_advance_40 : decode cX6_advance 40 = .ok (.aload_n 0, 1) := by decide +kernel
theorem dX6_advance_41 : decode cX6_advance 41 = .ok (.getfield 44, 3) := by decide +kernel
theorem dX6_advance_44 : decode cX6_advance 44 = .ok (.getfield 48, 3) := by decide +kernel
theorem dX6_advance_47 : decode cX6_advance 47 = .ok (.getfield 85, 3) := by decide +kernel
theorem dX6_advance_50 : decode cX6_advance 50 = .ok (.iload_n 1, 1) := by decide +kernel
theorem dX6_advance_51 : decode cX6_advance 51 = .ok (.dup2, 1) := by decide +kernel
theorem dX6_advance_52 : decode cX6_advance 52 = .ok (.iaload, 1) := by decide +kernel
theorem dX6_advance_53 : decode cX6_advance 53 = .ok (.iload_n 2, 1) := by decide +kernel
theorem dX6_advance_54 : decode cX6_advance 54 = .ok (.iadd, 1) := by decide +kernel
theorem dX6_advance_55 : decode cX6_advance 55 = .ok (.iastore, 1) := by decide +kernel
theorem dX6_advance_56 : decode cX6_advance 56 = .ok (.aload_n 0, 1) := by decide +kernel
theorem dX6_advance_57 : decode cX6_advance 57 = .ok (.getfield 44, 3) := by decide +kernel
theorem dX6_advance_60 : decode cX6_advance 60 = .ok (.getfield 48, 3) := by decide +kernel
theorem dX6_advance_63 : decode cX6_advance 63 = .ok (.getfield 103, 3) := by decide +kernel
theorem dX6_advance_66 : decode cX6_advance 66 = .ok (.iload_n 1, 1) := by decide +kernel
theorem dX6_advance_67 : decode cX6_advance 67 = .ok (.dup2, 1) := by decide +kernel
theorem dX6_advance_68 : decode cX6_advance 68 = .ok (.iaload, 1) := by decide +kernel
theorem dX6_advance_69 : decode cX6_advance 69 = .ok (.iload_n 2, 1) := by decide +kernel
theorem dX6_advance_70 : decode cX6_advance 70 = .ok (.iadd, 1) := by decide +kernel
theorem dX6_advance_71 : decode cX6_advance 71 = .ok (.iastore, 1) := by decide +kernel
theorem dX6_advance_72 : decode cX6_advance 72 = .ok (.aload_n 0, 1) := by decide +kernel
theorem dX6_advance_73 : decode cX6_advance 73 = .ok (.getfield 44, 3) := by decide +kernel
theorem dX6_advance_76 : decode cX6_advance 76 = .ok (.getfield 48, 3) := by decide +kernel
theorem dX6_advance_79 : decode cX6_advance 79 = .ok (.getfield 103, 3) := by decide +kernel
theorem dX6_advance_82 : decode cX6_advance 82 = .ok (.iload_n 1, 1) := by decide +kernel
theorem dX6_advance_83 : decode cX6_advance 83 = .ok (.iaload, 1) := by decide +kernel
theorem dX6_advance_84 : decode cX6_advance 84 = .ok (.ireturn, 1) := by decide +kernel
theorem dX6_withdraw_0 : decode cX6_withdraw 0 = .ok (.aload_n 0, 1) := by decide +kernel
theorem dX6_withdraw_1 : decode cX6_withdraw 1 = .ok (.iload_n 1, 1) := by decide +kernel
theorem dX6_withdraw_2 : decode cX6_withdraw 2 = .ok (.invokevirtual 71, 3) := by decide +kernel
theorem dX6_withdraw_5 : decode cX6_withdraw 5 = .ok (.iload_n 2, 1) := by decide +kernel
theorem dX6_withdraw_6 : decode cX6_withdraw 6 = .ok (.iconst 1, 1) := by decide +kernel
theorem dX6_withdraw_7 : decode cX6_withdraw 7 = .ok (.ldc 75, 2) := by decide +kernel
theorem dX6_withdraw_9 : decode cX6_withdraw 9 = .ok (.invokestatic 76, 3) := by decide +kernel
theorem dX6_withdraw_12 : decode cX6_withdraw 12 = .ok (.aload_n 0, 1) := by decide +kernel
theorem dX6_withdraw_13 : decode cX6_withdraw 13 = .ok (.getfield 44, 3) := by decide +kernel
theorem dX6_withdraw_16 : decode cX6_withdraw 16 = .ok (.getfield 48, 3) := by decide +kernel
theorem dX6_withdraw_19 : decode cX6_withdraw 19 = .ok (.getfield 85, 3) := by decide +kernel
theorem dX6_withdraw_22 : decode cX6_withdraw 22 = .ok (.iload_n 1, 1) := by decide +kernel
theorem dX6_withdraw_23 : decode cX6_withdraw 23 = .ok (.iaload, 1) := by decide +kernel
theorem dX6_withdraw_24 : decode cX6_withdraw 24 = .ok (.iload_n 2, 1) := by decide +kernel
theorem dX6_withdraw_25 : decode cX6_withdraw 25 = .ok (.invokestatic 88, 3) := by decide +kernel
theorem dX6_withdraw_28 : decode cX6_withdraw 28 = .ok (.aload_n 0, 1) := by decide +kernel
theorem dX6_withdraw_29 : decode cX6_withdraw 29 = .ok (.invokevirtual 65, 3) := by decide +kernel
theorem dX6_withdraw_32 : decode cX6_withdraw 32 = .ok (.aload_n 0, 1) := by decide +kernel
theorem dX6_withdraw_33 : decode cX6_withdraw 33 = .ok (.getfield 44, 3) := by decide +kernel
theorem dX6_withdraw_36 : decode cX6_withdraw 36 = .ok (.getfield 48, 3) := by decide +kernel
theorem dX6_withdraw_39 : decode cX6_withdraw 39 = .ok (.getfield 85, 3) := by decide +kernel
theorem dX6_withdraw_42 : decode cX6_withdraw 42 = .ok (.iload_n 1, 1) := by decide +kernel
theorem dX6_withdraw_43 : decode cX6_withdraw 43 = .ok (.dup2, 1) := by decide +kernel
theorem dX6_withdraw_44 : decode cX6_withdraw 44 = .ok (.iaload, 1) := by decide +kernel
theorem dX6_withdraw_45 : decode cX6_withdraw 45 = .ok (.iload_n 2, 1) := by decide +kernel
theorem dX6_withdraw_46 : decode cX6_withdraw 46 = .ok (.isub, 1) := by decide +kernel
theorem dX6_withdraw_47 : decode cX6_withdraw 47 = .ok (.iastore, 1) := by decide +kernel
theorem dX6_withdraw_48 : decode cX6_withdraw 48 = .ok (.aload_n 0, 1) := by decide +kernel
theorem dX6_withdraw_49 : decode cX6_withdraw 49 = .ok (.getfield 44, 3) := by decide +kernel
theorem dX6_withdraw_52 : decode cX6_withdraw 52 = .ok (.getfield 48, 3) := by decide +kernel
theorem dX6_withdraw_55 : decode cX6_withdraw 55 = .ok (.getfield 106, 3) := by decide +kernel
theorem dX6_withdraw_58 : decode cX6_withdraw 58 = .ok (.iload_n 1, 1) := by decide +kernel
theorem dX6_withdraw_59 : decode cX6_withdraw 59 = .ok (.dup2, 1) := by decide +kernel
theorem dX6_withdraw_60 : decode cX6_withdraw 60 = .ok (.iaload, 1) := by decide +kernel
theorem dX6_withdraw_61 : decode cX6_withdraw 61 = .ok (.iload_n 2, 1) := by decide +kernel
theorem dX6_withdraw_62 : decode cX6_withdraw 62 = .ok (.iadd, 1) := by decide +kernel
theorem dX6_withdraw_63 : decode cX6_withdraw 63 = .ok (.iastore, 1) := by decide +kernel
theorem dX6_withdraw_64 : decode cX6_withdraw 64 = .ok (.aload_n 0, 1) := by decide +kernel
theorem dX6_withdraw_65 : decode cX6_withdraw 65 = .ok (.getfield 44, 3) := by decide +kernel
theorem dX6_withdraw_68 : decode cX6_withdraw 68 = .ok (.getfield 48, 3) := by decide +kernel
theorem dX6_withdraw_71 : decode cX6_withdraw 71 = .ok (.getfield 85, 3) := by decide +kernel
theorem dX6_withdraw_74 : decode cX6_withdraw 74 = .ok (.iload_n 1, 1) := by decide +kernel
theorem dX6_withdraw_75 : decode cX6_withdraw 75 = .ok (.iaload, 1) := by decide +kernel
theorem dX6_withdraw_76 : decode cX6_withdraw 76 = .ok (.ireturn, 1) := by decide +kernel
theorem dX6_set_0 : decode cX6_set 0 = .ok (.iload_n 1, 1) := by decide +kernel
theorem dX6_set_1 : decode cX6_set 1 = .ok (.invokestatic 109, 3) := by decide +kernel
theorem dX6_set_4 : decode cX6_set 4 = .ok (.iload_n 2, 1) := by decide +kernel
theorem dX6_set_5 : decode cX6_set 5 = .ok (.iconst 0, 1) := by decide +kernel
theorem dX6_set_6 : decode cX6_set 6 = .ok (.getstatic 112, 3) := by decide +kernel
theorem dX6_set_9 : decode cX6_set 9 = .ok (.iload_n 1, 1) := by decide +kernel
theorem dX6_set_10 : decode cX6_set 10 = .ok (.iaload, 1) := by decide +kernel
theorem dX6_set_11 : decode cX6_set 11 = .ok (.invokestatic 76, 3) := by decide +kernel
theorem dX6_set_14 : decode cX6_set 14 = .ok (.aload_n 0, 1) := by decide +kernel
theorem dX6_set_15 : decode cX6_set 15 = .ok (.invokevirtual 65, 3) := by decide +kernel
theorem dX6_set_18 : decode cX6_set 18 = .ok (.aload_n 0, 1) := by decide +kernel
theorem dX6_set_19 : decode cX6_set 19 = .ok (.getfield 44, 3) := by decide +kernel
theorem dX6_set_22 : decode cX6_set 22 = .ok (.getfield 115, 3) := by decide +kernel
theorem dX6_set_25 : decode cX6_set 25 = .ok (.iload_n 1, 1) := by decide +kernel
theorem dX6_set_26 : decode cX6_set 26 = .ok (.iaload, 1) := by decide +kernel
theorem dX6_set_27 : decode cX6_set 27 = .ok (.istore_n 3, 1) := by decide +kernel
theorem dX6_set_28 : decode cX6_set 28 = .ok (.aload_n 0, 1) := by decide +kernel
theorem dX6_set_29 : decode cX6_set 29 = .ok (.getfield 44, 3) := by decide +kernel
theorem dX6_set_32 : decode cX6_set 32 = .ok (.getfield 115, 3) := by decide +kernel
theorem dX6_set_35 : decode cX6_set 35 = .ok (.iload_n 1, 1) := by decide +kernel
theorem dX6_set_36 : decode cX6_set 36 = .ok (.iload_n 2, 1) := by decide +kernel
theorem dX6_set_37 : decode cX6_set 37 = .ok (.iastore, 1) := by decide +kernel
theorem dX6_set_38 : decode cX6_set 38 = .ok (.iload_n 3, 1) := by decide +kernel
theorem dX6_set_39 : decode cX6_set 39 = .ok (.ireturn, 1) := by decide +kernel
theorem dX6_nextYear_0 : decode cX6_nextYear 0 = .ok (.aload_n 0, 1) := by decide +kernel
theorem dX6_nextYear_1 : decode cX6_nextYear 1 = .ok (.invokevirtual 65, 3) := by decide +kernel
theorem dX6_nextYear_4 : decode cX6_nextYear 4 = .ok (.aload_n 0, 1) := by decide +kernel
theorem dX6_nextYear_5 : decode cX6_nextYear 5 = .ok (.getfield 44, 3) := by decide +kernel
theorem dX6_nextYear_8 : decode cX6_nextYear 8 = .ok (.dup, 1) := by decide +kernel
theorem dX6_nextYear_9 : decode cX6_nextYear 9 = .ok (.getfield 118, 3) := by decide +kernel
theorem dX6_nextYear_12 : decode cX6_nextYear 12 = .ok (.iconst 1, 1) := by decide +kernel
theorem dX6_nextYear_13 : decode cX6_nextYear 13 = .ok (.iadd, 1) := by decide +kernel
theorem dX6_nextYear_14 : decode cX6_nextYear 14 = .ok (.putfield 118, 3) := by decide +kernel
theorem dX6_nextYear_17 : decode cX6_nextYear 17 = .ok (.aload_n 0, 1) := by decide +kernel
theorem dX6_nextYear_18 : decode cX6_nextYear 18 = .ok (.getfield 44, 3) := by decide +kernel
theorem dX6_nextYear_21 : decode cX6_nextYear 21 = .ok (.getfield 121, 3) := by decide +kernel
theorem dX6_nextYear_24 : decode cX6_nextYear 24 = .ok (.getfield 125, 3) := by decide +kernel
theorem dX6_nextYear_27 : decode cX6_nextYear 27 = .ok (.iconst 0, 1) := by decide +kernel
theorem dX6_nextYear_28 : decode cX6_nextYear 28 = .ok (.invokestatic 130, 3) := by decide +kernel
theorem dX6_nextYear_31 : decode cX6_nextYear 31 = .ok (.aload_n 0, 1) := by decide +kernel
theorem dX6_nextYear_32 : decode cX6_nextYear 32 = .ok (.getfield 44, 3) := by decide +kernel
theorem dX6_nextYear_35 : decode cX6_nextYear 35 = .ok (.getfield 118, 3) := by decide +kernel
theorem dX6_nextYear_38 : decode cX6_nextYear 38 = .ok (.ireturn, 1) := by decide +kernel
theorem dX6_order_0 : decode cX6_order 0 = .ok (.aload_n 0, 1) := by decide +kernel
theorem dX6_order_1 : decode cX6_order 1 = .ok (.iload_n 1, 1) := by decide +kernel
theorem dX6_order_2 : decode cX6_order 2 = .ok (.invokevirtual 71, 3) := by decide +kernel
theorem dX6_order_5 : decode cX6_order 5 = .ok (.iload_n 2, 1) := by decide +kernel
theorem dX6_order_6 : decode cX6_order 6 = .ok (.bipush 10, 2) := by decide +kernel
theorem dX6_order_8 : decode cX6_order 8 = .ok (.ldc 75, 2) := by decide +kernel
theorem dX6_order_10 : decode cX6_order 10 = .ok (.invokestatic 76, 3) := by decide +kernel
theorem dX6_order_13 : decode cX6_order 13 = .ok (.aload_n 0, 1) := by decide +kernel
theorem dX6_order_14 : decode cX6_order 14 = .ok (.getfield 44, 3) := by decide +kernel
theorem dX6_order_17 : decode cX6_order 17 = .ok (.getfield 121, 3) := by decide +kernel
theorem dX6_order_20 : decode cX6_order 20 = .ok (.getfield 136, 3) := by decide +kernel
theorem dX6_order_23 : decode cX6_order 23 = .ok (.bipush 20, 2) := by decide +kernel
theorem dX6_order_25 : decode cX6_order 25 = .ok (.if_icmp .lt 13, 3) := by decide +kernel
theorem dX6_order_28 : decode cX6_order 28 = .ok (.new 58, 3) := by decide +kernel
theorem dX6_order_31 : decode cX6_order 31 = .ok (.dup, 1) := by decide +kernel
theorem dX6_order_32 : decode cX6_order 32 = .ok (.ldc 137, 2) := by decide +kernel
theorem dX6_order_34 : decode cX6_order 34 = .ok (.invokespecial 62, 3) := by decide +kernel
theorem dX6_order_37 : decode cX6_order 37 = .ok (.athrow, 1) := by decide +kernel
theorem dX6_order_38 : decode cX6_order 38 = .ok (.aload_n 0, 1) := by decide +kernel
theorem dX6_order_39 : decode cX6_order 39 = .ok (.invokevirtual 65, 3) := by decide +kernel
theorem dX6_order_42 : decode cX6_order 42 = .ok (.aload_n 0, 1) := by decide +kernel
theorem dX6_order_43 : decode cX6_order 43 = .ok (.getfield 44, 3) := by decide +kernel
theorem dX6_order_46 : decode cX6_order 46 = .ok (.getfield 121, 3) := by decide +kernel
theorem dX6_order_49 : decode cX6_order 49 = .ok (.iload_n 1, 1) := by decide +kernel
theorem dX6_order_50 : decode cX6_order 50 = .ok (.iload_n 2, 1) := by decide +kernel
theorem dX6_order_51 : decode cX6_order 51 = .ok (.invokevirtual 139, 3) := by decide +kernel
theorem dX6_order_54 : decode cX6_order 54 = .ok (.ireturn, 1) := by decide +kernel
theorem dX6_draft_0 : decode cX6_draft 0 = .ok (.aload_n 0, 1) := by decide +kernel
theorem dX6_draft_1 : decode cX6_draft 1 = .ok (.iload_n 1, 1) := by decide +kernel
theorem dX6_draft_2 : decode cX6_draft 2 = .ok (.invokevirtual 143, 3) := by decide +kernel
theorem dX6_draft_5 : decode cX6_draft 5 = .ok (.aload_n 0, 1) := by decide +kernel
theorem dX6_draft_6 : decode cX6_draft 6 = .ok (.iload_n 2, 1) := by decide +kernel
theorem dX6_draft_7 : decode cX6_draft 7 = .ok (.invokevirtual 71, 3) := by decide +kernel
theorem dX6_draft_10 : decode cX6_draft 10 = .ok (.aload_n 0, 1) := by decide +kernel
theorem dX6_draft_11 : decode cX6_draft 11 = .ok (.iload_n 1, 1) := by decide +kernel
theorem dX6_draft_12 : decode cX6_draft 12 = .ok (.invokevirtual 146, 3) := by decide +kernel
theorem dX6_draft_15 : decode cX6_draft 15 = .ok (.aload_n 0, 1) := by decide +kernel
theorem dX6_draft_16 : decode cX6_draft 16 = .ok (.getfield 44, 3) := by decide +kernel
theorem dX6_draft_19 : decode cX6_draft 19 = .ok (.getfield 121, 3) := by decide +kernel
theorem dX6_draft_22 : decode cX6_draft 22 = .ok (.iload_n 1, 1) := by decide +kernel
theorem dX6_draft_23 : decode cX6_draft 23 = .ok (.invokevirtual 149, 3) := by decide +kernel
theorem dX6_draft_26 : decode cX6_draft 26 = .ok (.istore_n 3, 1) := by decide +kernel
theorem dX6_draft_27 : decode cX6_draft 27 = .ok (.iload_n 3, 1) := by decide +kernel
theorem dX6_draft_28 : decode cX6_draft 28 = .ok (.bipush 9, 2) := by decide +kernel
theorem dX6_draft_30 : decode cX6_draft 30 = .ok (.if_icmp .lt 13, 3) := by decide +kernel
theorem dX6_draft_33 : decode cX6_draft 33 = .ok (.new 58, 3) := by decide +kernel
theorem dX6_draft_36 : decode cX6_draft 36 = .ok (.dup, 1) := by decide +kernel
theorem dX6_draft_37 : decode cX6_draft 37 = .ok (.ldc 153, 2) := by decide +kernel
theorem dX6_draft_39 : decode cX6_draft 39 = .ok (.invokespecial 62, 3) := by decide +kernel
theorem dX6_draft_42 : decode cX6_draft 42 = .ok (.athrow, 1) := by decide +kernel
theorem dX6_draft_43 : decode cX6_draft 43 = .ok (.aload_n 0, 1) := by decide +kernel
theorem dX6_draft_44 : decode cX6_draft 44 = .ok (.invokevirtual 65, 3) := by decide +kernel
theorem dX6_draft_47 : decode cX6_draft 47 = .ok (.aload_n 0, 1) := by decide +kernel
theorem dX6_draft_48 : decode cX6_draft 48 = .ok (.getfield 44, 3) := by decide +kernel
theorem dX6_draft_51 : decode cX6_draft 51 = .ok (.getfield 121, 3) := by decide +kernel
theorem dX6_draft_54 : decode cX6_draft 54 = .ok (.getfield 155, 3) := by decide +kernel
theorem dX6_draft_57 : decode cX6_draft 57 = .ok (.iload_n 1, 1) := by decide +kernel
theorem dX6_draft_58 : decode cX6_draft 58 = .ok (.iload_n 2, 1) := by decide +kernel
theorem dX6_draft_59 : decode cX6_draft 59 = .ok (.invokestatic 158, 3) := by decide +kernel
theorem dX6_draft_62 : decode cX6_draft 62 = .ok (.dup2, 1) := by decide +kernel
theorem dX6_draft_63 : decode cX6_draft 63 = .ok (.iaload, 1) := by decide +kernel
theorem dX6_draft_64 : decode cX6_draft 64 = .ok (.iconst 1, 1) := by decide +kernel
theorem dX6_draft_65 : decode cX6_draft 65 = .ok (.iadd, 1) := by decide +kernel
theorem dX6_draft_66 : decode cX6_draft 66 = .ok (.iastore, 1) := by decide +kernel
theorem dX6_draft_67 : decode cX6_draft 67 = .ok (.aload_n 0, 1) := by decide +kernel
theorem dX6_draft_68 : decode cX6_draft 68 = .ok (.getfield 44, 3) := by decide +kernel
theorem dX6_draft_71 : decode cX6_draft 71 = .ok (.getfield 121, 3) := by decide +kernel
theorem dX6_draft_74 : decode cX6_draft 74 = .ok (.getfield 161, 3) := by decide +kernel
theorem dX6_draft_77 : decode cX6_draft 77 = .ok (.iload_n 1, 1) := by decide +kernel
theorem dX6_draft_78 : decode cX6_draft 78 = .ok (.iload_n 3, 1) := by decide +kernel
theorem dX6_draft_79 : decode cX6_draft 79 = .ok (.ifCond .ne 7, 3) := by decide +kernel
theorem dX6_draft_82 : decode cX6_draft 82 = .ok (.iconst 1, 1) := by decide +kernel
theorem dX6_draft_83 : decode cX6_draft 83 = .ok (.goto 4, 3) := by decide +kernel
theorem dX6_draft_86 : decode cX6_draft 86 = .ok (.iconst 2, 1) := by decide +kernel
theorem dX6_draft_87 : decode cX6_draft 87 = .ok (.iastore, 1) := by decide +kernel
theorem dX6_draft_88 : decode cX6_draft 88 = .ok (.aload_n 0, 1) := by decide +kernel
theorem dX6_draft_89 : decode cX6_draft 89 = .ok (.getfield 44, 3) := by decide +kernel
theorem dX6_draft_92 : decode cX6_draft 92 = .ok (.getfield 121, 3) := by decide +kernel
theorem dX6_draft_95 : decode cX6_draft 95 = .ok (.getfield 161, 3) := by decide +kernel
theorem dX6_draft_98 : decode cX6_draft 98 = .ok (.iload_n 1, 1) := by decide +kernel
theorem dX6_draft_99 : decode cX6_draft 99 = .ok (.iaload, 1) := by decide +kernel
theorem dX6_draft_100 : decode cX6_draft 100 = .ok (.ireturn, 1) := by decide +kernel
theorem dX6_revise_0 : decode cX6_revise 0 = .ok (.aload_n 0, 1) := by decide +kernel
theorem dX6_revise_1 : decode cX6_revise 1 = .ok (.iload_n 1, 1) := by decide +kernel
theorem dX6_revise_2 : decode cX6_revise 2 = .ok (.invokevirtual 143, 3) := by decide +kernel
theorem dX6_revise_5 : decode cX6_revise 5 = .ok (.iload_n 2, 1) := by decide +kernel
theorem dX6_revise_6 : decode cX6_revise 6 = .ok (.bipush 10, 2) := by decide +kernel
theorem dX6_revise_8 : decode cX6_revise 8 = .ok (.ldc 75, 2) := by decide +kernel
theorem dX6_revise_10 : decode cX6_revise 10 = .ok (.invokestatic 76, 3) := by decide +kernel
theorem dX6_revise_13 : decode cX6_revise 13 = .ok (.aload_n 0, 1) := by decide +kernel
theorem dX6_revise_14 : decode cX6_revise 14 = .ok (.iload_n 1, 1) := by decide +kernel
theorem dX6_revise_15 : decode cX6_revise 15 = .ok (.invokevirtual 146, 3) := by decide +kernel
theorem dX6_revise_18 : decode cX6_revise 18 = .ok (.aload_n 0, 1) := by decide +kernel
theorem dX6_revise_19 : decode cX6_revise 19 = .ok (.invokevirtual 65, 3) := by decide +kernel
theorem dX6_revise_22 : decode cX6_revise 22 = .ok (.aload_n 0, 1) := by decide +kernel
theorem dX6_revise_23 : decode cX6_revise 23 = .ok (.getfield 44, 3) := by decide +kernel
theorem dX6_revise_26 : decode cX6_revise 26 = .ok (.getfield 121, 3) := by decide +kernel
theorem dX6_revise_29 : decode cX6_revise 29 = .ok (.getfield 164, 3) := by decide +kernel
theorem dX6_revise_32 : decode cX6_revise 32 = .ok (.iload_n 1, 1) := by decide +kernel
theorem dX6_revise_33 : decode cX6_revise 33 = .ok (.iaload, 1) := by decide +kernel
theorem dX6_revise_34 : decode cX6_revise 34 = .ok (.istore_n 3, 1) := by decide +kernel
theorem dX6_revise_35 : decode cX6_revise 35 = .ok (.aload_n 0, 1) := by decide +kernel
theorem dX6_revise_36 : decode cX6_revise 36 = .ok (.getfield 44, 3) := by decide +kernel
theorem dX6_revise_39 : decode cX6_revise 39 = .ok (.getfield 121, 3) := by decide +kernel
theorem dX6_revise_42 : decode cX6_revise 42 = .ok (.getfield 164, 3) := by decide +kernel
theorem dX6_revise_45 : decode cX6_revise 45 = .ok (.iload_n 1, 1) := by decide +kernel
theorem dX6_revise_46 : decode cX6_revise 46 = .ok (.iload_n 2, 1) := by decide +kernel
theorem dX6_revise_47 : decode cX6_revise 47 = .ok (.iastore, 1) := by decide +kernel
theorem dX6_revise_48 : decode cX6_revise 48 = .ok (.aload_n 0, 1) := by decide +kernel
theorem dX6_revise_49 : decode cX6_revise 49 = .ok (.getfield 44, 3) := by decide +kernel
theorem dX6_revise_52 : decode cX6_revise 52 = .ok (.getfield 121, 3) := by decide +kernel
theorem dX6_revise_55 : decode cX6_revise 55 = .ok (.getfield 167, 3) := by decide +kernel
theorem dX6_revise_58 : decode cX6_revise 58 = .ok (.iload_n 1, 1) := by decide +kernel
theorem dX6_revise_59 : decode cX6_revise 59 = .ok (.dup2, 1) := by decide +kernel
theorem dX6_revise_60 : decode cX6_revise 60 = .ok (.iaload, 1) := by decide +kernel
theorem dX6_revise_61 : decode cX6_revise 61 = .ok (.iconst 1, 1) := by decide +kernel
theorem dX6_revise_62 : decode cX6_revise 62 = .ok (.iadd, 1) := by decide +kernel
theorem dX6_revise_63 : decode cX6_revise 63 = .ok (.iastore, 1) := by decide +kernel
theorem dX6_revise_64 : decode cX6_revise 64 = .ok (.iload_n 3, 1) := by decide +kernel
theorem dX6_revise_65 : decode cX6_revise 65 = .ok (.ireturn, 1) := by decide +kernel
theorem dX6_share_0 : decode cX6_share 0 = .ok (.aload_n 0, 1) := by decide +kernel
theorem dX6_share_1 : decode cX6_share 1 = .ok (.iload_n 1, 1) := by decide +kernel
theorem dX6_share_2 : decode cX6_share 2 = .ok (.invokevirtual 143, 3) := by decide +kernel
theorem dX6_share_5 : decode cX6_share 5 = .ok (.aload_n 0, 1) := by decide +kernel
theorem dX6_share_6 : decode cX6_share 6 = .ok (.getfield 18, 3) := by decide +kernel
theorem dX6_share_9 : decode cX6_share 9 = .ok (.invokevirtual 170, 3) := by decide +kernel
theorem dX6_share_12 : decode cX6_share 12 = .ok (.ifCond .eq 23, 3) := by decide +kernel
theorem dX6_share_15 : decode cX6_share 15 = .ok (.aload_n 0, 1) := by decide +kernel
theorem dX6_share_16 : decode cX6_share 16 = .ok (.getfield 18, 3) := by decide +kernel
theorem dX6_share_19 : decode cX6_share 19 = .ok (.invokevirtual 174, 3) := by decide +kernel
theorem dX6_share_22 : decode cX6_share 22 = .ok (.aload_n 0, 1) := by decide +kernel
theorem dX6_share_23 : decode cX6_share 23 = .ok (.getfield 44, 3) := by decide +kernel
theorem dX6_share_26 : decode cX6_share 26 = .ok (.getfield 48, 3) := by decide +kernel
theorem dX6_share_29 : decode cX6_share 29 = .ok (.getfield 52, 3) := by decide +kernel
theorem dX6_share_32 : decode cX6_share 32 = .ok (.if_icmp .lt 13, 3) := by decide +kernel
theorem dX6_share_35 : decode cX6_share 35 = .ok (.new 80, 3) := by decide +kernel
theorem dX6_share_38 : decode cX6_share 38 = .ok (.dup, 1) := by decide +kernel
theorem dX6_share_39 : decode cX6_share 39 = .ok (.ldc 178, 2) := by decide +kernel
theorem dX6_share_41 : decode cX6_share 41 = .ok (.invokespecial 84, 3) := by decide +kernel
theorem dX6_share_44 : decode cX6_share 44 = .ok (.athrow, 1) := by decide +kernel
theorem dX6_share_45 : decode cX6_share 45 = .ok (.aload_n 0, 1) := by decide +kernel
theorem dX6_share_46 : decode cX6_share 46 = .ok (.getfield 44, 3) := by decide +kernel
theorem dX6_share_49 : decode cX6_share 49 = .ok (.getfield 121, 3) := by decide +kernel
theorem dX6_share_52 : decode cX6_share 52 = .ok (.getfield 161, 3) := by decide +kernel
theorem dX6_share_55 : decode cX6_share 55 = .ok (.iload_n 1, 1) := by decide +kernel
theorem dX6_share_56 : decode cX6_share 56 = .ok (.iaload, 1) := by decide +kernel
theorem dX6_share_57 : decode cX6_share 57 = .ok (.iconst 4, 1) := by decide +kernel
theorem dX6_share_58 : decode cX6_share 58 = .ok (.if_icmp .ne 13, 3) := by decide +kernel
theorem dX6_share_61 : decode cX6_share 61 = .ok (.new 58, 3) := by decide +kernel
theorem dX6_share_64 : decode cX6_share 64 = .ok (.dup, 1) := by decide +kernel
theorem dX6_share_65 : decode cX6_share 65 = .ok (.ldc 180, 2) := by decide +kernel
theorem dX6_share_67 : decode cX6_share 67 = .ok (.invokespecial 62, 3) := by decide +kernel
theorem dX6_share_70 : decode cX6_share 70 = .ok (.athrow, 1) := by decide +kernel
theorem dX6_share_71 : decode cX6_share 71 = .ok (.aload_n 0, 1) := by decide +kernel
theorem dX6_share_72 : decode cX6_share 72 = .ok (.invokevirtual 65, 3) := by decide +kernel
theorem dX6_share_75 : decode cX6_share 75 = .ok (.aload_n 0, 1) := by decide +kernel
theorem dX6_share_76 : decode cX6_share 76 = .ok (.getfield 44, 3) := by decide +kernel
theorem dX6_share_79 : decode cX6_share 79 = .ok (.getfield 121, 3) := by decide +kernel
theorem dX6_share_82 : decode cX6_share 82 = .ok (.iload_n 1, 1) := by decide +kernel
theorem dX6_share_83 : decode cX6_share 83 = .ok (.aload_n 0, 1) := by decide +kernel
theorem dX6_share_84 : decode cX6_share 84 = .ok (.getfield 18, 3) := by decide +kernel
theorem dX6_share_87 : decode cX6_share 87 = .ok (.getfield 182, 3) := by decide +kernel
theorem dX6_share_90 : decode cX6_share 90 = .ok (.invokevirtual 185, 3) := by decide +kernel
theorem dX6_share_93 : decode cX6_share 93 = .ok (.aload_n 0, 1) := by decide +kernel
theorem dX6_share_94 : decode cX6_share 94 = .ok (.getfield 44, 3) := by decide +kernel
theorem dX6_share_97 : decode cX6_share 97 = .ok (.getfield 121, 3) := by decide +kernel
theorem dX6_share_100 : decode cX6_share 100 = .ok (.getfield 167, 3) := by decide +kernel
theorem dX6_share_103 : decode cX6_share 103 = .ok (.iload_n 1, 1) := by decide +kernel
theorem dX6_share_104 : decode cX6_share 104 = .ok (.dup2, 1) := by decide +kernel
theorem dX6_share_105 : decode cX6_share 105 = .ok (.iaload, 1) := by decide +kernel
theorem dX6_share_106 : decode cX6_share 106 = .ok (.iconst 1, 1) := by decide +kernel
theorem dX6_share_107 : decode cX6_share 107 = .ok (.iadd, 1) := by decide +kernel
theorem dX6_share_108 : decode cX6_share 108 = .ok (.iastore, 1) := by decide +kernel
theorem dX6_share_109 : decode cX6_share 109 = .ok (.aload_n 0, 1) := by decide +kernel
theorem dX6_share_110 : decode cX6_share 110 = .ok (.getfield 18, 3) := by decide +kernel
theorem dX6_share_113 : decode cX6_share 113 = .ok (.iconst 0, 1) := by decide +kernel
theorem dX6_share_114 : decode cX6_share 114 = .ok (.putfield 189, 3) := by decide +kernel
theorem dX6_share_117 : decode cX6_share 117 = .ok (.aload_n 0, 1) := by decide +kernel
theorem dX6_share_118 : decode cX6_share 118 = .ok (.getfield 44, 3) := by decide +kernel
theorem dX6_share_121 : decode cX6_share 121 = .ok (.getfield 121, 3) := by decide +kernel
theorem dX6_share_124 : decode cX6_share 124 = .ok (.iload_n 1, 1) := by decide +kernel
theorem dX6_share_125 : decode cX6_share 125 = .ok (.invokevirtual 192, 3) := by decide +kernel
theorem dX6_share_128 : decode cX6_share 128 = .ok (.ireturn, 1) := by decide +kernel
theorem dX6_accept_0 : decode cX6_accept 0 = .ok (.aload_n 0, 1) := by decide +kernel
theorem dX6_accept_1 : decode cX6_accept 1 = .ok (.iload_n 1, 1) := by decide +kernel
theorem dX6_accept_2 : decode cX6_accept 2 = .ok (.invokevirtual 143, 3) := by decide +kernel
theorem dX6_accept_5 : decode cX6_accept 5 = .ok (.aload_n 0, 1) := by decide +kernel
theorem dX6_accept_6 : decode cX6_accept 6 = .ok (.getfield 44, 3) := by decide +kernel
theorem dX6_accept_9 : decode cX6_accept 9 = .ok (.getfield 121, 3) := by decide +kernel
theorem dX6_accept_12 : decode cX6_accept 12 = .ok (.getfield 161, 3) := by decide +kernel
theorem dX6_accept_15 : decode cX6_accept 15 = .ok (.iload_n 1, 1) := by decide +kernel
theorem dX6_accept_16 : decode cX6_accept 16 = .ok (.iaload, 1) := by decide +kernel
theorem dX6_accept_17 : decode cX6_accept 17 = .ok (.istore_n 2, 1) := by decide +kernel
theorem dX6_accept_18 : decode cX6_accept 18 = .ok (.iload_n 2, 1) := by decide +kernel
theorem dX6_accept_19 : decode cX6_accept 19 = .ok (.iconst 1, 1) := by decide +kernel
theorem dX6_accept_20 : decode cX6_accept 20 = .ok (.if_icmp .eq 18, 3) := by decide +kernel
theorem dX6_accept_23 : decode cX6_accept 23 = .ok (.iload_n 2, 1) := by decide +kernel
theorem dX6_accept_24 : decode cX6_accept 24 = .ok (.iconst 2, 1) := by decide +kernel
theorem dX6_accept_25 : decode cX6_accept 25 = .ok (.if_icmp .eq 13, 3) := by decide +kernel
theorem dX6_accept_28 : decode cX6_accept 28 = .ok (.new 58, 3) := by decide +kernel
theorem dX6_accept_31 : decode cX6_accept 31 = .ok (.dup, 1) := by decide +kernel
theorem dX6_accept_32 : decode cX6_accept 32 = .ok (.ldc 195, 2) := by decide +kernel
theorem dX6_accept_34 : decode cX6_accept 34 = .ok (.invokespecial 62, 3) := by decide +kernel
theorem dX6_accept_37 : decode cX6_accept 37 = .ok (.athrow, 1) := by decide +kernel
theorem dX6_accept_38 : decode cX6_accept 38 = .ok (.aload_n 0, 1) := by decide +kernel
theorem dX6_accept_39 : decode cX6_accept 39 = .ok (.invokevirtual 65, 3) := by decide +kernel
theorem dX6_accept_42 : decode cX6_accept 42 = .ok (.aload_n 0, 1) := by decide +kernel
theorem dX6_accept_43 : decode cX6_accept 43 = .ok (.getfield 44, 3) := by decide +kernel
theorem dX6_accept_46 : decode cX6_accept 46 = .ok (.getfield 121, 3) := by decide +kernel
theorem dX6_accept_49 : decode cX6_accept 49 = .ok (.getfield 161, 3) := by decide +kernel
theorem dX6_accept_52 : decode cX6_accept 52 = .ok (.iload_n 1, 1) := by decide +kernel
theorem dX6_accept_53 : decode cX6_accept 53 = .ok (.iconst 3, 1) := by decide +kernel
theorem dX6_accept_54 : decode cX6_accept 54 = .ok (.iastore, 1) := by decide +kernel
theorem dX6_accept_55 : decode cX6_accept 55 = .ok (.aload_n 0, 1) := by decide +kernel
theorem dX6_accept_56 : decode cX6_accept 56 = .ok (.getfield 44, 3) := by decide +kernel
theorem dX6_accept_59 : decode cX6_accept 59 = .ok (.getfield 121, 3) := by decide +kernel
theorem dX6_accept_62 : decode cX6_accept 62 = .ok (.getfield 164, 3) := by decide +kernel
theorem dX6_accept_65 : decode cX6_accept 65 = .ok (.iload_n 1, 1) := by decide +kernel
theorem dX6_accept_66 : decode cX6_accept 66 = .ok (.iaload, 1) := by decide +kernel
theorem dX6_accept_67 : decode cX6_accept 67 = .ok (.istore_n 3, 1) := by decide +kernel
theorem dX6_accept_68 : decode cX6_accept 68 = .ok (.aload_n 0, 1) := by decide +kernel
theorem dX6_accept_69 : decode cX6_accept 69 = .ok (.getfield 25, 3) := by decide +kernel
theorem dX6_accept_72 : decode cX6_accept 72 = .ok (.aload_n 0, 1) := by decide +kernel
theorem dX6_accept_73 : decode cX6_accept 73 = .ok (.getfield 44, 3) := by decide +kernel
theorem dX6_accept_76 : decode cX6_accept 76 = .ok (.iload_n 1, 1) := by decide +kernel
theorem dX6_accept_77 : decode cX6_accept 77 = .ok (.iload_n 3, 1) := by decide +kernel
theorem dX6_accept_78 : decode cX6_accept 78 = .ok (.invokevirtual 197, 3) := by decide +kernel
theorem dX6_accept_81 : decode cX6_accept 81 = .ok (.aload_n 0, 1) := by decide +kernel
theorem dX6_accept_82 : decode cX6_accept 82 = .ok (.iload_n 3, 1) := by decide +kernel
theorem dX6_accept_83 : decode cX6_accept 83 = .ok (.invokevirtual 201, 3) := by decide +kernel
theorem dX6_accept_86 : decode cX6_accept 86 = .ok (.ireturn, 1) := by decide +kernel
theorem dX6_kill_0 : decode cX6_kill 0 = .ok (.aload_n 0, 1) := by decide +kernel
theorem dX6_kill_1 : decode cX6_kill 1 = .ok (.iload_n 1, 1) := by decide +kernel
theorem dX6_kill_2 : decode cX6_kill 2 = .ok (.invokevirtual 143, 3) := by decide +kernel
theorem dX6_kill_5 : decode cX6_kill 5 = .ok (.aload_n 0, 1) := by decide +kernel
theorem dX6_kill_6 : decode cX6_kill 6 = .ok (.iload_n 1, 1) := by decide +kernel
theorem dX6_kill_7 : decode cX6_kill 7 = .ok (.invokevirtual 146, 3) := by decide +kernel
theorem dX6_kill_10 : decode cX6_kill 10 = .ok (.aload_n 0, 1) := by decide +kernel
theorem dX6_kill_11 : decode cX6_kill 11 = .ok (.invokevirtual 65, 3) := by decide +kernel
theorem dX6_kill_14 : decode cX6_kill 14 = .ok (.aload_n 0, 1) := by decide +kernel
theorem dX6_kill_15 : decode cX6_kill 15 = .ok (.getfield 44, 3) := by decide +kernel
theorem dX6_kill_18 : decode cX6_kill 18 = .ok (.iload_n 1, 1) := by decide +kernel
theorem dX6_kill_19 : decode cX6_kill 19 = .ok (.invokevirtual 204, 3) := by decide +kernel
theorem dX6_kill_22 : decode cX6_kill 22 = .ok (.istore_n 2, 1) := by decide +kernel
theorem dX6_kill_23 : decode cX6_kill 23 = .ok (.aload_n 0, 1) := by decide +kernel
theorem dX6_kill_24 : decode cX6_kill 24 = .ok (.getfield 44, 3) := by decide +kernel
theorem dX6_kill_27 : decode cX6_kill 27 = .ok (.getfield 121, 3) := by decide +kernel
theorem dX6_kill_30 : decode cX6_kill 30 = .ok (.getfield 161, 3) := by decide +kernel
theorem dX6_kill_33 : decode cX6_kill 33 = .ok (.iload_n 1, 1) := by decide +kernel
theorem dX6_kill_34 : decode cX6_kill 34 = .ok (.iconst 4, 1) := by decide +kernel
theorem dX6_kill_35 : decode cX6_kill 35 = .ok (.iastore, 1) := by decide +kernel
theorem dX6_kill_36 : decode cX6_kill 36 = .ok (.aload_n 0, 1) := by decide +kernel
theorem dX6_kill_37 : decode cX6_kill 37 = .ok (.getfield 25, 3) := by decide +kernel
theorem dX6_kill_40 : decode cX6_kill 40 = .ok (.aload_n 0, 1) := by decide +kernel
theorem dX6_kill_41 : decode cX6_kill 41 = .ok (.getfield 44, 3) := by decide +kernel
theorem dX6_kill_44 : decode cX6_kill 44 = .ok (.iload_n 1, 1) := by decide +kernel
theorem dX6_kill_45 : decode cX6_kill 45 = .ok (.iload_n 2, 1) := by decide +kernel
theorem dX6_kill_46 : decode cX6_kill 46 = .ok (.invokevirtual 197, 3) := by decide +kernel
theorem dX6_kill_49 : decode cX6_kill 49 = .ok (.aload_n 0, 1) := by decide +kernel
theorem dX6_kill_50 : decode cX6_kill 50 = .ok (.iload_n 2, 1) := by decide +kernel
theorem dX6_kill_51 : decode cX6_kill 51 = .ok (.invokevirtual 201, 3) := by decide +kernel
theorem dX6_kill_54 : decode cX6_kill 54 = .ok (.pop, 1) := by decide +kernel
theorem dX6_kill_55 : decode cX6_kill 55 = .ok (.iload_n 2, 1) := by decide +kernel
theorem dX6_kill_56 : decode cX6_kill 56 = .ok (.ireturn, 1) := by decide +kernel
theorem dX6_royalty_0 : decode cX6_royalty 0 = .ok (.aload_n 0, 1) := by decide +kernel
theorem dX6_royalty_1 : decode cX6_royalty 1 = .ok (.iload_n 1, 1) := by decide +kernel
theorem dX6_royalty_2 : decode cX6_royalty 2 = .ok (.invokevirtual 143, 3) := by decide +kernel
theorem dX6_royalty_5 : decode cX6_royalty 5 = .ok (.iload_n 2, 1) := by decide +kernel
theorem dX6_royalty_6 : decode cX6_royalty 6 = .ok (.iconst 1, 1) := by decide +kernel
theorem dX6_royalty_7 : decode cX6_royalty 7 = .ok (.ldc 75, 2) := by decide +kernel
theorem dX6_royalty_9 : decode cX6_royalty 9 = .ok (.invokestatic 76, 3) := by decide +kernel
theorem dX6_royalty_12 : decode cX6_royalty 12 = .ok (.aload_n 0, 1) := by decide +kernel
theorem dX6_royalty_13 : decode cX6_royalty 13 = .ok (.iload_n 1, 1) := by decide +kernel
theorem dX6_royalty_14 : decode cX6_royalty 14 = .ok (.invokevirtual 207, 3) := by decide +kernel
theorem dX6_royalty_17 : decode cX6_royalty 17 = .ok (.aload_n 0, 1) := by decide +kernel
theorem dX6_royalty_18 : decode cX6_royalty 18 = .ok (.invokevirtual 65, 3) := by decide +kernel
theorem dX6_royalty_21 : decode cX6_royalty 21 = .ok (.aload_n 0, 1) := by decide +kernel
theorem dX6_royalty_22 : decode cX6_royalty 22 = .ok (.getfield 25, 3) := by decide +kernel
theorem dX6_royalty_25 : decode cX6_royalty 25 = .ok (.aload_n 0, 1) := by decide +kernel
theorem dX6_royalty_26 : decode cX6_royalty 26 = .ok (.getfield 44, 3) := by decide +kernel
theorem dX6_royalty_29 : decode cX6_royalty 29 = .ok (.iload_n 1, 1) := by decide +kernel
theorem dX6_royalty_30 : decode cX6_royalty 30 = .ok (.iload_n 2, 1) := by decide +kernel
theorem dX6_royalty_31 : decode cX6_royalty 31 = .ok (.invokevirtual 210, 3) := by decide +kernel
theorem dX6_royalty_34 : decode cX6_royalty 34 = .ok (.aload_n 0, 1) := by decide +kernel
theorem dX6_royalty_35 : decode cX6_royalty 35 = .ok (.getfield 44, 3) := by decide +kernel
theorem dX6_royalty_38 : decode cX6_royalty 38 = .ok (.getfield 121, 3) := by decide +kernel
theorem dX6_royalty_41 : decode cX6_royalty 41 = .ok (.getfield 213, 3) := by decide +kernel
theorem dX6_royalty_44 : decode cX6_royalty 44 = .ok (.iload_n 1, 1) := by decide +kernel
theorem dX6_royalty_45 : decode cX6_royalty 45 = .ok (.dup2, 1) := by decide +kernel
theorem dX6_royalty_46 : decode cX6_royalty 46 = .ok (.iaload, 1) := by decide +kernel
theorem dX6_royalty_47 : decode cX6_royalty 47 = .ok (.iload_n 2, 1) := by decide +kernel
theorem dX6_royalty_48 : decode cX6_royalty 48 = .ok (.iadd, 1) := by decide +kernel
theorem dX6_royalty_49 : decode cX6_royalty 49 = .ok (.iastore, 1) := by decide +kernel
theorem dX6_royalty_50 : decode cX6_royalty 50 = .ok (.aload_n 0, 1) := by decide +kernel
theorem dX6_royalty_51 : decode cX6_royalty 51 = .ok (.getfield 44, 3) := by decide +kernel
theorem dX6_royalty_54 : decode cX6_royalty 54 = .ok (.getfield 121, 3) := by decide +kernel
theorem dX6_royalty_57 : decode cX6_royalty 57 = .ok (.iload_n 1, 1) := by decide +kernel
theorem dX6_royalty_58 : decode cX6_royalty 58 = .ok (.aload_n 0, 1) := by decide +kernel
theorem dX6_royalty_59 : decode cX6_royalty 59 = .ok (.getfield 25, 3) := by decide +kernel
theorem dX6_royalty_62 : decode cX6_royalty 62 = .ok (.getfield 216, 3) := by decide +kernel
theorem dX6_royalty_65 : decode cX6_royalty 65 = .ok (.invokevirtual 219, 3) := by decide +kernel
theorem dX6_royalty_68 : decode cX6_royalty 68 = .ok (.aload_n 0, 1) := by decide +kernel
theorem dX6_royalty_69 : decode cX6_royalty 69 = .ok (.getfield 44, 3) := by decide +kernel
theorem dX6_royalty_72 : decode cX6_royalty 72 = .ok (.dup, 1) := by decide +kernel
theorem dX6_royalty_73 : decode cX6_royalty 73 = .ok (.getfield 222, 3) := by decide +kernel
theorem dX6_royalty_76 : decode cX6_royalty 76 = .ok (.aload_n 0, 1) := by decide +kernel
theorem dX6_royalty_77 : decode cX6_royalty 77 = .ok (.getfield 25, 3) := by decide +kernel
theorem dX6_royalty_80 : decode cX6_royalty 80 = .ok (.getfield 225, 3) := by decide +kernel
theorem dX6_royalty_83 : decode cX6_royalty 83 = .ok (.iadd, 1) := by decide +kernel
theorem dX6_royalty_84 : decode cX6_royalty 84 = .ok (.putfield 222, 3) := by decide +kernel
theorem dX6_royalty_87 : decode cX6_royalty 87 = .ok (.aload_n 0, 1) := by decide +kernel
theorem dX6_royalty_88 : decode cX6_royalty 88 = .ok (.iload_n 2, 1) := by decide +kernel
theorem dX6_royalty_89 : decode cX6_royalty 89 = .ok (.invokevirtual 201, 3) := by decide +kernel
theorem dX6_royalty_92 : decode cX6_royalty 92 = .ok (.ireturn, 1) := by decide +kernel
theorem dX6_dispute_0 : decode cX6_dispute 0 = .ok (.aload_n 0, 1) := by decide +kernel
theorem dX6_dispute_1 : decode cX6_dispute 1 = .ok (.iload_n 1, 1) := by decide +kernel
theorem dX6_dispute_2 : decode cX6_dispute 2 = .ok (.invokevirtual 143, 3) := by decide +kernel
theorem dX6_dispute_5 : decode cX6_dispute 5 = .ok (.aload_n 0, 1) := by decide +kernel
theorem dX6_dispute_6 : decode cX6_dispute 6 = .ok (.iload_n 2, 1) := by decide +kernel
theorem dX6_dispute_7 : decode cX6_dispute 7 = .ok (.invokevirtual 71, 3) := by decide +kernel
theorem dX6_dispute_10 : decode cX6_dispute 10 = .ok (.aload_n 0, 1) := by decide +kernel
theorem dX6_dispute_11 : decode cX6_dispute 11 = .ok (.getfield 44, 3) := by decide +kernel
theorem dX6_dispute_14 : decode cX6_dispute 14 = .ok (.getfield 121, 3) := by decide +kernel
theorem dX6_dispute_17 : decode cX6_dispute 17 = .ok (.iload_n 1, 1) := by decide +kernel
theorem dX6_dispute_18 : decode cX6_dispute 18 = .ok (.invokevirtual 226, 3) := by decide +kernel
theorem dX6_dispute_21 : decode cX6_dispute 21 = .ok (.iload_n 2, 1) := by decide +kernel
theorem dX6_dispute_22 : decode cX6_dispute 22 = .ok (.invokestatic 229, 3) := by decide +kernel
theorem dX6_dispute_25 : decode cX6_dispute 25 = .ok (.ifCond .ne 13, 3) := by decide +kernel
theorem dX6_dispute_28 : decode cX6_dispute 28 = .ok (.new 58, 3) := by decide +kernel
theorem dX6_dispute_31 : decode cX6_dispute 31 = .ok (.dup, 1) := by decide +kernel
theorem dX6_dispute_32 : decode cX6_dispute 32 = .ok (.ldc 233, 2) := by decide +kernel
theorem dX6_dispute_34 : decode cX6_dispute 34 = .ok (.invokespecial 62, 3) := by decide +kernel
theorem dX6_dispute_37 : decode cX6_dispute 37 = .ok (.athrow, 1) := by decide +kernel
theorem dX6_dispute_38 : decode cX6_dispute 38 = .ok (.aload_n 0, 1) := by decide +kernel
theorem dX6_dispute_39 : decode cX6_dispute 39 = .ok (.invokevirtual 65, 3) := by decide +kernel
theorem dX6_dispute_42 : decode cX6_dispute 42 = .ok (.aload_n 0, 1) := by decide +kernel
theorem dX6_dispute_43 : decode cX6_dispute 43 = .ok (.getfield 44, 3) := by decide +kernel
theorem dX6_dispute_46 : decode cX6_dispute 46 = .ok (.getfield 121, 3) := by decide +kernel
theorem dX6_dispute_49 : decode cX6_dispute 49 = .ok (.iload_n 1, 1) := by decide +kernel
theorem dX6_dispute_50 : decode cX6_dispute 50 = .ok (.invokevirtual 235, 3) := by decide +kernel
theorem dX6_dispute_53 : decode cX6_dispute 53 = .ok (.aload_n 0, 1) := by decide +kernel
theorem dX6_dispute_54 : decode cX6_dispute 54 = .ok (.getfield 44, 3) := by decide +kernel
theorem dX6_dispute_57 : decode cX6_dispute 57 = .ok (.getfield 121, 3) := by decide +kernel
theorem dX6_dispute_60 : decode cX6_dispute 60 = .ok (.getfield 167, 3) := by decide +kernel
theorem dX6_dispute_63 : decode cX6_dispute 63 = .ok (.iload_n 1, 1) := by decide +kernel
theorem dX6_dispute_64 : decode cX6_dispute 64 = .ok (.dup2, 1) := by decide +kernel
theorem dX6_dispute_65 : decode cX6_dispute 65 = .ok (.iaload, 1) := by decide +kernel
theorem dX6_dispute_66 : decode cX6_dispute 66 = .ok (.iconst 1, 1) := by decide +kernel
theorem dX6_dispute_67 : decode cX6_dispute 67 = .ok (.iadd, 1) := by decide +kernel
theorem dX6_dispute_68 : decode cX6_dispute 68 = .ok (.iastore, 1) := by decide +kernel
theorem dX6_dispute_69 : decode cX6_dispute 69 = .ok (.aload_n 0, 1) := by decide +kernel
theorem dX6_dispute_70 : decode cX6_dispute 70 = .ok (.getfield 44, 3) := by decide +kernel
theorem dX6_dispute_73 : decode cX6_dispute 73 = .ok (.dup, 1) := by decide +kernel
theorem dX6_dispute_74 : decode cX6_dispute 74 = .ok (.getfield 238, 3) := by decide +kernel
theorem dX6_dispute_77 : decode cX6_dispute 77 = .ok (.iconst 1, 1) := by decide +kernel
theorem dX6_dispute_78 : decode cX6_dispute 78 = .ok (.iadd, 1) := by decide +kernel
theorem dX6_dispute_79 : decode cX6_dispute 79 = .ok (.putfield 238, 3) := by decide +kernel
theorem dX6_dispute_82 : decode cX6_dispute 82 = .ok (.aload_n 0, 1) := by decide +kernel
theorem dX6_dispute_83 : decode cX6_dispute 83 = .ok (.getfield 44, 3) := by decide +kernel
theorem dX6_dispute_86 : decode cX6_dispute 86 = .ok (.getfield 121, 3) := by decide +kernel
theorem dX6_dispute_89 : decode cX6_dispute 89 = .ok (.getfield 241, 3) := by decide +kernel
theorem dX6_dispute_92 : decode cX6_dispute 92 = .ok (.iload_n 1, 1) := by decide +kernel
theorem dX6_dispute_93 : decode cX6_dispute 93 = .ok (.iload_n 2, 1) := by decide +kernel
theorem dX6_dispute_94 : decode cX6_dispute 94 = .ok (.invokestatic 158, 3) := by decide +kernel
theorem dX6_dispute_97 : decode cX6_dispute 97 = .ok (.iaload, 1) := by decide +kernel
theorem dX6_dispute_98 : decode cX6_dispute 98 = .ok (.ireturn, 1) := by decide +kernel
theorem dX6_append_0 : decode cX6_append 0 = .ok (.iload_n 1, 1) := by decide +kernel
theorem dX6_append_1 : decode cX6_append 1 = .ok (.bipush 33, 2) := by decide +kernel
theorem dX6_append_3 : decode cX6_append 3 = .ok (.bipush 126, 2) := by decide +kernel
theorem dX6_append_5 : decode cX6_append 5 = .ok (.invokestatic 76, 3) := by decide +kernel
theorem dX6_append_8 : decode cX6_append 8 = .ok (.aload_n 0, 1) := by decide +kernel
theorem dX6_append_9 : decode cX6_append 9 = .ok (.getfield 18, 3) := by decide +kernel
theorem dX6_append_12 : decode cX6_append 12 = .ok (.getfield 189, 3) := by decide +kernel
theorem dX6_append_15 : decode cX6_append 15 = .ok (.bipush 60, 2) := by decide +kernel
theorem dX6_append_17 : decode cX6_append 17 = .ok (.if_icmp .lt 13, 3) := by decide +kernel
theorem dX6_append_20 : decode cX6_append 20 = .ok (.new 58, 3) := by decide +kernel
theorem dX6_append_23 : decode cX6_append 23 = .ok (.dup, 1) := by decide +kernel
theorem dX6_append_24 : decode cX6_append 24 = .ok (.ldc 242, 2) := by decide +kernel
theorem dX6_append_26 : decode cX6_append 26 = .ok (.invokespecial 62, 3) := by decide +kernel
theorem dX6_append_29 : decode cX6_append 29 = .ok (.athrow, 1) := by decide +kernel
theorem dX6_append_30 : decode cX6_append 30 = .ok (.aload_n 0, 1) := by decide +kernel
theorem dX6_append_31 : decode cX6_append 31 = .ok (.getfield 18, 3) := by decide +kernel
theorem dX6_append_34 : decode cX6_append 34 = .ok (.getfield 244, 3) := by decide +kernel
theorem dX6_append_37 : decode cX6_append 37 = .ok (.aload_n 0, 1) := by decide +kernel
theorem dX6_append_38 : decode cX6_append 38 = .ok (.getfield 18, 3) := by decide +kernel
theorem dX6_append_41 : decode cX6_append 41 = .ok (.getfield 189, 3) := by decide +kernel
theorem dX6_append_44 : decode cX6_append 44 = .ok (.iload_n 1, 1) := by decide +kernel
theorem dX6_append_45 : decode cX6_append 45 = .ok (.iastore, 1) := by decide +kernel
theorem dX6_append_46 : decode cX6_append 46 = .ok (.aload_n 0, 1) := by decide +kernel
theorem dX6_append_47 : decode cX6_append 47 = .ok (.getfield 18, 3) := by decide +kernel
theorem dX6_append_50 : decode cX6_append 50 = .ok (.dup, 1) := by decide +kernel
theorem dX6_append_51 : decode cX6_append 51 = .ok (.getfield 189, 3) := by decide +kernel
theorem dX6_append_54 : decode cX6_append 54 = .ok (.iconst 1, 1) := by decide +kernel
theorem dX6_append_55 : decode cX6_append 55 = .ok (.iadd, 1) := by decide +kernel
theorem dX6_append_56 : decode cX6_append 56 = .ok (.putfield 189, 3) := by decide +kernel
theorem dX6_append_59 : decode cX6_append 59 = .ok (.aload_n 0, 1) := by decide +kernel
theorem dX6_append_60 : decode cX6_append 60 = .ok (.getfield 18, 3) := by decide +kernel
theorem dX6_append_63 : decode cX6_append 63 = .ok (.getfield 189, 3) := by decide +kernel
theorem dX6_append_66 : decode cX6_append 66 = .ok (.ireturn, 1) := by decide +kernel
theorem dX6_clearBuffer_0 : decode cX6_clearBuffer 0 = .ok (.aload_n 0, 1) := by decide +kernel
theorem dX6_clearBuffer_1 : decode cX6_clearBuffer 1 = .ok (.getfield 18, 3) := by decide +kernel
theorem dX6_clearBuffer_4 : decode cX6_clearBuffer 4 = .ok (.getfield 189, 3) := by decide +kernel
theorem dX6_clearBuffer_7 : decode cX6_clearBuffer 7 = .ok (.istore_n 1, 1) := by decide +kernel
theorem dX6_clearBuffer_8 : decode cX6_clearBuffer 8 = .ok (.aload_n 0, 1) := by decide +kernel
theorem dX6_clearBuffer_9 : decode cX6_clearBuffer 9 = .ok (.getfield 18, 3) := by decide +kernel
theorem dX6_clearBuffer_12 : decode cX6_clearBuffer 12 = .ok (.iconst 0, 1) := by decide +kernel
theorem dX6_clearBuffer_13 : decode cX6_clearBuffer 13 = .ok (.putfield 189, 3) := by decide +kernel
theorem dX6_clearBuffer_16 : decode cX6_clearBuffer 16 = .ok (.iload_n 1, 1) := by decide +kernel
theorem dX6_clearBuffer_17 : decode cX6_clearBuffer 17 = .ok (.ireturn, 1) := by decide +kernel
theorem dX6_pen_0 : decode cX6_pen 0 = .ok (.aload_n 0, 1) := by decide +kernel
theorem dX6_pen_1 : decode cX6_pen 1 = .ok (.iload_n 1, 1) := by decide +kernel
theorem dX6_pen_2 : decode cX6_pen 2 = .ok (.invokevirtual 71, 3) := by decide +kernel
theorem dX6_pen_5 : decode cX6_pen 5 = .ok (.iload_n 2, 1) := by decide +kernel
theorem dX6_pen_6 : decode cX6_pen 6 = .ok (.iconst 0, 1) := by decide +kernel
theorem dX6_pen_7 : decode cX6_pen 7 = .ok (.bipush 8, 2) := by decide +kernel
theorem dX6_pen_9 : decode cX6_pen 9 = .ok (.invokestatic 76, 3) := by decide +kernel
theorem dX6_pen_12 : decode cX6_pen 12 = .ok (.aload_n 0, 1) := by decide +kernel
theorem dX6_pen_13 : decode cX6_pen 13 = .ok (.getfield 44, 3) := by decide +kernel
theorem dX6_pen_16 : decode cX6_pen 16 = .ok (.getfield 48, 3) := by decide +kernel
theorem dX6_pen_19 : decode cX6_pen 19 = .ok (.astore_n 3, 1) := by decide +kernel
theorem dX6_pen_20 : decode cX6_pen 20 = .ok (.iload_n 2, 1) := by decide +kernel
theorem dX6_pen_21 : decode cX6_pen 21 = .ok (.tableswitch 107 0 7 #[47, 54, 61, 68, 75, 82, 88, 95], 47) := by decide +kernel
theorem dX6_pen_68 : decode cX6_pen 68 = .ok (.aload_n 3, 1) := by decide +kernel
theorem dX6_pen_69 : decode cX6_pen 69 = .ok (.getfield 85, 3) := by decide +kernel
theorem dX6_pen_72 : decode cX6_pen 72 = .ok (.iload_n 1, 1) := by decide +kernel
theorem dX6_pen_73 : decode cX6_pen 73 = .ok (.iaload, 1) := by decide +kernel
theorem dX6_pen_74 : decode cX6_pen 74 = .ok (.ireturn, 1) := by decide +kernel
theorem dX6_pen_75 : decode cX6_pen 75 = .ok (.aload_n 3, 1) := by decide +kernel
theorem dX6_pen_76 : decode cX6_pen 76 = .ok (.getfield 103, 3) := by decide +kernel
theorem dX6_pen_79 : decode cX6_pen 79 = .ok (.iload_n 1, 1) := by decide +kernel
theorem dX6_pen_80 : decode cX6_pen 80 = .ok (.iaload, 1) := by decide +kernel
theorem dX6_pen_81 : decode cX6_pen 81 = .ok (.ireturn, 1) := by decide +kernel
theorem dX6_pen_82 : decode cX6_pen 82 = .ok (.aload_n 3, 1) := by decide +kernel
theorem dX6_pen_83 : decode cX6_pen 83 = .ok (.getfield 258, 3) := by decide +kernel
theorem dX6_pen_86 : decode cX6_pen 86 = .ok (.iload_n 1, 1) := by decide +kernel
theorem dX6_pen_87 : decode cX6_pen 87 = .ok (.iaload, 1) := by decide +kernel
theorem dX6_pen_88 : decode cX6_pen 88 = .ok (.ireturn, 1) := by decide +kernel
theorem dX6_pen_89 : decode cX6_pen 89 = .ok (.aload_n 3, 1) := by decide +kernel
theorem dX6_pen_90 : decode cX6_pen 90 = .ok (.getfield 68, 3) := by decide +kernel
theorem dX6_pen_93 : decode cX6_pen 93 = .ok (.iload_n 1, 1) := by decide +kernel
theorem dX6_pen_94 : decode cX6_pen 94 = .ok (.iaload, 1) := by decide +kernel
theorem dX6_pen_95 : decode cX6_pen 95 = .ok (.ireturn, 1) := by decide +kernel
theorem dX6_pen_96 : decode cX6_pen 96 = .ok (.aload_n 3, 1) := by decide +kernel
theorem dX6_pen_97 : decode cX6_pen 97 = .ok (.getfield 97, 3) := by decide +kernel
theorem dX6_pen_100 : decode cX6_pen 100 = .ok (.iload_n 1, 1) := by decide +kernel
theorem dX6_pen_101 : decode cX6_pen 101 = .ok (.iaload, 1) := by decide +kernel
theorem dX6_pen_102 : decode cX6_pen 102 = .ok (.ireturn, 1) := by decide +kernel
theorem dX6_pen_103 : decode cX6_pen 103 = .ok (.aload_n 3, 1) := by decide +kernel
theorem dX6_pen_104 : decode cX6_pen 104 = .ok (.iload_n 1, 1) := by decide +kernel
theorem dX6_pen_105 : decode cX6_pen 105 = .ok (.invokevirtual 261, 3) := by decide +kernel
theorem dX6_pen_108 : decode cX6_pen 108 = .ok (.ireturn, 1) := by decide +kernel
theorem dX6_pen_109 : decode cX6_pen 109 = .ok (.aload_n 3, 1) := by decide +kernel
theorem dX6_pen_110 : decode cX6_pen 110 = .ok (.getfield 106, 3) := by decide +kernel
theorem dX6_pen_113 : decode cX6_pen 113 = .ok (.iload_n 1, 1) := by decide +kernel
theorem dX6_pen_114 : decode cX6_pen 114 = .ok (.iaload, 1) := by decide +kernel
theorem dX6_pen_115 : decode cX6_pen 115 = .ok (.ireturn, 1) := by decide +kernel
theorem dX6_pen_116 : decode cX6_pen 116 = .ok (.aload_n 0, 1) := by decide +kernel
theorem dX6_pen_117 : decode cX6_pen 117 = .ok (.getfield 44, 3) := by decide +kernel
theorem dX6_pen_120 : decode cX6_pen 120 = .ok (.getfield 121, 3) := by decide +kernel
theorem dX6_pen_123 : decode cX6_pen 123 = .ok (.iload_n 1, 1) := by decide +kernel
theorem dX6_pen_124 : decode cX6_pen 124 = .ok (.invokevirtual 264, 3) := by decide +kernel
theorem dX6_pen_127 : decode cX6_pen 127 = .ok (.ireturn, 1) := by decide +kernel
theorem dX6_pen_128 : decode cX6_pen 128 = .ok (.aload_n 3, 1) := by decide +kernel
theorem dX6_pen_129 : decode cX6_pen 129 = .ok (.iload_n 1, 1) := by decide +kernel
theorem dX6_pen_130 : decode cX6_pen 130 = .ok (.invokevirtual 267, 3) := by decide +kernel
theorem dX6_pen_133 : decode cX6_pen 133 = .ok (.ireturn, 1) := by decide +kernel
theorem dX6_piece_0 : decode cX6_piece 0 = .ok (.aload_n 0, 1) := by decide +kernel
theorem dX6_piece_1 : decode cX6_piece 1 = .ok (.iload_n 1, 1) := by decide +kernel
theorem dX6_piece_2 : decode cX6_piece 2 = .ok (.invokevirtual 143, 3) := by decide +kernel
theorem dX6_piece_5 : decode cX6_piece 5 = .ok (.iload_n 2, 1) := by decide +kernel
theorem dX6_piece_6 : decode cX6_piece 6 = .ok (.iconst 0, 1) := by decide +kernel
theorem dX6_piece_7 : decode cX6_piece 7 = .ok (.bipush 9, 2) := by decide +kernel
theorem dX6_piece_9 : decode cX6_piece 9 = .ok (.invokestatic 76, 3) := by decide +kernel
theorem dX6_piece_12 : decode cX6_piece 12 = .ok (.aload_n 0, 1) := by decide +kernel
theorem dX6_piece_13 : decode cX6_piece 13 = .ok (.getfield 44, 3) := by decide +kernel
theorem dX6_piece_16 : decode cX6_piece 16 = .ok (.getfield 121, 3) := by decide +kernel
theorem dX6_piece_19 : decode cX6_piece 19 = .ok (.astore_n 3, 1) := by decide +kernel
theorem dX6_piece_20 : decode cX6_piece 20 = .ok (.iload_n 2, 1) := by decide +kernel
theorem dX6_piece_21 : decode cX6_piece 21 = .ok (.tableswitch 113 0 8 #[51, 58, 65, 72, 79, 85, 91, 97, 104], 51) := by decide +kernel
theorem dX6_piece_72 : decode cX6_piece 72 = .ok (.aload_n 3, 1) := by decide +kernel
theorem dX6_piece_73 : decode cX6_piece 73 = .ok (.getfield 270, 3) := by decide +kernel
theorem dX6_piece_76 : decode cX6_piece 76 = .ok (.iload_n 1, 1) := by decide +kernel
theorem dX6_piece_77 : decode cX6_piece 77 = .ok (.iaload, 1) := by decide +kernel
theorem dX6_piece_78 : decode cX6_piece 78 = .ok (.ireturn, 1) := by decide +kernel
theorem dX6_piece_79 : decode cX6_piece 79 = .ok (.aload_n 3, 1) := by decide +kernel
theorem dX6_piece_80 : decode cX6_piece 80 = .ok (.getfield 164, 3) := by decide +kernel
theorem dX6_piece_83 : decode cX6_piece 83 = .ok (.iload_n 1, 1) := by decide +kernel
theorem dX6_piece_84 : decode cX6_piece 84 = .ok (.iaload, 1) := by decide +kernel
theorem dX6_piece_85 : decode cX6_piece 85 = .ok (.ireturn, 1) := by decide +kernel
theorem dX6_piece_86 : decode cX6_piece 86 = .ok (.aload_n 3, 1) := by decide +kernel
theorem dX6_piece_87 : decode cX6_piece 87 = .ok (.getfield 161, 3) := by decide +kernel
theorem dX6_piece_90 : decode cX6_piece 90 = .ok (.iload_n 1, 1) := by decide +kernel
theorem dX6_piece_91 : decode cX6_piece 91 = .ok (.iaload, 1) := by decide +kernel
theorem dX6_piece_92 : decode cX6_piece 92 = .ok (.ireturn, 1) := by decide +kernel
theorem dX6_piece_93 : decode cX6_piece 93 = .ok (.aload_n 3, 1) := by decide +kernel
theorem dX6_piece_94 : decode cX6_piece 94 = .ok (.getfield 167, 3) := by decide +kernel
theorem dX6_piece_97 : decode cX6_piece 97 = .ok (.iload_n 1, 1) := by decide +kernel
theorem dX6_piece_98 : decode cX6_piece 98 = .ok (.iaload, 1) := by decide +kernel
theorem dX6_piece_99 : decode cX6_piece 99 = .ok (.ireturn, 1) := by decide +kernel
theorem dX6_piece_100 : decode cX6_piece 100 = .ok (.aload_n 3, 1) := by decide +kernel
theorem dX6_piece_101 : decode cX6_piece 101 = .ok (.iload_n 1, 1) := by decide +kernel
theorem dX6_piece_102 : decode cX6_piece 102 = .ok (.invokevirtual 149, 3) := by decide +kernel
theorem dX6_piece_105 : decode cX6_piece 105 = .ok (.ireturn, 1) := by decide +kernel
theorem dX6_piece_106 : decode cX6_piece 106 = .ok (.aload_n 3, 1) := by decide +kernel
theorem dX6_piece_107 : decode cX6_piece 107 = .ok (.iload_n 1, 1) := by decide +kernel
theorem dX6_piece_108 : decode cX6_piece 108 = .ok (.invokevirtual 273, 3) := by decide +kernel
theorem dX6_piece_111 : decode cX6_piece 111 = .ok (.ireturn, 1) := by decide +kernel
theorem dX6_piece_112 : decode cX6_piece 112 = .ok (.aload_n 3, 1) := by decide +kernel
theorem dX6_piece_113 : decode cX6_piece 113 = .ok (.iload_n 1, 1) := by decide +kernel
theorem dX6_piece_114 : decode cX6_piece 114 = .ok (.invokevirtual 192, 3) := by decide +kernel
theorem dX6_piece_117 : decode cX6_piece 117 = .ok (.ireturn, 1) := by decide +kernel
theorem dX6_piece_118 : decode cX6_piece 118 = .ok (.aload_n 3, 1) := by decide +kernel
theorem dX6_piece_119 : decode cX6_piece 119 = .ok (.getfield 213, 3) := by decide +kernel
theorem dX6_piece_122 : decode cX6_piece 122 = .ok (.iload_n 1, 1) := by decide +kernel
theorem dX6_piece_123 : decode cX6_piece 123 = .ok (.iaload, 1) := by decide +kernel
theorem dX6_piece_124 : decode cX6_piece 124 = .ok (.ireturn, 1) := by decide +kernel
theorem dX6_piece_125 : decode cX6_piece 125 = .ok (.aload_n 0, 1) := by decide +kernel
theorem dX6_piece_126 : decode cX6_piece 126 = .ok (.getfield 44, 3) := by decide +kernel
theorem dX6_piece_129 : decode cX6_piece 129 = .ok (.iload_n 1, 1) := by decide +kernel
theorem dX6_piece_130 : decode cX6_piece 130 = .ok (.invokevirtual 204, 3) := by decide +kernel
theorem dX6_piece_133 : decode cX6_piece 133 = .ok (.ireturn, 1) := by decide +kernel
theorem dX6_piece_134 : decode cX6_piece 134 = .ok (.aload_n 3, 1) := by decide +kernel
theorem dX6_piece_135 : decode cX6_piece 135 = .ok (.iload_n 1, 1) := by decide +kernel
theorem dX6_piece_136 : decode cX6_piece 136 = .ok (.invokevirtual 226, 3) := by decide +kernel
theorem dX6_piece_139 : decode cX6_piece 139 = .ok (.ireturn, 1) := by decide +kernel
theorem dX6_between_0 : decode cX6_between 0 = .ok (.aload_n 0, 1) := by decide +kernel
theorem dX6_between_1 : decode cX6_between 1 = .ok (.iload_n 1, 1) := by decide +kernel
theorem dX6_between_2 : decode cX6_between 2 = .ok (.invokevirtual 143, 3) := by decide +kernel
theorem dX6_between_5 : decode cX6_between 5 = .ok (.aload_n 0, 1) := by decide +kernel
theorem dX6_between_6 : decode cX6_between 6 = .ok (.iload_n 2, 1) := by decide +kernel
theorem dX6_between_7 : decode cX6_between 7 = .ok (.invokevirtual 71, 3) := by decide +kernel
theorem dX6_between_10 : decode cX6_between 10 = .ok (.iload_n 3, 1) := by decide +kernel
theorem dX6_between_11 : decode cX6_between 11 = .ok (.iconst 0, 1) := by decide +kernel
theorem dX6_between_12 : decode cX6_between 12 = .ok (.iconst 2, 1) := by decide +kernel
theorem dX6_between_13 : decode cX6_between 13 = .ok (.invokestatic 76, 3) := by decide +kernel
theorem dX6_between_16 : decode cX6_between 16 = .ok (.iload_n 3, 1) := by decide +kernel
theorem dX6_between_17 : decode cX6_between 17 = .ok (.lookupswitch 61 #[(0, 27), (1, 44)], 27) := by decide +kernel
theorem dX6_between_44 : decode cX6_between 44 = .ok (.aload_n 0, 1) := by decide +kernel
theorem dX6_between_45 : decode cX6_between 45 = .ok (.getfield 44, 3) := by decide +kernel
theorem dX6_between_48 : decode cX6_between 48 = .ok (.getfield 121, 3) := by decide +kernel
theorem dX6_between_51 : decode cX6_between 51 = .ok (.getfield 241, 3) := by decide +kernel
theorem dX6_between_54 : decode cX6_between 54 = .ok (.iload_n 1, 1) := by decide +kernel
theorem dX6_between_55 : decode cX6_between 55 = .ok (.iload_n 2, 1) := by decide +kernel
theorem dX6_between_56 : decode cX6_between 56 = .ok (.invokestatic 158, 3) := by decide +kernel
theorem dX6_between_59 : decode cX6_between 59 = .ok (.iaload, 1) := by decide +kernel
theorem dX6_between_60 : decode cX6_between 60 = .ok (.ireturn, 1) := by decide +kernel
theorem dX6_between_61 : decode cX6_between 61 = .ok (.aload_n 0, 1) := by decide +kernel
theorem dX6_between_62 : decode cX6_between 62 = .ok (.getfield 44, 3) := by decide +kernel
theorem dX6_between_65 : decode cX6_between 65 = .ok (.getfield 121, 3) := by decide +kernel
theorem dX6_between_68 : decode cX6_between 68 = .ok (.getfield 155, 3) := by decide +kernel
theorem dX6_between_71 : decode cX6_between 71 = .ok (.iload_n 1, 1) := by decide +kernel
theorem dX6_between_72 : decode cX6_between 72 = .ok (.iload_n 2, 1) := by decide +kernel
theorem dX6_between_73 : decode cX6_between 73 = .ok (.invokestatic 158, 3) := by decide +kernel
theorem dX6_between_76 : decode cX6_between 76 = .ok (.iaload, 1) := by decide +kernel
theorem dX6_between_77 : decode cX6_between 77 = .ok (.ireturn, 1) := by decide +kernel
theorem dX6_between_78 : decode cX6_between 78 = .ok (.aload_n 0, 1) := by decide +kernel
theorem dX6_between_79 : decode cX6_between 79 = .ok (.getfield 44, 3) := by decide +kernel
theorem dX6_between_82 : decode cX6_between 82 = .ok (.getfield 121, 3) := by decide +kernel
theorem dX6_between_85 : decode cX6_between 85 = .ok (.getfield 125, 3) := by decide +kernel
theorem dX6_between_88 : decode cX6_between 88 = .ok (.iload_n 1, 1) := by decide +kernel
theorem dX6_between_89 : decode cX6_between 89 = .ok (.iload_n 2, 1) := by decide +kernel
theorem dX6_between_90 : decode cX6_between 90 = .ok (.invokestatic 158, 3) := by decide +kernel
theorem dX6_between_93 : decode cX6_between 93 = .ok (.iaload, 1) := by decide +kernel
theorem dX6_between_94 : decode cX6_between 94 = .ok (.ireturn, 1) := by decide +kernel
theorem dX6_count_0 : decode cX6_count 0 = .ok (.iload_n 1, 1) := by decide +kernel
theorem dX6_count_1 : decode cX6_count 1 = .ok (.iconst 0, 1) := by decide +kernel
theorem dX6_count_2 : decode cX6_count 2 = .ok (.bipush 13, 2) := by decide +kernel
theorem dX6_count_4 : decode cX6_count 4 = .ok (.invokestatic 76, 3) := by decide +kernel
theorem dX6_count_7 : decode cX6_count 7 = .ok (.iload_n 1, 1) := by decide +kernel
theorem dX6_count_8 : decode cX6_count 8 = .ok (.tableswitch 207 0 12 #[68, 79, 90, 98, 106, 114, 128, 142, 156, 168, 180, 188, 199], 68) := by decide +kernel
theorem dX6_count_76 : decode cX6_count 76 = .ok (.aload_n 0, 1) := by decide +kernel
theorem dX6_count_77 : decode cX6_count 77 = .ok (.getfield 44, 3) := by decide +kernel
theorem dX6_count_80 : decode cX6_count 80 = .ok (.getfield 48, 3) := by decide +kernel
theorem dX6_count_83 : decode cX6_count 83 = .ok (.getfield 52, 3) := by decide +kernel
theorem dX6_count_86 : decode cX6_count 86 = .ok (.ireturn, 1) := by decide +kernel
theorem dX6_count_87 : decode cX6_count 87 = .ok (.aload_n 0, 1) := by decide +kernel
theorem dX6_count_88 : decode cX6_count 88 = .ok (.getfield 44, 3) := by decide +kernel
theorem dX6_count_91 : decode cX6_count 91 = .ok (.getfield 121, 3) := by decide +kernel
theorem dX6_count_94 : decode cX6_count 94 = .ok (.getfield 136, 3) := by decide +kernel
theorem dX6_count_97 : decode cX6_count 97 = .ok (.ireturn, 1) := by decide +kernel
theorem dX6_count_98 : decode cX6_count 98 = .ok (.aload_n 0, 1) := by decide +kernel
theorem dX6_count_99 : decode cX6_count 99 = .ok (.getfield 44, 3) := by decide +kernel
theorem dX6_count_102 : decode cX6_count 102 = .ok (.getfield 118, 3) := by decide +kernel
theorem dX6_count_105 : decode cX6_count 105 = .ok (.ireturn, 1) := by decide +kernel
theorem dX6_count_106 : decode cX6_count 106 = .ok (.aload_n 0, 1) := by decide +kernel
theorem dX6_count_107 : decode cX6_count 107 = .ok (.getfield 44, 3) := by decide +kernel
theorem dX6_count_110 : decode cX6_count 110 = .ok (.getfield 100, 3) := by decide +kernel
theorem dX6_count_113 : decode cX6_count 113 = .ok (.ireturn, 1) := by decide +kernel
theorem dX6_count_114 : decode cX6_count 114 = .ok (.aload_n 0, 1) := by decide +kernel
theorem dX6_count_115 : decode cX6_count 115 = .ok (.getfield 44, 3) := by decide +kernel
theorem dX6_count_118 : decode cX6_count 118 = .ok (.getfield 276, 3) := by decide +kernel
theorem dX6_count_121 : decode cX6_count 121 = .ok (.ireturn, 1) := by decide +kernel
theorem dX6_count_122 : decode cX6_count 122 = .ok (.aload_n 0, 1) := by decide +kernel
theorem dX6_count_123 : decode cX6_count 123 = .ok (.getfield 44, 3) := by decide +kernel
theorem dX6_count_126 : decode cX6_count 126 = .ok (.getfield 48, 3) := by decide +kernel
theorem dX6_count_129 : decode cX6_count 129 = .ok (.getfield 85, 3) := by decide +kernel
theorem dX6_count_132 : decode cX6_count 132 = .ok (.invokestatic 279, 3) := by decide +kernel
theorem dX6_count_135 : decode cX6_count 135 = .ok (.ireturn, 1) := by decide +kernel
theorem dX6_count_136 : decode cX6_count 136 = .ok (.aload_n 0, 1) := by decide +kernel
theorem dX6_count_137 : decode cX6_count 137 = .ok (.getfield 44, 3) := by decide +kernel
theorem dX6_count_140 : decode cX6_count 140 = .ok (.getfield 48, 3) := by decide +kernel
theorem dX6_count_143 : decode cX6_count 143 = .ok (.getfield 103, 3) := by decide +kernel
theorem dX6_count_146 : decode cX6_count 146 = .ok (.invokestatic 279, 3) := by decide +kernel
theorem dX6_count_149 : decode cX6_count 149 = .ok (.ireturn, 1) := by decide +kernel
theorem dX6_count_150 : decode cX6_count 150 = .ok (.aload_n 0, 1) := by decide +kernel
theorem dX6_count_151 : decode cX6_count 151 = .ok (.getfield 44, 3) := by decide +kernel
theorem dX6_count_154 : decode cX6_count 154 = .ok (.getfield 48, 3) := by decide +kernel
theorem dX6_count_157 : decode cX6_count 157 = .ok (.getfield 106, 3) := by decide +kernel
theorem dX6_count_160 : decode cX6_count 160 = .ok (.invokestatic 279, 3) := by decide +kernel
theorem dX6_count_163 : decode cX6_count 163 = .ok (.ireturn, 1) := by decide +kernel
theorem dX6_count_164 : decode cX6_count 164 = .ok (.aload_n 0, 1) := by decide +kernel
theorem dX6_count_165 : decode cX6_count 165 = .ok (.getfield 44, 3) := by decide +kernel
theorem dX6_count_168 : decode cX6_count 168 = .ok (.getfield 121, 3) := by decide +kernel
theorem dX6_count_171 : decode cX6_count 171 = .ok (.iconst 3, 1) := by decide +kernel
theorem dX6_count_172 : decode cX6_count 172 = .ok (.invokevirtual 283, 3) := by decide +kernel
theorem dX6_count_175 : decode cX6_count 175 = .ok (.ireturn, 1) := by decide +kernel
theorem dX6_count_176 : decode cX6_count 176 = .ok (.aload_n 0, 1) := by decide +kernel
theorem dX6_count_177 : decode cX6_count 177 = .ok (.getfield 44, 3) := by decide +kernel
theorem dX6_count_180 : decode cX6_count 180 = .ok (.getfield 121, 3) := by decide +kernel
theorem dX6_count_183 : decode cX6_count 183 = .ok (.iconst 4, 1) := by decide +kernel
theorem dX6_count_184 : decode cX6_count 184 = .ok (.invokevirtual 283, 3) := by decide +kernel
theorem dX6_count_187 : decode cX6_count 187 = .ok (.ireturn, 1) := by decide +kernel
theorem dX6_count_188 : decode cX6_count 188 = .ok (.aload_n 0, 1) := by decide +kernel
theorem dX6_count_189 : decode cX6_count 189 = .ok (.getfield 44, 3) := by decide +kernel
theorem dX6_count_192 : decode cX6_count 192 = .ok (.getfield 238, 3) := by decide +kernel
theorem dX6_count_195 : decode cX6_count 195 = .ok (.ireturn, 1) := by decide +kernel
theorem dX6_count_196 : decode cX6_count 196 = .ok (.aload_n 0, 1) := by decide +kernel
theorem dX6_count_197 : decode cX6_count 197 = .ok (.getfield 44, 3) := by decide +kernel
theorem dX6_count_200 : decode cX6_count 200 = .ok (.getfield 48, 3) := by decide +kernel
theorem dX6_count_203 : decode cX6_count 203 = .ok (.invokevirtual 286, 3) := by decide +kernel
theorem dX6_count_206 : decode cX6_count 206 = .ok (.ireturn, 1) := by decide +kernel
theorem dX6_count_207 : decode cX6_count 207 = .ok (.aload_n 0, 1) := by decide +kernel
theorem dX6_count_208 : decode cX6_count 208 = .ok (.getfield 44, 3) := by decide +kernel
theorem dX6_count_211 : decode cX6_count 211 = .ok (.getfield 222, 3) := by decide +kernel
theorem dX6_count_214 : decode cX6_count 214 = .ok (.ireturn, 1) := by decide +kernel
theorem dX6_count_215 : decode cX6_count 215 = .ok (.aload_n 0, 1) := by decide +kernel
theorem dX6_count_216 : decode cX6_count 216 = .ok (.getfield 250, 3) := by decide +kernel
theorem dX6_count_219 : decode cX6_count 219 = .ok (.ireturn, 1) := by decide +kernel
theorem dX6_setting_0 : decode cX6_setting 0 = .ok (.iload_n 1, 1) := by decide +kernel
theorem dX6_setting_1 : decode cX6_setting 1 = .ok (.invokestatic 109, 3) := by decide +kernel
theorem dX6_setting_4 : decode cX6_setting 4 = .ok (.aload_n 0, 1) := by decide +kernel
theorem dX6_setting_5 : decode cX6_setting 5 = .ok (.getfield 44, 3) := by decide +kernel
theorem dX6_setting_8 : decode cX6_setting 8 = .ok (.getfield 115, 3) := by decide +kernel
theorem dX6_setting_11 : decode cX6_setting 11 = .ok (.iload_n 1, 1) := by decide +kernel
theorem dX6_setting_12 : decode cX6_setting 12 = .ok (.iaload, 1) := by decide +kernel
theorem dX6_setting_13 : decode cX6_setting 13 = .ok (.ireturn, 1) := by decide +kernel
theorem dX6_ifPaid_0 : decode cX6_ifPaid 0 = .ok (.aload_n 0, 1) := by decide +kernel
theorem dX6_ifPaid_1 : decode cX6_ifPaid 1 = .ok (.iload_n 1, 1) := by decide +kernel
theorem dX6_ifPaid_2 : decode cX6_ifPaid 2 = .ok (.invokevirtual 143, 3) := by decide +kernel
theorem dX6_ifPaid_5 : decode cX6_ifPaid 5 = .ok (.aload_n 0, 1) := by decide +kernel
theorem dX6_ifPaid_6 : decode cX6_ifPaid 6 = .ok (.iload_n 3, 1) := by decide +kernel
theorem dX6_ifPaid_7 : decode cX6_ifPaid 7 = .ok (.invokevirtual 71, 3) := by decide +kernel
theorem dX6_ifPaid_10 : decode cX6_ifPaid 10 = .ok (.iload_n 2, 1) := by decide +kernel
theorem dX6_ifPaid_11 : decode cX6_ifPaid 11 = .ok (.iconst 1, 1) := by decide +kernel
theorem dX6_ifPaid_12 : decode cX6_ifPaid 12 = .ok (.ldc 75, 2) := by decide +kernel
theorem dX6_ifPaid_14 : decode cX6_ifPaid 14 = .ok (.invokestatic 76, 3) := by decide +kernel
theorem dX6_ifPaid_17 : decode cX6_ifPaid 17 = .ok (.aload_n 0, 1) := by decide +kernel
theorem dX6_ifPaid_18 : decode cX6_ifPaid 18 = .ok (.iload_n 1, 1) := by decide +kernel
theorem dX6_ifPaid_19 : decode cX6_ifPaid 19 = .ok (.invokevirtual 207, 3) := by decide +kernel
theorem dX6_ifPaid_22 : decode cX6_ifPaid 22 = .ok (.aload_n 0, 1) := by decide +kernel
theorem dX6_ifPaid_23 : decode cX6_ifPaid 23 = .ok (.getfield 25, 3) := by decide +kernel
theorem dX6_ifPaid_26 : decode cX6_ifPaid 26 = .ok (.aload_n 0, 1) := by decide +kernel
theorem dX6_ifPaid_27 : decode cX6_ifPaid 27 = .ok (.getfield 44, 3) := by decide +kernel
theorem dX6_ifPaid_30 : decode cX6_ifPaid 30 = .ok (.iload_n 1, 1) := by decide +kernel
theorem dX6_ifPaid_31 : decode cX6_ifPaid 31 = .ok (.iload_n 2, 1) := by decide +kernel
theorem dX6_ifPaid_32 : decode cX6_ifPaid 32 = .ok (.invokevirtual 210, 3) := by decide +kernel
theorem dX6_ifPaid_35 : decode cX6_ifPaid 35 = .ok (.aload_n 0, 1) := by decide +kernel
theorem dX6_ifPaid_36 : decode cX6_ifPaid 36 = .ok (.iload_n 3, 1) := by decide +kernel
theorem dX6_ifPaid_37 : decode cX6_ifPaid 37 = .ok (.invokevirtual 289, 3) := by decide +kernel
theorem dX6_ifPaid_40 : decode cX6_ifPaid 40 = .ok (.ireturn, 1) := by decide +kernel
theorem dX6_fairest_0 : decode cX6_fairest 0 = .ok (.aload_n 0, 1) := by decide +kernel
theorem dX6_fairest_1 : decode cX6_fairest 1 = .ok (.iload_n 1, 1) := by decide +kernel
theorem dX6_fairest_2 : decode cX6_fairest 2 = .ok (.invokevirtual 143, 3) := by decide +kernel
theorem dX6_fairest_5 : decode cX6_fairest 5 = .ok (.aload_n 0, 1) := by decide +kernel
theorem dX6_fairest_6 : decode cX6_fairest 6 = .ok (.iload_n 2, 1) := by decide +kernel
theorem dX6_fairest_7 : decode cX6_fairest 7 = .ok (.invokevirtual 71, 3) := by decide +kernel
theorem dX6_fairest_10 : decode cX6_fairest 10 = .ok (.aload_n 0, 1) := by decide +kernel
theorem dX6_fairest_11 : decode cX6_fairest 11 = .ok (.getfield 32, 3) := by decide +kernel
theorem dX6_fairest_14 : decode cX6_fairest 14 = .ok (.aload_n 0, 1) := by decide +kernel
theorem dX6_fairest_15 : decode cX6_fairest 15 = .ok (.getfield 44, 3) := by decide +kernel
theorem dX6_fairest_18 : decode cX6_fairest 18 = .ok (.getfield 121, 3) := by decide +kernel
theorem dX6_fairest_21 : decode cX6_fairest 21 = .ok (.iload_n 1, 1) := by decide +kernel
theorem dX6_fairest_22 : decode cX6_fairest 22 = .ok (.invokevirtual 292, 3) := by decide +kernel
theorem dX6_fairest_25 : decode cX6_fairest 25 = .ok (.aload_n 0, 1) := by decide +kernel
theorem dX6_fairest_26 : decode cX6_fairest 26 = .ok (.getfield 32, 3) := by decide +kernel
theorem dX6_fairest_29 : decode cX6_fairest 29 = .ok (.getfield 296, 3) := by decide +kernel
theorem dX6_fairest_32 : decode cX6_fairest 32 = .ok (.iload_n 2, 1) := by decide +kernel
theorem dX6_fairest_33 : decode cX6_fairest 33 = .ok (.iaload, 1) := by decide +kernel
theorem dX6_fairest_34 : decode cX6_fairest 34 = .ok (.ireturn, 1) := by decide +kernel
theorem dX6_bestPiece_0 : decode cX6_bestPiece 0 = .ok (.aload_n 0, 1) := by decide +kernel
theorem dX6_bestPiece_1 : decode cX6_bestPiece 1 = .ok (.iload_n 1, 1) := by decide +kernel
theorem dX6_bestPiece_2 : decode cX6_bestPiece 2 = .ok (.invokevirtual 71, 3) := by decide +kernel
theorem dX6_bestPiece_5 : decode cX6_bestPiece 5 = .ok (.iload_n 2, 1) := by decide +kernel
theorem dX6_bestPiece_6 : decode cX6_bestPiece 6 = .ok (.iconst 1, 1) := by decide +kernel
theorem dX6_bestPiece_7 : decode cX6_bestPiece 7 = .ok (.ldc 75, 2) := by decide +kernel
theorem dX6_bestPiece_9 : decode cX6_bestPiece 9 = .ok (.invokestatic 76, 3) := by decide +kernel
theorem dX6_bestPiece_12 : decode cX6_bestPiece 12 = .ok (.aload_n 0, 1) := by decide +kernel
theorem dX6_bestPiece_13 : decode cX6_bestPiece 13 = .ok (.iload_n 2, 1) := by decide +kernel
theorem dX6_bestPiece_14 : decode cX6_bestPiece 14 = .ok (.invokevirtual 297, 3) := by decide +kernel
theorem dX6_bestPiece_17 : decode cX6_bestPiece 17 = .ok (.aload_n 0, 1) := by decide +kernel
theorem dX6_bestPiece_18 : decode cX6_bestPiece 18 = .ok (.getfield 36, 3) := by decide +kernel
theorem dX6_bestPiece_21 : decode cX6_bestPiece 21 = .ok (.iload_n 1, 1) := by decide +kernel
theorem dX6_bestPiece_22 : decode cX6_bestPiece 22 = .ok (.iaload, 1) := by decide +kernel
theorem dX6_bestPiece_23 : decode cX6_bestPiece 23 = .ok (.ireturn, 1) := by decide +kernel
theorem dX6_spread_0 : decode cX6_spread 0 = .ok (.aload_n 0, 1) := by decide +kernel
theorem dX6_spread_1 : decode cX6_spread 1 = .ok (.getfield 44, 3) := by decide +kernel
theorem dX6_spread_4 : decode cX6_spread 4 = .ok (.getfield 48, 3) := by decide +kernel
theorem dX6_spread_7 : decode cX6_spread 7 = .ok (.getfield 85, 3) := by decide +kernel
theorem dX6_spread_10 : decode cX6_spread 10 = .ok (.invokestatic 279, 3) := by decide +kernel
theorem dX6_spread_13 : decode cX6_spread 13 = .ok (.istore_n 1, 1) := by decide +kernel
theorem dX6_spread_14 : decode cX6_spread 14 = .ok (.iload_n 1, 1) := by decide +kernel
theorem dX6_spread_15 : decode cX6_spread 15 = .ok (.ifCond .ne 5, 3) := by decide +kernel
theorem dX6_spread_18 : decode cX6_spread 18 = .ok (.dconst 0, 1) := by decide +kernel
theorem dX6_spread_19 : decode cX6_spread 19 = .ok (.dreturn, 1) := by decide +kernel
theorem dX6_spread_20 : decode cX6_spread 20 = .ok (.aload_n 0, 1) := by decide +kernel
theorem dX6_spread_21 : decode cX6_spread 21 = .ok (.getfield 44, 3) := by decide +kernel
theorem dX6_spread_24 : decode cX6_spread 24 = .ok (.getfield 48, 3) := by decide +kernel
theorem dX6_spread_27 : decode cX6_spread 27 = .ok (.invokevirtual 300, 3) := by decide +kernel
theorem dX6_spread_30 : decode cX6_spread 30 = .ok (.i2d, 1) := by decide +kernel
theorem dX6_spread_31 : decode cX6_spread 31 = .ok (.aload_n 0, 1) := by decide +kernel
theorem dX6_spread_32 : decode cX6_spread 32 = .ok (.getfield 44, 3) := by decide +kernel
theorem dX6_spread_35 : decode cX6_spread 35 = .ok (.getfield 48, 3) := by decide +kernel
theorem dX6_spread_38 : decode cX6_spread 38 = .ok (.getfield 52, 3) := by decide +kernel
theorem dX6_spread_41 : decode cX6_spread 41 = .ok (.i2d, 1) := by decide +kernel
theorem dX6_spread_42 : decode cX6_spread 42 = .ok (.iload_n 1, 1) := by decide +kernel
theorem dX6_spread_43 : decode cX6_spread 43 = .ok (.i2d, 1) := by decide +kernel
theorem dX6_spread_44 : decode cX6_spread 44 = .ok (.dmul, 1) := by decide +kernel
theorem dX6_spread_45 : decode cX6_spread 45 = .ok (.ddiv, 1) := by decide +kernel
theorem dX6_spread_46 : decode cX6_spread 46 = .ok (.dreturn, 1) := by decide +kernel
theorem dX6_needPen_0 : decode cX6_needPen 0 = .ok (.iload_n 1, 1) := by decide +kernel
theorem dX6_needPen_1 : decode cX6_needPen 1 = .ok (.ifCond .lt 17, 3) := by decide +kernel
theorem dX6_needPen_4 : decode cX6_needPen 4 = .ok (.iload_n 1, 1) := by decide +kernel
theorem dX6_needPen_5 : decode cX6_needPen 5 = .ok (.aload_n 0, 1) := by decide +kernel
theorem dX6_needPen_6 : decode cX6_needPen 6 = .ok (.getfield 44, 3) := by decide +kernel
theorem dX6_needPen_9 : decode cX6_needPen 9 = .ok (.getfield 48, 3) := by decide +kernel
theorem dX6_needPen_12 : decode cX6_needPen 12 = .ok (.getfield 52, 3) := by decide +kernel
theorem dX6_needPen_15 : decode cX6_needPen 15 = .ok (.if_icmp .lt 14, 3) := by decide +kernel
theorem dX6_needPen_18 : decode cX6_needPen 18 = .ok (.new 327, 3) := by decide +kernel
theorem dX6_needPen_21 : decode cX6_needPen 21 = .ok (.dup, 1) := by decide +kernel
theorem dX6_needPen_22 : decode cX6_needPen 22 = .ok (.ldc_w 329, 3) := by decide +kernel
theorem dX6_needPen_25 : decode cX6_needPen 25 = .ok (.invokespecial 331, 3) := by decide +kernel
theorem dX6_needPen_28 : decode cX6_needPen 28 = .ok (.athrow, 1) := by decide +kernel
theorem dX6_needPen_29 : decode cX6_needPen 29 = .ok (.return_, 1) := by decide +kernel
theorem dX6_needPiece_0 : decode cX6_needPiece 0 = .ok (.iload_n 1, 1) := by decide +kernel
theorem dX6_needPiece_1 : decode cX6_needPiece 1 = .ok (.ifCond .lt 17, 3) := by decide +kernel
theorem dX6_needPiece_4 : decode cX6_needPiece 4 = .ok (.iload_n 1, 1) := by decide +kernel
theorem dX6_needPiece_5 : decode cX6_needPiece 5 = .ok (.aload_n 0, 1) := by decide +kernel
theorem dX6_needPiece_6 : decode cX6_needPiece 6 = .ok (.getfield 44, 3) := by decide +kernel
theorem dX6_needPiece_9 : decode cX6_needPiece 9 = .ok (.getfield 121, 3) := by decide +kernel
theorem dX6_needPiece_12 : decode cX6_needPiece 12 = .ok (.getfield 136, 3) := by decide +kernel
theorem dX6_needPiece_15 : decode cX6_needPiece 15 = .ok (.if_icmp .lt 14, 3) := by decide +kernel
theorem dX6_needPiece_18 : decode cX6_needPiece 18 = .ok (.new 327, 3) := by decide +kernel
theorem dX6_needPiece_21 : decode cX6_needPiece 21 = .ok (.dup, 1) := by decide +kernel
theorem dX6_needPiece_22 : decode cX6_needPiece 22 = .ok (.ldc_w 332, 3) := by decide +kernel
theorem dX6_needPiece_25 : decode cX6_needPiece 25 = .ok (.invokespecial 331, 3) := by decide +kernel
theorem dX6_needPiece_28 : decode cX6_needPiece 28 = .ok (.athrow, 1) := by decide +kernel
theorem dX6_needPiece_29 : decode cX6_needPiece 29 = .ok (.return_, 1) := by decide +kernel
theorem dX6_needSetting_0 : decode cX6_needSetting 0 = .ok (.iload_n 0, 1) := by decide +kernel
theorem dX6_needSetting_1 : decode cX6_needSetting 1 = .ok (.ifCond .lt 9, 3) := by decide +kernel
theorem dX6_needSetting_4 : decode cX6_needSetting 4 = .ok (.iload_n 0, 1) := by decide +kernel
theorem dX6_needSetting_5 : decode cX6_needSetting 5 = .ok (.bipush 6, 2) := by decide +kernel
theorem dX6_needSetting_7 : decode cX6_needSetting 7 = .ok (.if_icmp .lt 14, 3) := by decide +kernel
theorem dX6_needSetting_10 : decode cX6_needSetting 10 = .ok (.new 327, 3) := by decide +kernel
theorem dX6_needSetting_13 : decode cX6_needSetting 13 = .ok (.dup, 1) := by decide +kernel
theorem dX6_needSetting_14 : decode cX6_needSetting 14 = .ok (.ldc_w 334, 3) := by decide +kernel
theorem dX6_needSetting_17 : decode cX6_needSetting 17 = .ok (.invokespecial 331, 3) := by decide +kernel
theorem dX6_needSetting_20 : decode cX6_needSetting 20 = .ok (.athrow, 1) := by decide +kernel
theorem dX6_needSetting_21 : decode cX6_needSetting 21 = .ok (.return_, 1) := by decide +kernel
theorem dX6_needRange_0 : decode cX6_needRange 0 = .ok (.iload_n 0, 1) := by decide +kernel
theorem dX6_needRange_1 : decode cX6_needRange 1 = .ok (.iload_n 1, 1) := by decide +kernel
theorem dX6_needRange_2 : decode cX6_needRange 2 = .ok (.if_icmp .lt 8, 3) := by decide +kernel
theorem dX6_needRange_5 : decode cX6_needRange 5 = .ok (.iload_n 0, 1) := by decide +kernel
theorem dX6_needRange_6 : decode cX6_needRange 6 = .ok (.iload_n 2, 1) := by decide +kernel
theorem dX6_needRange_7 : decode cX6_needRange 7 = .ok (.if_icmp .le 14, 3) := by decide +kernel
theorem dX6_needRange_10 : decode cX6_needRange 10 = .ok (.new 80, 3) := by decide +kernel
theorem dX6_needRange_13 : decode cX6_needRange 13 = .ok (.dup, 1) := by decide +kernel
theorem dX6_needRange_14 : decode cX6_needRange 14 = .ok (.ldc_w 336, 3) := by decide +kernel
theorem dX6_needRange_17 : decode cX6_needRange 17 = .ok (.invokespecial 84, 3) := by decide +kernel
theorem dX6_needRange_20 : decode cX6_needRange 20 = .ok (.athrow, 1) := by decide +kernel
theorem dX6_needRange_21 : decode cX6_needRange 21 = .ok (.return_, 1) := by decide +kernel
theorem dX6_needAtLeast_0 : decode cX6_needAtLeast 0 = .ok (.iload_n 0, 1) := by decide +kernel
theorem dX6_needAtLeast_1 : decode cX6_needAtLeast 1 = .ok (.iload_n 1, 1) := by decide +kernel
theorem dX6_needAtLeast_2 : decode cX6_needAtLeast 2 = .ok (.if_icmp .ge 14, 3) := by decide +kernel
theorem dX6_needAtLeast_5 : decode cX6_needAtLeast 5 = .ok (.new 58, 3) := by decide +kernel
theorem dX6_needAtLeast_8 : decode cX6_needAtLeast 8 = .ok (.dup, 1) := by decide +kernel
theorem dX6_needAtLeast_9 : decode cX6_needAtLeast 9 = .ok (.ldc_w 338, 3) := by decide +kernel
theorem dX6_needAtLeast_12 : decode cX6_needAtLeast 12 = .ok (.invokespecial 62, 3) := by decide +kernel
theorem dX6_needAtLeast_15 : decode cX6_needAtLeast 15 = .ok (.athrow, 1) := by decide +kernel
theorem dX6_needAtLeast_16 : decode cX6_needAtLeast 16 = .ok (.return_, 1) := by decide +kernel
theorem dX6_needUnended_0 : decode cX6_needUnended 0 = .ok (.aload_n 0, 1) := by decide +kernel
theorem dX6_needUnended_1 : decode cX6_needUnended 1 = .ok (.getfield 44, 3) := by decide +kernel
theorem dX6_needUnended_4 : decode cX6_needUnended 4 = .ok (.getfield 121, 3) := by decide +kernel
theorem dX6_needUnended_7 : decode cX6_needUnended 7 = .ok (.getfield 161, 3) := by decide +kernel
theorem dX6_needUnended_10 : decode cX6_needUnended 10 = .ok (.iload_n 1, 1) := by decide +kernel
theorem dX6_needUnended_11 : decode cX6_needUnended 11 = .ok (.iaload, 1) := by decide +kernel
theorem dX6_needUnended_12 : decode cX6_needUnended 12 = .ok (.iconst 3, 1) := by decide +kernel
theorem dX6_needUnended_13 : decode cX6_needUnended 13 = .ok (.if_icmp .lt 14, 3) := by decide +kernel
theorem dX6_needUnended_16 : decode cX6_needUnended 16 = .ok (.new 58, 3) := by decide +kernel
theorem dX6_needUnended_19 : decode cX6_needUnended 19 = .ok (.dup, 1) := by decide +kernel
theorem dX6_needUnended_20 : decode cX6_needUnended 20 = .ok (.ldc_w 340, 3) := by decide +kernel
theorem dX6_needUnended_23 : decode cX6_needUnended 23 = .ok (.invokespecial 62, 3) := by decide +kernel
theorem dX6_needUnended_26 : decode cX6_needUnended 26 = .ok (.athrow, 1) := by decide +kernel
theorem dX6_needUnended_27 : decode cX6_needUnended 27 = .ok (.return_, 1) := by decide +kernel
theorem dX6_needAccepted_0 : decode cX6_needAccepted 0 = .ok (.aload_n 0, 1) := by decide +kernel
theorem dX6_needAccepted_1 : decode cX6_needAccepted 1 = .ok (.getfield 44, 3) := by decide +kernel
theorem dX6_needAccepted_4 : decode cX6_needAccepted 4 = .ok (.getfield 121, 3) := by decide +kernel
theorem dX6_needAccepted_7 : decode cX6_needAccepted 7 = .ok (.getfield 161, 3) := by decide +kernel
theorem dX6_needAccepted_10 : decode cX6_needAccepted 10 = .ok (.iload_n 1, 1) := by decide +kernel
theorem dX6_needAccepted_11 : decode cX6_needAccepted 11 = .ok (.iaload, 1) := by decide +kernel
theorem dX6_needAccepted_12 : decode cX6_needAccepted 12 = .ok (.iconst 3, 1) := by decide +kernel
theorem dX6_needAccepted_13 : decode cX6_needAccepted 13 = .ok (.if_icmp .eq 14, 3) := by decide +kernel
theorem dX6_needAccepted_16 : decode cX6_needAccepted 16 = .ok (.new 58, 3) := by decide +kernel
theorem dX6_needAccepted_19 : decode cX6_needAccepted 19 = .ok (.dup, 1) := by decide +kernel
theorem dX6_needAccepted_20 : decode cX6_needAccepted 20 = .ok (.ldc_w 342, 3) := by decide +kernel
theorem dX6_needAccepted_23 : decode cX6_needAccepted 23 = .ok (.invokespecial 62, 3) := by decide +kernel
theorem dX6_needAccepted_26 : decode cX6_needAccepted 26 = .ok (.athrow, 1) := by decide +kernel
theorem dX6_needAccepted_27 : decode cX6_needAccepted 27 = .ok (.return_, 1) := by decide +kernel
theorem dX6_save_0 : decode cX6_save 0 = .ok (.aload_n 0, 1) := by decide +kernel
theorem dX6_save_1 : decode cX6_save 1 = .ok (.getfield 255, 3) := by decide +kernel
theorem dX6_save_4 : decode cX6_save 4 = .ok (.iconst 1, 1) := by decide +kernel
theorem dX6_save_5 : decode cX6_save 5 = .ok (.iadd, 1) := by decide +kernel
theorem dX6_save_6 : decode cX6_save 6 = .ok (.bipush 7, 2) := by decide +kernel
theorem dX6_save_8 : decode cX6_save 8 = .ok (.irem, 1) := by decide +kernel
theorem dX6_save_9 : decode cX6_save 9 = .ok (.istore_n 1, 1) := by decide +kernel
theorem dX6_save_10 : decode cX6_save 10 = .ok (.aload_n 0, 1) := by decide +kernel
theorem dX6_save_11 : decode cX6_save 11 = .ok (.getfield 11, 3) := by decide +kernel
theorem dX6_save_14 : decode cX6_save 14 = .ok (.iload_n 1, 1) := by decide +kernel
theorem dX6_save_15 : decode cX6_save 15 = .ok (.aaload, 1) := by decide +kernel
theorem dX6_save_16 : decode cX6_save 16 = .ok (.aload_n 0, 1) := by decide +kernel
theorem dX6_save_17 : decode cX6_save 17 = .ok (.getfield 44, 3) := by decide +kernel
theorem dX6_save_20 : decode cX6_save 20 = .ok (.invokevirtual 344, 3) := by decide +kernel
theorem dX6_save_23 : decode cX6_save 23 = .ok (.aload_n 0, 1) := by decide +kernel
theorem dX6_save_24 : decode cX6_save 24 = .ok (.aload_n 0, 1) := by decide +kernel
theorem dX6_save_25 : decode cX6_save 25 = .ok (.getfield 11, 3) := by decide +kernel
theorem dX6_save_28 : decode cX6_save 28 = .ok (.iload_n 1, 1) := by decide +kernel
theorem dX6_save_29 : decode cX6_save 29 = .ok (.aaload, 1) := by decide +kernel
theorem dX6_save_30 : decode cX6_save 30 = .ok (.putfield 44, 3) := by decide +kernel
theorem dX6_save_33 : decode cX6_save 33 = .ok (.aload_n 0, 1) := by decide +kernel
theorem dX6_save_34 : decode cX6_save 34 = .ok (.iload_n 1, 1) := by decide +kernel
theorem dX6_save_35 : decode cX6_save 35 = .ok (.putfield 255, 3) := by decide +kernel
theorem dX6_save_38 : decode cX6_save 38 = .ok (.aload_n 0, 1) := by decide +kernel
theorem dX6_save_39 : decode cX6_save 39 = .ok (.aload_n 0, 1) := by decide +kernel
theorem dX6_save_40 : decode cX6_save 40 = .ok (.getfield 250, 3) := by decide +kernel
theorem dX6_save_43 : decode cX6_save 43 = .ok (.iconst 1, 1) := by decide +kernel
theorem dX6_save_44 : decode cX6_save 44 = .ok (.iadd, 1) := by decide +kernel
theorem dX6_save_45 : decode cX6_save 45 = .ok (.bipush 6, 2) := by decide +kernel
theorem dX6_save_47 : decode cX6_save 47 = .ok (.invokestatic 348, 3) := by decide +kernel
theorem dX6_save_50 : decode cX6_save 50 = .ok (.putfield 250, 3) := by decide +kernel
theorem dX6_save_53 : decode cX6_save 53 = .ok (.return_, 1) := by decide +kernel
theorem dX6_bringIn_0 : decode cX6_bringIn 0 = .ok (.aload_n 0, 1) := by decide +kernel
theorem dX6_bringIn_1 : decode cX6_bringIn 1 = .ok (.getfield 25, 3) := by decide +kernel
theorem dX6_bringIn_4 : decode cX6_bringIn 4 = .ok (.getfield 353, 3) := by decide +kernel
theorem dX6_bringIn_7 : decode cX6_bringIn 7 = .ok (.aload_n 0, 1) := by decide +kernel
theorem dX6_bringIn_8 : decode cX6_bringIn 8 = .ok (.getfield 25, 3) := by decide +kernel
theorem dX6_bringIn_11 : decode cX6_bringIn 11 = .ok (.getfield 225, 3) := by decide +kernel
theorem dX6_bringIn_14 : decode cX6_bringIn 14 = .ok (.iadd, 1) := by decide +kernel
theorem dX6_bringIn_15 : decode cX6_bringIn 15 = .ok (.istore_n 2, 1) := by decide +kernel
theorem dX6_bringIn_16 : decode cX6_bringIn 16 = .ok (.iload_n 2, 1) := by decide +kernel
theorem dX6_bringIn_17 : decode cX6_bringIn 17 = .ok (.aload_n 0, 1) := by decide +kernel
theorem dX6_bringIn_18 : decode cX6_bringIn 18 = .ok (.getfield 44, 3) := by decide +kernel
theorem dX6_bringIn_21 : decode cX6_bringIn 21 = .ok (.getfield 48, 3) := by decide +kernel
theorem dX6_bringIn_24 : decode cX6_bringIn 24 = .ok (.aload_n 0, 1) := by decide +kernel
theorem dX6_bringIn_25 : decode cX6_bringIn 25 = .ok (.getfield 25, 3) := by decide +kernel
theorem dX6_bringIn_28 : decode cX6_bringIn 28 = .ok (.getfield 356, 3) := by decide +kernel
theorem dX6_bringIn_31 : decode cX6_bringIn 31 = .ok (.aload_n 0, 1) := by decide +kernel
theorem dX6_bringIn_32 : decode cX6_bringIn 32 = .ok (.getfield 25, 3) := by decide +kernel
theorem dX6_bringIn_35 : decode cX6_bringIn 35 = .ok (.getfield 359, 3) := by decide +kernel
theorem dX6_bringIn_38 : decode cX6_bringIn 38 = .ok (.invokevirtual 362, 3) := by decide +kernel
theorem dX6_bringIn_41 : decode cX6_bringIn 41 = .ok (.iadd, 1) := by decide +kernel
theorem dX6_bringIn_42 : decode cX6_bringIn 42 = .ok (.istore_n 2, 1) := by decide +kernel
theorem dX6_bringIn_43 : decode cX6_bringIn 43 = .ok (.iconst 0, 1) := by decide +kernel
theorem dX6_bringIn_44 : decode cX6_bringIn 44 = .ok (.istore_n 3, 1) := by decide +kernel
theorem dX6_bringIn_45 : decode cX6_bringIn 45 = .ok (.iload_n 3, 1) := by decide +kernel
theorem dX6_bringIn_46 : decode cX6_bringIn 46 = .ok (.aload_n 0, 1) := by decide +kernel
theorem dX6_bringIn_47 : decode cX6_bringIn 47 = .ok (.getfield 44, 3) := by decide +kernel
theorem dX6_bringIn_50 : decode cX6_bringIn 50 = .ok (.getfield 48, 3) := by decide +kernel
theorem dX6_bringIn_53 : decode cX6_bringIn 53 = .ok (.getfield 52, 3) := by decide +kernel
theorem dX6_bringIn_56 : decode cX6_bringIn 56 = .ok (.if_icmp .ge 32, 3) := by decide +kernel
theorem dX6_bringIn_59 : decode cX6_bringIn 59 = .ok (.iload_n 2, 1) := by decide +kernel
theorem dX6_bringIn_60 : decode cX6_bringIn 60 = .ok (.aload_n 0, 1) := by decide +kernel
theorem dX6_bringIn_61 : decode cX6_bringIn 61 = .ok (.getfield 44, 3) := by decide +kernel
theorem dX6_bringIn_64 : decode cX6_bringIn 64 = .ok (.getfield 48, 3) := by decide +kernel
theorem dX6_bringIn_67 : decode cX6_bringIn 67 = .ok (.iload_n 3, 1) := by decide +kernel
theorem dX6_bringIn_68 : decode cX6_bringIn 68 = .ok (.aload_n 0, 1) := by decide +kernel
theorem dX6_bringIn_69 : decode cX6_bringIn 69 = .ok (.getfield 25, 3) := by decide +kernel
theorem dX6_bringIn_72 : decode cX6_bringIn 72 = .ok (.getfield 216, 3) := by decide +kernel
theorem dX6_bringIn_75 : decode cX6_bringIn 75 = .ok (.iload_n 3, 1) := by decide +kernel
theorem dX6_bringIn_76 : decode cX6_bringIn 76 = .ok (.iaload, 1) := by decide +kernel
theorem dX6_bringIn_77 : decode cX6_bringIn 77 = .ok (.invokevirtual 362, 3) := by decide +kernel
theorem dX6_bringIn_80 : decode cX6_bringIn 80 = .ok (.iadd, 1) := by decide +kernel
theorem dX6_bringIn_81 : decode cX6_bringIn 81 = .ok (.istore_n 2, 1) := by decide +kernel
theorem dX6_bringIn_82 : decode cX6_bringIn 82 = .ok (.iinc 3 1, 3) := by decide +kernel
theorem dX6_bringIn_85 : decode cX6_bringIn 85 = .ok (.goto (-40), 3) := by decide +kernel
theorem dX6_bringIn_88 : decode cX6_bringIn 88 = .ok (.aload_n 0, 1) := by decide +kernel
theorem dX6_bringIn_89 : decode cX6_bringIn 89 = .ok (.getfield 44, 3) := by decide +kernel
theorem dX6_bringIn_92 : decode cX6_bringIn 92 = .ok (.dup, 1) := by decide +kernel
theorem dX6_bringIn_93 : decode cX6_bringIn 93 = .ok (.getfield 100, 3) := by decide +kernel
theorem dX6_bringIn_96 : decode cX6_bringIn 96 = .ok (.iload_n 2, 1) := by decide +kernel
theorem dX6_bringIn_97 : decode cX6_bringIn 97 = .ok (.iadd, 1) := by decide +kernel
theorem dX6_bringIn_98 : decode cX6_bringIn 98 = .ok (.putfield 100, 3) := by decide +kernel
theorem dX6_bringIn_101 : decode cX6_bringIn 101 = .ok (.aload_n 0, 1) := by decide +kernel
theorem dX6_bringIn_102 : decode cX6_bringIn 102 = .ok (.getfield 44, 3) := by decide +kernel
theorem dX6_bringIn_105 : decode cX6_bringIn 105 = .ok (.dup, 1) := by decide +kernel
theorem dX6_bringIn_106 : decode cX6_bringIn 106 = .ok (.getfield 276, 3) := by decide +kernel
theorem dX6_bringIn_109 : decode cX6_bringIn 109 = .ok (.iload_n 1, 1) := by decide +kernel
theorem dX6_bringIn_110 : decode cX6_bringIn 110 = .ok (.iadd, 1) := by decide +kernel
theorem dX6_bringIn_111 : decode cX6_bringIn 111 = .ok (.putfield 276, 3) := by decide +kernel
theorem dX6_bringIn_114 : decode cX6_bringIn 114 = .ok (.iload_n 2, 1) := by decide +kernel
theorem dX6_bringIn_115 : decode cX6_bringIn 115 = .ok (.ireturn, 1) := by decide +kernel
theorem dX6_gainOf_0 : decode cX6_gainOf 0 = .ok (.aload_n 0, 1) := by decide +kernel
theorem dX6_gainOf_1 : decode cX6_gainOf 1 = .ok (.getfield 44, 3) := by decide +kernel
theorem dX6_gainOf_4 : decode cX6_gainOf 4 = .ok (.getfield 48, 3) := by decide +kernel
theorem dX6_gainOf_7 : decode cX6_gainOf 7 = .ok (.getfield 103, 3) := by decide +kernel
theorem dX6_gainOf_10 : decode cX6_gainOf 10 = .ok (.iload_n 1, 1) := by decide +kernel
theorem dX6_gainOf_11 : decode cX6_gainOf 11 = .ok (.iaload, 1) := by decide +kernel
theorem dX6_gainOf_12 : decode cX6_gainOf 12 = .ok (.istore_n 2, 1) := by decide +kernel
theorem dX6_gainOf_13 : decode cX6_gainOf 13 = .ok (.iload_n 1, 1) := by decide +kernel
theorem dX6_gainOf_14 : decode cX6_gainOf 14 = .ok (.aload_n 0, 1) := by decide +kernel
theorem dX6_gainOf_15 : decode cX6_gainOf 15 = .ok (.getfield 25, 3) := by decide +kernel
theorem dX6_gainOf_18 : decode cX6_gainOf 18 = .ok (.getfield 356, 3) := by decide +kernel
theorem dX6_gainOf_21 : decode cX6_gainOf 21 = .ok (.if_icmp .ne 13, 3) := by decide +kernel
theorem dX6_gainOf_24 : decode cX6_gainOf 24 = .ok (.aload_n 0, 1) := by decide +kernel
theorem dX6_gainOf_25 : decode cX6_gainOf 25 = .ok (.getfield 25, 3) := by decide +kernel
theorem dX6_gainOf_28 : decode cX6_gainOf 28 = .ok (.getfield 359, 3) := by decide +kernel
theorem dX6_gainOf_31 : decode cX6_gainOf 31 = .ok (.goto 4, 3) := by decide +kernel
theorem dX6_gainOf_34 : decode cX6_gainOf 34 = .ok (.iconst 0, 1) := by decide +kernel
theorem dX6_gainOf_35 : decode cX6_gainOf 35 = .ok (.istore_n 3, 1) := by decide +kernel
theorem dX6_gainOf_36 : decode cX6_gainOf 36 = .ok (.iload_n 3, 1) := by decide +kernel
theorem dX6_gainOf_37 : decode cX6_gainOf 37 = .ok (.iload_n 2, 1) := by decide +kernel
theorem dX6_gainOf_38 : decode cX6_gainOf 38 = .ok (.invokestatic 365, 3) := by decide +kernel
theorem dX6_gainOf_41 : decode cX6_gainOf 41 = .ok (.istore 4, 2) := by decide +kernel
theorem dX6_gainOf_43 : decode cX6_gainOf 43 = .ok (.aload_n 0, 1) := by decide +kernel
theorem dX6_gainOf_44 : decode cX6_gainOf 44 = .ok (.getfield 25, 3) := by decide +kernel
theorem dX6_gainOf_47 : decode cX6_gainOf 47 = .ok (.getfield 216, 3) := by decide +kernel
theorem dX6_gainOf_50 : decode cX6_gainOf 50 = .ok (.iload_n 1, 1) := by decide +kernel
theorem dX6_gainOf_51 : decode cX6_gainOf 51 = .ok (.iaload, 1) := by decide +kernel
theorem dX6_gainOf_52 : decode cX6_gainOf 52 = .ok (.istore 5, 2) := by decide +kernel
theorem dX6_gainOf_54 : decode cX6_gainOf 54 = .ok (.iload 5, 2) := by decide +kernel
theorem dX6_gainOf_56 : decode cX6_gainOf 56 = .ok (.iload_n 2, 1) := by decide +kernel
theorem dX6_gainOf_57 : decode cX6_gainOf 57 = .ok (.iload 4, 2) := by decide +kernel
theorem dX6_gainOf_59 : decode cX6_gainOf 59 = .ok (.isub, 1) := by decide +kernel
theorem dX6_gainOf_60 : decode cX6_gainOf 60 = .ok (.invokestatic 365, 3) := by decide +kernel
theorem dX6_gainOf_63 : decode cX6_gainOf 63 = .ok (.istore 6, 2) := by decide +kernel
theorem dX6_gainOf_65 : decode cX6_gainOf 65 = .ok (.iload_n 3, 1) := by decide +kernel
theorem dX6_gainOf_66 : decode cX6_gainOf 66 = .ok (.iload 4, 2) := by decide +kernel
theorem dX6_gainOf_68 : decode cX6_gainOf 68 = .ok (.isub, 1) := by decide +kernel
theorem dX6_gainOf_69 : decode cX6_gainOf 69 = .ok (.iload 5, 2) := by decide +kernel
theorem dX6_gainOf_71 : decode cX6_gainOf 71 = .ok (.iadd, 1) := by decide +kernel
theorem dX6_gainOf_72 : decode cX6_gainOf 72 = .ok (.iload 6, 2) := by decide +kernel
theorem dX6_gainOf_74 : decode cX6_gainOf 74 = .ok (.isub, 1) := by decide +kernel
theorem dX6_gainOf_75 : decode cX6_gainOf 75 = .ok (.ireturn, 1) := by decide +kernel
theorem dX6_findBest_0 : decode cX6_findBest 0 = .ok (.aload_n 0, 1) := by decide +kernel
theorem dX6_findBest_1 : decode cX6_findBest 1 = .ok (.getfield 36, 3) := by decide +kernel
theorem dX6_findBest_4 : decode cX6_findBest 4 = .ok (.iconst (-1), 1) := by decide +kernel
theorem dX6_findBest_5 : decode cX6_findBest 5 = .ok (.invokestatic 130, 3) := by decide +kernel
theorem dX6_findBest_8 : decode cX6_findBest 8 = .ok (.iconst 0, 1) := by decide +kernel
theorem dX6_findBest_9 : decode cX6_findBest 9 = .ok (.istore_n 2, 1) := by decide +kernel
theorem dX6_findBest_10 : decode cX6_findBest 10 = .ok (.iload_n 2, 1) := by decide +kernel
theorem dX6_findBest_11 : decode cX6_findBest 11 = .ok (.aload_n 0, 1) := by decide +kernel
theorem dX6_findBest_12 : decode cX6_findBest 12 = .ok (.getfield 44, 3) := by decide +kernel
theorem dX6_findBest_15 : decode cX6_findBest 15 = .ok (.getfield 121, 3) := by decide +kernel
theorem dX6_findBest_18 : decode cX6_findBest 18 = .ok (.getfield 136, 3) := by decide +kernel
theorem dX6_findBest_21 : decode cX6_findBest 21 = .ok (.if_icmp .ge 43, 3) := by decide +kernel
theorem dX6_findBest_24 : decode cX6_findBest 24 = .ok (.aload_n 0, 1) := by decide +kernel
theorem dX6_findBest_25 : decode cX6_findBest 25 = .ok (.getfield 44, 3) := by decide +kernel
theorem dX6_findBest_28 : decode cX6_findBest 28 = .ok (.getfield 121, 3) := by decide +kernel
theorem dX6_findBest_31 : decode cX6_findBest 31 = .ok (.getfield 161, 3) := by decide +kernel
theorem dX6_findBest_34 : decode cX6_findBest 34 = .ok (.iload_n 2, 1) := by decide +kernel
theorem dX6_findBest_35 : decode cX6_findBest 35 = .ok (.iaload, 1) := by decide +kernel
theorem dX6_findBest_36 : decode cX6_findBest 36 = .ok (.iconst 3, 1) := by decide +kernel
theorem dX6_findBest_37 : decode cX6_findBest 37 = .ok (.if_icmp .ne 21, 3) := by decide +kernel
theorem dX6_findBest_40 : decode cX6_findBest 40 = .ok (.aload_n 0, 1) := by decide +kernel
theorem dX6_findBest_41 : decode cX6_findBest 41 = .ok (.getfield 25, 3) := by decide +kernel
theorem dX6_findBest_44 : decode cX6_findBest 44 = .ok (.aload_n 0, 1) := by decide +kernel
theorem dX6_findBest_45 : decode cX6_findBest 45 = .ok (.getfield 44, 3) := by decide +kernel
theorem dX6_findBest_48 : decode cX6_findBest 48 = .ok (.iload_n 2, 1) := by decide +kernel
theorem dX6_findBest_49 : decode cX6_findBest 49 = .ok (.iload_n 1, 1) := by decide +kernel
theorem dX6_findBest_50 : decode cX6_findBest 50 = .ok (.invokevirtual 210, 3) := by decide +kernel
theorem dX6_findBest_53 : decode cX6_findBest 53 = .ok (.aload_n 0, 1) := by decide +kernel
theorem dX6_findBest_54 : decode cX6_findBest 54 = .ok (.iload_n 2, 1) := by decide +kernel
theorem dX6_findBest_55 : decode cX6_findBest 55 = .ok (.invokevirtual 368, 3) := by decide +kernel
theorem dX6_findBest_58 : decode cX6_findBest 58 = .ok (.iinc 2 1, 3) := by decide +kernel
theorem dX6_findBest_61 : decode cX6_findBest 61 = .ok (.goto (-51), 3) := by decide +kernel
theorem dX6_findBest_64 : decode cX6_findBest 64 = .ok (.return_, 1) := by decide +kernel
theorem dX6_preferIfBetter_0 : decode cX6_preferIfBetter 0 = .ok (.iconst 0, 1) := by decide +kernel
theorem dX6_preferIfBetter_1 : decode cX6_preferIfBetter 1 = .ok (.istore_n 2, 1) := by decide +kernel
theorem dX6_preferIfBetter_2 : decode cX6_preferIfBetter 2 = .ok (.iload_n 2, 1) := by decide +kernel
theorem dX6_preferIfBetter_3 : decode cX6_preferIfBetter 3 = .ok (.aload_n 0, 1) := by decide +kernel
theorem dX6_preferIfBetter_4 : decode cX6_preferIfBetter 4 = .ok (.getfield 44, 3) := by decide +kernel
theorem dX6_preferIfBetter_7 : decode cX6_preferIfBetter 7 = .ok (.getfield 48, 3) := by decide +kernel
theorem dX6_preferIfBetter_10 : decode cX6_preferIfBetter 10 = .ok (.getfield 52, 3) := by decide +kernel
theorem dX6_preferIfBetter_13 : decode cX6_preferIfBetter 13 = .ok (.if_icmp .ge 49, 3) := by decide +kernel
theorem dX6_preferIfBetter_16 : decode cX6_preferIfBetter 16 = .ok (.aload_n 0, 1) := by decide +kernel
theorem dX6_preferIfBetter_17 : decode cX6_preferIfBetter 17 = .ok (.iload_n 2, 1) := by decide +kernel
theorem dX6_preferIfBetter_18 : decode cX6_preferIfBetter 18 = .ok (.invokevirtual 289, 3) := by decide +kernel
theorem dX6_preferIfBetter_21 : decode cX6_preferIfBetter 21 = .ok (.istore_n 3, 1) := by decide +kernel
theorem dX6_preferIfBetter_22 : decode cX6_preferIfBetter 22 = .ok (.aload_n 0, 1) := by decide +kernel
theorem dX6_preferIfBetter_23 : decode cX6_preferIfBetter 23 = .ok (.getfield 36, 3) := by decide +kernel
theorem dX6_preferIfBetter_26 : decode cX6_preferIfBetter 26 = .ok (.iload_n 2, 1) := by decide +kernel
theorem dX6_preferIfBetter_27 : decode cX6_preferIfBetter 27 = .ok (.iaload, 1) := by decide +kernel
theorem dX6_preferIfBetter_28 : decode cX6_preferIfBetter 28 = .ok (.iconst (-1), 1) := by decide +kernel
theorem dX6_preferIfBetter_29 : decode cX6_preferIfBetter 29 = .ok (.if_icmp .eq 13, 3) := by decide +kernel
theorem dX6_preferIfBetter_32 : decode cX6_preferIfBetter 32 = .ok (.iload_n 3, 1) := by decide +kernel
theorem dX6_preferIfBetter_33 : decode cX6_preferIfBetter 33 = .ok (.aload_n 0, 1) := by decide +kernel
theorem dX6_preferIfBetter_34 : decode cX6_preferIfBetter 34 = .ok (.getfield 40, 3) := by decide +kernel
theorem dX6_preferIfBetter_37 : decode cX6_preferIfBetter 37 = .ok (.iload_n 2, 1) := by decide +kernel
theorem dX6_preferIfBetter_38 : decode cX6_preferIfBetter 38 = .ok (.iaload, 1) := by decide +kernel
theorem dX6_preferIfBetter_39 : decode cX6_preferIfBetter 39 = .ok (.if_icmp .le 17, 3) := by decide +kernel
theorem dX6_preferIfBetter_42 : decode cX6_preferIfBetter 42 = .ok (.aload_n 0, 1) := by decide +kernel
theorem dX6_preferIfBetter_43 : decode cX6_preferIfBetter 43 = .ok (.getfield 36, 3) := by decide +kernel
theorem dX6_preferIfBetter_46 : decode cX6_preferIfBetter 46 = .ok (.iload_n 2, 1) := by decide +kernel
theorem dX6_preferIfBetter_47 : decode cX6_preferIfBetter 47 = .ok (.iload_n 1, 1) := by decide +kernel
theorem dX6_preferIfBetter_48 : decode cX6_preferIfBetter 48 = .ok (.iastore, 1) := by decide +kernel
theorem dX6_preferIfBetter_49 : decode cX6_preferIfBetter 49 = .ok (.aload_n 0, 1) := by decide +kernel
theorem dX6_preferIfBetter_50 : decode cX6_preferIfBetter 50 = .ok (.getfield 40, 3) := by decide +kernel
theorem dX6_preferIfBetter_53 : decode cX6_preferIfBetter 53 = .ok (.iload_n 2, 1) := by decide +kernel
theorem dX6_preferIfBetter_54 : decode cX6_preferIfBetter 54 = .ok (.iload_n 3, 1) := by decide +kernel
theorem dX6_preferIfBetter_55 : decode cX6_preferIfBetter 55 = .ok (.iastore, 1) := by decide +kernel
theorem dX6_preferIfBetter_56 : decode cX6_preferIfBetter 56 = .ok (.iinc 2 1, 3) := by decide +kernel
theorem dX6_preferIfBetter_59 : decode cX6_preferIfBetter 59 = .ok (.goto (-57), 3) := by decide +kernel
theorem dX6_preferIfBetter_62 : decode cX6_preferIfBetter 62 = .ok (.return_, 1) := by decide +kernel
theorem dX6_withheld_0 : decode cX6_withheld 0 = .ok (.iload_n 0, 1) := by decide +kernel
theorem dX6_withheld_1 : decode cX6_withheld 1 = .ok (.iload_n 0, 1) := by decide +kernel
theorem dX6_withheld_2 : decode cX6_withheld 2 = .ok (.iconst 2, 1) := by decide +kernel
theorem dX6_withheld_3 : decode cX6_withheld 3 = .ok (.idiv, 1) := by decide +kernel
theorem dX6_withheld_4 : decode cX6_withheld 4 = .ok (.isub, 1) := by decide +kernel
theorem dX6_withheld_5 : decode cX6_withheld 5 = .ok (.iload_n 1, 1) := by decide +kernel
theorem dX6_withheld_6 : decode cX6_withheld 6 = .ok (.invokestatic 348, 3) := by decide +kernel
theorem dX6_withheld_9 : decode cX6_withheld 9 = .ok (.ireturn, 1) := by decide +kernel
theorem dX6_at_0 : decode cX6_at 0 = .ok (.iload_n 0, 1) := by decide +kernel
theorem dX6_at_1 : decode cX6_at 1 = .ok (.bipush 12, 2) := by decide +kernel
theorem dX6_at_3 : decode cX6_at 3 = .ok (.imul, 1) := by decide +kernel
theorem dX6_at_4 : decode cX6_at 4 = .ok (.iload_n 1, 1) := by decide +kernel
theorem dX6_at_5 : decode cX6_at 5 = .ok (.iadd, 1) := by decide +kernel
theorem dX6_at_6 : decode cX6_at 6 = .ok (.ireturn, 1) := by decide +kernel
theorem dX6_isIn_0 : decode cX6_isIn 0 = .ok (.iload_n 0, 1) := by decide +kernel
theorem dX6_isIn_1 : decode cX6_isIn 1 = .ok (.iload_n 1, 1) := by decide +kernel
theorem dX6_isIn_2 : decode cX6_isIn 2 = .ok (.ishr, 1) := by decide +kernel
theorem dX6_isIn_3 : decode cX6_isIn 3 = .ok (.iconst 1, 1) := by decide +kernel
theorem dX6_isIn_4 : decode cX6_isIn 4 = .ok (.iand, 1) := by decide +kernel
theorem dX6_isIn_5 : decode cX6_isIn 5 = .ok (.ifCond .eq 7, 3) := by decide +kernel
theorem dX6_isIn_8 : decode cX6_isIn 8 = .ok (.iconst 1, 1) := by decide +kernel
theorem dX6_isIn_9 : decode cX6_isIn 9 = .ok (.goto 4, 3) := by decide +kernel
theorem dX6_isIn_12 : decode cX6_isIn 12 = .ok (.iconst 0, 1) := by decide +kernel
theorem dX6_isIn_13 : decode cX6_isIn 13 = .ok (.ireturn, 1) := by decide +kernel
theorem dX6_sum_0 : decode cX6_sum 0 = .ok (.iconst 0, 1) := by decide +kernel
theorem dX6_sum_1 : decode cX6_sum 1 = .ok (.istore_n 1, 1) := by decide +kernel
theorem dX6_sum_2 : decode cX6_sum 2 = .ok (.aload_n 0, 1) := by decide +kernel
theorem dX6_sum_3 : decode cX6_sum 3 = .ok (.astore_n 2, 1) := by decide +kernel
theorem dX6_sum_4 : decode cX6_sum 4 = .ok (.aload_n 2, 1) := by decide +kernel
theorem dX6_sum_5 : decode cX6_sum 5 = .ok (.arraylength, 1) := by decide +kernel
theorem dX6_sum_6 : decode cX6_sum 6 = .ok (.istore_n 3, 1) := by decide +kernel
theorem dX6_sum_7 : decode cX6_sum 7 = .ok (.iconst 0, 1) := by decide +kernel
theorem dX6_sum_8 : decode cX6_sum 8 = .ok (.istore 4, 2) := by decide +kernel
theorem dX6_sum_10 : decode cX6_sum 10 = .ok (.iload 4, 2) := by decide +kernel
theorem dX6_sum_12 : decode cX6_sum 12 = .ok (.iload_n 3, 1) := by decide +kernel
theorem dX6_sum_13 : decode cX6_sum 13 = .ok (.if_icmp .ge 20, 3) := by decide +kernel
theorem dX6_sum_16 : decode cX6_sum 16 = .ok (.aload_n 2, 1) := by decide +kernel
theorem dX6_sum_17 : decode cX6_sum 17 = .ok (.iload 4, 2) := by decide +kernel
theorem dX6_sum_19 : decode cX6_sum 19 = .ok (.iaload, 1) := by decide +kernel
theorem dX6_sum_20 : decode cX6_sum 20 = .ok (.istore 5, 2) := by decide +kernel
theorem dX6_sum_22 : decode cX6_sum 22 = .ok (.iload_n 1, 1) := by decide +kernel
theorem dX6_sum_23 : decode cX6_sum 23 = .ok (.iload 5, 2) := by decide +kernel
theorem dX6_sum_25 : decode cX6_sum 25 = .ok (.iadd, 1) := by decide +kernel
theorem dX6_sum_26 : decode cX6_sum 26 = .ok (.istore_n 1, 1) := by decide +kernel
theorem dX6_sum_27 : decode cX6_sum 27 = .ok (.iinc 4 1, 3) := by decide +kernel
theorem dX6_sum_30 : decode cX6_sum 30 = .ok (.goto (-20), 3) := by decide +kernel
theorem dX6_sum_33 : decode cX6_sum 33 = .ok (.iload_n 1, 1) := by decide +kernel
theorem dX6_sum_34 : decode cX6_sum 34 = .ok (.ireturn, 1) := by decide +kernel
theorem dX6_sumOf_0 : decode cX6_sumOf 0 = .ok (.iconst 0, 1) := by decide +kernel
theorem dX6_sumOf_1 : decode cX6_sumOf 1 = .ok (.istore_n 2, 1) := by decide +kernel
theorem dX6_sumOf_2 : decode cX6_sumOf 2 = .ok (.iconst 0, 1) := by decide +kernel
theorem dX6_sumOf_3 : decode cX6_sumOf 3 = .ok (.istore_n 3, 1) := by decide +kernel
theorem dX6_sumOf_4 : decode cX6_sumOf 4 = .ok (.iload_n 3, 1) := by decide +kernel
theorem dX6_sumOf_5 : decode cX6_sumOf 5 = .ok (.bipush 12, 2) := by decide +kernel
theorem dX6_sumOf_7 : decode cX6_sumOf 7 = .ok (.if_icmp .ge 19, 3) := by decide +kernel
theorem dX6_sumOf_10 : decode cX6_sumOf 10 = .ok (.iload_n 2, 1) := by decide +kernel
theorem dX6_sumOf_11 : decode cX6_sumOf 11 = .ok (.aload_n 0, 1) := by decide +kernel
theorem dX6_sumOf_12 : decode cX6_sumOf 12 = .ok (.iload_n 1, 1) := by decide +kernel
theorem dX6_sumOf_13 : decode cX6_sumOf 13 = .ok (.iload_n 3, 1) := by decide +kernel
theorem dX6_sumOf_14 : decode cX6_sumOf 14 = .ok (.invokestatic 158, 3) := by decide +kernel
theorem dX6_sumOf_17 : decode cX6_sumOf 17 = .ok (.iaload, 1) := by decide +kernel
theorem dX6_sumOf_18 : decode cX6_sumOf 18 = .ok (.iadd, 1) := by decide +kernel
theorem dX6_sumOf_19 : decode cX6_sumOf 19 = .ok (.istore_n 2, 1) := by decide +kernel
theorem dX6_sumOf_20 : decode cX6_sumOf 20 = .ok (.iinc 3 1, 3) := by decide +kernel
theorem dX6_sumOf_23 : decode cX6_sumOf 23 = .ok (.goto (-19), 3) := by decide +kernel
theorem dX6_sumOf_26 : decode cX6_sumOf 26 = .ok (.iload_n 2, 1) := by decide +kernel
theorem dX6_sumOf_27 : decode cX6_sumOf 27 = .ok (.ireturn, 1) := by decide +kernel
theorem dX6_copyRow_0 : decode cX6_copyRow 0 = .ok (.aload_n 0, 1) := by decide +kernel
theorem dX6_copyRow_1 : decode cX6_copyRow 1 = .ok (.iconst 0, 1) := by decide +kernel
theorem dX6_copyRow_2 : decode cX6_copyRow 2 = .ok (.aload_n 1, 1) := by decide +kernel
theorem dX6_copyRow_3 : decode cX6_copyRow 3 = .ok (.iconst 0, 1) := by decide +kernel
theorem dX6_copyRow_4 : decode cX6_copyRow 4 = .ok (.aload_n 0, 1) := by decide +kernel
theorem dX6_copyRow_5 : decode cX6_copyRow 5 = .ok (.arraylength, 1) := by decide +kernel
theorem dX6_copyRow_6 : decode cX6_copyRow 6 = .ok (.aload_n 1, 1) := by decide +kernel
theorem dX6_copyRow_7 : decode cX6_copyRow 7 = .ok (.arraylength, 1) := by decide +kernel
theorem dX6_copyRow_8 : decode cX6_copyRow 8 = .ok (.invokestatic 348, 3) := by decide +kernel
theorem dX6_copyRow_11 : decode cX6_copyRow 11 = .ok (.invokestatic 389, 3) := by decide +kernel
theorem dX6_copyRow_14 : decode cX6_copyRow 14 = .ok (.return_, 1) := by decide +kernel
end
section
/-! ===== the layer: memories of whole numbers, cells, worlds ===== -/
abbrev z_M : Type := Nat → Int → Int
def z_I (n : Int) : Value := .int (Int32.ofInt n)
def z_L (n : Int) : Value := .long (Int64.ofInt n)
abbrev z_rg (n : Int) : Prop := -2147483648 ≤ n ∧ n ≤ 2147483647
def z_sM (M : z_M) (a : Nat) (i v : Int) : z_M := fun a' i' => if a' = a ∧ i' = i then v else M a' i'
/-- launch, base address, class numbers and slots, classes of int, long and State arrays, the two static rows -/
abbrev z_G : Type := Launch × Nat × va_G × ClassId × ClassId × ClassId × Nat × Nat × Nat × Nat × Nat × (Nat → Int32)
abbrev z_l (G : z_G) : Launch := G.1
abbrev z_b (G : z_G) : Nat := G.2.1
abbrev z_D (G : z_G) : va_G := G.2.2.1
abbrev z_cI (G : z_G) : ClassId := G.2.2.2.1
abbrev z_cL (G : z_G) : ClassId := G.2.2.2.2.1
abbrev z_cR (G : z_G) : ClassId := G.2.2.2.2.2.1
abbrev z_fs (G : z_G) : Nat := G.2.2.2.2.2.2.1
abbrev z_gs (G : z_G) : Nat := G.2.2.2.2.2.2.2.1
/-- where the law's copies begin; none are there while this is 0 -/
abbrev z_x (G : z_G) : Nat := G.2.2.2.2.2.2.2.2.1
/-- the script: its cell, its length, its numbers -/
abbrev z_scp (G : z_G) : Nat × Nat × (Nat → Int32) := G.2.2.2.2.2.2.2.2.2
def z_A (G : z_G) : Nat → Prop := fun q => z_b G ≤ q
/-- the place of a cell: kinds 0..17 are a state's (g: its number), 20..34 the class's own, 40..46 the law's rows (g = 1: its copies) -/
def z_of (g k : Nat) : Nat := if k < 18 then 15 + 18 * g + k else if k < 40 then k - 20 else 101 + k
def z_xo (k : Nat) : Nat := if k = 46 then 3 else if k = 44 then 2 else k - 40
def z_ad (G : z_G) (g k : Nat) : Nat := if 40 ≤ k ∧ g = 1 then z_x G + z_xo k else z_b G + z_of g k
abbrev z_dmb (g k : Nat) : Prop := (k < 18 ∧ g < 7) ∨ (g = 0 ∧ ((20 ≤ k ∧ k < 35) ∨ (40 ≤ k ∧ k < 47)))
/-- the law's copies are there -/
def z_on (G : z_G) : Prop := z_b G + 148 ≤ z_x G
abbrev z_dm (G : z_G) (g k : Nat) : Prop := z_dmb g k ∨ (z_on G ∧ g = 1 ∧ (k = 40 ∨ k = 41 ∨ k = 44 ∨ k = 46))
theorem z_ad_inj {G : z_G} {g k g' k' : Nat} (h : z_dm G g k) (h' : z_dm G g' k') (e : z_ad G g k = z_ad G g' k') : g = g' ∧ k = k' := by
  unfold z_ad z_of z_xo at e
  unfold z_dm z_dmb z_on at h h'
  (repeat' split at e) <;> omega
theorem z_ad_b {G : z_G} {g k : Nat} (h : z_dmb g k) : z_ad G g k = z_b G + z_of g k := if_neg (by unfold z_dmb at h; omega)
theorem z_of_lt {g k : Nat} (h : z_dmb g k) : z_of g k < 148 := by
  unfold z_dmb at h
  unfold z_of
  (repeat' split) <;> omega
/-- a slot: 0, an int at a place of the memory; 1, a reference to a cell; 2, a reference to the state whose number stands at a place; 3, a long at a place -/
abbrev z_F : Type := Nat × Nat × Int
def z_fv (G : z_G) (M : z_M) (f : z_F) : Value := match f with
  | (0, a, i) => z_I (M a i)
  | (1, g, k) => .ref (z_ad G g k.toNat)
  | (2, a, i) => .ref (z_ad G (M a i).toNat 0)
  | (_, a, i) => z_L (M a i)
/-- objects: number of the class, slots -/
def z_ob (g k : Nat) : Option (Nat × List z_F) := match k with
  | 0 => some (5, [(1, g, 1), (1, g, 8), (1, g, 17), (0, g, 2), (0, g, 3), (0, g, 4), (0, g, 7), (0, g, 6)])
  | 1 => some (3, [(0, g, 0), (1, g, 2), (1, g, 3), (1, g, 4), (1, g, 5), (1, g, 6), (1, g, 7)])
  | 8 => some (4, [(0, g, 1), (1, g, 9), (1, g, 10), (1, g, 11), (1, g, 12), (1, g, 13), (1, g, 14), (1, g, 15), (1, g, 16)])
  | 20 => some (6, [(1, 0, 21), (0, 7, 0), (0, 7, 1), (2, 7, 2), (1, 0, 22), (1, 0, 25), (1, 0, 28), (1, 0, 33), (1, 0, 34)])
  | 22 => some (2, [(1, 0, 23), (0, 7, 3), (1, 0, 24), (0, 7, 4), (0, 7, 5), (0, 7, 6), (0, 7, 7)])
  | 25 => some (0, [(0, 7, 8), (0, 7, 9), (0, 7, 10), (0, 7, 11), (1, 0, 26), (1, 0, 27)])
  | 28 => some (1, [(1, 0, 29), (1, 0, 30), (1, 0, 31), (1, 0, 32), (0, 7, 12), (0, 7, 13)])
  | _ => none
/-- arrays: 0 of ints, 3 of longs, 4 the row of states; memory row, length, where element j stands -/
def z_al (g k : Nat) : Option (Nat × Nat × Nat × (Int → Int)) := match k with
  | 2 => some (0, g, 12, fun p => 14 + 6 * p)
  | 3 => some (0, g, 12, fun p => 14 + 6 * p + 1)
  | 4 => some (0, g, 12, fun p => 14 + 6 * p + 2)
  | 5 => some (0, g, 12, fun p => 14 + 6 * p + 3)
  | 6 => some (0, g, 12, fun p => 14 + 6 * p + 4)
  | 7 => some (0, g, 12, fun p => 14 + 6 * p + 5)
  | 9 => some (0, g, 20, fun p => 86 + 5 * p)
  | 10 => some (0, g, 20, fun p => 86 + 5 * p + 1)
  | 11 => some (0, g, 20, fun p => 86 + 5 * p + 2)
  | 12 => some (0, g, 20, fun p => 86 + 5 * p + 3)
  | 13 => some (0, g, 20, fun p => 86 + 5 * p + 4)
  | 14 => some (0, g, 240, fun p => 426 + p)
  | 15 => some (0, g, 240, fun p => 186 + p)
  | 16 => some (0, g, 240, fun p => 666 + p)
  | 17 => some (0, g, 6, fun p => 8 + p)
  | 21 => some (4, 99, 7, fun p => p)
  | 23 => some (0, 8, 60, fun p => p)
  | 24 => some (0, 9, 12, fun p => p)
  | 26 => some (0, 10, 12, fun p => p)
  | 27 => some (0, 11, 12, fun p => p)
  | 29 => some (0, 12, 12, fun p => p)
  | 30 => some (0, 13, 4, fun p => p)
  | 31 => some (0, 14, 4, fun p => p)
  | 32 => some (0, 15, 4, fun p => p)
  | 33 => some (0, 16, 12, fun p => p)
  | 34 => some (0, 17, 12, fun p => p)
  | 40 => some (0, 40 + g, 24, fun p => 14 + p)
  | 41 => some (0, 40 + g, 20, fun p => 86 + p)
  | 42 => some (0, 40 + g, 16, fun p => 186 + 12 * (p / 4) + p % 4)
  | 43 => some (0, 40 + g, 16, fun p => 426 + 12 * (p / 4) + p % 4)
  | 44 => some (0, 40 + g, 16, fun p => 666 + 12 * (p / 4) + p % 4)
  | 45 => some (0, 40 + g, 6, fun p => 8 + p)
  | 46 => some (0, 40 + g, 8, fun p => p)
  | _ => none
def z_ac (G : z_G) (t : Nat) : ClassId := if t = 0 then z_cI G else if t = 3 then z_cL G else z_cR G
def z_ev (G : z_G) (M : z_M) (t a : Nat) (ix : Int → Int) (j : Nat) : Value := if t = 0 then z_I (M a (ix j)) else if t = 3 then z_L (M a (ix j)) else .ref (z_ad G j 0)
/-- a cell of the world -/
def z_hold (G : z_G) (M : z_M) (H : Heap) (g k : Nat) : Prop :=
  (∀ ci fs, z_ob g k = some (ci, fs) → t_OB (z_ad G g k) ((z_D G).1 ci) fs.length ((z_D G).2 ci) H (fun j => z_fv G M (fs.getD j (0, 0, 0)))) ∧
  (∀ t a n ix, z_al g k = some (t, a, n, ix) → H[z_ad G g k]? = some (arrV (z_ac G t) n (z_ev G M t a ix)))
def z_Wd (G : z_G) (M : z_M) (H : Heap) : Prop := (z_b G + 148 ≤ H.size ∧ (z_on G → z_x G + 4 ≤ H.size)) ∧ (∀ (a : Nat) (i : Int), a ≠ 20 → z_rg (M a i)) ∧ ∀ g k, z_dm G g k → z_hold G M H g k
/-- whose slot a place of a row of the law is -/
def z_owl (g : Nat) (i : Int) : Nat × Nat :=
  if i < 8 then (g, 46) else if i < 14 then (g, 45) else if i < 38 then (g, 40) else if i < 86 then (9, 99) else if i < 106 then (g, 41) else if i < 186 then (9, 99)
  else if i < 426 then (if i < 234 ∧ (i - 186) % 12 < 4 then (g, 42) else (9, 99)) else if i < 666 then (if i < 474 ∧ (i - 426) % 12 < 4 then (g, 43) else (9, 99)) else (if i < 714 ∧ (i - 666) % 12 < 4 then (g, 44) else (9, 99))
/-- whose slot a place of the memory is -/
def z_ow (a : Nat) (i : Int) : Nat × Nat :=
  if a < 7 then (a, if i = 0 then 1 else if i = 1 then 8 else if i = 5 then 99 else if i < 8 then 0 else if i < 14 then 17 else if i < 86 then 2 + ((i - 14) % 6).toNat else if i < 186 then 9 + ((i - 86) % 5).toNat else if i < 426 then 15 else if i < 666 then 14 else 16)
  else if a = 7 then (0, if i < 3 then 20 else if i < 8 then 22 else if i < 12 then 25 else 28)
  else if a < 10 then (0, a + 15) else if a < 12 then (0, a + 16) else if a < 18 then (0, a + 17) else if a < 40 then (9, 99) else if a < 42 then z_owl (a - 40) i else (9, 99)
theorem z_owA {G : z_G} {g k : Nat} (hd : z_dm G g k) {t a n : Nat} {ix : Int → Int} (h : z_al g k = some (t, a, n, ix)) (ht : t ≠ 4) (j : Nat) (hj : j < n) : z_ow a (ix j) = (g, k) := by
  have hg : 0 < k → k < 18 → g < 7 := fun _ _ => by unfold z_dm z_dmb at hd; omega
  have hg0 : 18 ≤ k → k < 40 → g = 0 := fun _ _ => by unfold z_dm z_dmb at hd; omega
  have hg1 : 40 ≤ k → g = 0 ∨ g = 1 := fun _ => by unfold z_dm z_dmb at hd; omega
  unfold z_al at h
  split at h <;> cases h <;> first
    | exact absurd rfl ht
    | (have hg := hg0 (by decide) (by decide); subst hg; rfl)
    | (have hg := hg (by decide) (by decide)
       show z_ow _ _ = _
       dsimp only
       rw [z_ow, if_pos hg]
       congr 1
       first
         | (rw [if_neg (by omega), if_neg (by omega), if_neg (by omega), if_neg (by omega), if_pos (by omega)]; done)
         | (rw [if_neg (by omega), if_neg (by omega), if_neg (by omega), if_neg (by omega), if_neg (by omega), if_pos (by omega)]; omega)
         | (rw [if_neg (by omega), if_neg (by omega), if_neg (by omega), if_neg (by omega), if_neg (by omega), if_neg (by omega), if_pos (by omega)]; omega)
         | (rw [if_neg (by omega), if_neg (by omega), if_neg (by omega), if_neg (by omega), if_neg (by omega), if_neg (by omega), if_neg (by omega), if_pos (by omega)]; done)
         | (rw [if_neg (by omega), if_neg (by omega), if_neg (by omega), if_neg (by omega), if_neg (by omega), if_neg (by omega), if_neg (by omega), if_neg (by omega), if_pos (by omega)]; done)
         | (rw [if_neg (by omega), if_neg (by omega), if_neg (by omega), if_neg (by omega), if_neg (by omega), if_neg (by omega), if_neg (by omega), if_neg (by omega), if_neg (by omega)]; done))
    | (have hg := hg1 (by decide)
       have e : ∀ i : Int, z_ow (40 + g) i = z_owl g i := fun i => by rcases hg with rfl | rfl <;> rfl
       dsimp only
       rw [e]
       unfold z_owl
       (repeat' split) <;> first | rfl | (exfalso; omega))
theorem z_owO {G : z_G} {g k : Nat} (hd : z_dm G g k) {ci : Nat} {fs : List z_F} (h : z_ob g k = some (ci, fs)) (j : Nat) {t a : Nat} {i : Int} (hf : fs[j]? = some (t, a, i)) (ht : t ≠ 1) : z_ow a i = (g, k) := by
  have hg : k < 18 → g < 7 := fun _ => by unfold z_dm z_dmb at hd; omega
  have hg0 : 18 ≤ k → k < 40 → g = 0 := fun _ _ => by unfold z_dm z_dmb at hd; omega
  have hm := List.mem_of_getElem? hf
  unfold z_ob at h
  split at h <;> cases h <;> simp only [List.mem_cons, Prod.mk.injEq, List.not_mem_nil, or_false] at hm
  all_goals first
    | (have hg := hg0 (by decide) (by decide); subst hg; (rcases hm with hm | hm | hm | hm | hm | hm | hm | hm | hm) <;> (obtain ⟨rfl, rfl, rfl⟩ := hm) <;> first | exact absurd rfl ht | rfl)
    | (have hg := hg0 (by decide) (by decide); subst hg; (rcases hm with hm | hm | hm | hm | hm | hm | hm) <;> (obtain ⟨rfl, rfl, rfl⟩ := hm) <;> first | exact absurd rfl ht | rfl)
    | (have hg := hg0 (by decide) (by decide); subst hg; (rcases hm with hm | hm | hm | hm | hm | hm) <;> (obtain ⟨rfl, rfl, rfl⟩ := hm) <;> first | exact absurd rfl ht | rfl)
    | (have hg := hg (by decide); (rcases hm with hm | hm | hm | hm | hm | hm | hm | hm | hm) <;> (obtain ⟨rfl, rfl, rfl⟩ := hm) <;> first | exact absurd rfl ht | (rw [z_ow, if_pos hg]; rfl))
    | (have hg := hg (by decide); (rcases hm with hm | hm | hm | hm | hm | hm | hm | hm) <;> (obtain ⟨rfl, rfl, rfl⟩ := hm) <;> first | exact absurd rfl ht | (rw [z_ow, if_pos hg]; rfl))
    | (have hg := hg (by decide); (rcases hm with hm | hm | hm | hm | hm | hm | hm) <;> (obtain ⟨rfl, rfl, rfl⟩ := hm) <;> first | exact absurd rfl ht | (rw [z_ow, if_pos hg]; rfl))
theorem z_al_inj {g k t a n : Nat} {ix : Int → Int} (h : z_al g k = some (t, a, n, ix)) (j j' : Nat) (e : ix j = ix j') : j = j' := by
  unfold z_al at h
  split at h <;> cases h <;> dsimp only at e <;> omega
def z_okl (l : List z_F) : Bool := (List.range l.length).all fun j => (List.range l.length).all fun j' => j == j' || (match l[j]?, l[j']? with
  | some (t, a, i), some (t', a', i') => t == 1 || t' == 1 || !(a == a' && i == i')
  | _, _ => true)
theorem z_okl_use {l : List z_F} (h : z_okl l = true) {j j' t t' a : Nat} {i : Int} (h1 : l[j]? = some (t, a, i)) (h2 : l[j']? = some (t', a, i)) (ht : t ≠ 1) (ht' : t' ≠ 1) : j = j' := by
  have l1 := (List.getElem?_eq_some_iff.mp h1).1
  have l2 := (List.getElem?_eq_some_iff.mp h2).1
  unfold z_okl at h
  have h3 := List.all_eq_true.mp (List.all_eq_true.mp h j (List.mem_range.mpr l1)) j' (List.mem_range.mpr l2)
  rw [h1, h2] at h3
  simpa [ht, ht'] using h3
theorem z_ob_inj {G : z_G} {g k : Nat} (hd : z_dm G g k) {ci : Nat} {fs : List z_F} (h : z_ob g k = some (ci, fs)) : z_okl fs = true := by
  have hg : k < 18 → g < 7 := fun _ => by unfold z_dm z_dmb at hd; omega
  have hg0 : 18 ≤ k → k < 40 → g = 0 := fun _ _ => by unfold z_dm z_dmb at hd; omega
  unfold z_ob at h
  split at h <;> cases h
  all_goals first
    | (have hg := hg0 (by decide) (by decide); subst hg; decide +kernel)
    | (have hg := hg (by decide)
       rcases (show g = 0 ∨ g = 1 ∨ g = 2 ∨ g = 3 ∨ g = 4 ∨ g = 5 ∨ g = 6 by omega) with rfl | rfl | rfl | rfl | rfl | rfl | rfl <;> decide +kernel)
theorem z_fv_eq {G : z_G} {M M' : z_M} {t a : Nat} {i : Int} (h : t ≠ 1 → M a i = M' a i) : z_fv G M (t, a, i) = z_fv G M' (t, a, i) := by
  match t, h with
  | 0, h => show z_I _ = z_I _; rw [h (by decide)]
  | 1, _ => rfl
  | 2, h => show Value.ref (z_ad G (M a i).toNat 0) = Value.ref (z_ad G (M' a i).toNat 0); rw [h (by decide)]
  | _ + 3, h => show z_L _ = z_L _; rw [h (by omega)]
theorem z_ev_eq {G : z_G} {M M' : z_M} {t a : Nat} {ix : Int → Int} {j : Nat} (h : t ≠ 4 → M a (ix j) = M' a (ix j)) : z_ev G M t a ix j = z_ev G M' t a ix j := by
  unfold z_ev
  by_cases h4 : t = 4
  · subst h4; rfl
  · rw [h h4]
theorem z_arrV_eq {cA : ClassId} {n : Nat} {f f' : Nat → Value} (h : ∀ j, j < n → f j = f' j) : arrV cA n f = arrV cA n f' := by
  unfold arrV
  have e : (fun j : Fin n => f j.val) = fun j : Fin n => f' j.val := funext fun j => h j.val j.isLt
  rw [e]
theorem z_al_t {g k t a n : Nat} {ix : Int → Int} (h : z_al g k = some (t, a, n, ix)) : t = 0 ∨ t = 3 ∨ t = 4 := by
  unfold z_al at h
  split at h <;> cases h <;> simp
theorem z_hold_move {G : z_G} {M M' : z_M} {H H' : Heap} {g k : Nat} (hd : z_dm G g k) (hM : ∀ a i, z_ow a i = (g, k) → M a i = M' a i) (hH : H'[z_ad G g k]? = H[z_ad G g k]?) (h : z_hold G M H g k) : z_hold G M' H' g k := by
  refine ⟨fun ci fs ho => ?_, fun t a n ix ha => ?_⟩
  · refine ((h.1 ci fs ho).kept hH).to fun j hj => ?_
    have e : fs[j]? = some fs[j] := List.getElem?_eq_getElem hj
    rw [List.getD_eq_getElem?_getD, e]
    rcases hf : fs[j] with ⟨t, a, i⟩
    exact z_fv_eq fun ht => hM a i (z_owO hd ho j (by rw [e, hf]) ht)
  · rw [hH, h.2 t a n ix ha]
    congr 1
    exact z_arrV_eq fun j hj => z_ev_eq fun ht => hM _ _ (z_owA hd ha ht j hj)
theorem z_Wd_put {G : z_G} {M : z_M} {H H' : Heap} {g k a : Nat} {i v : Int} (hW : z_Wd G M H) (hd : z_dm G g k) (hz : H'.size = H.size) (oq : ∀ q, q ≠ z_ad G g k → H'[q]? = H[q]?) (hrg : a ≠ 20 → z_rg v) (how : z_ow a i = (g, k)) (hnew : z_hold G (z_sM M a i v) H' g k) : z_Wd G (z_sM M a i v) H' := by
  refine ⟨by rw [hz]; exact hW.1, fun a' i' ha => ?_, fun g' k' hd' => ?_⟩
  · unfold z_sM
    split
    · rename_i h
      exact hrg (by rw [← h.1]; exact ha)
    · exact hW.2.1 a' i' ha
  · by_cases hgk : g' = g ∧ k' = k
    · obtain ⟨rfl, rfl⟩ := hgk
      exact hnew
    · refine z_hold_move (M := M) hd' (fun a' i' ho => ?_) (oq _ fun e => hgk (z_ad_inj hd' hd e)) (hW.2.2 g' k' hd')
      unfold z_sM
      rw [if_neg]
      rintro ⟨rfl, rfl⟩
      rw [how] at ho
      cases ho
      exact hgk ⟨rfl, rfl⟩
theorem z_lt {G : z_G} {M : z_M} {H : Heap} (hW : z_Wd G M H) {g k : Nat} (hd : z_dm G g k) : z_ad G g k < H.size := by
  have h1 := hW.1.1
  have h3 := hW.1.2
  rcases hd with hd | ⟨ho, rfl, hd⟩
  · have h2 := z_of_lt hd
    rw [z_ad_b hd]
    omega
  · have h4 := h3 ho
    unfold z_ad z_xo
    rw [if_pos (by omega)]
    (repeat' split) <;> omega
theorem z_Wd_keep {G : z_G} {M : z_M} {H H' : Heap} (hW : z_Wd G M H) (hz : H.size ≤ H'.size) (oq : ∀ q, q < H.size → H'[q]? = H[q]?) : z_Wd G M H' :=
  ⟨⟨Nat.le_trans hW.1.1 hz, fun h => Nat.le_trans (hW.1.2 h) hz⟩, hW.2.1, fun g k hd => z_hold_move (M := M) hd (fun _ _ _ => rfl) (oq _ (z_lt hW hd)) (hW.2.2 g k hd)⟩
/-- a memory that differs only where no cell is -/
theorem z_Wd_gh {G : z_G} {M M' : z_M} {H : Heap} (hW : z_Wd G M H) (hr : ∀ (a : Nat) (i : Int), a ≠ 20 → z_rg (M' a i)) (he : ∀ g k, z_dm G g k → ∀ a i, z_ow a i = (g, k) → M a i = M' a i) : z_Wd G M' H :=
  ⟨hW.1, hr, fun g k hd => z_hold_move (M := M) hd (fun a i ho => he g k hd a i ho) rfl (hW.2.2 g k hd)⟩
theorem z_in {G : z_G} {g k : Nat} (hd : z_dm G g k) : z_A G (z_ad G g k) := by
  show z_b G ≤ z_ad G g k
  rcases hd with hd | ⟨ho, rfl, hd⟩
  · rw [z_ad_b hd]; omega
  · unfold z_on at ho
    unfold z_ad
    rw [if_pos (by omega)]
    omega
/-- pure: Int32 and Int -/
theorem z_toI {n : Int} (h : z_rg n) : (Int32.ofInt n).toInt = n := Int32.toInt_ofInt_of_le (by have := h.1; omega) (by have := h.2; omega)
theorem z_clamp {n : Int} (h0 : 0 ≤ n) (h1 : n ≤ 2147483647) : (Int32.ofInt n).toNatClampNeg = n.toNat := by
  rw [← Int32.toNat_toInt, z_toI ⟨by omega, h1⟩]
theorem z_lt32 {a b : Int} (ha : z_rg a) (hb : z_rg b) : (Int32.ofInt a < Int32.ofInt b) ↔ a < b := by
  rw [Int32.lt_iff_toInt_lt, z_toI ha, z_toI hb]
theorem z_le32 {a b : Int} (ha : z_rg a) (hb : z_rg b) : (Int32.ofInt a ≤ Int32.ofInt b) ↔ a ≤ b := by
  rw [Int32.le_iff_toInt_le, z_toI ha, z_toI hb]
theorem z_eq32 {a b : Int} (ha : z_rg a) (hb : z_rg b) : (Int32.ofInt a = Int32.ofInt b) ↔ a = b := by
  rw [← Int32.toInt_inj, z_toI ha, z_toI hb]
theorem z_vp {i : Int} {n : Nat} (h0 : 0 ≤ i) (h1 : i < n) (hn : n ≤ 2147483647) : ¬ (Int32.ofInt i < 0 ∨ n ≤ (Int32.ofInt i).toNatClampNeg) := by
  have e := z_lt32 (a := i) (b := 0) ⟨by omega, by omega⟩ ⟨by omega, by omega⟩
  rw [z_clamp h0 (by omega)]
  rintro (h | h)
  · have := e.mp h
    omega
  · omega
end
section
/-! ===== words, facts of the tables, the judgement ===== -/
def z_isN (w : Cond) : Bool := match w with
  | .methodLinkNest _ _ _ _ => true
  | .fieldLinkNest _ _ _ _ _ _ => true
  | .castable _ _ => true
  | .declares _ => true
  | _ => false
def z_W : List Cond := lw_tbl.filter (fun w => goodWord w || z_isN w)
theorem z_warmw {w : Cond} (hw : (goodWord w || z_isN w) = true) {s U : State} (hW : s.WarmedH U.vm) (h : w.before #[] s = true) (a : Array Value) : w.before a U = true := by
  rw [Bool.or_eq_true] at hw
  rcases hw with hg | hn
  · exact word_at hW (good_of_word hg) h
  · cases w <;> first
      | exact absurd hn Bool.false_ne_true
      | exact va_Nw.use rfl (va_Nw.warmM hW h)
      | exact va_Nw.use rfl (va_Nw.warmF hW h)
      | exact va_Nw.use rfl (va_Nw.warmC hW h)
      | exact va_Nw.use rfl (va_Nw.warmD hW h)
theorem z_wi {w : Cond} (i : Nat) (h : lw_tbl[i]? = some w) (hg : (goodWord w || z_isN w) = true) : w ∈ z_W := List.mem_filter.mpr ⟨List.mem_of_getElem? h, hg⟩
/-- the texts of the exceptions: class, entry, text -/
def z_S : List (String × Nat × String) := []
def z_first (j : Nat) : Int := match j with | 0 => 10 | 1 => 5 | 2 => 0 | 3 => 10 | 4 => 25 | _ => 50
def z_most (j : Nat) : Int := match j with | 0 => 30 | 1 => 20 | 2 => 10000 | _ => 100
/-- pairs of classes, the first no kind of the second -/
def z_X : List (String × String) := []
theorem z_X_lt {b L : Nat} {xs : Nat → Int32} {U : State} {H : Heap} (h : va_X b L xs U H) : b < H.size := by
  obtain ⟨scr, h1, -⟩ := h
  exact (Array.getElem?_eq_some_iff.mp h1).1
/-- what the tables and the statics say of a state -/
def z_T (G : z_G) (U : State) : Prop :=
  (z_l G).stackTraces = false ∧ (∀ w ∈ z_W, w.before #[] U = true) ∧ va_K (z_D G) vwCl [(z_cI G, .int), (z_cL G, .int), (z_cR G, .object "PenGuild$State")] U ∧
  vx_Zq Bundle.tN "UNASSIGNED_STACK" Bundle.steD (z_A G) U U.heap ∧ vx_Zq Bundle.tN "SUPPRESSED_SENTINEL" Bundle.listD (z_A G) U U.heap ∧
  (va_Z "PenGuild" "FIRST_SETTINGS" "[I" (.ref (z_fs G)) (z_A G) U U.heap ∧ va_T .int (z_fs G) 6 (fun j => z_I (z_first j)) (z_A G) U U.heap) ∧
  (va_Z "PenGuild" "GREATEST_SETTINGS" "[I" (.ref (z_gs G)) (z_A G) U U.heap ∧ va_T .int (z_gs G) 6 (fun j => z_I (z_most j)) (z_A G) U U.heap) ∧
  (∀ q ∈ z_S, ∃ sa, vk_R q.1 q.2.1 q.2.2 sa U) ∧ (va_X (z_scp G).1 (z_scp G).2.1 (z_scp G).2.2 U U.heap ∧ (z_scp G).1 < z_b G ∧ (z_scp G).2.1 ≤ 260)
theorem z_T_moved {G : z_G} {s U : State} (h : z_T G s) (hW : s.WarmedH U.vm) (hq : ∀ a : Nat, a < s.heap.size → ¬ z_A G a → U.heap[a]? = s.heap[a]?) : z_T G U := by
  obtain ⟨h1, h2, h3, h4, h5, h6, h7, h8, h9⟩ := h
  have hv := hW.alike
  refine ⟨h1, fun w hw => z_warmw (List.mem_filter.mp hw).2 hW (h2 w hw) #[], va_K.moved hv h3, vx_Zq.kept (vx_Zq.moved hv h4) hq, vx_Zq.kept (vx_Zq.moved hv h5) hq,
    ⟨va_Z.kept (va_Z.moved hv h6.1) hq, va_T.kept (va_T.moved hv h6.2) hq⟩, ⟨va_Z.kept (va_Z.moved hv h7.1) hq, va_T.kept (va_T.moved hv h7.2) hq⟩,
    fun q hq => ?_, va_X.kept (va_X.moved hv h9.1) (hq _ (z_X_lt h9.1) (Nat.not_le.mpr h9.2.1)), h9.2⟩
  obtain ⟨sa, h⟩ := h8 q hq
  exact ⟨sa, vk_R.warm hW h⟩
/-- a method's own: program, environment, start, number, arguments, frames below, entry, code -/
abbrev z_Z : Type := Program × Env × State × MethodId × Array Value × List Frame × Method × Code
abbrev z_p (Z : z_Z) : Program := Z.1
abbrev z_e (Z : z_Z) : Env := Z.2.1
abbrev z_s (Z : z_Z) : State := Z.2.2.1
abbrev z_m (Z : z_Z) : MethodId := Z.2.2.2.1
abbrev z_a (Z : z_Z) : Array Value := Z.2.2.2.2.1
abbrev z_w (Z : z_Z) : List Frame := Z.2.2.2.2.2.1
abbrev z_h (Z : z_Z) : Method := Z.2.2.2.2.2.2.1
abbrev z_c (Z : z_Z) : Code := Z.2.2.2.2.2.2.2
/-- bytes, number of locals, class, room, what it returns -/
abbrev z_Md : Type := ByteArray × Nat × String × Room × Option FieldType
abbrev z_cc (d : z_Md) : ByteArray := d.1
abbrev z_nL (d : z_Md) : Nat := d.2.1
abbrev z_own (d : z_Md) : String := d.2.2.1
abbrev z_R (d : z_Md) : Room := d.2.2.2.1
abbrev z_ret (d : z_Md) : Option FieldType := d.2.2.2.2
def z_Ok (G : z_G) (Z : z_Z) (d : z_Md) : Prop :=
  (z_p Z).tables.exec = Jvm.exec ∧ (z_c Z).code = z_cc d ∧ (z_c Z).maxLocals = z_nL d ∧ (z_s Z).vm.findClass (z_own d) = some (z_m Z).cls ∧ (z_h Z).locks = false ∧ (z_h Z).sig.returnType = z_ret d ∧ z_T G (z_s Z)
def z_LH (la : Array Slot) (n : Nat) (ls : List (Option Value)) : Prop := la.size = n ∧ lv_wf la ∧ ∀ (i : Nat) (v : Value), ls[i]? = some (some v) → la[i]? = some (.val v)
def z_J (G : z_G) (Z : z_Z) (d : z_Md) (Q : State → Prop) (pc : Nat) (ls : List (Option Value)) (st : List Value) (M : z_M) (k n : Nat) : Prop :=
  z_Ok G Z d → ∀ (H : Heap) (locs : List Loc) (la : Array Slot), z_Wd G M H → va_S (z_A G) (z_s Z).heap H locs → z_LH la (z_nL d) ls →
    W (z_p Z) (z_l G) (z_e Z) (z_R d) (z_s Z) (z_m Z) (z_a Z) (z_w Z) (z_h Z) (z_c Z) H locs k n Q (F0 (z_m Z) pc la st)
section ZJ
variable {G : z_G} {Z : z_Z} {d : z_Md} {Q : State → Prop} {pc : Nat} {ls : List (Option Value)} {st : List Value} {M : z_M} {k n : Nat}
theorem z_tw {w : Cond} (hO : z_Ok G Z d) (hw : w ∈ z_W) (a : Array Value) : w.before a (z_s Z) = true :=
  z_warmw (List.mem_filter.mp hw).2 (State.WarmedH.refl _) (hO.2.2.2.2.2.2.2.1 w hw) a
end ZJ
end
section
/-! ===== a rule an instruction ===== -/
/-- locals as a list of pairs, for the kit's stores -/
def z_lv (ls : List (Option Value)) : List (Nat × Value) := ls.zipIdx.filterMap (fun q => q.1.map (fun v => (q.2, v)))
theorem z_lv_mem {ls : List (Option Value)} {i : Nat} {v : Value} : (i, v) ∈ z_lv ls ↔ ls[i]? = some (some v) := by
  unfold z_lv
  rw [List.mem_filterMap]
  constructor
  · rintro ⟨⟨o, j⟩, h1, h2⟩
    have h3 := List.mem_zipIdx_iff_getElem?.mp h1
    cases o with
    | none => cases h2
    | some w => cases h2; exact h3
  · intro h
    exact ⟨(some v, i), List.mem_zipIdx_iff_getElem?.mpr h, rfl⟩
theorem z_LH_has {la : Array Slot} {n : Nat} {ls : List (Option Value)} (h : z_LH la n ls) : lv_has la n (z_lv ls) := ⟨h.1, h.2.1, fun q hq => h.2.2 q.1 q.2 (z_lv_mem.mp hq)⟩
def z_c1 (o : Option Value) : Bool := match o with | some v => v.category == 1 | none => true
/-- before slot j no long begins -/
def z_pre (ls : List (Option Value)) (j : Nat) : Bool := match j with | 0 => true | j + 1 => z_c1 ((ls[j]?).getD none)
theorem z_LH_set1 {la : Array Slot} {n j : Nat} {v : Value} {ls : List (Option Value)} (hp : z_pre ls j = true) (h : lv_has la n ((j, v) :: (z_lv ls).filter (fun q => !(q.1 == j) && !(q.1 + 1 == j && q.2.category == 2)))) : z_LH la n (ls.set j (some v)) := by
  refine ⟨h.1, h.2.1, fun i w hi => ?_⟩
  by_cases e : i = j
  · subst e
    have hl : i < ls.length := by have := (List.getElem?_eq_some_iff.mp hi).1; simpa using this
    rw [List.getElem?_set_self hl] at hi
    cases hi
    exact h.2.2 (i, v) List.mem_cons_self
  · rw [List.getElem?_set_ne (Ne.symm e)] at hi
    refine h.2.2 (i, w) (List.mem_cons_of_mem _ (List.mem_filter.mpr ⟨z_lv_mem.mpr hi, ?_⟩))
    have h1 : (i == j) = false := by simpa using e
    have h2 : (i + 1 == j && w.category == 2) = false := by
      by_cases e2 : i + 1 = j
      · subst e2
        have h3 : z_c1 (some w) = true := by
          have : z_pre ls (i + 1) = z_c1 ((ls[i]?).getD none) := rfl
          rw [this, hi] at hp
          exact hp
        have h4 : w.category = 1 := by simpa [z_c1] using h3
        simp [h4]
      · simp [e2]
    simp only [h1, h2, Bool.not_false, Bool.and_self]
theorem z_LH_set2 {la : Array Slot} {n j : Nat} {v : Value} {ls : List (Option Value)} (hp : z_pre ls j = true) (h : lv_has la n ((j, v) :: (z_lv ls).filter (fun q => !(q.1 == j) && (!(q.1 == j + 1) && !(q.1 + 1 == j && q.2.category == 2))))) : z_LH la n ((ls.set j (some v)).set (j + 1) none) := by
  refine ⟨h.1, h.2.1, fun i w hi => ?_⟩
  by_cases e1 : i = j + 1
  · subst e1
    rw [List.getElem?_set] at hi
    simp at hi
  · rw [List.getElem?_set_ne (Ne.symm e1)] at hi
    by_cases e : i = j
    · subst e
      have hl : i < ls.length := by have := (List.getElem?_eq_some_iff.mp hi).1; simpa using this
      rw [List.getElem?_set_self hl] at hi
      cases hi
      exact h.2.2 (i, v) List.mem_cons_self
    · rw [List.getElem?_set_ne (Ne.symm e)] at hi
      refine h.2.2 (i, w) (List.mem_cons_of_mem _ (List.mem_filter.mpr ⟨z_lv_mem.mpr hi, ?_⟩))
      have h1 : (i == j) = false := by simpa using e
      have h0 : (i == j + 1) = false := by simpa using e1
      have h2 : (i + 1 == j && w.category == 2) = false := by
        by_cases e2 : i + 1 = j
        · subst e2
          have h3 : z_c1 (some w) = true := by
            have : z_pre ls (i + 1) = z_c1 ((ls[i]?).getD none) := rfl
            rw [this, hi] at hp
            exact hp
          have h4 : w.category = 1 := by simpa [z_c1] using h3
          simp [h4]
        · simp [e2]
      simp only [h0, h1, h2, Bool.not_false, Bool.and_self]
section ZR
variable {G : z_G} {Z : z_Z} {d : z_Md} {Q : State → Prop} {pc : Nat} {ls : List (Option Value)} {st : List Value} {M : z_M} {k n : Nat}
theorem z_iconst {i : Int} (hd : decode (z_cc d) pc = .ok (.iconst i, 1)) (kk : z_J G Z d Q (pc + 1) ls (z_I i :: st) M k n) : z_J G Z d Q (pc) ls st M k n :=
  fun hO H locs la hW hS hL => lv_iconst hO.1 hO.2.1 hd rfl (kk hO H locs la hW hS hL)
theorem z_bipush {i : Int} (hd : decode (z_cc d) pc = .ok (.bipush i, 2)) (hv : (Int8.ofInt i).toInt32 = Int32.ofInt i) (kk : z_J G Z d Q (pc + 2) ls (z_I i :: st) M k n) : z_J G Z d Q (pc) ls st M k n :=
  fun hO H locs la hW hS hL => lv_bipush hO.1 hO.2.1 hd hv (kk hO H locs la hW hS hL)
theorem z_sipush {i : Int} (hd : decode (z_cc d) pc = .ok (.sipush i, 3)) (hv : (Int16.ofInt i).toInt32 = Int32.ofInt i) (kk : z_J G Z d Q (pc + 3) ls (z_I i :: st) M k n) : z_J G Z d Q (pc) ls st M k n :=
  fun hO H locs la hW hS hL => lv_sipush hO.1 hO.2.1 hd hv (kk hO H locs la hW hS hL)
theorem z_lconst0  (hd : decode (z_cc d) pc = .ok (.lconst 0, 1)) (kk : z_J G Z d Q (pc + 1) ls (z_L 0 :: st) M k n) : z_J G Z d Q (pc) ls st M k n :=
  fun hO H locs la hW hS hL => lv_lconst hO.1 hO.2.1 hd rfl (kk hO H locs la hW hS hL)
theorem z_lconst1  (hd : decode (z_cc d) pc = .ok (.lconst 1, 1)) (kk : z_J G Z d Q (pc + 1) ls (z_L 1 :: st) M k n) : z_J G Z d Q (pc) ls st M k n :=
  fun hO H locs la hW hS hL => lv_lconst hO.1 hO.2.1 hd rfl (kk hO H locs la hW hS hL)
theorem z_ldc {i : Int} {x : Nat} (hw : Cond.constant (z_own d) x (Int32.ofInt i) ∈ z_W) (hd : decode (z_cc d) pc = .ok (.ldc x, 2)) (kk : z_J G Z d Q (pc + 2) ls (z_I i :: st) M k n) : z_J G Z d Q (pc) ls st M k n :=
  fun hO H locs la hW hS hL => lv_ldc hO.1 hO.2.1 hO.2.2.2.1 (z_tw hO hw _) hd (kk hO H locs la hW hS hL)
theorem z_ldc2 {i : Int} {x : Nat} (hw : Cond.constantLong (z_own d) x (Int64.ofInt i) ∈ z_W) (hd : decode (z_cc d) pc = .ok (.ldc2_w x, 3)) (kk : z_J G Z d Q (pc + 3) ls (z_L i :: st) M k n) : z_J G Z d Q (pc) ls st M k n :=
  fun hO H locs la hW hS hL => lv_ldc2 hO.1 hO.2.1 hO.2.2.2.1 (z_tw hO hw _) hd (kk hO H locs la hW hS hL)
theorem z_ldc2d {v : UInt64} {x : Nat} (hw : Cond.constantDouble (z_own d) x v ∈ z_W) (hd : decode (z_cc d) pc = .ok (.ldc2_w x, 3)) (kk : z_J G Z d Q (pc + 3) ls (.double v :: st) M k n) : z_J G Z d Q (pc) ls st M k n :=
  fun hO H locs la hW hS hL => lv_ldc2d hO.1 hO.2.1 hO.2.2.2.1 (z_tw hO hw _) hd (kk hO H locs la hW hS hL)
theorem z_dconst0  (hd : decode (z_cc d) pc = .ok (.dconst 0, 1)) (kk : z_J G Z d Q (pc + 1) ls (.double FP.dconst0 :: st) M k n) : z_J G Z d Q (pc) ls st M k n :=
  fun hO H locs la hW hS hL => lv_dconst0 hO.1 hO.2.1 hd (kk hO H locs la hW hS hL)
theorem z_dconst1  (hd : decode (z_cc d) pc = .ok (.dconst 1, 1)) (kk : z_J G Z d Q (pc + 1) ls (.double FP.dconst1 :: st) M k n) : z_J G Z d Q (pc) ls st M k n :=
  fun hO H locs la hW hS hL => lv_dconst1 hO.1 hO.2.1 hd (kk hO H locs la hW hS hL)
theorem z_iloadn {j : Fin 4} {v : Int} (hd : decode (z_cc d) pc = .ok (.iload_n j, 1)) (hl : ls[(j : Nat)]? = some (some (z_I v))) (kk : z_J G Z d Q (pc + 1) ls ((z_I v) :: st) M k n) : z_J G Z d Q (pc) ls st M k n :=
  fun hO H locs la hW hS hL => lv_iload_n hO.1 hO.2.1 hd rfl (hL.2.2 _ _ hl) (kk hO H locs la hW hS hL)
theorem z_iload {j : Nat} {v : Int} (hd : decode (z_cc d) pc = .ok (.iload j, 2)) (hl : ls[j]? = some (some (z_I v))) (kk : z_J G Z d Q (pc + 2) ls ((z_I v) :: st) M k n) : z_J G Z d Q (pc) ls st M k n :=
  fun hO H locs la hW hS hL => lv_iload hO.1 hO.2.1 hd (hL.2.2 _ _ hl) (kk hO H locs la hW hS hL)
theorem z_aloadn {j : Fin 4} {v : Nat} (hd : decode (z_cc d) pc = .ok (.aload_n j, 1)) (hl : ls[(j : Nat)]? = some (some (.ref v))) (kk : z_J G Z d Q (pc + 1) ls ((.ref v) :: st) M k n) : z_J G Z d Q (pc) ls st M k n :=
  fun hO H locs la hW hS hL => lv_aload_n hO.1 hO.2.1 hd rfl (hL.2.2 _ _ hl) (kk hO H locs la hW hS hL)
theorem z_aload {j : Nat} {v : Nat} (hd : decode (z_cc d) pc = .ok (.aload j, 2)) (hl : ls[j]? = some (some (.ref v))) (kk : z_J G Z d Q (pc + 2) ls ((.ref v) :: st) M k n) : z_J G Z d Q (pc) ls st M k n :=
  fun hO H locs la hW hS hL => lv_aload hO.1 hO.2.1 hd (hL.2.2 _ _ hl) (kk hO H locs la hW hS hL)
theorem z_lloadn {j : Fin 4} {v : Int} (hd : decode (z_cc d) pc = .ok (.lload_n j, 1)) (hl : ls[(j : Nat)]? = some (some (z_L v))) (kk : z_J G Z d Q (pc + 1) ls ((z_L v) :: st) M k n) : z_J G Z d Q (pc) ls st M k n :=
  fun hO H locs la hW hS hL => lv_lload_n hO.1 hO.2.1 hd rfl (hL.2.2 _ _ hl) (kk hO H locs la hW hS hL)
theorem z_lload {j : Nat} {v : Int} (hd : decode (z_cc d) pc = .ok (.lload j, 2)) (hl : ls[j]? = some (some (z_L v))) (kk : z_J G Z d Q (pc + 2) ls ((z_L v) :: st) M k n) : z_J G Z d Q (pc) ls st M k n :=
  fun hO H locs la hW hS hL => lv_lload hO.1 hO.2.1 hd (hL.2.2 _ _ hl) (kk hO H locs la hW hS hL)
theorem z_dloadn {j : Fin 4} {v : UInt64} (hd : decode (z_cc d) pc = .ok (.dload_n j, 1)) (hl : ls[(j : Nat)]? = some (some (.double v))) (kk : z_J G Z d Q (pc + 1) ls ((.double v) :: st) M k n) : z_J G Z d Q (pc) ls st M k n :=
  fun hO H locs la hW hS hL => lv_dload_n hO.1 hO.2.1 hd rfl (hL.2.2 _ _ hl) (kk hO H locs la hW hS hL)
theorem z_dload {j : Nat} {v : UInt64} (hd : decode (z_cc d) pc = .ok (.dload j, 2)) (hl : ls[j]? = some (some (.double v))) (kk : z_J G Z d Q (pc + 2) ls ((.double v) :: st) M k n) : z_J G Z d Q (pc) ls st M k n :=
  fun hO H locs la hW hS hL => lv_dload hO.1 hO.2.1 hd (hL.2.2 _ _ hl) (kk hO H locs la hW hS hL)
theorem z_istoren_g {j : Fin 4} {v : Int} (hd : decode (z_cc d) pc = .ok (.istore_n j, 1)) (hn : (j : Nat) < z_nL d) (hp : z_pre ls (j : Nat) = true) (kk : z_J G Z d Q (pc + 1) (ls.set (j : Nat) (some (z_I v))) st M k n) : z_J G Z d Q (pc) ls ((z_I v) :: st) M k n :=
  fun hO H locs la hW hS hL => lv_istore_n hO.1 hO.2.1 hd rfl (z_LH_has hL) hn rfl (fun la' hl' => kk hO H locs la' hW hS (z_LH_set1 hp hl'))
theorem z_istore_g {j : Nat} {v : Int} (hd : decode (z_cc d) pc = .ok (.istore j, 2)) (hn : j < z_nL d) (hp : z_pre ls j = true) (kk : z_J G Z d Q (pc + 2) (ls.set j (some (z_I v))) st M k n) : z_J G Z d Q (pc) ls ((z_I v) :: st) M k n :=
  fun hO H locs la hW hS hL => lv_istore hO.1 hO.2.1 hd (z_LH_has hL) hn rfl (fun la' hl' => kk hO H locs la' hW hS (z_LH_set1 hp hl'))
theorem z_istoren_0 {v : Int} {a0 : Option Value} {lt : List (Option Value)} (hd : decode (z_cc d) pc = .ok (.istore_n 0, 1)) (hn : 0 < z_nL d) (kk : z_J G Z d Q (pc + 1) (some (z_I v) :: lt) st M k n) : z_J G Z d Q (pc) (a0 :: lt) ((z_I v) :: st) M k n := z_istoren_g hd hn rfl kk
theorem z_istoren_1 {v : Int} {a0 a1 : Option Value} {lt : List (Option Value)} (hd : decode (z_cc d) pc = .ok (.istore_n 1, 1)) (hn : 1 < z_nL d) (hp : z_c1 a0 = true) (kk : z_J G Z d Q (pc + 1) (a0 :: some (z_I v) :: lt) st M k n) : z_J G Z d Q (pc) (a0 :: a1 :: lt) ((z_I v) :: st) M k n := z_istoren_g hd hn hp kk
theorem z_istoren_2 {v : Int} {a0 a1 a2 : Option Value} {lt : List (Option Value)} (hd : decode (z_cc d) pc = .ok (.istore_n 2, 1)) (hn : 2 < z_nL d) (hp : z_c1 a1 = true) (kk : z_J G Z d Q (pc + 1) (a0 :: a1 :: some (z_I v) :: lt) st M k n) : z_J G Z d Q (pc) (a0 :: a1 :: a2 :: lt) ((z_I v) :: st) M k n := z_istoren_g hd hn hp kk
theorem z_istoren_3 {v : Int} {a0 a1 a2 a3 : Option Value} {lt : List (Option Value)} (hd : decode (z_cc d) pc = .ok (.istore_n 3, 1)) (hn : 3 < z_nL d) (hp : z_c1 a2 = true) (kk : z_J G Z d Q (pc + 1) (a0 :: a1 :: a2 :: some (z_I v) :: lt) st M k n) : z_J G Z d Q (pc) (a0 :: a1 :: a2 :: a3 :: lt) ((z_I v) :: st) M k n := z_istoren_g hd hn hp kk
theorem z_istore_4 {v : Int} {a0 a1 a2 a3 a4 : Option Value} {lt : List (Option Value)} (hd : decode (z_cc d) pc = .ok (.istore 4, 2)) (hn : 4 < z_nL d) (hp : z_c1 a3 = true) (kk : z_J G Z d Q (pc + 2) (a0 :: a1 :: a2 :: a3 :: some (z_I v) :: lt) st M k n) : z_J G Z d Q (pc) (a0 :: a1 :: a2 :: a3 :: a4 :: lt) ((z_I v) :: st) M k n := z_istore_g hd hn hp kk
theorem z_istore_5 {v : Int} {a0 a1 a2 a3 a4 a5 : Option Value} {lt : List (Option Value)} (hd : decode (z_cc d) pc = .ok (.istore 5, 2)) (hn : 5 < z_nL d) (hp : z_c1 a4 = true) (kk : z_J G Z d Q (pc + 2) (a0 :: a1 :: a2 :: a3 :: a4 :: some (z_I v) :: lt) st M k n) : z_J G Z d Q (pc) (a0 :: a1 :: a2 :: a3 :: a4 :: a5 :: lt) ((z_I v) :: st) M k n := z_istore_g hd hn hp kk
theorem z_istore_6 {v : Int} {a0 a1 a2 a3 a4 a5 a6 : Option Value} {lt : List (Option Value)} (hd : decode (z_cc d) pc = .ok (.istore 6, 2)) (hn : 6 < z_nL d) (hp : z_c1 a5 = true) (kk : z_J G Z d Q (pc + 2) (a0 :: a1 :: a2 :: a3 :: a4 :: a5 :: some (z_I v) :: lt) st M k n) : z_J G Z d Q (pc) (a0 :: a1 :: a2 :: a3 :: a4 :: a5 :: a6 :: lt) ((z_I v) :: st) M k n := z_istore_g hd hn hp kk
theorem z_istore_7 {v : Int} {a0 a1 a2 a3 a4 a5 a6 a7 : Option Value} {lt : List (Option Value)} (hd : decode (z_cc d) pc = .ok (.istore 7, 2)) (hn : 7 < z_nL d) (hp : z_c1 a6 = true) (kk : z_J G Z d Q (pc + 2) (a0 :: a1 :: a2 :: a3 :: a4 :: a5 :: a6 :: some (z_I v) :: lt) st M k n) : z_J G Z d Q (pc) (a0 :: a1 :: a2 :: a3 :: a4 :: a5 :: a6 :: a7 :: lt) ((z_I v) :: st) M k n := z_istore_g hd hn hp kk
theorem z_istore_8 {v : Int} {a0 a1 a2 a3 a4 a5 a6 a7 a8 : Option Value} {lt : List (Option Value)} (hd : decode (z_cc d) pc = .ok (.istore 8, 2)) (hn : 8 < z_nL d) (hp : z_c1 a7 = true) (kk : z_J G Z d Q (pc + 2) (a0 :: a1 :: a2 :: a3 :: a4 :: a5 :: a6 :: a7 :: some (z_I v) :: lt) st M k n) : z_J G Z d Q (pc) (a0 :: a1 :: a2 :: a3 :: a4 :: a5 :: a6 :: a7 :: a8 :: lt) ((z_I v) :: st) M k n := z_istore_g hd hn hp kk
theorem z_istore_9 {v : Int} {a0 a1 a2 a3 a4 a5 a6 a7 a8 a9 : Option Value} {lt : List (Option Value)} (hd : decode (z_cc d) pc = .ok (.istore 9, 2)) (hn : 9 < z_nL d) (hp : z_c1 a8 = true) (kk : z_J G Z d Q (pc + 2) (a0 :: a1 :: a2 :: a3 :: a4 :: a5 :: a6 :: a7 :: a8 :: some (z_I v) :: lt) st M k n) : z_J G Z d Q (pc) (a0 :: a1 :: a2 :: a3 :: a4 :: a5 :: a6 :: a7 :: a8 :: a9 :: lt) ((z_I v) :: st) M k n := z_istore_g hd hn hp kk
theorem z_istore_10 {v : Int} {a0 a1 a2 a3 a4 a5 a6 a7 a8 a9 a10 : Option Value} {lt : List (Option Value)} (hd : decode (z_cc d) pc = .ok (.istore 10, 2)) (hn : 10 < z_nL d) (hp : z_c1 a9 = true) (kk : z_J G Z d Q (pc + 2) (a0 :: a1 :: a2 :: a3 :: a4 :: a5 :: a6 :: a7 :: a8 :: a9 :: some (z_I v) :: lt) st M k n) : z_J G Z d Q (pc) (a0 :: a1 :: a2 :: a3 :: a4 :: a5 :: a6 :: a7 :: a8 :: a9 :: a10 :: lt) ((z_I v) :: st) M k n := z_istore_g hd hn hp kk
theorem z_istore_11 {v : Int} {a0 a1 a2 a3 a4 a5 a6 a7 a8 a9 a10 a11 : Option Value} {lt : List (Option Value)} (hd : decode (z_cc d) pc = .ok (.istore 11, 2)) (hn : 11 < z_nL d) (hp : z_c1 a10 = true) (kk : z_J G Z d Q (pc + 2) (a0 :: a1 :: a2 :: a3 :: a4 :: a5 :: a6 :: a7 :: a8 :: a9 :: a10 :: some (z_I v) :: lt) st M k n) : z_J G Z d Q (pc) (a0 :: a1 :: a2 :: a3 :: a4 :: a5 :: a6 :: a7 :: a8 :: a9 :: a10 :: a11 :: lt) ((z_I v) :: st) M k n := z_istore_g hd hn hp kk
theorem z_istore_12 {v : Int} {a0 a1 a2 a3 a4 a5 a6 a7 a8 a9 a10 a11 a12 : Option Value} {lt : List (Option Value)} (hd : decode (z_cc d) pc = .ok (.istore 12, 2)) (hn : 12 < z_nL d) (hp : z_c1 a11 = true) (kk : z_J G Z d Q (pc + 2) (a0 :: a1 :: a2 :: a3 :: a4 :: a5 :: a6 :: a7 :: a8 :: a9 :: a10 :: a11 :: some (z_I v) :: lt) st M k n) : z_J G Z d Q (pc) (a0 :: a1 :: a2 :: a3 :: a4 :: a5 :: a6 :: a7 :: a8 :: a9 :: a10 :: a11 :: a12 :: lt) ((z_I v) :: st) M k n := z_istore_g hd hn hp kk
theorem z_istore_13 {v : Int} {a0 a1 a2 a3 a4 a5 a6 a7 a8 a9 a10 a11 a12 a13 : Option Value} {lt : List (Option Value)} (hd : decode (z_cc d) pc = .ok (.istore 13, 2)) (hn : 13 < z_nL d) (hp : z_c1 a12 = true) (kk : z_J G Z d Q (pc + 2) (a0 :: a1 :: a2 :: a3 :: a4 :: a5 :: a6 :: a7 :: a8 :: a9 :: a10 :: a11 :: a12 :: some (z_I v) :: lt) st M k n) : z_J G Z d Q (pc) (a0 :: a1 :: a2 :: a3 :: a4 :: a5 :: a6 :: a7 :: a8 :: a9 :: a10 :: a11 :: a12 :: a13 :: lt) ((z_I v) :: st) M k n := z_istore_g hd hn hp kk
theorem z_istore_14 {v : Int} {a0 a1 a2 a3 a4 a5 a6 a7 a8 a9 a10 a11 a12 a13 a14 : Option Value} {lt : List (Option Value)} (hd : decode (z_cc d) pc = .ok (.istore 14, 2)) (hn : 14 < z_nL d) (hp : z_c1 a13 = true) (kk : z_J G Z d Q (pc + 2) (a0 :: a1 :: a2 :: a3 :: a4 :: a5 :: a6 :: a7 :: a8 :: a9 :: a10 :: a11 :: a12 :: a13 :: some (z_I v) :: lt) st M k n) : z_J G Z d Q (pc) (a0 :: a1 :: a2 :: a3 :: a4 :: a5 :: a6 :: a7 :: a8 :: a9 :: a10 :: a11 :: a12 :: a13 :: a14 :: lt) ((z_I v) :: st) M k n := z_istore_g hd hn hp kk
theorem z_istore_15 {v : Int} {a0 a1 a2 a3 a4 a5 a6 a7 a8 a9 a10 a11 a12 a13 a14 a15 : Option Value} {lt : List (Option Value)} (hd : decode (z_cc d) pc = .ok (.istore 15, 2)) (hn : 15 < z_nL d) (hp : z_c1 a14 = true) (kk : z_J G Z d Q (pc + 2) (a0 :: a1 :: a2 :: a3 :: a4 :: a5 :: a6 :: a7 :: a8 :: a9 :: a10 :: a11 :: a12 :: a13 :: a14 :: some (z_I v) :: lt) st M k n) : z_J G Z d Q (pc) (a0 :: a1 :: a2 :: a3 :: a4 :: a5 :: a6 :: a7 :: a8 :: a9 :: a10 :: a11 :: a12 :: a13 :: a14 :: a15 :: lt) ((z_I v) :: st) M k n := z_istore_g hd hn hp kk
theorem z_istore_16 {v : Int} {a0 a1 a2 a3 a4 a5 a6 a7 a8 a9 a10 a11 a12 a13 a14 a15 a16 : Option Value} {lt : List (Option Value)} (hd : decode (z_cc d) pc = .ok (.istore 16, 2)) (hn : 16 < z_nL d) (hp : z_c1 a15 = true) (kk : z_J G Z d Q (pc + 2) (a0 :: a1 :: a2 :: a3 :: a4 :: a5 :: a6 :: a7 :: a8 :: a9 :: a10 :: a11 :: a12 :: a13 :: a14 :: a15 :: some (z_I v) :: lt) st M k n) : z_J G Z d Q (pc) (a0 :: a1 :: a2 :: a3 :: a4 :: a5 :: a6 :: a7 :: a8 :: a9 :: a10 :: a11 :: a12 :: a13 :: a14 :: a15 :: a16 :: lt) ((z_I v) :: st) M k n := z_istore_g hd hn hp kk
theorem z_istore_17 {v : Int} {a0 a1 a2 a3 a4 a5 a6 a7 a8 a9 a10 a11 a12 a13 a14 a15 a16 a17 : Option Value} {lt : List (Option Value)} (hd : decode (z_cc d) pc = .ok (.istore 17, 2)) (hn : 17 < z_nL d) (hp : z_c1 a16 = true) (kk : z_J G Z d Q (pc + 2) (a0 :: a1 :: a2 :: a3 :: a4 :: a5 :: a6 :: a7 :: a8 :: a9 :: a10 :: a11 :: a12 :: a13 :: a14 :: a15 :: a16 :: some (z_I v) :: lt) st M k n) : z_J G Z d Q (pc) (a0 :: a1 :: a2 :: a3 :: a4 :: a5 :: a6 :: a7 :: a8 :: a9 :: a10 :: a11 :: a12 :: a13 :: a14 :: a15 :: a16 :: a17 :: lt) ((z_I v) :: st) M k n := z_istore_g hd hn hp kk
theorem z_istore_18 {v : Int} {a0 a1 a2 a3 a4 a5 a6 a7 a8 a9 a10 a11 a12 a13 a14 a15 a16 a17 a18 : Option Value} {lt : List (Option Value)} (hd : decode (z_cc d) pc = .ok (.istore 18, 2)) (hn : 18 < z_nL d) (hp : z_c1 a17 = true) (kk : z_J G Z d Q (pc + 2) (a0 :: a1 :: a2 :: a3 :: a4 :: a5 :: a6 :: a7 :: a8 :: a9 :: a10 :: a11 :: a12 :: a13 :: a14 :: a15 :: a16 :: a17 :: some (z_I v) :: lt) st M k n) : z_J G Z d Q (pc) (a0 :: a1 :: a2 :: a3 :: a4 :: a5 :: a6 :: a7 :: a8 :: a9 :: a10 :: a11 :: a12 :: a13 :: a14 :: a15 :: a16 :: a17 :: a18 :: lt) ((z_I v) :: st) M k n := z_istore_g hd hn hp kk
theorem z_istore_19 {v : Int} {a0 a1 a2 a3 a4 a5 a6 a7 a8 a9 a10 a11 a12 a13 a14 a15 a16 a17 a18 a19 : Option Value} {lt : List (Option Value)} (hd : decode (z_cc d) pc = .ok (.istore 19, 2)) (hn : 19 < z_nL d) (hp : z_c1 a18 = true) (kk : z_J G Z d Q (pc + 2) (a0 :: a1 :: a2 :: a3 :: a4 :: a5 :: a6 :: a7 :: a8 :: a9 :: a10 :: a11 :: a12 :: a13 :: a14 :: a15 :: a16 :: a17 :: a18 :: some (z_I v) :: lt) st M k n) : z_J G Z d Q (pc) (a0 :: a1 :: a2 :: a3 :: a4 :: a5 :: a6 :: a7 :: a8 :: a9 :: a10 :: a11 :: a12 :: a13 :: a14 :: a15 :: a16 :: a17 :: a18 :: a19 :: lt) ((z_I v) :: st) M k n := z_istore_g hd hn hp kk
theorem z_astoren_g {j : Fin 4} {v : Nat} (hd : decode (z_cc d) pc = .ok (.astore_n j, 1)) (hn : (j : Nat) < z_nL d) (hp : z_pre ls (j : Nat) = true) (kk : z_J G Z d Q (pc + 1) (ls.set (j : Nat) (some (.ref v))) st M k n) : z_J G Z d Q (pc) ls ((.ref v) :: st) M k n :=
  fun hO H locs la hW hS hL => lv_astore_n hO.1 hO.2.1 hd rfl (z_LH_has hL) hn rfl (fun la' hl' => kk hO H locs la' hW hS (z_LH_set1 hp hl'))
theorem z_astore_g {j : Nat} {v : Nat} (hd : decode (z_cc d) pc = .ok (.astore j, 2)) (hn : j < z_nL d) (hp : z_pre ls j = true) (kk : z_J G Z d Q (pc + 2) (ls.set j (some (.ref v))) st M k n) : z_J G Z d Q (pc) ls ((.ref v) :: st) M k n :=
  fun hO H locs la hW hS hL => lv_astore hO.1 hO.2.1 hd (z_LH_has hL) hn rfl (fun la' hl' => kk hO H locs la' hW hS (z_LH_set1 hp hl'))
theorem z_astoren_0 {v : Nat} {a0 : Option Value} {lt : List (Option Value)} (hd : decode (z_cc d) pc = .ok (.astore_n 0, 1)) (hn : 0 < z_nL d) (kk : z_J G Z d Q (pc + 1) (some (.ref v) :: lt) st M k n) : z_J G Z d Q (pc) (a0 :: lt) ((.ref v) :: st) M k n := z_astoren_g hd hn rfl kk
theorem z_astoren_1 {v : Nat} {a0 a1 : Option Value} {lt : List (Option Value)} (hd : decode (z_cc d) pc = .ok (.astore_n 1, 1)) (hn : 1 < z_nL d) (hp : z_c1 a0 = true) (kk : z_J G Z d Q (pc + 1) (a0 :: some (.ref v) :: lt) st M k n) : z_J G Z d Q (pc) (a0 :: a1 :: lt) ((.ref v) :: st) M k n := z_astoren_g hd hn hp kk
theorem z_astoren_2 {v : Nat} {a0 a1 a2 : Option Value} {lt : List (Option Value)} (hd : decode (z_cc d) pc = .ok (.astore_n 2, 1)) (hn : 2 < z_nL d) (hp : z_c1 a1 = true) (kk : z_J G Z d Q (pc + 1) (a0 :: a1 :: some (.ref v) :: lt) st M k n) : z_J G Z d Q (pc) (a0 :: a1 :: a2 :: lt) ((.ref v) :: st) M k n := z_astoren_g hd hn hp kk
theorem z_astoren_3 {v : Nat} {a0 a1 a2 a3 : Option Value} {lt : List (Option Value)} (hd : decode (z_cc d) pc = .ok (.astore_n 3, 1)) (hn : 3 < z_nL d) (hp : z_c1 a2 = true) (kk : z_J G Z d Q (pc + 1) (a0 :: a1 :: a2 :: some (.ref v) :: lt) st M k n) : z_J G Z d Q (pc) (a0 :: a1 :: a2 :: a3 :: lt) ((.ref v) :: st) M k n := z_astoren_g hd hn hp kk
theorem z_astore_4 {v : Nat} {a0 a1 a2 a3 a4 : Option Value} {lt : List (Option Value)} (hd : decode (z_cc d) pc = .ok (.astore 4, 2)) (hn : 4 < z_nL d) (hp : z_c1 a3 = true) (kk : z_J G Z d Q (pc + 2) (a0 :: a1 :: a2 :: a3 :: some (.ref v) :: lt) st M k n) : z_J G Z d Q (pc) (a0 :: a1 :: a2 :: a3 :: a4 :: lt) ((.ref v) :: st) M k n := z_astore_g hd hn hp kk
theorem z_astore_5 {v : Nat} {a0 a1 a2 a3 a4 a5 : Option Value} {lt : List (Option Value)} (hd : decode (z_cc d) pc = .ok (.astore 5, 2)) (hn : 5 < z_nL d) (hp : z_c1 a4 = true) (kk : z_J G Z d Q (pc + 2) (a0 :: a1 :: a2 :: a3 :: a4 :: some (.ref v) :: lt) st M k n) : z_J G Z d Q (pc) (a0 :: a1 :: a2 :: a3 :: a4 :: a5 :: lt) ((.ref v) :: st) M k n := z_astore_g hd hn hp kk
theorem z_astore_6 {v : Nat} {a0 a1 a2 a3 a4 a5 a6 : Option Value} {lt : List (Option Value)} (hd : decode (z_cc d) pc = .ok (.astore 6, 2)) (hn : 6 < z_nL d) (hp : z_c1 a5 = true) (kk : z_J G Z d Q (pc + 2) (a0 :: a1 :: a2 :: a3 :: a4 :: a5 :: some (.ref v) :: lt) st M k n) : z_J G Z d Q (pc) (a0 :: a1 :: a2 :: a3 :: a4 :: a5 :: a6 :: lt) ((.ref v) :: st) M k n := z_astore_g hd hn hp kk
theorem z_astore_7 {v : Nat} {a0 a1 a2 a3 a4 a5 a6 a7 : Option Value} {lt : List (Option Value)} (hd : decode (z_cc d) pc = .ok (.astore 7, 2)) (hn : 7 < z_nL d) (hp : z_c1 a6 = true) (kk : z_J G Z d Q (pc + 2) (a0 :: a1 :: a2 :: a3 :: a4 :: a5 :: a6 :: some (.ref v) :: lt) st M k n) : z_J G Z d Q (pc) (a0 :: a1 :: a2 :: a3 :: a4 :: a5 :: a6 :: a7 :: lt) ((.ref v) :: st) M k n := z_astore_g hd hn hp kk
theorem z_astore_8 {v : Nat} {a0 a1 a2 a3 a4 a5 a6 a7 a8 : Option Value} {lt : List (Option Value)} (hd : decode (z_cc d) pc = .ok (.astore 8, 2)) (hn : 8 < z_nL d) (hp : z_c1 a7 = true) (kk : z_J G Z d Q (pc + 2) (a0 :: a1 :: a2 :: a3 :: a4 :: a5 :: a6 :: a7 :: some (.ref v) :: lt) st M k n) : z_J G Z d Q (pc) (a0 :: a1 :: a2 :: a3 :: a4 :: a5 :: a6 :: a7 :: a8 :: lt) ((.ref v) :: st) M k n := z_astore_g hd hn hp kk
theorem z_astore_9 {v : Nat} {a0 a1 a2 a3 a4 a5 a6 a7 a8 a9 : Option Value} {lt : List (Option Value)} (hd : decode (z_cc d) pc = .ok (.astore 9, 2)) (hn : 9 < z_nL d) (hp : z_c1 a8 = true) (kk : z_J G Z d Q (pc + 2) (a0 :: a1 :: a2 :: a3 :: a4 :: a5 :: a6 :: a7 :: a8 :: some (.ref v) :: lt) st M k n) : z_J G Z d Q (pc) (a0 :: a1 :: a2 :: a3 :: a4 :: a5 :: a6 :: a7 :: a8 :: a9 :: lt) ((.ref v) :: st) M k n := z_astore_g hd hn hp kk
theorem z_astore_10 {v : Nat} {a0 a1 a2 a3 a4 a5 a6 a7 a8 a9 a10 : Option Value} {lt : List (Option Value)} (hd : decode (z_cc d) pc = .ok (.astore 10, 2)) (hn : 10 < z_nL d) (hp : z_c1 a9 = true) (kk : z_J G Z d Q (pc + 2) (a0 :: a1 :: a2 :: a3 :: a4 :: a5 :: a6 :: a7 :: a8 :: a9 :: some (.ref v) :: lt) st M k n) : z_J G Z d Q (pc) (a0 :: a1 :: a2 :: a3 :: a4 :: a5 :: a6 :: a7 :: a8 :: a9 :: a10 :: lt) ((.ref v) :: st) M k n := z_astore_g hd hn hp kk
theorem z_astore_11 {v : Nat} {a0 a1 a2 a3 a4 a5 a6 a7 a8 a9 a10 a11 : Option Value} {lt : List (Option Value)} (hd : decode (z_cc d) pc = .ok (.astore 11, 2)) (hn : 11 < z_nL d) (hp : z_c1 a10 = true) (kk : z_J G Z d Q (pc + 2) (a0 :: a1 :: a2 :: a3 :: a4 :: a5 :: a6 :: a7 :: a8 :: a9 :: a10 :: some (.ref v) :: lt) st M k n) : z_J G Z d Q (pc) (a0 :: a1 :: a2 :: a3 :: a4 :: a5 :: a6 :: a7 :: a8 :: a9 :: a10 :: a11 :: lt) ((.ref v) :: st) M k n := z_astore_g hd hn hp kk
theorem z_astore_12 {v : Nat} {a0 a1 a2 a3 a4 a5 a6 a7 a8 a9 a10 a11 a12 : Option Value} {lt : List (Option Value)} (hd : decode (z_cc d) pc = .ok (.astore 12, 2)) (hn : 12 < z_nL d) (hp : z_c1 a11 = true) (kk : z_J G Z d Q (pc + 2) (a0 :: a1 :: a2 :: a3 :: a4 :: a5 :: a6 :: a7 :: a8 :: a9 :: a10 :: a11 :: some (.ref v) :: lt) st M k n) : z_J G Z d Q (pc) (a0 :: a1 :: a2 :: a3 :: a4 :: a5 :: a6 :: a7 :: a8 :: a9 :: a10 :: a11 :: a12 :: lt) ((.ref v) :: st) M k n := z_astore_g hd hn hp kk
theorem z_astore_13 {v : Nat} {a0 a1 a2 a3 a4 a5 a6 a7 a8 a9 a10 a11 a12 a13 : Option Value} {lt : List (Option Value)} (hd : decode (z_cc d) pc = .ok (.astore 13, 2)) (hn : 13 < z_nL d) (hp : z_c1 a12 = true) (kk : z_J G Z d Q (pc + 2) (a0 :: a1 :: a2 :: a3 :: a4 :: a5 :: a6 :: a7 :: a8 :: a9 :: a10 :: a11 :: a12 :: some (.ref v) :: lt) st M k n) : z_J G Z d Q (pc) (a0 :: a1 :: a2 :: a3 :: a4 :: a5 :: a6 :: a7 :: a8 :: a9 :: a10 :: a11 :: a12 :: a13 :: lt) ((.ref v) :: st) M k n := z_astore_g hd hn hp kk
theorem z_astore_14 {v : Nat} {a0 a1 a2 a3 a4 a5 a6 a7 a8 a9 a10 a11 a12 a13 a14 : Option Value} {lt : List (Option Value)} (hd : decode (z_cc d) pc = .ok (.astore 14, 2)) (hn : 14 < z_nL d) (hp : z_c1 a13 = true) (kk : z_J G Z d Q (pc + 2) (a0 :: a1 :: a2 :: a3 :: a4 :: a5 :: a6 :: a7 :: a8 :: a9 :: a10 :: a11 :: a12 :: a13 :: some (.ref v) :: lt) st M k n) : z_J G Z d Q (pc) (a0 :: a1 :: a2 :: a3 :: a4 :: a5 :: a6 :: a7 :: a8 :: a9 :: a10 :: a11 :: a12 :: a13 :: a14 :: lt) ((.ref v) :: st) M k n := z_astore_g hd hn hp kk
theorem z_astore_15 {v : Nat} {a0 a1 a2 a3 a4 a5 a6 a7 a8 a9 a10 a11 a12 a13 a14 a15 : Option Value} {lt : List (Option Value)} (hd : decode (z_cc d) pc = .ok (.astore 15, 2)) (hn : 15 < z_nL d) (hp : z_c1 a14 = true) (kk : z_J G Z d Q (pc + 2) (a0 :: a1 :: a2 :: a3 :: a4 :: a5 :: a6 :: a7 :: a8 :: a9 :: a10 :: a11 :: a12 :: a13 :: a14 :: some (.ref v) :: lt) st M k n) : z_J G Z d Q (pc) (a0 :: a1 :: a2 :: a3 :: a4 :: a5 :: a6 :: a7 :: a8 :: a9 :: a10 :: a11 :: a12 :: a13 :: a14 :: a15 :: lt) ((.ref v) :: st) M k n := z_astore_g hd hn hp kk
theorem z_astore_16 {v : Nat} {a0 a1 a2 a3 a4 a5 a6 a7 a8 a9 a10 a11 a12 a13 a14 a15 a16 : Option Value} {lt : List (Option Value)} (hd : decode (z_cc d) pc = .ok (.astore 16, 2)) (hn : 16 < z_nL d) (hp : z_c1 a15 = true) (kk : z_J G Z d Q (pc + 2) (a0 :: a1 :: a2 :: a3 :: a4 :: a5 :: a6 :: a7 :: a8 :: a9 :: a10 :: a11 :: a12 :: a13 :: a14 :: a15 :: some (.ref v) :: lt) st M k n) : z_J G Z d Q (pc) (a0 :: a1 :: a2 :: a3 :: a4 :: a5 :: a6 :: a7 :: a8 :: a9 :: a10 :: a11 :: a12 :: a13 :: a14 :: a15 :: a16 :: lt) ((.ref v) :: st) M k n := z_astore_g hd hn hp kk
theorem z_astore_17 {v : Nat} {a0 a1 a2 a3 a4 a5 a6 a7 a8 a9 a10 a11 a12 a13 a14 a15 a16 a17 : Option Value} {lt : List (Option Value)} (hd : decode (z_cc d) pc = .ok (.astore 17, 2)) (hn : 17 < z_nL d) (hp : z_c1 a16 = true) (kk : z_J G Z d Q (pc + 2) (a0 :: a1 :: a2 :: a3 :: a4 :: a5 :: a6 :: a7 :: a8 :: a9 :: a10 :: a11 :: a12 :: a13 :: a14 :: a15 :: a16 :: some (.ref v) :: lt) st M k n) : z_J G Z d Q (pc) (a0 :: a1 :: a2 :: a3 :: a4 :: a5 :: a6 :: a7 :: a8 :: a9 :: a10 :: a11 :: a12 :: a13 :: a14 :: a15 :: a16 :: a17 :: lt) ((.ref v) :: st) M k n := z_astore_g hd hn hp kk
theorem z_astore_18 {v : Nat} {a0 a1 a2 a3 a4 a5 a6 a7 a8 a9 a10 a11 a12 a13 a14 a15 a16 a17 a18 : Option Value} {lt : List (Option Value)} (hd : decode (z_cc d) pc = .ok (.astore 18, 2)) (hn : 18 < z_nL d) (hp : z_c1 a17 = true) (kk : z_J G Z d Q (pc + 2) (a0 :: a1 :: a2 :: a3 :: a4 :: a5 :: a6 :: a7 :: a8 :: a9 :: a10 :: a11 :: a12 :: a13 :: a14 :: a15 :: a16 :: a17 :: some (.ref v) :: lt) st M k n) : z_J G Z d Q (pc) (a0 :: a1 :: a2 :: a3 :: a4 :: a5 :: a6 :: a7 :: a8 :: a9 :: a10 :: a11 :: a12 :: a13 :: a14 :: a15 :: a16 :: a17 :: a18 :: lt) ((.ref v) :: st) M k n := z_astore_g hd hn hp kk
theorem z_astore_19 {v : Nat} {a0 a1 a2 a3 a4 a5 a6 a7 a8 a9 a10 a11 a12 a13 a14 a15 a16 a17 a18 a19 : Option Value} {lt : List (Option Value)} (hd : decode (z_cc d) pc = .ok (.astore 19, 2)) (hn : 19 < z_nL d) (hp : z_c1 a18 = true) (kk : z_J G Z d Q (pc + 2) (a0 :: a1 :: a2 :: a3 :: a4 :: a5 :: a6 :: a7 :: a8 :: a9 :: a10 :: a11 :: a12 :: a13 :: a14 :: a15 :: a16 :: a17 :: a18 :: some (.ref v) :: lt) st M k n) : z_J G Z d Q (pc) (a0 :: a1 :: a2 :: a3 :: a4 :: a5 :: a6 :: a7 :: a8 :: a9 :: a10 :: a11 :: a12 :: a13 :: a14 :: a15 :: a16 :: a17 :: a18 :: a19 :: lt) ((.ref v) :: st) M k n := z_astore_g hd hn hp kk
theorem z_lstoren_g {j : Fin 4} {v : Int} (hd : decode (z_cc d) pc = .ok (.lstore_n j, 1)) (hn : (j : Nat) + 1 < z_nL d) (hp : z_pre ls (j : Nat) = true) (kk : z_J G Z d Q (pc + 1) ((ls.set (j : Nat) (some (z_L v))).set ((j : Nat) + 1) none) st M k n) : z_J G Z d Q (pc) ls ((z_L v) :: st) M k n :=
  fun hO H locs la hW hS hL => lv_lstore_n hO.1 hO.2.1 hd rfl (z_LH_has hL) hn rfl (fun la' hl' => kk hO H locs la' hW hS (z_LH_set2 hp hl'))
theorem z_lstore_g {j : Nat} {v : Int} (hd : decode (z_cc d) pc = .ok (.lstore j, 2)) (hn : j + 1 < z_nL d) (hp : z_pre ls j = true) (kk : z_J G Z d Q (pc + 2) ((ls.set j (some (z_L v))).set (j + 1) none) st M k n) : z_J G Z d Q (pc) ls ((z_L v) :: st) M k n :=
  fun hO H locs la hW hS hL => lv_lstore hO.1 hO.2.1 hd (z_LH_has hL) hn rfl (fun la' hl' => kk hO H locs la' hW hS (z_LH_set2 hp hl'))
theorem z_lstoren_0 {v : Int} {a0 a1 : Option Value} {lt : List (Option Value)} (hd : decode (z_cc d) pc = .ok (.lstore_n 0, 1)) (hn : 1 < z_nL d) (kk : z_J G Z d Q (pc + 1) (some (z_L v) :: none :: lt) st M k n) : z_J G Z d Q (pc) (a0 :: a1 :: lt) ((z_L v) :: st) M k n := z_lstoren_g hd hn rfl kk
theorem z_lstoren_1 {v : Int} {a0 a1 a2 : Option Value} {lt : List (Option Value)} (hd : decode (z_cc d) pc = .ok (.lstore_n 1, 1)) (hn : 2 < z_nL d) (hp : z_c1 a0 = true) (kk : z_J G Z d Q (pc + 1) (a0 :: some (z_L v) :: none :: lt) st M k n) : z_J G Z d Q (pc) (a0 :: a1 :: a2 :: lt) ((z_L v) :: st) M k n := z_lstoren_g hd hn hp kk
theorem z_lstoren_2 {v : Int} {a0 a1 a2 a3 : Option Value} {lt : List (Option Value)} (hd : decode (z_cc d) pc = .ok (.lstore_n 2, 1)) (hn : 3 < z_nL d) (hp : z_c1 a1 = true) (kk : z_J G Z d Q (pc + 1) (a0 :: a1 :: some (z_L v) :: none :: lt) st M k n) : z_J G Z d Q (pc) (a0 :: a1 :: a2 :: a3 :: lt) ((z_L v) :: st) M k n := z_lstoren_g hd hn hp kk
theorem z_lstoren_3 {v : Int} {a0 a1 a2 a3 a4 : Option Value} {lt : List (Option Value)} (hd : decode (z_cc d) pc = .ok (.lstore_n 3, 1)) (hn : 4 < z_nL d) (hp : z_c1 a2 = true) (kk : z_J G Z d Q (pc + 1) (a0 :: a1 :: a2 :: some (z_L v) :: none :: lt) st M k n) : z_J G Z d Q (pc) (a0 :: a1 :: a2 :: a3 :: a4 :: lt) ((z_L v) :: st) M k n := z_lstoren_g hd hn hp kk
theorem z_lstore_4 {v : Int} {a0 a1 a2 a3 a4 a5 : Option Value} {lt : List (Option Value)} (hd : decode (z_cc d) pc = .ok (.lstore 4, 2)) (hn : 5 < z_nL d) (hp : z_c1 a3 = true) (kk : z_J G Z d Q (pc + 2) (a0 :: a1 :: a2 :: a3 :: some (z_L v) :: none :: lt) st M k n) : z_J G Z d Q (pc) (a0 :: a1 :: a2 :: a3 :: a4 :: a5 :: lt) ((z_L v) :: st) M k n := z_lstore_g hd hn hp kk
theorem z_lstore_5 {v : Int} {a0 a1 a2 a3 a4 a5 a6 : Option Value} {lt : List (Option Value)} (hd : decode (z_cc d) pc = .ok (.lstore 5, 2)) (hn : 6 < z_nL d) (hp : z_c1 a4 = true) (kk : z_J G Z d Q (pc + 2) (a0 :: a1 :: a2 :: a3 :: a4 :: some (z_L v) :: none :: lt) st M k n) : z_J G Z d Q (pc) (a0 :: a1 :: a2 :: a3 :: a4 :: a5 :: a6 :: lt) ((z_L v) :: st) M k n := z_lstore_g hd hn hp kk
theorem z_lstore_6 {v : Int} {a0 a1 a2 a3 a4 a5 a6 a7 : Option Value} {lt : List (Option Value)} (hd : decode (z_cc d) pc = .ok (.lstore 6, 2)) (hn : 7 < z_nL d) (hp : z_c1 a5 = true) (kk : z_J G Z d Q (pc + 2) (a0 :: a1 :: a2 :: a3 :: a4 :: a5 :: some (z_L v) :: none :: lt) st M k n) : z_J G Z d Q (pc) (a0 :: a1 :: a2 :: a3 :: a4 :: a5 :: a6 :: a7 :: lt) ((z_L v) :: st) M k n := z_lstore_g hd hn hp kk
theorem z_lstore_7 {v : Int} {a0 a1 a2 a3 a4 a5 a6 a7 a8 : Option Value} {lt : List (Option Value)} (hd : decode (z_cc d) pc = .ok (.lstore 7, 2)) (hn : 8 < z_nL d) (hp : z_c1 a6 = true) (kk : z_J G Z d Q (pc + 2) (a0 :: a1 :: a2 :: a3 :: a4 :: a5 :: a6 :: some (z_L v) :: none :: lt) st M k n) : z_J G Z d Q (pc) (a0 :: a1 :: a2 :: a3 :: a4 :: a5 :: a6 :: a7 :: a8 :: lt) ((z_L v) :: st) M k n := z_lstore_g hd hn hp kk
theorem z_lstore_8 {v : Int} {a0 a1 a2 a3 a4 a5 a6 a7 a8 a9 : Option Value} {lt : List (Option Value)} (hd : decode (z_cc d) pc = .ok (.lstore 8, 2)) (hn : 9 < z_nL d) (hp : z_c1 a7 = true) (kk : z_J G Z d Q (pc + 2) (a0 :: a1 :: a2 :: a3 :: a4 :: a5 :: a6 :: a7 :: some (z_L v) :: none :: lt) st M k n) : z_J G Z d Q (pc) (a0 :: a1 :: a2 :: a3 :: a4 :: a5 :: a6 :: a7 :: a8 :: a9 :: lt) ((z_L v) :: st) M k n := z_lstore_g hd hn hp kk
theorem z_lstore_9 {v : Int} {a0 a1 a2 a3 a4 a5 a6 a7 a8 a9 a10 : Option Value} {lt : List (Option Value)} (hd : decode (z_cc d) pc = .ok (.lstore 9, 2)) (hn : 10 < z_nL d) (hp : z_c1 a8 = true) (kk : z_J G Z d Q (pc + 2) (a0 :: a1 :: a2 :: a3 :: a4 :: a5 :: a6 :: a7 :: a8 :: some (z_L v) :: none :: lt) st M k n) : z_J G Z d Q (pc) (a0 :: a1 :: a2 :: a3 :: a4 :: a5 :: a6 :: a7 :: a8 :: a9 :: a10 :: lt) ((z_L v) :: st) M k n := z_lstore_g hd hn hp kk
theorem z_lstore_10 {v : Int} {a0 a1 a2 a3 a4 a5 a6 a7 a8 a9 a10 a11 : Option Value} {lt : List (Option Value)} (hd : decode (z_cc d) pc = .ok (.lstore 10, 2)) (hn : 11 < z_nL d) (hp : z_c1 a9 = true) (kk : z_J G Z d Q (pc + 2) (a0 :: a1 :: a2 :: a3 :: a4 :: a5 :: a6 :: a7 :: a8 :: a9 :: some (z_L v) :: none :: lt) st M k n) : z_J G Z d Q (pc) (a0 :: a1 :: a2 :: a3 :: a4 :: a5 :: a6 :: a7 :: a8 :: a9 :: a10 :: a11 :: lt) ((z_L v) :: st) M k n := z_lstore_g hd hn hp kk
theorem z_lstore_11 {v : Int} {a0 a1 a2 a3 a4 a5 a6 a7 a8 a9 a10 a11 a12 : Option Value} {lt : List (Option Value)} (hd : decode (z_cc d) pc = .ok (.lstore 11, 2)) (hn : 12 < z_nL d) (hp : z_c1 a10 = true) (kk : z_J G Z d Q (pc + 2) (a0 :: a1 :: a2 :: a3 :: a4 :: a5 :: a6 :: a7 :: a8 :: a9 :: a10 :: some (z_L v) :: none :: lt) st M k n) : z_J G Z d Q (pc) (a0 :: a1 :: a2 :: a3 :: a4 :: a5 :: a6 :: a7 :: a8 :: a9 :: a10 :: a11 :: a12 :: lt) ((z_L v) :: st) M k n := z_lstore_g hd hn hp kk
theorem z_lstore_12 {v : Int} {a0 a1 a2 a3 a4 a5 a6 a7 a8 a9 a10 a11 a12 a13 : Option Value} {lt : List (Option Value)} (hd : decode (z_cc d) pc = .ok (.lstore 12, 2)) (hn : 13 < z_nL d) (hp : z_c1 a11 = true) (kk : z_J G Z d Q (pc + 2) (a0 :: a1 :: a2 :: a3 :: a4 :: a5 :: a6 :: a7 :: a8 :: a9 :: a10 :: a11 :: some (z_L v) :: none :: lt) st M k n) : z_J G Z d Q (pc) (a0 :: a1 :: a2 :: a3 :: a4 :: a5 :: a6 :: a7 :: a8 :: a9 :: a10 :: a11 :: a12 :: a13 :: lt) ((z_L v) :: st) M k n := z_lstore_g hd hn hp kk
theorem z_lstore_13 {v : Int} {a0 a1 a2 a3 a4 a5 a6 a7 a8 a9 a10 a11 a12 a13 a14 : Option Value} {lt : List (Option Value)} (hd : decode (z_cc d) pc = .ok (.lstore 13, 2)) (hn : 14 < z_nL d) (hp : z_c1 a12 = true) (kk : z_J G Z d Q (pc + 2) (a0 :: a1 :: a2 :: a3 :: a4 :: a5 :: a6 :: a7 :: a8 :: a9 :: a10 :: a11 :: a12 :: some (z_L v) :: none :: lt) st M k n) : z_J G Z d Q (pc) (a0 :: a1 :: a2 :: a3 :: a4 :: a5 :: a6 :: a7 :: a8 :: a9 :: a10 :: a11 :: a12 :: a13 :: a14 :: lt) ((z_L v) :: st) M k n := z_lstore_g hd hn hp kk
theorem z_lstore_14 {v : Int} {a0 a1 a2 a3 a4 a5 a6 a7 a8 a9 a10 a11 a12 a13 a14 a15 : Option Value} {lt : List (Option Value)} (hd : decode (z_cc d) pc = .ok (.lstore 14, 2)) (hn : 15 < z_nL d) (hp : z_c1 a13 = true) (kk : z_J G Z d Q (pc + 2) (a0 :: a1 :: a2 :: a3 :: a4 :: a5 :: a6 :: a7 :: a8 :: a9 :: a10 :: a11 :: a12 :: a13 :: some (z_L v) :: none :: lt) st M k n) : z_J G Z d Q (pc) (a0 :: a1 :: a2 :: a3 :: a4 :: a5 :: a6 :: a7 :: a8 :: a9 :: a10 :: a11 :: a12 :: a13 :: a14 :: a15 :: lt) ((z_L v) :: st) M k n := z_lstore_g hd hn hp kk
theorem z_lstore_15 {v : Int} {a0 a1 a2 a3 a4 a5 a6 a7 a8 a9 a10 a11 a12 a13 a14 a15 a16 : Option Value} {lt : List (Option Value)} (hd : decode (z_cc d) pc = .ok (.lstore 15, 2)) (hn : 16 < z_nL d) (hp : z_c1 a14 = true) (kk : z_J G Z d Q (pc + 2) (a0 :: a1 :: a2 :: a3 :: a4 :: a5 :: a6 :: a7 :: a8 :: a9 :: a10 :: a11 :: a12 :: a13 :: a14 :: some (z_L v) :: none :: lt) st M k n) : z_J G Z d Q (pc) (a0 :: a1 :: a2 :: a3 :: a4 :: a5 :: a6 :: a7 :: a8 :: a9 :: a10 :: a11 :: a12 :: a13 :: a14 :: a15 :: a16 :: lt) ((z_L v) :: st) M k n := z_lstore_g hd hn hp kk
theorem z_lstore_16 {v : Int} {a0 a1 a2 a3 a4 a5 a6 a7 a8 a9 a10 a11 a12 a13 a14 a15 a16 a17 : Option Value} {lt : List (Option Value)} (hd : decode (z_cc d) pc = .ok (.lstore 16, 2)) (hn : 17 < z_nL d) (hp : z_c1 a15 = true) (kk : z_J G Z d Q (pc + 2) (a0 :: a1 :: a2 :: a3 :: a4 :: a5 :: a6 :: a7 :: a8 :: a9 :: a10 :: a11 :: a12 :: a13 :: a14 :: a15 :: some (z_L v) :: none :: lt) st M k n) : z_J G Z d Q (pc) (a0 :: a1 :: a2 :: a3 :: a4 :: a5 :: a6 :: a7 :: a8 :: a9 :: a10 :: a11 :: a12 :: a13 :: a14 :: a15 :: a16 :: a17 :: lt) ((z_L v) :: st) M k n := z_lstore_g hd hn hp kk
theorem z_lstore_17 {v : Int} {a0 a1 a2 a3 a4 a5 a6 a7 a8 a9 a10 a11 a12 a13 a14 a15 a16 a17 a18 : Option Value} {lt : List (Option Value)} (hd : decode (z_cc d) pc = .ok (.lstore 17, 2)) (hn : 18 < z_nL d) (hp : z_c1 a16 = true) (kk : z_J G Z d Q (pc + 2) (a0 :: a1 :: a2 :: a3 :: a4 :: a5 :: a6 :: a7 :: a8 :: a9 :: a10 :: a11 :: a12 :: a13 :: a14 :: a15 :: a16 :: some (z_L v) :: none :: lt) st M k n) : z_J G Z d Q (pc) (a0 :: a1 :: a2 :: a3 :: a4 :: a5 :: a6 :: a7 :: a8 :: a9 :: a10 :: a11 :: a12 :: a13 :: a14 :: a15 :: a16 :: a17 :: a18 :: lt) ((z_L v) :: st) M k n := z_lstore_g hd hn hp kk
theorem z_lstore_18 {v : Int} {a0 a1 a2 a3 a4 a5 a6 a7 a8 a9 a10 a11 a12 a13 a14 a15 a16 a17 a18 a19 : Option Value} {lt : List (Option Value)} (hd : decode (z_cc d) pc = .ok (.lstore 18, 2)) (hn : 19 < z_nL d) (hp : z_c1 a17 = true) (kk : z_J G Z d Q (pc + 2) (a0 :: a1 :: a2 :: a3 :: a4 :: a5 :: a6 :: a7 :: a8 :: a9 :: a10 :: a11 :: a12 :: a13 :: a14 :: a15 :: a16 :: a17 :: some (z_L v) :: none :: lt) st M k n) : z_J G Z d Q (pc) (a0 :: a1 :: a2 :: a3 :: a4 :: a5 :: a6 :: a7 :: a8 :: a9 :: a10 :: a11 :: a12 :: a13 :: a14 :: a15 :: a16 :: a17 :: a18 :: a19 :: lt) ((z_L v) :: st) M k n := z_lstore_g hd hn hp kk
theorem z_lstore_19 {v : Int} {a0 a1 a2 a3 a4 a5 a6 a7 a8 a9 a10 a11 a12 a13 a14 a15 a16 a17 a18 a19 a20 : Option Value} {lt : List (Option Value)} (hd : decode (z_cc d) pc = .ok (.lstore 19, 2)) (hn : 20 < z_nL d) (hp : z_c1 a18 = true) (kk : z_J G Z d Q (pc + 2) (a0 :: a1 :: a2 :: a3 :: a4 :: a5 :: a6 :: a7 :: a8 :: a9 :: a10 :: a11 :: a12 :: a13 :: a14 :: a15 :: a16 :: a17 :: a18 :: some (z_L v) :: none :: lt) st M k n) : z_J G Z d Q (pc) (a0 :: a1 :: a2 :: a3 :: a4 :: a5 :: a6 :: a7 :: a8 :: a9 :: a10 :: a11 :: a12 :: a13 :: a14 :: a15 :: a16 :: a17 :: a18 :: a19 :: a20 :: lt) ((z_L v) :: st) M k n := z_lstore_g hd hn hp kk
theorem z_dstoren_g {j : Fin 4} {v : UInt64} (hd : decode (z_cc d) pc = .ok (.dstore_n j, 1)) (hn : (j : Nat) + 1 < z_nL d) (hp : z_pre ls (j : Nat) = true) (kk : z_J G Z d Q (pc + 1) ((ls.set (j : Nat) (some (.double v))).set ((j : Nat) + 1) none) st M k n) : z_J G Z d Q (pc) ls ((.double v) :: st) M k n :=
  fun hO H locs la hW hS hL => lv_dstore_n hO.1 hO.2.1 hd rfl (z_LH_has hL) hn rfl (fun la' hl' => kk hO H locs la' hW hS (z_LH_set2 hp hl'))
theorem z_dstore_g {j : Nat} {v : UInt64} (hd : decode (z_cc d) pc = .ok (.dstore j, 2)) (hn : j + 1 < z_nL d) (hp : z_pre ls j = true) (kk : z_J G Z d Q (pc + 2) ((ls.set j (some (.double v))).set (j + 1) none) st M k n) : z_J G Z d Q (pc) ls ((.double v) :: st) M k n :=
  fun hO H locs la hW hS hL => lv_dstore hO.1 hO.2.1 hd (z_LH_has hL) hn rfl (fun la' hl' => kk hO H locs la' hW hS (z_LH_set2 hp hl'))
theorem z_dstoren_0 {v : UInt64} {a0 a1 : Option Value} {lt : List (Option Value)} (hd : decode (z_cc d) pc = .ok (.dstore_n 0, 1)) (hn : 1 < z_nL d) (kk : z_J G Z d Q (pc + 1) (some (.double v) :: none :: lt) st M k n) : z_J G Z d Q (pc) (a0 :: a1 :: lt) ((.double v) :: st) M k n := z_dstoren_g hd hn rfl kk
theorem z_dstoren_1 {v : UInt64} {a0 a1 a2 : Option Value} {lt : List (Option Value)} (hd : decode (z_cc d) pc = .ok (.dstore_n 1, 1)) (hn : 2 < z_nL d) (hp : z_c1 a0 = true) (kk : z_J G Z d Q (pc + 1) (a0 :: some (.double v) :: none :: lt) st M k n) : z_J G Z d Q (pc) (a0 :: a1 :: a2 :: lt) ((.double v) :: st) M k n := z_dstoren_g hd hn hp kk
theorem z_dstoren_2 {v : UInt64} {a0 a1 a2 a3 : Option Value} {lt : List (Option Value)} (hd : decode (z_cc d) pc = .ok (.dstore_n 2, 1)) (hn : 3 < z_nL d) (hp : z_c1 a1 = true) (kk : z_J G Z d Q (pc + 1) (a0 :: a1 :: some (.double v) :: none :: lt) st M k n) : z_J G Z d Q (pc) (a0 :: a1 :: a2 :: a3 :: lt) ((.double v) :: st) M k n := z_dstoren_g hd hn hp kk
theorem z_dstoren_3 {v : UInt64} {a0 a1 a2 a3 a4 : Option Value} {lt : List (Option Value)} (hd : decode (z_cc d) pc = .ok (.dstore_n 3, 1)) (hn : 4 < z_nL d) (hp : z_c1 a2 = true) (kk : z_J G Z d Q (pc + 1) (a0 :: a1 :: a2 :: some (.double v) :: none :: lt) st M k n) : z_J G Z d Q (pc) (a0 :: a1 :: a2 :: a3 :: a4 :: lt) ((.double v) :: st) M k n := z_dstoren_g hd hn hp kk
theorem z_dstore_4 {v : UInt64} {a0 a1 a2 a3 a4 a5 : Option Value} {lt : List (Option Value)} (hd : decode (z_cc d) pc = .ok (.dstore 4, 2)) (hn : 5 < z_nL d) (hp : z_c1 a3 = true) (kk : z_J G Z d Q (pc + 2) (a0 :: a1 :: a2 :: a3 :: some (.double v) :: none :: lt) st M k n) : z_J G Z d Q (pc) (a0 :: a1 :: a2 :: a3 :: a4 :: a5 :: lt) ((.double v) :: st) M k n := z_dstore_g hd hn hp kk
theorem z_dstore_5 {v : UInt64} {a0 a1 a2 a3 a4 a5 a6 : Option Value} {lt : List (Option Value)} (hd : decode (z_cc d) pc = .ok (.dstore 5, 2)) (hn : 6 < z_nL d) (hp : z_c1 a4 = true) (kk : z_J G Z d Q (pc + 2) (a0 :: a1 :: a2 :: a3 :: a4 :: some (.double v) :: none :: lt) st M k n) : z_J G Z d Q (pc) (a0 :: a1 :: a2 :: a3 :: a4 :: a5 :: a6 :: lt) ((.double v) :: st) M k n := z_dstore_g hd hn hp kk
theorem z_dstore_6 {v : UInt64} {a0 a1 a2 a3 a4 a5 a6 a7 : Option Value} {lt : List (Option Value)} (hd : decode (z_cc d) pc = .ok (.dstore 6, 2)) (hn : 7 < z_nL d) (hp : z_c1 a5 = true) (kk : z_J G Z d Q (pc + 2) (a0 :: a1 :: a2 :: a3 :: a4 :: a5 :: some (.double v) :: none :: lt) st M k n) : z_J G Z d Q (pc) (a0 :: a1 :: a2 :: a3 :: a4 :: a5 :: a6 :: a7 :: lt) ((.double v) :: st) M k n := z_dstore_g hd hn hp kk
theorem z_dstore_7 {v : UInt64} {a0 a1 a2 a3 a4 a5 a6 a7 a8 : Option Value} {lt : List (Option Value)} (hd : decode (z_cc d) pc = .ok (.dstore 7, 2)) (hn : 8 < z_nL d) (hp : z_c1 a6 = true) (kk : z_J G Z d Q (pc + 2) (a0 :: a1 :: a2 :: a3 :: a4 :: a5 :: a6 :: some (.double v) :: none :: lt) st M k n) : z_J G Z d Q (pc) (a0 :: a1 :: a2 :: a3 :: a4 :: a5 :: a6 :: a7 :: a8 :: lt) ((.double v) :: st) M k n := z_dstore_g hd hn hp kk
theorem z_dstore_8 {v : UInt64} {a0 a1 a2 a3 a4 a5 a6 a7 a8 a9 : Option Value} {lt : List (Option Value)} (hd : decode (z_cc d) pc = .ok (.dstore 8, 2)) (hn : 9 < z_nL d) (hp : z_c1 a7 = true) (kk : z_J G Z d Q (pc + 2) (a0 :: a1 :: a2 :: a3 :: a4 :: a5 :: a6 :: a7 :: some (.double v) :: none :: lt) st M k n) : z_J G Z d Q (pc) (a0 :: a1 :: a2 :: a3 :: a4 :: a5 :: a6 :: a7 :: a8 :: a9 :: lt) ((.double v) :: st) M k n := z_dstore_g hd hn hp kk
theorem z_dstore_9 {v : UInt64} {a0 a1 a2 a3 a4 a5 a6 a7 a8 a9 a10 : Option Value} {lt : List (Option Value)} (hd : decode (z_cc d) pc = .ok (.dstore 9, 2)) (hn : 10 < z_nL d) (hp : z_c1 a8 = true) (kk : z_J G Z d Q (pc + 2) (a0 :: a1 :: a2 :: a3 :: a4 :: a5 :: a6 :: a7 :: a8 :: some (.double v) :: none :: lt) st M k n) : z_J G Z d Q (pc) (a0 :: a1 :: a2 :: a3 :: a4 :: a5 :: a6 :: a7 :: a8 :: a9 :: a10 :: lt) ((.double v) :: st) M k n := z_dstore_g hd hn hp kk
theorem z_dstore_10 {v : UInt64} {a0 a1 a2 a3 a4 a5 a6 a7 a8 a9 a10 a11 : Option Value} {lt : List (Option Value)} (hd : decode (z_cc d) pc = .ok (.dstore 10, 2)) (hn : 11 < z_nL d) (hp : z_c1 a9 = true) (kk : z_J G Z d Q (pc + 2) (a0 :: a1 :: a2 :: a3 :: a4 :: a5 :: a6 :: a7 :: a8 :: a9 :: some (.double v) :: none :: lt) st M k n) : z_J G Z d Q (pc) (a0 :: a1 :: a2 :: a3 :: a4 :: a5 :: a6 :: a7 :: a8 :: a9 :: a10 :: a11 :: lt) ((.double v) :: st) M k n := z_dstore_g hd hn hp kk
theorem z_dstore_11 {v : UInt64} {a0 a1 a2 a3 a4 a5 a6 a7 a8 a9 a10 a11 a12 : Option Value} {lt : List (Option Value)} (hd : decode (z_cc d) pc = .ok (.dstore 11, 2)) (hn : 12 < z_nL d) (hp : z_c1 a10 = true) (kk : z_J G Z d Q (pc + 2) (a0 :: a1 :: a2 :: a3 :: a4 :: a5 :: a6 :: a7 :: a8 :: a9 :: a10 :: some (.double v) :: none :: lt) st M k n) : z_J G Z d Q (pc) (a0 :: a1 :: a2 :: a3 :: a4 :: a5 :: a6 :: a7 :: a8 :: a9 :: a10 :: a11 :: a12 :: lt) ((.double v) :: st) M k n := z_dstore_g hd hn hp kk
theorem z_dstore_12 {v : UInt64} {a0 a1 a2 a3 a4 a5 a6 a7 a8 a9 a10 a11 a12 a13 : Option Value} {lt : List (Option Value)} (hd : decode (z_cc d) pc = .ok (.dstore 12, 2)) (hn : 13 < z_nL d) (hp : z_c1 a11 = true) (kk : z_J G Z d Q (pc + 2) (a0 :: a1 :: a2 :: a3 :: a4 :: a5 :: a6 :: a7 :: a8 :: a9 :: a10 :: a11 :: some (.double v) :: none :: lt) st M k n) : z_J G Z d Q (pc) (a0 :: a1 :: a2 :: a3 :: a4 :: a5 :: a6 :: a7 :: a8 :: a9 :: a10 :: a11 :: a12 :: a13 :: lt) ((.double v) :: st) M k n := z_dstore_g hd hn hp kk
theorem z_dstore_13 {v : UInt64} {a0 a1 a2 a3 a4 a5 a6 a7 a8 a9 a10 a11 a12 a13 a14 : Option Value} {lt : List (Option Value)} (hd : decode (z_cc d) pc = .ok (.dstore 13, 2)) (hn : 14 < z_nL d) (hp : z_c1 a12 = true) (kk : z_J G Z d Q (pc + 2) (a0 :: a1 :: a2 :: a3 :: a4 :: a5 :: a6 :: a7 :: a8 :: a9 :: a10 :: a11 :: a12 :: some (.double v) :: none :: lt) st M k n) : z_J G Z d Q (pc) (a0 :: a1 :: a2 :: a3 :: a4 :: a5 :: a6 :: a7 :: a8 :: a9 :: a10 :: a11 :: a12 :: a13 :: a14 :: lt) ((.double v) :: st) M k n := z_dstore_g hd hn hp kk
theorem z_dstore_14 {v : UInt64} {a0 a1 a2 a3 a4 a5 a6 a7 a8 a9 a10 a11 a12 a13 a14 a15 : Option Value} {lt : List (Option Value)} (hd : decode (z_cc d) pc = .ok (.dstore 14, 2)) (hn : 15 < z_nL d) (hp : z_c1 a13 = true) (kk : z_J G Z d Q (pc + 2) (a0 :: a1 :: a2 :: a3 :: a4 :: a5 :: a6 :: a7 :: a8 :: a9 :: a10 :: a11 :: a12 :: a13 :: some (.double v) :: none :: lt) st M k n) : z_J G Z d Q (pc) (a0 :: a1 :: a2 :: a3 :: a4 :: a5 :: a6 :: a7 :: a8 :: a9 :: a10 :: a11 :: a12 :: a13 :: a14 :: a15 :: lt) ((.double v) :: st) M k n := z_dstore_g hd hn hp kk
theorem z_dstore_15 {v : UInt64} {a0 a1 a2 a3 a4 a5 a6 a7 a8 a9 a10 a11 a12 a13 a14 a15 a16 : Option Value} {lt : List (Option Value)} (hd : decode (z_cc d) pc = .ok (.dstore 15, 2)) (hn : 16 < z_nL d) (hp : z_c1 a14 = true) (kk : z_J G Z d Q (pc + 2) (a0 :: a1 :: a2 :: a3 :: a4 :: a5 :: a6 :: a7 :: a8 :: a9 :: a10 :: a11 :: a12 :: a13 :: a14 :: some (.double v) :: none :: lt) st M k n) : z_J G Z d Q (pc) (a0 :: a1 :: a2 :: a3 :: a4 :: a5 :: a6 :: a7 :: a8 :: a9 :: a10 :: a11 :: a12 :: a13 :: a14 :: a15 :: a16 :: lt) ((.double v) :: st) M k n := z_dstore_g hd hn hp kk
theorem z_dstore_16 {v : UInt64} {a0 a1 a2 a3 a4 a5 a6 a7 a8 a9 a10 a11 a12 a13 a14 a15 a16 a17 : Option Value} {lt : List (Option Value)} (hd : decode (z_cc d) pc = .ok (.dstore 16, 2)) (hn : 17 < z_nL d) (hp : z_c1 a15 = true) (kk : z_J G Z d Q (pc + 2) (a0 :: a1 :: a2 :: a3 :: a4 :: a5 :: a6 :: a7 :: a8 :: a9 :: a10 :: a11 :: a12 :: a13 :: a14 :: a15 :: some (.double v) :: none :: lt) st M k n) : z_J G Z d Q (pc) (a0 :: a1 :: a2 :: a3 :: a4 :: a5 :: a6 :: a7 :: a8 :: a9 :: a10 :: a11 :: a12 :: a13 :: a14 :: a15 :: a16 :: a17 :: lt) ((.double v) :: st) M k n := z_dstore_g hd hn hp kk
theorem z_dstore_17 {v : UInt64} {a0 a1 a2 a3 a4 a5 a6 a7 a8 a9 a10 a11 a12 a13 a14 a15 a16 a17 a18 : Option Value} {lt : List (Option Value)} (hd : decode (z_cc d) pc = .ok (.dstore 17, 2)) (hn : 18 < z_nL d) (hp : z_c1 a16 = true) (kk : z_J G Z d Q (pc + 2) (a0 :: a1 :: a2 :: a3 :: a4 :: a5 :: a6 :: a7 :: a8 :: a9 :: a10 :: a11 :: a12 :: a13 :: a14 :: a15 :: a16 :: some (.double v) :: none :: lt) st M k n) : z_J G Z d Q (pc) (a0 :: a1 :: a2 :: a3 :: a4 :: a5 :: a6 :: a7 :: a8 :: a9 :: a10 :: a11 :: a12 :: a13 :: a14 :: a15 :: a16 :: a17 :: a18 :: lt) ((.double v) :: st) M k n := z_dstore_g hd hn hp kk
theorem z_dstore_18 {v : UInt64} {a0 a1 a2 a3 a4 a5 a6 a7 a8 a9 a10 a11 a12 a13 a14 a15 a16 a17 a18 a19 : Option Value} {lt : List (Option Value)} (hd : decode (z_cc d) pc = .ok (.dstore 18, 2)) (hn : 19 < z_nL d) (hp : z_c1 a17 = true) (kk : z_J G Z d Q (pc + 2) (a0 :: a1 :: a2 :: a3 :: a4 :: a5 :: a6 :: a7 :: a8 :: a9 :: a10 :: a11 :: a12 :: a13 :: a14 :: a15 :: a16 :: a17 :: some (.double v) :: none :: lt) st M k n) : z_J G Z d Q (pc) (a0 :: a1 :: a2 :: a3 :: a4 :: a5 :: a6 :: a7 :: a8 :: a9 :: a10 :: a11 :: a12 :: a13 :: a14 :: a15 :: a16 :: a17 :: a18 :: a19 :: lt) ((.double v) :: st) M k n := z_dstore_g hd hn hp kk
theorem z_dstore_19 {v : UInt64} {a0 a1 a2 a3 a4 a5 a6 a7 a8 a9 a10 a11 a12 a13 a14 a15 a16 a17 a18 a19 a20 : Option Value} {lt : List (Option Value)} (hd : decode (z_cc d) pc = .ok (.dstore 19, 2)) (hn : 20 < z_nL d) (hp : z_c1 a18 = true) (kk : z_J G Z d Q (pc + 2) (a0 :: a1 :: a2 :: a3 :: a4 :: a5 :: a6 :: a7 :: a8 :: a9 :: a10 :: a11 :: a12 :: a13 :: a14 :: a15 :: a16 :: a17 :: a18 :: some (.double v) :: none :: lt) st M k n) : z_J G Z d Q (pc) (a0 :: a1 :: a2 :: a3 :: a4 :: a5 :: a6 :: a7 :: a8 :: a9 :: a10 :: a11 :: a12 :: a13 :: a14 :: a15 :: a16 :: a17 :: a18 :: a19 :: a20 :: lt) ((.double v) :: st) M k n := z_dstore_g hd hn hp kk
theorem z_iinc_g {j : Nat} {i v : Int} (hd : decode (z_cc d) pc = .ok (.iinc j i, 3)) (hv : ls[j]? = some (some (z_I v))) (hn : j < z_nL d) (hp : z_pre ls j = true) (kk : z_J G Z d Q (pc + 3) (ls.set j (some (z_I (v + i)))) st M k n) : z_J G Z d Q (pc) ls st M k n :=
  fun hO H locs la hW hS hL => by
    obtain ⟨q, hq⟩ := List.getElem?_of_mem (z_lv_mem.mpr hv)
    exact lv_iinc hO.1 hO.2.1 hd (z_LH_has hL) hq (by rw [← Int32.ofInt_add]) hn rfl (fun la' hl' => kk hO H locs la' hW hS (z_LH_set1 hp hl'))
theorem z_iinc_0 {i v : Int} {lt : List (Option Value)} (hd : decode (z_cc d) pc = .ok (.iinc 0 i, 3)) (hn : 0 < z_nL d) (kk : z_J G Z d Q (pc + 3) (some (z_I (v + i)) :: lt) st M k n) : z_J G Z d Q (pc) (some (z_I v) :: lt) st M k n := z_iinc_g hd rfl hn rfl kk
theorem z_iinc_1 {i v : Int} {a0 : Option Value} {lt : List (Option Value)} (hd : decode (z_cc d) pc = .ok (.iinc 1 i, 3)) (hn : 1 < z_nL d) (hp : z_c1 a0 = true) (kk : z_J G Z d Q (pc + 3) (a0 :: some (z_I (v + i)) :: lt) st M k n) : z_J G Z d Q (pc) (a0 :: some (z_I v) :: lt) st M k n := z_iinc_g hd rfl hn hp kk
theorem z_iinc_2 {i v : Int} {a0 a1 : Option Value} {lt : List (Option Value)} (hd : decode (z_cc d) pc = .ok (.iinc 2 i, 3)) (hn : 2 < z_nL d) (hp : z_c1 a1 = true) (kk : z_J G Z d Q (pc + 3) (a0 :: a1 :: some (z_I (v + i)) :: lt) st M k n) : z_J G Z d Q (pc) (a0 :: a1 :: some (z_I v) :: lt) st M k n := z_iinc_g hd rfl hn hp kk
theorem z_iinc_3 {i v : Int} {a0 a1 a2 : Option Value} {lt : List (Option Value)} (hd : decode (z_cc d) pc = .ok (.iinc 3 i, 3)) (hn : 3 < z_nL d) (hp : z_c1 a2 = true) (kk : z_J G Z d Q (pc + 3) (a0 :: a1 :: a2 :: some (z_I (v + i)) :: lt) st M k n) : z_J G Z d Q (pc) (a0 :: a1 :: a2 :: some (z_I v) :: lt) st M k n := z_iinc_g hd rfl hn hp kk
theorem z_iinc_4 {i v : Int} {a0 a1 a2 a3 : Option Value} {lt : List (Option Value)} (hd : decode (z_cc d) pc = .ok (.iinc 4 i, 3)) (hn : 4 < z_nL d) (hp : z_c1 a3 = true) (kk : z_J G Z d Q (pc + 3) (a0 :: a1 :: a2 :: a3 :: some (z_I (v + i)) :: lt) st M k n) : z_J G Z d Q (pc) (a0 :: a1 :: a2 :: a3 :: some (z_I v) :: lt) st M k n := z_iinc_g hd rfl hn hp kk
theorem z_iinc_5 {i v : Int} {a0 a1 a2 a3 a4 : Option Value} {lt : List (Option Value)} (hd : decode (z_cc d) pc = .ok (.iinc 5 i, 3)) (hn : 5 < z_nL d) (hp : z_c1 a4 = true) (kk : z_J G Z d Q (pc + 3) (a0 :: a1 :: a2 :: a3 :: a4 :: some (z_I (v + i)) :: lt) st M k n) : z_J G Z d Q (pc) (a0 :: a1 :: a2 :: a3 :: a4 :: some (z_I v) :: lt) st M k n := z_iinc_g hd rfl hn hp kk
theorem z_iinc_6 {i v : Int} {a0 a1 a2 a3 a4 a5 : Option Value} {lt : List (Option Value)} (hd : decode (z_cc d) pc = .ok (.iinc 6 i, 3)) (hn : 6 < z_nL d) (hp : z_c1 a5 = true) (kk : z_J G Z d Q (pc + 3) (a0 :: a1 :: a2 :: a3 :: a4 :: a5 :: some (z_I (v + i)) :: lt) st M k n) : z_J G Z d Q (pc) (a0 :: a1 :: a2 :: a3 :: a4 :: a5 :: some (z_I v) :: lt) st M k n := z_iinc_g hd rfl hn hp kk
theorem z_iinc_7 {i v : Int} {a0 a1 a2 a3 a4 a5 a6 : Option Value} {lt : List (Option Value)} (hd : decode (z_cc d) pc = .ok (.iinc 7 i, 3)) (hn : 7 < z_nL d) (hp : z_c1 a6 = true) (kk : z_J G Z d Q (pc + 3) (a0 :: a1 :: a2 :: a3 :: a4 :: a5 :: a6 :: some (z_I (v + i)) :: lt) st M k n) : z_J G Z d Q (pc) (a0 :: a1 :: a2 :: a3 :: a4 :: a5 :: a6 :: some (z_I v) :: lt) st M k n := z_iinc_g hd rfl hn hp kk
theorem z_iinc_8 {i v : Int} {a0 a1 a2 a3 a4 a5 a6 a7 : Option Value} {lt : List (Option Value)} (hd : decode (z_cc d) pc = .ok (.iinc 8 i, 3)) (hn : 8 < z_nL d) (hp : z_c1 a7 = true) (kk : z_J G Z d Q (pc + 3) (a0 :: a1 :: a2 :: a3 :: a4 :: a5 :: a6 :: a7 :: some (z_I (v + i)) :: lt) st M k n) : z_J G Z d Q (pc) (a0 :: a1 :: a2 :: a3 :: a4 :: a5 :: a6 :: a7 :: some (z_I v) :: lt) st M k n := z_iinc_g hd rfl hn hp kk
theorem z_iinc_9 {i v : Int} {a0 a1 a2 a3 a4 a5 a6 a7 a8 : Option Value} {lt : List (Option Value)} (hd : decode (z_cc d) pc = .ok (.iinc 9 i, 3)) (hn : 9 < z_nL d) (hp : z_c1 a8 = true) (kk : z_J G Z d Q (pc + 3) (a0 :: a1 :: a2 :: a3 :: a4 :: a5 :: a6 :: a7 :: a8 :: some (z_I (v + i)) :: lt) st M k n) : z_J G Z d Q (pc) (a0 :: a1 :: a2 :: a3 :: a4 :: a5 :: a6 :: a7 :: a8 :: some (z_I v) :: lt) st M k n := z_iinc_g hd rfl hn hp kk
theorem z_iinc_10 {i v : Int} {a0 a1 a2 a3 a4 a5 a6 a7 a8 a9 : Option Value} {lt : List (Option Value)} (hd : decode (z_cc d) pc = .ok (.iinc 10 i, 3)) (hn : 10 < z_nL d) (hp : z_c1 a9 = true) (kk : z_J G Z d Q (pc + 3) (a0 :: a1 :: a2 :: a3 :: a4 :: a5 :: a6 :: a7 :: a8 :: a9 :: some (z_I (v + i)) :: lt) st M k n) : z_J G Z d Q (pc) (a0 :: a1 :: a2 :: a3 :: a4 :: a5 :: a6 :: a7 :: a8 :: a9 :: some (z_I v) :: lt) st M k n := z_iinc_g hd rfl hn hp kk
theorem z_iinc_11 {i v : Int} {a0 a1 a2 a3 a4 a5 a6 a7 a8 a9 a10 : Option Value} {lt : List (Option Value)} (hd : decode (z_cc d) pc = .ok (.iinc 11 i, 3)) (hn : 11 < z_nL d) (hp : z_c1 a10 = true) (kk : z_J G Z d Q (pc + 3) (a0 :: a1 :: a2 :: a3 :: a4 :: a5 :: a6 :: a7 :: a8 :: a9 :: a10 :: some (z_I (v + i)) :: lt) st M k n) : z_J G Z d Q (pc) (a0 :: a1 :: a2 :: a3 :: a4 :: a5 :: a6 :: a7 :: a8 :: a9 :: a10 :: some (z_I v) :: lt) st M k n := z_iinc_g hd rfl hn hp kk
theorem z_iinc_12 {i v : Int} {a0 a1 a2 a3 a4 a5 a6 a7 a8 a9 a10 a11 : Option Value} {lt : List (Option Value)} (hd : decode (z_cc d) pc = .ok (.iinc 12 i, 3)) (hn : 12 < z_nL d) (hp : z_c1 a11 = true) (kk : z_J G Z d Q (pc + 3) (a0 :: a1 :: a2 :: a3 :: a4 :: a5 :: a6 :: a7 :: a8 :: a9 :: a10 :: a11 :: some (z_I (v + i)) :: lt) st M k n) : z_J G Z d Q (pc) (a0 :: a1 :: a2 :: a3 :: a4 :: a5 :: a6 :: a7 :: a8 :: a9 :: a10 :: a11 :: some (z_I v) :: lt) st M k n := z_iinc_g hd rfl hn hp kk
theorem z_iinc_13 {i v : Int} {a0 a1 a2 a3 a4 a5 a6 a7 a8 a9 a10 a11 a12 : Option Value} {lt : List (Option Value)} (hd : decode (z_cc d) pc = .ok (.iinc 13 i, 3)) (hn : 13 < z_nL d) (hp : z_c1 a12 = true) (kk : z_J G Z d Q (pc + 3) (a0 :: a1 :: a2 :: a3 :: a4 :: a5 :: a6 :: a7 :: a8 :: a9 :: a10 :: a11 :: a12 :: some (z_I (v + i)) :: lt) st M k n) : z_J G Z d Q (pc) (a0 :: a1 :: a2 :: a3 :: a4 :: a5 :: a6 :: a7 :: a8 :: a9 :: a10 :: a11 :: a12 :: some (z_I v) :: lt) st M k n := z_iinc_g hd rfl hn hp kk
theorem z_iinc_14 {i v : Int} {a0 a1 a2 a3 a4 a5 a6 a7 a8 a9 a10 a11 a12 a13 : Option Value} {lt : List (Option Value)} (hd : decode (z_cc d) pc = .ok (.iinc 14 i, 3)) (hn : 14 < z_nL d) (hp : z_c1 a13 = true) (kk : z_J G Z d Q (pc + 3) (a0 :: a1 :: a2 :: a3 :: a4 :: a5 :: a6 :: a7 :: a8 :: a9 :: a10 :: a11 :: a12 :: a13 :: some (z_I (v + i)) :: lt) st M k n) : z_J G Z d Q (pc) (a0 :: a1 :: a2 :: a3 :: a4 :: a5 :: a6 :: a7 :: a8 :: a9 :: a10 :: a11 :: a12 :: a13 :: some (z_I v) :: lt) st M k n := z_iinc_g hd rfl hn hp kk
theorem z_iinc_15 {i v : Int} {a0 a1 a2 a3 a4 a5 a6 a7 a8 a9 a10 a11 a12 a13 a14 : Option Value} {lt : List (Option Value)} (hd : decode (z_cc d) pc = .ok (.iinc 15 i, 3)) (hn : 15 < z_nL d) (hp : z_c1 a14 = true) (kk : z_J G Z d Q (pc + 3) (a0 :: a1 :: a2 :: a3 :: a4 :: a5 :: a6 :: a7 :: a8 :: a9 :: a10 :: a11 :: a12 :: a13 :: a14 :: some (z_I (v + i)) :: lt) st M k n) : z_J G Z d Q (pc) (a0 :: a1 :: a2 :: a3 :: a4 :: a5 :: a6 :: a7 :: a8 :: a9 :: a10 :: a11 :: a12 :: a13 :: a14 :: some (z_I v) :: lt) st M k n := z_iinc_g hd rfl hn hp kk
theorem z_iinc_16 {i v : Int} {a0 a1 a2 a3 a4 a5 a6 a7 a8 a9 a10 a11 a12 a13 a14 a15 : Option Value} {lt : List (Option Value)} (hd : decode (z_cc d) pc = .ok (.iinc 16 i, 3)) (hn : 16 < z_nL d) (hp : z_c1 a15 = true) (kk : z_J G Z d Q (pc + 3) (a0 :: a1 :: a2 :: a3 :: a4 :: a5 :: a6 :: a7 :: a8 :: a9 :: a10 :: a11 :: a12 :: a13 :: a14 :: a15 :: some (z_I (v + i)) :: lt) st M k n) : z_J G Z d Q (pc) (a0 :: a1 :: a2 :: a3 :: a4 :: a5 :: a6 :: a7 :: a8 :: a9 :: a10 :: a11 :: a12 :: a13 :: a14 :: a15 :: some (z_I v) :: lt) st M k n := z_iinc_g hd rfl hn hp kk
theorem z_iinc_17 {i v : Int} {a0 a1 a2 a3 a4 a5 a6 a7 a8 a9 a10 a11 a12 a13 a14 a15 a16 : Option Value} {lt : List (Option Value)} (hd : decode (z_cc d) pc = .ok (.iinc 17 i, 3)) (hn : 17 < z_nL d) (hp : z_c1 a16 = true) (kk : z_J G Z d Q (pc + 3) (a0 :: a1 :: a2 :: a3 :: a4 :: a5 :: a6 :: a7 :: a8 :: a9 :: a10 :: a11 :: a12 :: a13 :: a14 :: a15 :: a16 :: some (z_I (v + i)) :: lt) st M k n) : z_J G Z d Q (pc) (a0 :: a1 :: a2 :: a3 :: a4 :: a5 :: a6 :: a7 :: a8 :: a9 :: a10 :: a11 :: a12 :: a13 :: a14 :: a15 :: a16 :: some (z_I v) :: lt) st M k n := z_iinc_g hd rfl hn hp kk
theorem z_iinc_18 {i v : Int} {a0 a1 a2 a3 a4 a5 a6 a7 a8 a9 a10 a11 a12 a13 a14 a15 a16 a17 : Option Value} {lt : List (Option Value)} (hd : decode (z_cc d) pc = .ok (.iinc 18 i, 3)) (hn : 18 < z_nL d) (hp : z_c1 a17 = true) (kk : z_J G Z d Q (pc + 3) (a0 :: a1 :: a2 :: a3 :: a4 :: a5 :: a6 :: a7 :: a8 :: a9 :: a10 :: a11 :: a12 :: a13 :: a14 :: a15 :: a16 :: a17 :: some (z_I (v + i)) :: lt) st M k n) : z_J G Z d Q (pc) (a0 :: a1 :: a2 :: a3 :: a4 :: a5 :: a6 :: a7 :: a8 :: a9 :: a10 :: a11 :: a12 :: a13 :: a14 :: a15 :: a16 :: a17 :: some (z_I v) :: lt) st M k n := z_iinc_g hd rfl hn hp kk
theorem z_iinc_19 {i v : Int} {a0 a1 a2 a3 a4 a5 a6 a7 a8 a9 a10 a11 a12 a13 a14 a15 a16 a17 a18 : Option Value} {lt : List (Option Value)} (hd : decode (z_cc d) pc = .ok (.iinc 19 i, 3)) (hn : 19 < z_nL d) (hp : z_c1 a18 = true) (kk : z_J G Z d Q (pc + 3) (a0 :: a1 :: a2 :: a3 :: a4 :: a5 :: a6 :: a7 :: a8 :: a9 :: a10 :: a11 :: a12 :: a13 :: a14 :: a15 :: a16 :: a17 :: a18 :: some (z_I (v + i)) :: lt) st M k n) : z_J G Z d Q (pc) (a0 :: a1 :: a2 :: a3 :: a4 :: a5 :: a6 :: a7 :: a8 :: a9 :: a10 :: a11 :: a12 :: a13 :: a14 :: a15 :: a16 :: a17 :: a18 :: some (z_I v) :: lt) st M k n := z_iinc_g hd rfl hn hp kk
theorem z_iadd {a b : Int} (hd : decode (z_cc d) pc = .ok (.iadd, 1)) (kk : z_J G Z d Q (pc + 1) ls (z_I (a + b) :: st) M k n) : z_J G Z d Q (pc) ls (z_I b :: z_I a :: st) M k n :=
  fun hO H locs la hW hS hL => lv_iadd hO.1 hO.2.1 hd (by have h := kk hO H locs la hW hS hL; rwa [z_I, Int32.ofInt_add] at h)
theorem z_isub {a b : Int} (hd : decode (z_cc d) pc = .ok (.isub, 1)) (kk : z_J G Z d Q (pc + 1) ls (z_I (a - b) :: st) M k n) : z_J G Z d Q (pc) ls (z_I b :: z_I a :: st) M k n :=
  fun hO H locs la hW hS hL => lv_isub hO.1 hO.2.1 hd (by have h := kk hO H locs la hW hS hL; rwa [z_I, Int32.ofInt_sub] at h)
theorem z_imul {a b : Int} (hd : decode (z_cc d) pc = .ok (.imul, 1)) (kk : z_J G Z d Q (pc + 1) ls (z_I (a * b) :: st) M k n) : z_J G Z d Q (pc) ls (z_I b :: z_I a :: st) M k n :=
  fun hO H locs la hW hS hL => lv_imul hO.1 hO.2.1 hd (by have h := kk hO H locs la hW hS hL; rwa [z_I, Int32.ofInt_mul] at h)
theorem z_ladd {a b : Int} (hd : decode (z_cc d) pc = .ok (.ladd, 1)) (kk : z_J G Z d Q (pc + 1) ls (z_L (a + b) :: st) M k n) : z_J G Z d Q (pc) ls (z_L b :: z_L a :: st) M k n :=
  fun hO H locs la hW hS hL => lv_ladd hO.1 hO.2.1 hd (by have h := kk hO H locs la hW hS hL; rwa [z_L, Int64.ofInt_add] at h)
theorem z_lsub {a b : Int} (hd : decode (z_cc d) pc = .ok (.lsub, 1)) (kk : z_J G Z d Q (pc + 1) ls (z_L (a - b) :: st) M k n) : z_J G Z d Q (pc) ls (z_L b :: z_L a :: st) M k n :=
  fun hO H locs la hW hS hL => lv_lsub hO.1 hO.2.1 hd (by have h := kk hO H locs la hW hS hL; rwa [z_L, Int64.ofInt_sub] at h)
theorem z_lmul {a b : Int} (hd : decode (z_cc d) pc = .ok (.lmul, 1)) (kk : z_J G Z d Q (pc + 1) ls (z_L (a * b) :: st) M k n) : z_J G Z d Q (pc) ls (z_L b :: z_L a :: st) M k n :=
  fun hO H locs la hW hS hL => lv_lmul hO.1 hO.2.1 hd (by have h := kk hO H locs la hW hS hL; rwa [z_L, Int64.ofInt_mul] at h)
theorem z_ineg {a : Int} (hd : decode (z_cc d) pc = .ok (.ineg, 1)) (kk : z_J G Z d Q (pc + 1) ls (z_I (-a) :: st) M k n) : z_J G Z d Q (pc) ls (z_I a :: st) M k n :=
  fun hO H locs la hW hS hL => lv_ineg hO.1 hO.2.1 hd (by have h := kk hO H locs la hW hS hL; rwa [z_I, Int32.ofInt_neg] at h)
theorem z_ofInt_rem {a b : Int} (ha : 0 ≤ a) (ha' : a ≤ 2147483647) (hb : 0 < b) (hb' : b ≤ 2147483647) (e : Int32.ofInt a / Int32.ofInt b = Int32.ofInt (a / b)) : Int32.ofInt a - Int32.ofInt a / Int32.ofInt b * Int32.ofInt b = Int32.ofInt (a % b) := by
  rw [e, ← Int32.ofInt_mul, ← Int32.ofInt_sub]
  congr 1
  rw [Int.emod_def, Int.mul_comm b]
theorem z_ofInt_div {a b : Int} (ha : 0 ≤ a) (ha' : a ≤ 2147483647) (hb : 0 < b) (hb' : b ≤ 2147483647) : Int32.ofInt a / Int32.ofInt b = Int32.ofInt (a / b) := by
  rw [← Int.tdiv_eq_ediv_of_nonneg ha]
  exact (Int32.ofInt_tdiv (show (-2147483648 : Int) ≤ a by omega) (show a ≤ (2147483647 : Int) from ha') (show (-2147483648 : Int) ≤ b by omega) (show b ≤ (2147483647 : Int) from hb')).symm
theorem z_ne0 {b : Int} (hb : 0 < b) (hb' : b ≤ 2147483647) : ¬ Int32.ofInt b = 0 := fun e => by
  have h := (z_eq32 (a := b) (b := 0) ⟨by omega, hb'⟩ ⟨by omega, by omega⟩).mp e
  omega
theorem z_idiv {a b : Int} (ha : 0 ≤ a) (ha' : a ≤ 2147483647) (hb : 0 < b) (hb' : b ≤ 2147483647) (hd : decode (z_cc d) pc = .ok (.idiv, 1)) (kk : z_J G Z d Q (pc + 1) ls (z_I (a / b) :: st) M k n) : z_J G Z d Q (pc) ls (z_I b :: z_I a :: st) M k n :=
  fun hO H locs la hW hS hL => lv_idiv hO.1 hO.2.1 hd (z_ne0 hb hb') (by have h := kk hO H locs la hW hS hL; rwa [z_I, ← z_ofInt_div ha ha' hb hb'] at h)
theorem z_irem {a b : Int} (ha : 0 ≤ a) (ha' : a ≤ 2147483647) (hb : 0 < b) (hb' : b ≤ 2147483647) (hd : decode (z_cc d) pc = .ok (.irem, 1)) (kk : z_J G Z d Q (pc + 1) ls (z_I (a % b) :: st) M k n) : z_J G Z d Q (pc) ls (z_I b :: z_I a :: st) M k n :=
  fun hO H locs la hW hS hL => lv_irem hO.1 hO.2.1 hd (z_ne0 hb hb') (by have h := kk hO H locs la hW hS hL; rwa [z_I, ← z_ofInt_rem ha ha' hb hb' (z_ofInt_div ha ha' hb hb')] at h)
theorem z_dup {va : Value} (hd : decode (z_cc d) pc = .ok (.dup, 1)) (hc : va.category = 1)  (kk : z_J G Z d Q (pc + 1) ls (va :: va :: st) M k n) : z_J G Z d Q (pc) ls (va :: st) M k n :=
  fun hO H locs la hW hS hL => lv_dup hO.1 hO.2.1 hd hc (kk hO H locs la hW hS hL)
theorem z_pop {va : Value} (hd : decode (z_cc d) pc = .ok (.pop, 1)) (hc : va.category = 1)  (kk : z_J G Z d Q (pc + 1) ls st M k n) : z_J G Z d Q (pc) ls (va :: st) M k n :=
  fun hO H locs la hW hS hL => lv_pop hO.1 hO.2.1 hd hc (kk hO H locs la hW hS hL)
theorem z_dup2 {va vb : Value} (hd : decode (z_cc d) pc = .ok (.dup2, 1)) (hc : va.category = 1) (hc2 : vb.category = 1)  (kk : z_J G Z d Q (pc + 1) ls (va :: vb :: va :: vb :: st) M k n) : z_J G Z d Q (pc) ls (va :: vb :: st) M k n :=
  fun hO H locs la hW hS hL => lv_dup2_11 hO.1 hO.2.1 hd hc hc2 (kk hO H locs la hW hS hL)
theorem z_dup2l {va : Value} (hd : decode (z_cc d) pc = .ok (.dup2, 1)) (hc : va.category = 2)  (kk : z_J G Z d Q (pc + 1) ls (va :: va :: st) M k n) : z_J G Z d Q (pc) ls (va :: st) M k n :=
  fun hO H locs la hW hS hL => lv_dup2_2 hO.1 hO.2.1 hd hc (kk hO H locs la hW hS hL)
theorem z_i2l {a : Int} (hr : z_rg a) (hd : decode (z_cc d) pc = .ok (.i2l, 1)) (kk : z_J G Z d Q (pc + 1) ls (z_L a :: st) M k n) : z_J G Z d Q (pc) ls (z_I a :: st) M k n :=
  fun hO H locs la hW hS hL => lv_i2l hO.1 hO.2.1 hd (Int32.toInt64_ofInt hr.1 hr.2) (kk hO H locs la hW hS hL)
theorem z_i2d {a : Int} (hd : decode (z_cc d) pc = .ok (.i2d, 1)) (kk : z_J G Z d Q (pc + 1) ls (.double (FP.i2d (Int32.ofInt a)) :: st) M k n) : z_J G Z d Q (pc) ls (z_I a :: st) M k n :=
  fun hO H locs la hW hS hL => lv_i2d hO.1 hO.2.1 hd (kk hO H locs la hW hS hL)
theorem z_dmul {x y : UInt64} (hne : vf_n64 (FP.dmul x y)) (hd : decode (z_cc d) pc = .ok (.dmul, 1)) (kk : z_J G Z d Q (pc + 1) ls (.double (FP.dmul x y) :: st) M k n) : z_J G Z d Q (pc) ls (.double y :: .double x :: st) M k n :=
  fun hO H locs la hW hS hL => lv_dmul hO.1 hO.2.1 hd hne (kk hO H locs la hW hS hL)
theorem z_ddiv {x y : UInt64} (hne : vf_n64 (FP.ddiv x y)) (hd : decode (z_cc d) pc = .ok (.ddiv, 1)) (kk : z_J G Z d Q (pc + 1) ls (.double (FP.ddiv x y) :: st) M k n) : z_J G Z d Q (pc) ls (.double y :: .double x :: st) M k n :=
  fun hO H locs la hW hS hL => lv_ddiv hO.1 hO.2.1 hd hne (kk hO H locs la hW hS hL)
theorem z_dsub {x y : UInt64} (hne : vf_n64 (FP.dsub x y)) (hd : decode (z_cc d) pc = .ok (.dsub, 1)) (kk : z_J G Z d Q (pc + 1) ls (.double (FP.dsub x y) :: st) M k n) : z_J G Z d Q (pc) ls (.double y :: .double x :: st) M k n :=
  fun hO H locs la hW hS hL => lv_dsub hO.1 hO.2.1 hd hne (kk hO H locs la hW hS hL)
theorem z_d2l {x : UInt64} (hd : decode (z_cc d) pc = .ok (.d2l, 1)) (kk : z_J G Z d Q (pc + 1) ls (.long (FP.d2l x) :: st) M k n) : z_J G Z d Q (pc) ls (.double x :: st) M k n :=
  fun hO H locs la hW hS hL => lv_d2l hO.1 hO.2.1 hd (kk hO H locs la hW hS hL)
theorem z_dcmp {x y : UInt64} {op : CmpOp} {r : Int} (hr : Op.cmpValue (FP.dcmp x y) op = Int32.ofInt r) (hd : decode (z_cc d) pc = .ok (.dcmp op, 1)) (kk : z_J G Z d Q (pc + 1) ls (z_I r :: st) M k n) : z_J G Z d Q (pc) ls (.double y :: .double x :: st) M k n :=
  fun hO H locs la hW hS hL => lv_dcmp hO.1 hO.2.1 hd (by rw [hr]; exact kk hO H locs la hW hS hL)
theorem z_lcmp {x y : Int} {r : Int} (hr : lg_cmp (Int64.ofInt x) (Int64.ofInt y) = Int32.ofInt r) (hd : decode (z_cc d) pc = .ok (.lcmp, 1)) (kk : z_J G Z d Q (pc + 1) ls (z_I r :: st) M k n) : z_J G Z d Q (pc) ls (z_L y :: z_L x :: st) M k n :=
  fun hO H locs la hW hS hL => W.lcmp hO.1 hO.2.1 hd (by rw [hr]; exact kk hO H locs la hW hS hL)
theorem z_ishl {x y r : Int} (hr : (Int32.ofInt x) <<< ((Int32.ofInt y) &&& 31) = Int32.ofInt r) (hd : decode (z_cc d) pc = .ok (.ishl, 1)) (kk : z_J G Z d Q (pc + 1) ls (z_I r :: st) M k n) : z_J G Z d Q (pc) ls (z_I y :: z_I x :: st) M k n :=
  fun hO H locs la hW hS hL => lv_ishl hO.1 hO.2.1 hd (by rw [hr]; exact kk hO H locs la hW hS hL)
theorem z_ishr {x y r : Int} (hr : (Int32.ofInt x) >>> ((Int32.ofInt y) &&& 31) = Int32.ofInt r) (hd : decode (z_cc d) pc = .ok (.ishr, 1)) (kk : z_J G Z d Q (pc + 1) ls (z_I r :: st) M k n) : z_J G Z d Q (pc) ls (z_I y :: z_I x :: st) M k n :=
  fun hO H locs la hW hS hL => lv_ishr hO.1 hO.2.1 hd (by rw [hr]; exact kk hO H locs la hW hS hL)
theorem z_iand {x y r : Int} (hr : (Int32.ofInt x) &&& (Int32.ofInt y) = Int32.ofInt r) (hd : decode (z_cc d) pc = .ok (.iand, 1)) (kk : z_J G Z d Q (pc + 1) ls (z_I r :: st) M k n) : z_J G Z d Q (pc) ls (z_I y :: z_I x :: st) M k n :=
  fun hO H locs la hW hS hL => lv_iand hO.1 hO.2.1 hd (by rw [hr]; exact kk hO H locs la hW hS hL)
theorem z_ior {x y r : Int} (hr : (Int32.ofInt x) ||| (Int32.ofInt y) = Int32.ofInt r) (hd : decode (z_cc d) pc = .ok (.ior, 1)) (kk : z_J G Z d Q (pc + 1) ls (z_I r :: st) M k n) : z_J G Z d Q (pc) ls (z_I y :: z_I x :: st) M k n :=
  fun hO H locs la hW hS hL => lv_ior hO.1 hO.2.1 hd (by rw [hr]; exact kk hO H locs la hW hS hL)
theorem z_lshl {x y r : Int} (hr : (Int64.ofInt x) <<< ((Int32.ofInt y).toInt64 &&& 63) = Int64.ofInt r) (hd : decode (z_cc d) pc = .ok (.lshl, 1)) (kk : z_J G Z d Q (pc + 1) ls (z_L r :: st) M k n) : z_J G Z d Q (pc) ls (z_I y :: z_L x :: st) M k n :=
  fun hO H locs la hW hS hL => lv_lshl hO.1 hO.2.1 hd hr (kk hO H locs la hW hS hL)
theorem z_icmp_eq {a b : Int} {off : Int} {tgt : Nat} (ha : z_rg a) (hb : z_rg b) (hd : decode (z_cc d) pc = .ok (.if_icmp .eq off, 3)) (ht : (pc : Int) + off = (tgt : Int)) (kt : a = b → z_J G Z d Q (tgt) ls st M k n) (kf : ¬ a = b → z_J G Z d Q (pc + 3) ls st M k n) : z_J G Z d Q (pc) ls (z_I b :: z_I a :: st) M k n :=
  fun hO H locs la hW hS hL => lv_icmp_eq hO.1 hO.2.1 hd ht (fun h => kt ((z_eq32 ha hb).mp h) hO H locs la hW hS hL) (fun h => kf (fun h2 => h ((z_eq32 ha hb).mpr h2)) hO H locs la hW hS hL)
theorem z_rg0 : z_rg 0 := ⟨by decide, by decide⟩
theorem z_if_eq {a : Int} {off : Int} {tgt : Nat} (ha : z_rg a) (hd : decode (z_cc d) pc = .ok (.ifCond .eq off, 3)) (ht : (pc : Int) + off = (tgt : Int)) (kt : a = 0 → z_J G Z d Q (tgt) ls st M k n) (kf : ¬ a = 0 → z_J G Z d Q (pc + 3) ls st M k n) : z_J G Z d Q (pc) ls (z_I a :: st) M k n :=
  fun hO H locs la hW hS hL => lv_if_eq hO.1 hO.2.1 hd ht (fun h => kt ((z_eq32 ha z_rg0).mp h) hO H locs la hW hS hL) (fun h => kf (fun h2 => h ((z_eq32 ha z_rg0).mpr h2)) hO H locs la hW hS hL)
theorem z_icmp_ne {a b : Int} {off : Int} {tgt : Nat} (ha : z_rg a) (hb : z_rg b) (hd : decode (z_cc d) pc = .ok (.if_icmp .ne off, 3)) (ht : (pc : Int) + off = (tgt : Int)) (kt : ¬ a = b → z_J G Z d Q (tgt) ls st M k n) (kf : a = b → z_J G Z d Q (pc + 3) ls st M k n) : z_J G Z d Q (pc) ls (z_I b :: z_I a :: st) M k n :=
  fun hO H locs la hW hS hL => lv_icmp_ne hO.1 hO.2.1 hd ht (fun h => kt (((not_congr (z_eq32 ha hb))).mp h) hO H locs la hW hS hL) (fun h => kf ((z_eq32 ha hb).mp h) hO H locs la hW hS hL)
theorem z_if_ne {a : Int} {off : Int} {tgt : Nat} (ha : z_rg a) (hd : decode (z_cc d) pc = .ok (.ifCond .ne off, 3)) (ht : (pc : Int) + off = (tgt : Int)) (kt : ¬ a = 0 → z_J G Z d Q (tgt) ls st M k n) (kf : a = 0 → z_J G Z d Q (pc + 3) ls st M k n) : z_J G Z d Q (pc) ls (z_I a :: st) M k n :=
  fun hO H locs la hW hS hL => lv_if_ne hO.1 hO.2.1 hd ht (fun h => kt (((not_congr (z_eq32 ha z_rg0))).mp h) hO H locs la hW hS hL) (fun h => kf ((z_eq32 ha z_rg0).mp h) hO H locs la hW hS hL)
theorem z_icmp_lt {a b : Int} {off : Int} {tgt : Nat} (ha : z_rg a) (hb : z_rg b) (hd : decode (z_cc d) pc = .ok (.if_icmp .lt off, 3)) (ht : (pc : Int) + off = (tgt : Int)) (kt : a < b → z_J G Z d Q (tgt) ls st M k n) (kf : ¬ a < b → z_J G Z d Q (pc + 3) ls st M k n) : z_J G Z d Q (pc) ls (z_I b :: z_I a :: st) M k n :=
  fun hO H locs la hW hS hL => lv_icmp_lt hO.1 hO.2.1 hd ht (fun h => kt ((z_lt32 ha hb).mp h) hO H locs la hW hS hL) (fun h => kf (fun h2 => h ((z_lt32 ha hb).mpr h2)) hO H locs la hW hS hL)
theorem z_if_lt {a : Int} {off : Int} {tgt : Nat} (ha : z_rg a) (hd : decode (z_cc d) pc = .ok (.ifCond .lt off, 3)) (ht : (pc : Int) + off = (tgt : Int)) (kt : a < 0 → z_J G Z d Q (tgt) ls st M k n) (kf : ¬ a < 0 → z_J G Z d Q (pc + 3) ls st M k n) : z_J G Z d Q (pc) ls (z_I a :: st) M k n :=
  fun hO H locs la hW hS hL => lv_if_lt hO.1 hO.2.1 hd ht (fun h => kt ((z_lt32 ha z_rg0).mp h) hO H locs la hW hS hL) (fun h => kf (fun h2 => h ((z_lt32 ha z_rg0).mpr h2)) hO H locs la hW hS hL)
theorem z_icmp_ge {a b : Int} {off : Int} {tgt : Nat} (ha : z_rg a) (hb : z_rg b) (hd : decode (z_cc d) pc = .ok (.if_icmp .ge off, 3)) (ht : (pc : Int) + off = (tgt : Int)) (kt : b ≤ a → z_J G Z d Q (tgt) ls st M k n) (kf : ¬ b ≤ a → z_J G Z d Q (pc + 3) ls st M k n) : z_J G Z d Q (pc) ls (z_I b :: z_I a :: st) M k n :=
  fun hO H locs la hW hS hL => lv_icmp_ge hO.1 hO.2.1 hd ht (fun h => kt ((z_le32 hb ha).mp h) hO H locs la hW hS hL) (fun h => kf (fun h2 => h ((z_le32 hb ha).mpr h2)) hO H locs la hW hS hL)
theorem z_if_ge {a : Int} {off : Int} {tgt : Nat} (ha : z_rg a) (hd : decode (z_cc d) pc = .ok (.ifCond .ge off, 3)) (ht : (pc : Int) + off = (tgt : Int)) (kt : 0 ≤ a → z_J G Z d Q (tgt) ls st M k n) (kf : ¬ 0 ≤ a → z_J G Z d Q (pc + 3) ls st M k n) : z_J G Z d Q (pc) ls (z_I a :: st) M k n :=
  fun hO H locs la hW hS hL => lv_if_ge hO.1 hO.2.1 hd ht (fun h => kt ((z_le32 z_rg0 ha).mp h) hO H locs la hW hS hL) (fun h => kf (fun h2 => h ((z_le32 z_rg0 ha).mpr h2)) hO H locs la hW hS hL)
theorem z_icmp_gt {a b : Int} {off : Int} {tgt : Nat} (ha : z_rg a) (hb : z_rg b) (hd : decode (z_cc d) pc = .ok (.if_icmp .gt off, 3)) (ht : (pc : Int) + off = (tgt : Int)) (kt : b < a → z_J G Z d Q (tgt) ls st M k n) (kf : ¬ b < a → z_J G Z d Q (pc + 3) ls st M k n) : z_J G Z d Q (pc) ls (z_I b :: z_I a :: st) M k n :=
  fun hO H locs la hW hS hL => lv_icmp_gt hO.1 hO.2.1 hd ht (fun h => kt ((z_lt32 hb ha).mp h) hO H locs la hW hS hL) (fun h => kf (fun h2 => h ((z_lt32 hb ha).mpr h2)) hO H locs la hW hS hL)
theorem z_if_gt {a : Int} {off : Int} {tgt : Nat} (ha : z_rg a) (hd : decode (z_cc d) pc = .ok (.ifCond .gt off, 3)) (ht : (pc : Int) + off = (tgt : Int)) (kt : 0 < a → z_J G Z d Q (tgt) ls st M k n) (kf : ¬ 0 < a → z_J G Z d Q (pc + 3) ls st M k n) : z_J G Z d Q (pc) ls (z_I a :: st) M k n :=
  fun hO H locs la hW hS hL => lv_if_gt hO.1 hO.2.1 hd ht (fun h => kt ((z_lt32 z_rg0 ha).mp h) hO H locs la hW hS hL) (fun h => kf (fun h2 => h ((z_lt32 z_rg0 ha).mpr h2)) hO H locs la hW hS hL)
theorem z_icmp_le {a b : Int} {off : Int} {tgt : Nat} (ha : z_rg a) (hb : z_rg b) (hd : decode (z_cc d) pc = .ok (.if_icmp .le off, 3)) (ht : (pc : Int) + off = (tgt : Int)) (kt : a ≤ b → z_J G Z d Q (tgt) ls st M k n) (kf : ¬ a ≤ b → z_J G Z d Q (pc + 3) ls st M k n) : z_J G Z d Q (pc) ls (z_I b :: z_I a :: st) M k n :=
  fun hO H locs la hW hS hL => lv_icmp_le hO.1 hO.2.1 hd ht (fun h => kt ((z_le32 ha hb).mp h) hO H locs la hW hS hL) (fun h => kf (fun h2 => h ((z_le32 ha hb).mpr h2)) hO H locs la hW hS hL)
theorem z_if_le {a : Int} {off : Int} {tgt : Nat} (ha : z_rg a) (hd : decode (z_cc d) pc = .ok (.ifCond .le off, 3)) (ht : (pc : Int) + off = (tgt : Int)) (kt : a ≤ 0 → z_J G Z d Q (tgt) ls st M k n) (kf : ¬ a ≤ 0 → z_J G Z d Q (pc + 3) ls st M k n) : z_J G Z d Q (pc) ls (z_I a :: st) M k n :=
  fun hO H locs la hW hS hL => lv_if_le hO.1 hO.2.1 hd ht (fun h => kt ((z_le32 ha z_rg0).mp h) hO H locs la hW hS hL) (fun h => kf (fun h2 => h ((z_le32 ha z_rg0).mpr h2)) hO H locs la hW hS hL)
theorem z_goto {off : Int} {tgt : Nat} (hd : decode (z_cc d) pc = .ok (.goto off, 3)) (ht : (pc : Int) + off = (tgt : Int)) (kk : z_J G Z d Q (tgt) ls st M k n) : z_J G Z d Q (pc) ls st M k n :=
  fun hO H locs la hW hS hL => lv_goto hO.1 hO.2.1 hd ht (kk hO H locs la hW hS hL)
theorem z_tabOut {dflt lo hi : Int} {offs : Array Int} {len tgt : Nat} {a : Int} (hd : decode (z_cc d) pc = .ok (.tableswitch dflt lo hi offs, len)) (ha : z_rg a) (h : a < lo ∨ hi < a) (ht : (pc : Int) + dflt = (tgt : Int)) (kk : z_J G Z d Q (tgt) ls st M k n) : z_J G Z d Q (pc) ls (z_I a :: st) M k n :=
  fun hO H locs la hW hS hL => lv_tableOut hO.1 hO.2.1 hd (by rw [z_toI ha]; exact h) ht (kk hO H locs la hW hS hL)
theorem z_tabIn {dflt lo hi : Int} {offs : Array Int} {len tgt : Nat} {a off : Int} (hd : decode (z_cc d) pc = .ok (.tableswitch dflt lo hi offs, len)) (ha : z_rg a) (h1 : ¬ a < lo) (h2 : ¬ hi < a) (ho : offs[(a - lo).toNat]? = some off) (ht : (pc : Int) + off = (tgt : Int)) (kk : z_J G Z d Q (tgt) ls st M k n) : z_J G Z d Q (pc) ls (z_I a :: st) M k n :=
  fun hO H locs la hW hS hL => lv_tableIn hO.1 hO.2.1 hd (by rw [z_toI ha]; exact h1) (by rw [z_toI ha]; exact h2) (by rw [z_toI ha]; exact ho) ht (kk hO H locs la hW hS hL)
theorem z_lookup {dflt : Int} {ps : Array (Int × Int)} {len tgt : Nat} {a off : Int} (hd : decode (z_cc d) pc = .ok (.lookupswitch dflt ps, len)) (ha : z_rg a) (hp : (ps.toList.zip (ps.toList.drop 1)).all (fun (a, next) => a.1 < next.1) = true) (ho : Op.lookupswitch.offset ps.toList dflt a = off) (ht : (pc : Int) + off = (tgt : Int)) (kk : z_J G Z d Q (tgt) ls st M k n) : z_J G Z d Q (pc) ls (z_I a :: st) M k n :=
  fun hO H locs la hW hS hL => lv_lookup hO.1 hO.2.1 hd hp (by rw [z_toI ha]; exact ho) ht (kk hO H locs la hW hS hL)
theorem z_rng (kk : (∀ (a : Nat) (i : Int), a ≠ 20 → z_rg (M a i)) → z_J G Z d Q (pc) ls st M k n) : z_J G Z d Q (pc) ls st M k n :=
  fun hO H locs la hW hS hL => kk hW.2.1 hO H locs la hW hS hL
theorem z_wide {k' n' : Nat} (h1 : k ≤ k') (h2 : n ≤ n') (kk : z_J G Z d Q pc ls st M k' n') : z_J G Z d Q (pc) ls st M k n :=
  fun hO H locs la hW hS hL => W.widen h1 h2 (kk hO H locs la hW hS hL)
theorem z_alen {g c t a m : Nat} {ix : Int → Int} (hal : z_al g c = some (t, a, m, ix)) (hdm : z_dm G g c) (hd : decode (z_cc d) pc = .ok (.arraylength, 1)) (kk : z_J G Z d Q (pc + 1) ls (z_I (m : Int) :: st) M k n) : z_J G Z d Q (pc) ls (.ref (z_ad G g c) :: st) M k n :=
  fun hO H locs la hW hS hL => by
    have hc := (hW.2.2 g c hdm).2 t a m ix hal
    have hK := hO.2.2.2.2.2.2.2.2.1.2
    rcases z_al_t hal with rfl | rfl | rfl
    · exact W.alen (n := Int32.ofInt (m : Int)) hO.1 hO.2.1 hc ((hK 0 _ rfl).1 m _) (by rw [arrV_size]; rfl) rfl rfl hd (kk hO H locs la hW hS hL)
    · exact W.alen (n := Int32.ofInt (m : Int)) hO.1 hO.2.1 hc ((hK 1 _ rfl).1 m _) (by rw [arrV_size]; rfl) rfl rfl hd (kk hO H locs la hW hS hL)
    · exact W.alen (n := Int32.ofInt (m : Int)) hO.1 hO.2.1 hc ((hK 2 _ rfl).1 m _) (by rw [arrV_size]; rfl) rfl rfl hd (kk hO H locs la hW hS hL)
theorem z_iald {g c a m : Nat} {ix : Int → Int} {i : Int} (hal : z_al g c = some (0, a, m, ix)) (hdm : z_dm G g c) (h0 : 0 ≤ i) (h1 : i < (m : Int)) (hm : m ≤ 6000) (hd : decode (z_cc d) pc = .ok (.iaload, 1)) (kk : z_J G Z d Q (pc + 1) ls (z_I (M a (ix i)) :: st) M k n) : z_J G Z d Q (pc) ls (z_I i :: .ref (z_ad G g c) :: st) M k n :=
  fun hO H locs la hW hS hL => by
    have hc := (hW.2.2 g c hdm).2 0 a m ix hal
    have hK := hO.2.2.2.2.2.2.2.2.1.2
    have e : (Int32.ofInt i).toNatClampNeg = i.toNat := z_clamp h0 (by omega)
    have e2 : ((i.toNat : Nat) : Int) = i := Int.toNat_of_nonneg h0
    refine W.iald (v := z_I (M a (ix i))) hO.1 hO.2.1 hc ((hK 0 _ rfl).1 m _) (fun q => by cases q) (by rw [arrV_size]; exact z_vp h0 h1 (by omega)) ?_ rfl rfl hd (kk hO H locs la hW hS hL)
    rw [e, arrV_read _ _ (by omega)]
    show some (z_I (M a (ix ((i.toNat : Nat) : Int)))) = _
    rw [e2]
theorem z_obal {g c : Nat} {x : Nat × List z_F} (h : z_ob g c = some x) : z_al g c = none := by
  unfold z_ob at h
  split at h <;> first | rfl | cases h
theorem z_iast {g c a m : Nat} {ix : Int → Int} {i v : Int} (hal : z_al g c = some (0, a, m, ix)) (hdm : z_dm G g c) (h0 : 0 ≤ i) (h1 : i < (m : Int)) (hm : m ≤ 6000) (hv : z_rg v) (hd : decode (z_cc d) pc = .ok (.iastore, 1)) (kk : z_J G Z d Q (pc + 1) ls st (z_sM M a (ix i) v) k n) : z_J G Z d Q (pc) ls (z_I v :: z_I i :: .ref (z_ad G g c) :: st) M k n :=
  fun hO H locs la hW hS hL => by
    have hc := (hW.2.2 g c hdm).2 0 a m ix hal
    have hK := hO.2.2.2.2.2.2.2.2.1.2
    have e : (Int32.ofInt i).toNatClampNeg = i.toNat := z_clamp h0 (by omega)
    have e2 : ((i.toNat : Nat) : Int) = i := Int.toNat_of_nonneg h0
    refine W.iast hO.1 hO.2.1 hc ((hK 0 _ rfl).1 m _) (fun q => by cases q) (by rw [arrV_size]; exact z_vp h0 h1 (by omega)) rfl rfl hd fun H' e1 z oq => ?_
    refine kk hO H' _ la (z_Wd_put hW hdm z oq (fun _ => hv) ?_ ?_) (hS.put z oq (z_in hdm)) hL
    · have h := z_owA hdm hal (by decide) i.toNat (by omega)
      rwa [e2] at h
    · refine ⟨fun ci fs ho => ?_, fun t a' m' ix' ha' => ?_⟩
      · have h := z_obal ho
        rw [hal] at h
        cases h
      · rw [hal] at ha'
        cases ha'
        rw [e1, e, arrV_store]
        congr 1
        refine z_arrV_eq fun j hj => ?_
        show updV _ _ _ _ = z_I (z_sM M a (ix i) v a (ix j))
        unfold updV z_sM
        by_cases hji : j = i.toNat
        · rw [if_pos hji, if_pos ⟨rfl, by rw [hji, e2]⟩]
          rfl
        · rw [if_neg hji, if_neg]
          · rfl
          · rintro ⟨-, h⟩
            exact hji (z_al_inj hal j i.toNat (by rw [e2]; exact h))
end ZR
end
section
/-! ===== fields, contracts, calls, ends, throws ===== -/
section ZC
variable {G : z_G} {Z : z_Z} {d : z_Md} {Q : State → Prop} {pc : Nat} {ls : List (Option Value)} {st : List Value} {M : z_M} {k n : Nat}
theorem z_fdat {fs : List z_F} {j : Nat} {f : z_F} (hf : fs[j]? = some f) : fs.getD j (0, 0, 0) = f := by
  rw [List.getD_eq_getElem?_getD, hf]; rfl
theorem z_getf {C : String} {T : u_T} {N ci idx kf g c : Nat} {fs : List z_F} {f : z_F} (hC : vwCl[ci]? = some (C, T, N)) (hin : ∀ w ∈ u_ws C T N, w ∈ z_W) (hlink : Cond.fieldLink (z_own d) idx C (T kf).2.1 (T kf).2.2.1 ∈ z_W)
    (hself : (T kf).1 = C) (hob : z_ob g c = some (ci, fs)) (hkN : kf < N) (hN : fs.length = N) (hf : fs[kf]? = some f) (hdm : z_dm G g c) (hd : decode (z_cc d) pc = .ok (.getfield idx, 3))
    (kk : z_J G Z d Q (pc + 3) ls (z_fv G M f :: st) M k n) : z_J G Z d Q pc ls (.ref (z_ad G g c) :: st) M k n := fun hO H locs la hW hS hL => by
  obtain ⟨cell, q1, q2, q3, q4⟩ := (hW.2.2 g c hdm).1 ci fs hob
  obtain ⟨hS0, hfc, kC, hkC, hkind⟩ := hO.2.2.2.2.2.2.2.2.1.1 ci _ hC
  obtain ⟨cf, kf', fi, fd, hi, hsl⟩ := hS0 kf hkN
  have hi' : (z_s Z).fieldFound? C (T kf).2.1 (T kf).2.2.1 = some (cf, kf', fi, fd) := by rw [← hi]; dsimp only; rw [hself]
  have hts : ∀ w ∈ u_ws C T N, w.before (z_a Z) (z_s Z) = true := fun w hw => z_tw hO (hin w hw) _
  refine W.getf hO.1 hO.2.1 hO.2.2.2.1 (z_tw hO hlink _) hi' (u_facts hfc hkC (u_lays hts (fun _ h => h) hkN) hi).1 q1 (by rw [q3]; exact fun h => by cases h) (v := z_fv G M f) ?_ rfl rfl hd (kk hO H locs la hW hS hL)
  rw [hsl, q4 kf (by rw [hN]; exact hkN)]
  dsimp only
  rw [z_fdat hf]
/-- the value that a slot takes: an int, a long, or the number of a state -/
def z_pv (G : z_G) (t : Nat) (v : Int) : Value := if t = 0 then z_I v else if t = 3 then z_L v else .ref (z_ad G v.toNat 0)
theorem z_putf {C : String} {T : u_T} {N ci idx kf g c t a : Nat} {i v : Int} {fs : List z_F} (hC : vwCl[ci]? = some (C, T, N)) (hin : ∀ w ∈ u_ws C T N, w ∈ z_W) (ty0 : Nat → FieldType) (hty : ∀ k, k < N → parseFieldDescriptor (T k).2.2.1 = some (ty0 k)) (hnm : ∀ a, a < N → ∀ b, b < N → a ≠ b → (T a).2.1 ≠ (T b).2.1)
    (hlink : Cond.fieldLink (z_own d) idx C (T kf).2.1 (T kf).2.2.1 ∈ z_W) (hself : (T kf).1 = C) (hfin : (T kf).2.2.2 = false) (hob : z_ob g c = some (ci, fs)) (hkN : kf < N) (hN : fs.length = N) (hf : fs[kf]? = some (t, a, i)) (ht1 : t = 0 ∨ t = 2 ∨ t = 3)
    (hnar : narrow (ty0 kf) (z_pv G t v) = z_pv G t v) (hfit : fits (ty0 kf) (z_pv G t v) = true) (hdm : z_dm G g c) (hv : a ≠ 20 → z_rg v) (hd : decode (z_cc d) pc = .ok (.putfield idx, 3))
    (kk : z_J G Z d Q (pc + 3) ls st (z_sM M a i v) k n) : z_J G Z d Q pc ls (z_pv G t v :: .ref (z_ad G g c) :: st) M k n := fun hO H locs la hW hS hL => by
  obtain ⟨cell, q1, q2, q3, q4⟩ := (hW.2.2 g c hdm).1 ci fs hob
  have hK := hO.2.2.2.2.2.2.2.2.1
  obtain ⟨hS0, hfc, kC, hkC, hkind⟩ := hK.1 ci _ hC
  obtain ⟨cf, kf', fi, fd, hi, hsl⟩ := hS0 kf hkN
  have hi' : (z_s Z).fieldFound? C (T kf).2.1 (T kf).2.2.1 = some (cf, kf', fi, fd) := by rw [← hi]; dsimp only; rw [hself]
  have hts : ∀ w ∈ u_ws C T N, w.before (z_a Z) (z_s Z) = true := fun w hw => z_tw hO (hin w hw) _
  have hap := va_apart (own := C) (args := z_a Z) hts (fun _ h => h) ty0 hty hnm hK hC
  have hlay := hts _ (u_in_lay hkN)
  unfold u_lay at hlay
  rw [if_neg (by rw [hfin]; decide)] at hlay
  have hst := (u_facts hfc hkC (u_lays hts (fun _ h => h) hkN) hi).1
  have h6 := u_store hfc hkC hkind hlay hi (hty kf hkN) hnar hfit
  have hkl : kf < fs.length := by rw [hN]; exact hkN
  refine W.putK hO.1 hO.2.1 (f := fd) ⟨hO.2.2.2.1, z_tw hO hlink _, ⟨_, _, _, hi'⟩, hst⟩ (by rw [q2]; exact h6) q1 q3 (by rw [hsl]; exact k2_hasslot (q4 kf hkl)) rfl rfl hd fun H' e1 e2 e3 => ?_
  rw [hsl] at e1 ⊢
  refine kk hO H' _ la (z_Wd_put hW hdm e2 e3 hv (z_owO hdm hob kf hf (by omega)) ?_) (hS.put e2 e3 (z_in hdm)) hL
  refine ⟨fun ci' fs' ho => ?_, fun t' a' m' ix' ha' => ?_⟩
  · rw [hob] at ho
    cases ho
    have h7 := t_set (V := fun j => z_fv G M (fs.getD j (0, 0, 0))) (v := z_pv G t v) (N := fs.length) q4 (fun x y hx hy => hap x y (by rw [← hN]; exact hx) (by rw [← hN]; exact hy)) hkl
    refine t_OB.to ⟨_, e1, q2, q3, h7⟩ fun j hj => ?_
    unfold updV
    by_cases hjk : j = kf
    · subst hjk
      rw [if_pos rfl, z_fdat hf]
      rcases ht1 with rfl | rfl | rfl
      · show z_I v = z_I (z_sM M a i v a i)
        unfold z_sM; rw [if_pos ⟨rfl, rfl⟩]
      · show Value.ref (z_ad G v.toNat 0) = Value.ref (z_ad G (z_sM M a i v a i).toNat 0)
        unfold z_sM; rw [if_pos ⟨rfl, rfl⟩]
      · show z_L v = z_L (z_sM M a i v a i)
        unfold z_sM; rw [if_pos ⟨rfl, rfl⟩]
    · rw [if_neg hjk]
      have e : fs[j]? = some fs[j] := List.getElem?_eq_getElem hj
      show z_fv G M (fs.getD j (0, 0, 0)) = z_fv G (z_sM M a i v) (fs.getD j (0, 0, 0))
      rw [z_fdat e]
      rcases hfj : fs[j] with ⟨t', a', i'⟩
      refine z_fv_eq fun ht' => ?_
      unfold z_sM
      rw [if_neg]
      rintro ⟨rfl, rfl⟩
      exact hjk (z_okl_use (z_ob_inj hdm hob) (by rw [e, hfj]) hf ht' (by omega))
  · have h := z_obal hob
    rw [h] at ha'
    cases ha'
theorem z_aald {i : Int} (h0 : 0 ≤ i) (h1 : i < 7) (hd : decode (z_cc d) pc = .ok (.aaload, 1)) (kk : z_J G Z d Q (pc + 1) ls (.ref (z_ad G i.toNat 0) :: st) M k n) : z_J G Z d Q pc ls (z_I i :: .ref (z_ad G 0 21) :: st) M k n :=
  fun hO H locs la hW hS hL => by
    have hc := (hW.2.2 0 21 (Or.inl (by decide))).2 4 99 7 _ rfl
    have hK := hO.2.2.2.2.2.2.2.2.1.2
    have e : (Int32.ofInt i).toNatClampNeg = i.toNat := z_clamp h0 (by omega)
    refine W.aald (v := .ref (z_ad G i.toNat 0)) (ty := .object "PenGuild$State") hO.1 hO.2.1 hc ((hK 2 _ rfl).1 7 _) rfl (fun q => by cases q) (by rw [arrV_size]; exact z_vp h0 h1 (by omega)) ?_ rfl rfl hd (kk hO H locs la hW hS hL)
    rw [e, arrV_read _ _ (by omega)]
    rfl
/-- the most of a setting -/
theorem z_greatest {i : Int} {x : Nat} (h0 : 0 ≤ i) (h1 : i < 6) (hlink : Cond.fieldLink (z_own d) x "PenGuild" "GREATEST_SETTINGS" "[I" ∈ z_W) (hd : decode (z_cc d) pc = .ok (.getstatic x, 3)) (kk : z_J G Z d Q (pc + 3) ls (.ref (z_gs G) :: st) M k n) : z_J G Z d Q pc ls st M k n :=
  fun hO H locs la hW hS hL => va_gets hO.1 hO.2.1 hO.2.2.2.2.2.2.2.2.2.2.2.2.1.1 hS hO.2.2.2.1 (z_tw hO hlink _) (fun _ h => h) hd (kk hO H locs la hW hS hL)
theorem z_greatest_ld {i : Int} (h0 : 0 ≤ i) (h1 : i < 6) (hd : decode (z_cc d) pc = .ok (.iaload, 1)) (kk : z_J G Z d Q (pc + 1) ls (z_I (z_most i.toNat) :: st) M k n) : z_J G Z d Q pc ls (z_I i :: .ref (z_gs G) :: st) M k n :=
  fun hO H locs la hW hS hL => by
    obtain ⟨cell, t1, t2, t3, t4, t5, t6, t7⟩ := va_T.kept hO.2.2.2.2.2.2.2.2.2.2.2.2.1.2 (fun a ha hA => hS.2.1 a ha hA)
    have e : (Int32.ofInt i).toNatClampNeg = i.toNat := z_clamp h0 (by omega)
    refine W.iald (v := z_I (z_most i.toNat)) hO.1 hO.2.1 t1 t2 t3 ?_ ?_ rfl rfl hd (kk hO H locs la hW hS hL)
    · rintro (h | h)
      · exact z_vp (n := 6) h0 h1 (by omega) (Or.inl h)
      · rw [e] at h; omega
    · rw [e]; exact t6 _ (by omega)
end ZC
end
section
/-! ===== contracts ===== -/
def z_ls : List Value → List (Option Value)
  | [] => []
  | v :: vs => if v.category = 2 then some v :: none :: z_ls vs else some v :: z_ls vs
theorem z_ls_in : ∀ (vs : List Value) (k i : Nat) (v : Value), (z_ls vs)[i]? = some (some v) → (k + i, v) ∈ lv_args k vs
  | [], k, i, v, h => by simp [z_ls] at h
  | a :: vs, k, i, v, h => by
    unfold z_ls at h
    unfold lv_args
    by_cases hc : a.category = 2
    · rw [if_pos hc] at h ⊢
      match i, h with
      | 0, h => cases h; exact List.mem_cons_self
      | 1, h => cases h
      | i + 2, h =>
        have := z_ls_in vs (k + 2) i v h
        rw [show k + 2 + i = k + (i + 2) by omega] at this
        exact List.mem_cons_of_mem _ this
    · rw [if_neg hc] at h ⊢
      match i, h with
      | 0, h => cases h; exact List.mem_cons_self
      | i + 1, h =>
        have := z_ls_in vs (k + 1) i v h
        rw [show k + 1 + i = k + (i + 1) by omega] at this
        exact List.mem_cons_of_mem _ this
def z_ini (args : List Value) (n : Nat) : List (Option Value) := z_ls args ++ List.replicate (n - (z_ls args).length) none
theorem z_ini_LH {args : List Value} {n : Nat} {la : Array Slot} (h : lv_has la n (lv_args 0 args)) : z_LH la n (z_ini args n) := by
  refine ⟨h.1, h.2.1, fun i v hi => ?_⟩
  unfold z_ini at hi
  by_cases hl : i < (z_ls args).length
  · rw [List.getElem?_append_left hl] at hi
    have := z_ls_in args 0 i v hi
    rw [Nat.zero_add] at this
    exact h.2.2 _ this
  · rw [List.getElem?_append_right (by omega), List.getElem?_replicate] at hi
    split at hi <;> cases hi
abbrev z_O : Type := (Option Value) ⊕ String
def z_oc (o : z_O) : Nat := match o with | .inl _ => 0 | .inr _ => 1
def z_os (o : z_O) : Nat := match o with | .inl _ => 0 | .inr _ => 6
def z_rm (fr lo : Nat) (o : z_O) : Room := { frames := fr, cells := z_oc o, slots := z_os o, locals := lo }
def z_Qc (G : z_G) (o : z_O) (M1 : z_M) : Array Value → State → Outcome → State → Prop := fun _ st oc t => ∃ v, o = .inl v ∧ oc = .returned v ∧ z_Wd G M1 t.heap ∧ va_F (z_A G) st t
def z_Xc (G : z_G) (o : z_O) (M1 : z_M) : String → State → State → Prop := fun E st t => o = .inr E ∧ z_Wd G M1 t.heap ∧ va_F (z_A G) st t
def z_Pc (G : z_G) (args : List Value) (M : z_M) : Array Value → State → Prop := va_Pc args (fun U => z_T G U ∧ z_Wd G M U.heap)
/-- method y, called with args over the memory M: it ends so (a value, or a class of exceptions), the memory is M1 then -/
def z_Con (G : z_G) (y : MethodName) (cc : ByteArray) (maxL : Nat) (ret : Option FieldType) (fr lo : Nat) (args : List Value) (M : z_M) (o : z_O) (M1 : z_M) : Prop :=
  vx_Met (z_l G) y [Cond.code y cc maxL ret] (z_rm fr lo o) (z_Pc G args M) (z_Qc G o M1) (z_Xc G o M1) (z_oc o) (z_os o) (z_A G)
def z_Qm (G : z_G) (Z : z_Z) (o : z_O) (M1 : z_M) : State → Prop := vx_MQ (z_w Z) (z_Qc G o M1) (z_Xc G o M1) (z_a Z) (z_s Z) (z_oc o) (z_os o) (z_A G)
def z_tb (Z : z_Z) : Prop := ∀ x ∈ (z_c Z).exceptionTable.toList, False
theorem z_blind {G : z_G} {args : List Value} {M : z_M} : FrameBlind (z_Pc G args M) := by
  rintro a U g mk ⟨h1, h2, h3⟩
  refine ⟨h1, z_T_moved (s := U) h2 (by exact State.WarmedH.refl U) (fun _ _ _ => rfl), h3⟩
theorem z_con {G : z_G} {y : MethodName} {cc : ByteArray} {maxL : Nat} {ret : Option FieldType} {fr lo : Nat} {args : List Value} {M : z_M} {o : z_O} {M1 : z_M} {ls : List (Option Value)} (hy : plainName y.cls = true) (hn : (lg_sl args).length ≤ maxL) (hls : z_ini args maxL = ls)
    (h : ∀ Z, z_tb Z → z_J G Z (cc, maxL, y.cls, z_rm fr lo o, ret) (z_Qm G Z o M1) 0 ls [] M 0 0) : z_Con G y cc maxL ret fr lo args M o M1 := by
  refine vx_ofW (cc := cc) (maxL := maxL) (ret := ret) hy rfl ?_
  intro p e s m args' below meth c s₁ B hml htab hv
  obtain ⟨rfl, hT, hWd⟩ := hv
  have hl := lv_entry args (n := maxL) hn
  rw [lg_entry_eq]
  refine h (p, e, s, m, args.toArray, below, meth, c) htab ⟨B.exec, B.bytes, hml, findClass_of_methodNamed B.named, B.notSynchronized, B.returns, hT⟩ s.heap [] _ hWd va_S.rf ?_
  rw [← hls]
  exact z_ini_LH hl
section ZE
variable {G : z_G} {Z : z_Z} {pc : Nat} {ls : List (Option Value)} {M M1 : z_M} {cc : ByteArray} {nL : Nat} {own : String} {R : Room}
theorem z_iret {r r' : Int} (hd : decode cc pc = .ok (.ireturn, 1)) (hr : r' = r) (hM : M = M1) : z_J G Z (cc, nL, own, R, some .int) (z_Qm G Z (.inl (some (z_I r))) M1) pc ls [z_I r'] M 0 0 := fun hO H locs la hW hS hL => by
  subst hr; subst hM
  exact vx_ret (W.iret hO.1 hO.2.1 hO.2.2.2.2.2.1 (fun t ht hw => ⟨_, rfl, rfl, by rw [ht]; exact hW, hS.F ht⟩) hS.2.2 hd hO.2.2.2.2.1)
theorem z_zret {r r' : Int} (hd : decode cc pc = .ok (.ireturn, 1)) (hr : r' = r) (hM : M = M1) (hb : r = 0 ∨ r = 1) : z_J G Z (cc, nL, own, R, some .boolean) (z_Qm G Z (.inl (some (z_I r))) M1) pc ls [z_I r'] M 0 0 := fun hO H locs la hW hS hL => by
  subst hr; subst hM
  refine vx_ret (W.zret hO.1 hO.2.1 hO.2.2.2.2.2.1 ?_ (fun t ht hw => ⟨_, rfl, rfl, by rw [ht]; exact hW, hS.F ht⟩) hS.2.2 hd hO.2.2.2.2.1)
  rcases hb with rfl | rfl <;> rfl
theorem z_vret (hd : decode cc pc = .ok (.return_, 1)) (hM : M = M1) : z_J G Z (cc, nL, own, R, none) (z_Qm G Z (.inl none) M1) pc ls [] M 0 0 := fun hO H locs la hW hS hL => by
  subst hM
  exact vx_ret (W.vret hO.1 hO.2.1 hO.2.2.2.2.2.1 (fun t ht hw => ⟨_, rfl, rfl, by rw [ht]; exact hW, hS.F ht⟩) hS.2.2 hd hO.2.2.2.2.1)
theorem z_lret {r r' : Int} (hd : decode cc pc = .ok (.lreturn, 1)) (hr : r' = r) (hM : M = M1) : z_J G Z (cc, nL, own, R, some .long) (z_Qm G Z (.inl (some (z_L r))) M1) pc ls [z_L r'] M 0 0 := fun hO H locs la hW hS hL => by
  subst hr; subst hM
  exact vx_ret (W.lret hO.1 hO.2.1 hO.2.2.2.2.2.1 (fun t ht hw => ⟨_, rfl, rfl, by rw [ht]; exact hW, hS.F ht⟩) hS.2.2 hd hO.2.2.2.2.1)
theorem z_dret {r r' : UInt64} (hd : decode cc pc = .ok (.dreturn, 1)) (hr : r' = r) (hM : M = M1) : z_J G Z (cc, nL, own, R, some .double) (z_Qm G Z (.inl (some (.double r))) M1) pc ls [.double r'] M 0 0 := fun hO H locs la hW hS hL => by
  subst hr; subst hM
  have hlk := hO.2.2.2.2.1
  exact vx_ret (W.dret hO.1 hO.2.1 hO.2.2.2.2.2.1 (fun t ht hw => ⟨_, rfl, rfl, by rw [ht]; exact hW, hS.F ht⟩) hS.2.2 hd)
end ZE
section ZK
variable {G : z_G} {Z : z_Z} {d : z_Md} {Q : State → Prop} {pc : Nat} {ls : List (Option Value)} {M M1 : z_M} {k n : Nat}
variable {y : MethodName} {cc' : ByteArray} {maxL fr lo idx na : Nat} {ret : Option FieldType} {As rest st : List Value} {v : Option Value} {E : String}
/-- what a call needs of the room -/
def z_fit (d : z_Md) (fr lo maxL : Nat) : Prop := fr + 1 ≤ (z_R d).frames ∧ 8 + (maxL + 11) + lo ≤ (z_R d).locals
def z_name (y : MethodName) (na : Nat) : Prop := (y.cls ≠ "java/lang/invoke/MethodHandle" ∧ y.cls ≠ "java/lang/invoke/VarHandle") ∧ (parseMethodDescriptor y.desc).map (fun q => q.parameters.length) = some na
theorem z_nm (hy : z_name y na) : ∀ sig, parseMethodDescriptor y.desc = some sig → na = sig.parameters.length := fun sig h => by
  have h2 := hy.2
  rw [h] at h2
  exact (Option.some.inj h2).symm
theorem z_ws1 (hO : z_Ok G Z d) (hcode : Cond.code y cc' maxL ret ∈ z_W) : ∀ w ∈ ([Cond.code y cc' maxL ret] : List Cond), ∀ (a' : Array Value) (U : State), (z_s Z).WarmedH U.vm → w.before a' U = true := by
  intro w hw a' U hW
  rw [List.mem_singleton] at hw
  subst hw
  exact z_warmw (List.mem_filter.mp hcode).2 hW (hO.2.2.2.2.2.2.2.1 _ hcode) a'
theorem z_PcU (hO : z_Ok G Z d) {H : Heap} {locs : List Loc} {args : List Value} (hW : z_Wd G M H) (hS : va_S (z_A G) (z_s Z).heap H locs) : ∀ U : State, U.heap = H → (z_s Z).WarmedH U.vm → z_Pc G args M args.toArray U := by
  intro U hU hw
  refine ⟨rfl, z_T_moved hO.2.2.2.2.2.2 hw (fun a ha hA => ?_), by rw [hU]; exact hW⟩
  rw [hU]
  exact hS.2.1 a ha hA
theorem z_recv (hO : z_Ok G Z d) {H : Heap} (hW : z_Wd G M H) {g c ci : Nat} {fs : List z_F} {C : String} {T : u_T} {N : Nat} (hdm : z_dm G g c) (hob : z_ob g c = some (ci, fs)) (hC : vwCl[ci]? = some (C, T, N)) : ∃ cellB : Cell, H[z_ad G g c]? = some cellB ∧ cellB.vm.isStatics = false ∧ (z_s Z).vm.findClass C = some cellB.cls := by
  obtain ⟨cell, q1, q2, q3, -⟩ := (hW.2.2 g c hdm).1 ci fs hob
  obtain ⟨-, hfc, -⟩ := hO.2.2.2.2.2.2.2.2.1.1 ci _ hC
  exact ⟨cell, q1, by rw [q3]; rfl, by rw [q2]; exact hfc⟩
/-- a call of an instance method that returns -/
theorem z_callV {g c ci : Nat} {fs : List z_F} {C : String} {T : u_T} {N : Nat} (hC : z_Con G y cc' maxL ret fr lo (.ref (z_ad G g c) :: As) M (.inl v) M1)
    (hlink : Cond.methodLink (z_own d) idx y ∈ z_W) (hinst : Cond.instanceMethod y ∈ z_W) (hsel : Cond.selects C y y ∈ z_W) (hcode : Cond.code y cc' maxL ret ∈ z_W) (hini : Cond.initialized y.cls ∈ z_W) (hy : z_name y na)
    (hdm : z_dm G g c) (hob : z_ob g c = some (ci, fs)) (hcl : vwCl[ci]? = some (C, T, N)) (hna : As.length = na) (hst : st = As.reverse ++ .ref (z_ad G g c) :: rest) (hfit : z_fit d fr lo maxL) (hk : k ≤ (z_R d).cells ∧ n ≤ (z_R d).slots) (hcat : (rest.map fun v => v.category).sum ≤ 8)
    (hd : decode (z_cc d) pc = .ok (.invokevirtual idx, 3)) (kk : z_J G Z d Q (pc + 3) ls (v.toList ++ rest) M1 k n) : z_J G Z d Q pc ls st M k n := fun hO H locs la hW hS hL => by
  subst hst
  have hts : ∀ w ∈ z_W, w.before (z_a Z) (z_s Z) = true := fun w hw => z_tw hO hw _
  intro T0 hT0 X
  rcases vx_runV (Ts := z_W) (own := z_own d) (C := C) (n := na) (bytes := cc') (maxL := maxL) (ret := ret) (index := idx) (g := F0 (z_m Z) pc la (As.reverse ++ .ref (z_ad G g c) :: rest)) (rest := rest) ⟨hO.1, hO.2.1, hO.2.2.1, hO.2.2.2.1, hts⟩ hC
      ⟨⟨rfl, rfl, hfit.1, hfit.2, z_ws1 hO hcode, List.mem_singleton_self _, hts _ hcode, hts _ hini, hy.1, z_nm hy, hts _ hlink⟩, hts _ hinst, hts _ hsel⟩
      ⟨z_blind, z_recv hO hW hdm hob hcl, z_PcU hO hW hS⟩ rfl hna hL.1 rfl (lv_room hcat) hd ⟨hk.1, hk.2⟩ T0 hT0 X with ⟨v', st₀, t, T', L, h0, X', hL', e1, e2, ⟨w, ho, hv, hWd, hF⟩, stp⟩ | ⟨q, st₀, t, T', L, E', ce, h0, X', hL', e1, e2, ⟨ho, hWd, hF⟩, hce, hcv, hcl', stp⟩
  · cases ho
    cases hv
    obtain ⟨k1, k2, k3⟩ := vx_keep (A1 := z_A G) h0 e1 hS (fun q _ h => h) (fun q h => h) hL' hF
    obtain ⟨t2, a1, b1⟩ := kk hO T'.heap (locs ++ L) la (by rw [e1]; exact hWd) k3 hL T' rfl X'
    exact ⟨t2, stp t2 a1, b1⟩
  · cases ho
end ZK
end
section
section ZK
variable {G : z_G} {Z : z_Z} {d : z_Md} {Q : State → Prop} {pc : Nat} {ls : List (Option Value)} {M M1 : z_M} {k n : Nat}
variable {y : MethodName} {cc' : ByteArray} {maxL fr lo idx na : Nat} {ret : Option FieldType} {As rest st : List Value} {v : Option Value} {E : String}
/-- a call of a static method that returns -/
theorem z_callS (hC : z_Con G y cc' maxL ret fr lo As M (.inl v) M1)
    (hlink : Cond.methodLink (z_own d) idx y ∈ z_W) (hstat : Cond.static y ∈ z_W) (hcode : Cond.code y cc' maxL ret ∈ z_W) (hini : Cond.initialized y.cls ∈ z_W) (hy : z_name y na)
    (hna : As.length = na) (hst : st = As.reverse ++ rest) (hfit : z_fit d fr lo maxL) (hk : k ≤ (z_R d).cells ∧ n ≤ (z_R d).slots) (hcat : (rest.map fun v => v.category).sum ≤ 8)
    (hd : decode (z_cc d) pc = .ok (.invokestatic idx, 3)) (kk : z_J G Z d Q (pc + 3) ls (v.toList ++ rest) M1 k n) : z_J G Z d Q pc ls st M k n := fun hO H locs la hW hS hL => by
  subst hst
  have hts : ∀ w ∈ z_W, w.before (z_a Z) (z_s Z) = true := fun w hw => z_tw hO hw _
  intro T0 hT0 X
  rcases vx_runS (Ts := z_W) (own := z_own d) (n := na) (bytes := cc') (maxL := maxL) (ret := ret) (index := idx) (g := F0 (z_m Z) pc la (As.reverse ++ rest)) (rest := rest) ⟨hO.1, hO.2.1, hO.2.2.1, hO.2.2.2.1, hts⟩ hC
      ⟨⟨rfl, rfl, hfit.1, hfit.2, z_ws1 hO hcode, List.mem_singleton_self _, hts _ hcode, hts _ hini, hy.1, z_nm hy, hts _ hlink⟩, hts _ hstat⟩
      ⟨z_blind, z_PcU hO hW hS⟩ rfl hna hL.1 rfl (lv_room hcat) hd ⟨hk.1, hk.2⟩ T0 hT0 X with ⟨v', st₀, t, T', L, h0, X', hL', e1, e2, ⟨w, ho, hv, hWd, hF⟩, stp⟩ | ⟨q, st₀, t, T', L, E', ce, h0, X', hL', e1, e2, ⟨ho, hWd, hF⟩, hce, hcv, hcl', stp⟩
  · cases ho
    cases hv
    obtain ⟨k1, k2, k3⟩ := vx_keep (A1 := z_A G) h0 e1 hS (fun q _ h => h) (fun q h => h) hL' hF
    obtain ⟨t2, a1, b1⟩ := kk hO T'.heap (locs ++ L) la (by rw [e1]; exact hWd) k3 hL T' rfl X'
    exact ⟨t2, stp t2 a1, b1⟩
  · cases ho
/-- a contract that returns, as the kit's contract without exceptions -/
theorem z_Met (hC : z_Con G y cc' maxL ret fr lo As M (.inl v) M1) : Met (z_l G) y [Cond.code y cc' maxL ret] (z_rm fr lo (.inl v)) (z_Pc G As M) (z_Qc G (.inl v) M1) 0 0 (z_A G) := by
  intro p e ha hc hk s m args below hf happ hP hK
  obtain ⟨n, o, h1, h2, h3, h4⟩ := hC p e ha hc hk s m args below hf happ hP hK
  refine ⟨n, o, h1, h2, h3, ?_⟩
  rcases h4 with h4 | ⟨q, -, E, ce, L, ⟨hx, -⟩, -⟩
  · exact h4
  · cases hx
/-- a call of a private static method of the nest's host -/
theorem z_callN {host : String} (hC : z_Con G y cc' maxL ret fr lo As M (.inl v) M1)
    (hlink : Cond.methodLinkNest (z_own d) idx y host ∈ z_W) (hstat : Cond.static y ∈ z_W) (hcode : Cond.code y cc' maxL ret ∈ z_W) (hini : Cond.initialized y.cls ∈ z_W) (hy : z_name y na)
    (hna : As.length = na) (hst : st = As.reverse ++ rest) (hfit : z_fit d fr lo maxL) (hk : k ≤ (z_R d).cells ∧ n ≤ (z_R d).slots) (hcat : (rest.map fun v => v.category).sum ≤ 8)
    (hd : decode (z_cc d) pc = .ok (.invokestatic idx, 3)) (kk : z_J G Z d Q (pc + 3) ls (v.toList ++ rest) M1 k n) : z_J G Z d Q pc ls st M k n := fun hO H locs la hW hS hL => by
  subst hst
  have hts : ∀ w ∈ z_W, w.before (z_a Z) (z_s Z) = true := fun w hw => z_tw hO hw _
  intro T0 hT0 X
  obtain ⟨v', st₀, t, T', L, h0, X', hL', e1, e2, ⟨w, ho, hv, hWd, hF⟩, stp⟩ := va_runSN (Ts := z_W) (own := z_own d) (host := host) (n := na) (bytes := cc') (maxL := maxL) (ret := ret) (index := idx) (g := F0 (z_m Z) pc la (As.reverse ++ rest)) (rest := rest) ⟨hO.1, hO.2.1, hO.2.2.1, hO.2.2.2.1, hts⟩ (z_Met hC)
      ⟨⟨⟨rfl, rfl, hfit.1, hfit.2, z_ws1 hO hcode, List.mem_singleton_self _⟩, hts _ hcode, hts _ hini, hy.1, z_nm hy, hts _ hlink⟩, hts _ hstat, trivial⟩
      ⟨z_blind, z_PcU hO hW hS⟩ rfl hna hL.1 rfl (lv_room hcat) hd ⟨hk.1, hk.2⟩ T0 hT0 X
  cases ho
  cases hv
  obtain ⟨k1, k2, k3⟩ := vx_keep (A1 := z_A G) h0 e1 hS (fun q _ h => h) (fun q h => h) hL' hF
  obtain ⟨t2, a1, b1⟩ := kk hO T'.heap (locs ++ L) la (by rw [e1]; exact hWd) k3 hL T' rfl X'
  exact ⟨t2, stp t2 a1, b1⟩
/-- slot 5 of a state's row is no cell's: it may be counted along -/
theorem z_ghost {g : Nat} {w : Int} (hg : g < 7) (hw : z_rg w) (kk : z_J G Z d Q pc ls st (z_sM M g 5 w) k n) : z_J G Z d Q pc ls st M k n := fun hO H locs la hW hS hL => by
  refine kk hO H locs la ⟨hW.1, fun a i ha => ?_, fun g' k' hd => ?_⟩ hS hL
  · unfold z_sM
    split
    · exact hw
    · exact hW.2.1 a i ha
  · refine z_hold_move (M := M) hd (fun a i ho => ?_) rfl (hW.2.2 g' k' hd)
    unfold z_sM
    rw [if_neg]
    rintro ⟨rfl, rfl⟩
    have h : z_ow a 5 = (a, 99) := by
      unfold z_ow
      rw [if_pos hg]
      rfl
    rw [h] at ho
    cases ho
    unfold z_dm z_dmb at hd
    omega
end ZK
end
section
section ZB
variable {G : z_G} {Z : z_Z} {d : z_Md} {Q : State → Prop} {pc : Nat} {ls : List (Option Value)} {st : List Value} {M : z_M} {k n : Nat}
theorem z_ifb_eq {p : Prop} [Decidable p] {off : Int} {tgt : Nat} (hd : decode (z_cc d) pc = .ok (.ifCond .eq off, 3)) (ht : (pc : Int) + off = (tgt : Int)) (kt : ¬ p → z_J G Z d Q tgt ls st M k n) (kf : p → z_J G Z d Q (pc + 3) ls st M k n) : z_J G Z d Q pc ls (z_I (if p then 1 else 0) :: st) M k n :=
  z_if_eq (by split <;> exact ⟨by decide, by decide⟩) hd ht (fun h => kt (fun hp => by rw [if_pos hp] at h; cases h)) (fun h => kf (Decidable.byContradiction fun hp => by rw [if_neg hp] at h; exact h rfl))
theorem z_ifb_ne {p : Prop} [Decidable p] {off : Int} {tgt : Nat} (hd : decode (z_cc d) pc = .ok (.ifCond .ne off, 3)) (ht : (pc : Int) + off = (tgt : Int)) (kt : p → z_J G Z d Q tgt ls st M k n) (kf : ¬ p → z_J G Z d Q (pc + 3) ls st M k n) : z_J G Z d Q pc ls (z_I (if p then 1 else 0) :: st) M k n :=
  z_if_ne (by split <;> exact ⟨by decide, by decide⟩) hd ht (fun h => kt (Decidable.byContradiction fun hp => by rw [if_neg hp] at h; exact h rfl)) (fun h => kf (fun hp => by rw [if_pos hp] at h; cases h))
/-- a loop that counts up -/
theorem z_up {P : Int → Prop} (n : Nat) (he : P n) (hs : ∀ i : Nat, i < n → P ((i : Int) + 1) → P i) : ∀ i : Nat, i ≤ n → P i := by
  intro i hi
  obtain ⟨j, rfl⟩ : ∃ j, n = i + j := ⟨n - i, by omega⟩
  induction j generalizing i with
  | zero => exact he
  | succ j ih =>
    refine hs i (by omega) ?_
    have h := ih (i + 1) (by rw [show i + 1 + j = i + (j + 1) by omega]; exact he) (by rw [show i + 1 + j = i + (j + 1) by omega]; exact hs) (by omega)
    have e : ((i + 1 : Nat) : Int) = (i : Int) + 1 := by omega
    rwa [e] at h
theorem z_up0 {P : Int → Prop} (n : Nat) (he : P n) (hs : ∀ i : Nat, i < n → P ((i : Int) + 1) → P i) : P 0 := z_up n he hs 0 (Nat.zero_le n)
/-- the sum of f 0 .. f (n - 1) -/
def z_sm (n : Nat) (f : Int → Int) : Int := match n with
  | 0 => 0
  | n + 1 => z_sm n f + f n
theorem z_sm_s (n : Nat) (f : Int → Int) : z_sm (n + 1) f = z_sm n f + f n := rfl
theorem z_sm_eq {n : Nat} {f g : Int → Int} (h : ∀ i : Nat, i < n → f i = g i) : z_sm n f = z_sm n g := by
  induction n with
  | zero => rfl
  | succ n ih => rw [z_sm_s, z_sm_s, ih (fun i hi => h i (by omega)), h n (by omega)]
/-- the number at place i of a row becomes v -/
def z_uf (b : Int → Int) (i v : Int) : Int → Int := fun j => if j = i then v else b j
/-- row a of the memory becomes b -/
def z_sR (M : z_M) (a : Nat) (b : Int → Int) : z_M := fun a' => if a' = a then b else M a'
theorem z_sM_R (M : z_M) (a : Nat) (i v : Int) : z_sM M a i v = z_sR M a (z_uf (M a) i v) := by
  funext a' i'
  unfold z_sM z_sR z_uf
  by_cases h : a' = a
  · subst h
    by_cases h2 : i' = i
    · rw [if_pos ⟨rfl, h2⟩, if_pos rfl, if_pos h2]
    · rw [if_neg (fun q => h2 q.2), if_pos rfl, if_neg h2]
  · rw [if_neg (fun q => h q.1), if_neg h]
theorem z_sR_self (M : z_M) (a : Nat) (b : Int → Int) : z_sR M a b a = b := by unfold z_sR; rw [if_pos rfl]
theorem z_sR_ne (M : z_M) {a a' : Nat} (b : Int → Int) (h : a' ≠ a) : z_sR M a b a' = M a' := by unfold z_sR; rw [if_neg h]
theorem z_sR_R (M : z_M) (a : Nat) (b c : Int → Int) : z_sR (z_sR M a b) a c = z_sR M a c := by
  funext a'
  unfold z_sR
  by_cases h : a' = a
  · rw [if_pos h, if_pos h]
  · rw [if_neg h, if_neg h, if_neg h]
theorem z_sR_id (M : z_M) (a : Nat) : z_sR M a (M a) = M := by
  funext a'
  unfold z_sR
  by_cases h : a' = a
  · rw [if_pos h, h]
  · rw [if_neg h]
theorem z_sR_comm (M : z_M) {a a' : Nat} (b c : Int → Int) (h : a ≠ a') : z_sR (z_sR M a b) a' c = z_sR (z_sR M a' c) a b := by
  funext x
  unfold z_sR
  by_cases h1 : x = a
  · by_cases h2 : x = a'
    · exact absurd (h1.symm.trans h2) h
    · rw [if_neg h2, if_pos h1, if_pos h1]
  · by_cases h2 : x = a'
    · rw [if_pos h2, if_neg h1, if_pos h2]
    · rw [if_neg h2, if_neg h1, if_neg h1, if_neg h2]
theorem z_uf_self (b : Int → Int) (i v : Int) : z_uf b i v i = v := by unfold z_uf; rw [if_pos rfl]
theorem z_uf_ne (b : Int → Int) {i j : Int} (v : Int) (h : j ≠ i) : z_uf b i v j = b j := by unfold z_uf; rw [if_neg h]
theorem z_uf_uf (b : Int → Int) (i v w : Int) : z_uf (z_uf b i v) i w = z_uf b i w := by
  funext j
  unfold z_uf
  split <;> rfl
end ZB
end
section
/-! ===== the tables' words, by their places ===== -/
theorem uX0 : ∀ w ∈ u_ws RX0 TX0 6, w ∈ z_W := by decide +kernel
theorem uX1 : ∀ w ∈ u_ws RX1 TX1 6, w ∈ z_W := by decide +kernel
theorem uX2 : ∀ w ∈ u_ws RX2 TX2 7, w ∈ z_W := by decide +kernel
theorem uX3 : ∀ w ∈ u_ws RX3 TX3 7, w ∈ z_W := by decide +kernel
theorem uX4 : ∀ w ∈ u_ws RX4 TX4 9, w ∈ z_W := by decide +kernel
theorem uX5 : ∀ w ∈ u_ws RX5 TX5 8, w ∈ z_W := by decide +kernel
theorem uX6 : ∀ w ∈ u_ws RX6 TX6 9, w ∈ z_W := by decide +kernel
theorem wfX0_9 : Cond.fieldLink RX0 9 "PenGuild$Division" "byParts" "[I" ∈ z_W := z_wi 101 (by decide +kernel) (by decide +kernel)
theorem wfX0_15 : Cond.fieldLink RX0 15 "PenGuild$Division" "remainders" "[I" ∈ z_W := z_wi 103 (by decide +kernel) (by decide +kernel)
theorem wfX0_22 : Cond.fieldLink RX0 22 "PenGuild$State" "pieces" "LPenGuild$Pieces;" ∈ z_W := z_wi 246 (by decide +kernel) (by decide +kernel)
theorem wfX0_28 : Cond.fieldLink RX0 28 "PenGuild$Division" "byPercent" "I" ∈ z_W := z_wi 93 (by decide +kernel) (by decide +kernel)
theorem wfX0_36 : Cond.fieldLink RX0 36 "PenGuild$State" "settings" "[I" ∈ z_W := z_wi 249 (by decide +kernel) (by decide +kernel)
theorem wfX0_39 : Cond.fieldLink RX0 39 "PenGuild$Division" "toByline" "I" ∈ z_W := z_wi 99 (by decide +kernel) (by decide +kernel)
theorem wfX0_45 : Cond.fieldLink RX0 45 "PenGuild$Division" "overCap" "I" ∈ z_W := z_wi 95 (by decide +kernel) (by decide +kernel)
theorem wfX0_48 : Cond.fieldLink RX0 48 "PenGuild$State" "pens" "LPenGuild$Pens;" ∈ z_W := z_wi 244 (by decide +kernel) (by decide +kernel)
theorem wfX0_52 : Cond.fieldLink RX0 52 "PenGuild$Pens" "owner" "[I" ∈ z_W := z_wi 164 (by decide +kernel) (by decide +kernel)
theorem wfX0_57 : Cond.fieldLink RX0 57 "PenGuild$Pieces" "byline" "[I" ∈ z_W := z_wi 193 (by decide +kernel) (by decide +kernel)
theorem wfX0_62 : Cond.fieldLink RX0 62 "PenGuild$Division" "bylineOwner" "I" ∈ z_W := z_wi 97 (by decide +kernel) (by decide +kernel)
theorem wfX0_75 : Cond.fieldLink RX0 75 "PenGuild$Pieces" "parts" "[I" ∈ z_W := z_wi 206 (by decide +kernel) (by decide +kernel)
theorem wfX0_84 : Cond.fieldLink RX0 84 "PenGuild$Pieces" "gotThisYear" "[I" ∈ z_W := z_wi 212 (by decide +kernel) (by decide +kernel)
theorem wfX1_9 : Cond.fieldLink RX1 9 "PenGuild$FairParts" "parts" "[I" ∈ z_W := z_wi 123 (by decide +kernel) (by decide +kernel)
theorem wfX1_15 : Cond.fieldLink RX1 15 "PenGuild$FairParts" "writers" "[I" ∈ z_W := z_wi 125 (by decide +kernel) (by decide +kernel)
theorem wfX1_18 : Cond.fieldLink RX1 18 "PenGuild$FairParts" "drafts" "[I" ∈ z_W := z_wi 126 (by decide +kernel) (by decide +kernel)
theorem wfX1_21 : Cond.fieldLink RX1 21 "PenGuild$FairParts" "trial" "[I" ∈ z_W := z_wi 127 (by decide +kernel) (by decide +kernel)
theorem wfX1_28 : Cond.fieldLink RX1 28 "PenGuild$FairParts" "size" "I" ∈ z_W := z_wi 128 (by decide +kernel) (by decide +kernel)
theorem wfX1_46 : Cond.fieldLink RX1 46 "PenGuild$FairParts" "allDrafts" "I" ∈ z_W := z_wi 129 (by decide +kernel) (by decide +kernel)
theorem wfX1_53 : Cond.fieldLink RX1 53 "PenGuild$Pieces" "drafts" "[I" ∈ z_W := z_wi 209 (by decide +kernel) (by decide +kernel)
theorem wfX2_11 : Cond.fieldLink RX2 11 "PenGuild$PartsText" "codes" "[I" ∈ z_W := z_wi 61 (by decide +kernel) (by decide +kernel)
theorem wfX2_15 : Cond.fieldLink RX2 15 "PenGuild$PartsText" "parts" "[I" ∈ z_W := z_wi 65 (by decide +kernel) (by decide +kernel)
theorem wfX2_22 : Cond.fieldLink RX2 22 "PenGuild$PartsText" "length" "I" ∈ z_W := z_wi 63 (by decide +kernel) (by decide +kernel)
theorem wfX2_26 : Cond.fieldLink RX2 26 "PenGuild$PartsText" "place" "I" ∈ z_W := z_wi 67 (by decide +kernel) (by decide +kernel)
theorem wfX2_29 : Cond.fieldLink RX2 29 "PenGuild$PartsText" "itemPen" "I" ∈ z_W := z_wi 68 (by decide +kernel) (by decide +kernel)
theorem wfX2_41 : Cond.fieldLink RX2 41 "PenGuild$PartsText" "itemParts" "I" ∈ z_W := z_wi 69 (by decide +kernel) (by decide +kernel)
theorem wfX2_44 : Cond.fieldLink RX2 44 "PenGuild$PartsText" "itemsEnded" "I" ∈ z_W := z_wi 70 (by decide +kernel) (by decide +kernel)
theorem wfX3_9 : Cond.fieldLink RX3 9 "PenGuild$Pens" "balance" "[I" ∈ z_W := z_wi 156 (by decide +kernel) (by decide +kernel)
theorem wfX3_15 : Cond.fieldLink RX3 15 "PenGuild$Pens" "owed" "[I" ∈ z_W := z_wi 158 (by decide +kernel) (by decide +kernel)
theorem wfX3_18 : Cond.fieldLink RX3 18 "PenGuild$Pens" "income" "[I" ∈ z_W := z_wi 160 (by decide +kernel) (by decide +kernel)
theorem wfX3_21 : Cond.fieldLink RX3 21 "PenGuild$Pens" "owner" "[I" ∈ z_W := z_wi 162 (by decide +kernel) (by decide +kernel)
theorem wfX3_24 : Cond.fieldLink RX3 24 "PenGuild$Pens" "price" "[I" ∈ z_W := z_wi 165 (by decide +kernel) (by decide +kernel)
theorem wfX3_27 : Cond.fieldLink RX3 27 "PenGuild$Pens" "paidOut" "[I" ∈ z_W := z_wi 167 (by decide +kernel) (by decide +kernel)
theorem wfX3_30 : Cond.fieldLink RX3 30 "PenGuild$Pens" "size" "I" ∈ z_W := z_wi 154 (by decide +kernel) (by decide +kernel)
theorem wfX4_9 : Cond.fieldLink RX4 9 "PenGuild$Pieces" "byline" "[I" ∈ z_W := z_wi 192 (by decide +kernel) (by decide +kernel)
theorem wfX4_15 : Cond.fieldLink RX4 15 "PenGuild$Pieces" "fee" "[I" ∈ z_W := z_wi 195 (by decide +kernel) (by decide +kernel)
theorem wfX4_18 : Cond.fieldLink RX4 18 "PenGuild$Pieces" "stage" "[I" ∈ z_W := z_wi 198 (by decide +kernel) (by decide +kernel)
theorem wfX4_21 : Cond.fieldLink RX4 21 "PenGuild$Pieces" "contract" "[I" ∈ z_W := z_wi 201 (by decide +kernel) (by decide +kernel)
theorem wfX4_24 : Cond.fieldLink RX4 24 "PenGuild$Pieces" "royalties" "[I" ∈ z_W := z_wi 203 (by decide +kernel) (by decide +kernel)
theorem wfX4_27 : Cond.fieldLink RX4 27 "PenGuild$Pieces" "parts" "[I" ∈ z_W := z_wi 205 (by decide +kernel) (by decide +kernel)
theorem wfX4_30 : Cond.fieldLink RX4 30 "PenGuild$Pieces" "drafts" "[I" ∈ z_W := z_wi 208 (by decide +kernel) (by decide +kernel)
theorem wfX4_33 : Cond.fieldLink RX4 33 "PenGuild$Pieces" "gotThisYear" "[I" ∈ z_W := z_wi 211 (by decide +kernel) (by decide +kernel)
theorem wfX4_36 : Cond.fieldLink RX4 36 "PenGuild$Pieces" "size" "I" ∈ z_W := z_wi 190 (by decide +kernel) (by decide +kernel)
theorem wfX5_12 : Cond.fieldLink RX5 12 "PenGuild$State" "pens" "LPenGuild$Pens;" ∈ z_W := z_wi 242 (by decide +kernel) (by decide +kernel)
theorem wfX5_21 : Cond.fieldLink RX5 21 "PenGuild$State" "pieces" "LPenGuild$Pieces;" ∈ z_W := z_wi 245 (by decide +kernel) (by decide +kernel)
theorem wfX5_25 : Cond.fieldLinkNest RX5 25 "PenGuild" "FIRST_SETTINGS" "[I" "PenGuild" ∈ z_W := z_wi 233 (by decide +kernel) (by decide +kernel)
theorem wfX5_34 : Cond.fieldLink RX5 34 "PenGuild$State" "settings" "[I" ∈ z_W := z_wi 248 (by decide +kernel) (by decide +kernel)
theorem wfX5_48 : Cond.fieldLink RX5 48 "PenGuild$State" "year" "I" ∈ z_W := z_wi 251 (by decide +kernel) (by decide +kernel)
theorem wfX5_52 : Cond.fieldLink RX5 52 "PenGuild$State" "reserve" "I" ∈ z_W := z_wi 253 (by decide +kernel) (by decide +kernel)
theorem wfX5_55 : Cond.fieldLink RX5 55 "PenGuild$State" "cameIn" "I" ∈ z_W := z_wi 255 (by decide +kernel) (by decide +kernel)
theorem wfX5_58 : Cond.fieldLink RX5 58 "PenGuild$State" "overCap" "I" ∈ z_W := z_wi 257 (by decide +kernel) (by decide +kernel)
theorem wfX5_61 : Cond.fieldLink RX5 61 "PenGuild$State" "disputes" "I" ∈ z_W := z_wi 259 (by decide +kernel) (by decide +kernel)
theorem wfX5_64 : Cond.fieldLink RX5 64 "PenGuild$Pieces" "stage" "[I" ∈ z_W := z_wi 199 (by decide +kernel) (by decide +kernel)
theorem wfX5_67 : Cond.fieldLink RX5 67 "PenGuild$Pieces" "fee" "[I" ∈ z_W := z_wi 196 (by decide +kernel) (by decide +kernel)
theorem wfX6_11 : Cond.fieldLink RX6 11 "PenGuild" "ring" "[LPenGuild$State;" ∈ z_W := z_wi 278 (by decide +kernel) (by decide +kernel)
theorem wfX6_18 : Cond.fieldLink RX6 18 "PenGuild" "text" "LPenGuild$PartsText;" ∈ z_W := z_wi 282 (by decide +kernel) (by decide +kernel)
theorem wfX6_25 : Cond.fieldLink RX6 25 "PenGuild" "division" "LPenGuild$Division;" ∈ z_W := z_wi 283 (by decide +kernel) (by decide +kernel)
theorem wfX6_32 : Cond.fieldLink RX6 32 "PenGuild" "fair" "LPenGuild$FairParts;" ∈ z_W := z_wi 284 (by decide +kernel) (by decide +kernel)
theorem wfX6_36 : Cond.fieldLink RX6 36 "PenGuild" "best" "[I" ∈ z_W := z_wi 285 (by decide +kernel) (by decide +kernel)
theorem wfX6_40 : Cond.fieldLink RX6 40 "PenGuild" "bestGain" "[I" ∈ z_W := z_wi 286 (by decide +kernel) (by decide +kernel)
theorem wfX6_44 : Cond.fieldLink RX6 44 "PenGuild" "now" "LPenGuild$State;" ∈ z_W := z_wi 281 (by decide +kernel) (by decide +kernel)
theorem wfX6_48 : Cond.fieldLink RX6 48 "PenGuild$State" "pens" "LPenGuild$Pens;" ∈ z_W := z_wi 243 (by decide +kernel) (by decide +kernel)
theorem wfX6_52 : Cond.fieldLink RX6 52 "PenGuild$Pens" "size" "I" ∈ z_W := z_wi 155 (by decide +kernel) (by decide +kernel)
theorem wfX6_68 : Cond.fieldLink RX6 68 "PenGuild$Pens" "owner" "[I" ∈ z_W := z_wi 163 (by decide +kernel) (by decide +kernel)
theorem wfX6_85 : Cond.fieldLink RX6 85 "PenGuild$Pens" "balance" "[I" ∈ z_W := z_wi 157 (by decide +kernel) (by decide +kernel)
theorem wfX6_97 : Cond.fieldLink RX6 97 "PenGuild$Pens" "price" "[I" ∈ z_W := z_wi 166 (by decide +kernel) (by decide +kernel)
theorem wfX6_100 : Cond.fieldLink RX6 100 "PenGuild$State" "reserve" "I" ∈ z_W := z_wi 254 (by decide +kernel) (by decide +kernel)
theorem wfX6_103 : Cond.fieldLink RX6 103 "PenGuild$Pens" "owed" "[I" ∈ z_W := z_wi 159 (by decide +kernel) (by decide +kernel)
theorem wfX6_106 : Cond.fieldLink RX6 106 "PenGuild$Pens" "paidOut" "[I" ∈ z_W := z_wi 168 (by decide +kernel) (by decide +kernel)
theorem wfX6_112 : Cond.fieldLink RX6 112 "PenGuild" "GREATEST_SETTINGS" "[I" ∈ z_W := z_wi 685 (by decide +kernel) (by decide +kernel)
theorem wfX6_115 : Cond.fieldLink RX6 115 "PenGuild$State" "settings" "[I" ∈ z_W := z_wi 250 (by decide +kernel) (by decide +kernel)
theorem wfX6_118 : Cond.fieldLink RX6 118 "PenGuild$State" "year" "I" ∈ z_W := z_wi 252 (by decide +kernel) (by decide +kernel)
theorem wfX6_121 : Cond.fieldLink RX6 121 "PenGuild$State" "pieces" "LPenGuild$Pieces;" ∈ z_W := z_wi 247 (by decide +kernel) (by decide +kernel)
theorem wfX6_125 : Cond.fieldLink RX6 125 "PenGuild$Pieces" "gotThisYear" "[I" ∈ z_W := z_wi 213 (by decide +kernel) (by decide +kernel)
theorem wfX6_136 : Cond.fieldLink RX6 136 "PenGuild$Pieces" "size" "I" ∈ z_W := z_wi 191 (by decide +kernel) (by decide +kernel)
theorem wfX6_155 : Cond.fieldLink RX6 155 "PenGuild$Pieces" "drafts" "[I" ∈ z_W := z_wi 210 (by decide +kernel) (by decide +kernel)
theorem wfX6_161 : Cond.fieldLink RX6 161 "PenGuild$Pieces" "stage" "[I" ∈ z_W := z_wi 200 (by decide +kernel) (by decide +kernel)
theorem wfX6_164 : Cond.fieldLink RX6 164 "PenGuild$Pieces" "fee" "[I" ∈ z_W := z_wi 197 (by decide +kernel) (by decide +kernel)
theorem wfX6_167 : Cond.fieldLink RX6 167 "PenGuild$Pieces" "contract" "[I" ∈ z_W := z_wi 202 (by decide +kernel) (by decide +kernel)
theorem wfX6_182 : Cond.fieldLink RX6 182 "PenGuild$PartsText" "parts" "[I" ∈ z_W := z_wi 66 (by decide +kernel) (by decide +kernel)
theorem wfX6_189 : Cond.fieldLink RX6 189 "PenGuild$PartsText" "length" "I" ∈ z_W := z_wi 64 (by decide +kernel) (by decide +kernel)
theorem wfX6_213 : Cond.fieldLink RX6 213 "PenGuild$Pieces" "royalties" "[I" ∈ z_W := z_wi 204 (by decide +kernel) (by decide +kernel)
theorem wfX6_216 : Cond.fieldLink RX6 216 "PenGuild$Division" "byParts" "[I" ∈ z_W := z_wi 102 (by decide +kernel) (by decide +kernel)
theorem wfX6_222 : Cond.fieldLink RX6 222 "PenGuild$State" "overCap" "I" ∈ z_W := z_wi 258 (by decide +kernel) (by decide +kernel)
theorem wfX6_225 : Cond.fieldLink RX6 225 "PenGuild$Division" "overCap" "I" ∈ z_W := z_wi 96 (by decide +kernel) (by decide +kernel)
theorem wfX6_238 : Cond.fieldLink RX6 238 "PenGuild$State" "disputes" "I" ∈ z_W := z_wi 260 (by decide +kernel) (by decide +kernel)
theorem wfX6_241 : Cond.fieldLink RX6 241 "PenGuild$Pieces" "parts" "[I" ∈ z_W := z_wi 207 (by decide +kernel) (by decide +kernel)
theorem wfX6_244 : Cond.fieldLink RX6 244 "PenGuild$PartsText" "codes" "[I" ∈ z_W := z_wi 62 (by decide +kernel) (by decide +kernel)
theorem wfX6_250 : Cond.fieldLink RX6 250 "PenGuild" "saved" "I" ∈ z_W := z_wi 280 (by decide +kernel) (by decide +kernel)
theorem wfX6_255 : Cond.fieldLink RX6 255 "PenGuild" "present" "I" ∈ z_W := z_wi 279 (by decide +kernel) (by decide +kernel)
theorem wfX6_258 : Cond.fieldLink RX6 258 "PenGuild$Pens" "income" "[I" ∈ z_W := z_wi 161 (by decide +kernel) (by decide +kernel)
theorem wfX6_270 : Cond.fieldLink RX6 270 "PenGuild$Pieces" "byline" "[I" ∈ z_W := z_wi 194 (by decide +kernel) (by decide +kernel)
theorem wfX6_276 : Cond.fieldLink RX6 276 "PenGuild$State" "cameIn" "I" ∈ z_W := z_wi 256 (by decide +kernel) (by decide +kernel)
theorem wfX6_296 : Cond.fieldLink RX6 296 "PenGuild$FairParts" "parts" "[I" ∈ z_W := z_wi 124 (by decide +kernel) (by decide +kernel)
theorem wfX6_353 : Cond.fieldLink RX6 353 "PenGuild$Division" "byPercent" "I" ∈ z_W := z_wi 94 (by decide +kernel) (by decide +kernel)
theorem wfX6_356 : Cond.fieldLink RX6 356 "PenGuild$Division" "bylineOwner" "I" ∈ z_W := z_wi 98 (by decide +kernel) (by decide +kernel)
theorem wfX6_359 : Cond.fieldLink RX6 359 "PenGuild$Division" "toByline" "I" ∈ z_W := z_wi 100 (by decide +kernel) (by decide +kernel)
theorem wmL_8 : Cond.methodLink RL 8 yL_four ∈ z_W := z_wi 450 (by decide +kernel) (by decide +kernel)
theorem wmL_14 : Cond.methodLink RL 14 yL_gets ∈ z_W := z_wi 570 (by decide +kernel) (by decide +kernel)
theorem wmL_18 : Cond.methodLink RL 18 yL_share ∈ z_W := z_wi 573 (by decide +kernel) (by decide +kernel)
theorem wmL_22 : Cond.methodLink RL 22 yX6_pen ∈ z_W := z_wi 405 (by decide +kernel) (by decide +kernel)
theorem wmL_28 : Cond.methodLink RL 28 yL_quarrels ∈ z_W := z_wi 447 (by decide +kernel) (by decide +kernel)
theorem wmL_32 : Cond.methodLink RL 32 yX6_between ∈ z_W := z_wi 453 (by decide +kernel) (by decide +kernel)
theorem wmL_36 : Cond.methodLink RL 36 yX6_piece ∈ z_W := z_wi 463 (by decide +kernel) (by decide +kernel)
theorem wmL_39 : Cond.methodLink RL 39 yL_kill ∈ z_W := z_wi 492 (by decide +kernel) (by decide +kernel)
theorem wmL_43 : Cond.methodLink RL 43 yL_pens ∈ z_W := z_wi 402 (by decide +kernel) (by decide +kernel)
theorem wmL_47 : Cond.methodLink RL 47 yL_pieces ∈ z_W := z_wi 444 (by decide +kernel) (by decide +kernel)
theorem wmL_51 : Cond.methodLink RL 51 yX6_setting ∈ z_W := z_wi 495 (by decide +kernel) (by decide +kernel)
theorem wmL_55 : Cond.methodLink RL 55 yX6_count ∈ z_W := z_wi 306 (by decide +kernel) (by decide +kernel)
theorem wmL_58 : Cond.methodLink RL 58 yL_sum ∈ z_W := z_wi 503 (by decide +kernel) (by decide +kernel)
theorem wmL_61 : Cond.methodLink RL 61 yX6_spread ∈ z_W := z_wi 506 (by decide +kernel) (by decide +kernel)
theorem wmL_65 : Cond.methodLink RL 65 yL_at ∈ z_W := z_wi 396 (by decide +kernel) (by decide +kernel)
theorem wmL_68 : Cond.methodLink RL 68 yX6_fairest ∈ z_W := z_wi 520 (by decide +kernel) (by decide +kernel)
theorem wmL_71 : Cond.methodLink RL 71 yL_fair ∈ z_W := z_wi 561 (by decide +kernel) (by decide +kernel)
theorem wmL_75 : Cond.methodLink RL 75 yL_same ∈ z_W := z_wi 564 (by decide +kernel) (by decide +kernel)
theorem wmL_79 : Cond.methodLink RL 79 yL_comes ∈ z_W := z_wi 567 (by decide +kernel) (by decide +kernel)
theorem wmL_83 : Cond.methodLink RL 83 yX6_ifPaid ∈ z_W := z_wi 576 (by decide +kernel) (by decide +kernel)
theorem wmL_86 : Cond.methodLink RL 86 yX6_bestPiece ∈ z_W := z_wi 634 (by decide +kernel) (by decide +kernel)
theorem wmL_90 : Cond.methodLink RL 90 yX6_sell ∈ z_W := z_wi 695 (by decide +kernel) (by decide +kernel)
theorem wmL_93 : Cond.methodLink RL 93 yX6_buyBack ∈ z_W := z_wi 708 (by decide +kernel) (by decide +kernel)
theorem wmL_96 : Cond.methodLink RL 96 yX6_advance ∈ z_W := z_wi 713 (by decide +kernel) (by decide +kernel)
theorem wmL_99 : Cond.methodLink RL 99 yX6_withdraw ∈ z_W := z_wi 717 (by decide +kernel) (by decide +kernel)
theorem wmL_102 : Cond.methodLink RL 102 yX6_clearBuffer ∈ z_W := z_wi 747 (by decide +kernel) (by decide +kernel)
theorem wmL_106 : Cond.methodLink RL 106 yX6_append ∈ z_W := z_wi 751 (by decide +kernel) (by decide +kernel)
theorem wmL_109 : Cond.methodLink RL 109 yX6_share ∈ z_W := z_wi 756 (by decide +kernel) (by decide +kernel)
theorem wmL_111 : Cond.methodLink RL 111 yX6_addPen ∈ z_W := z_wi 652 (by decide +kernel) (by decide +kernel)
theorem wmL_114 : Cond.methodLink RL 114 yX6_set ∈ z_W := z_wi 681 (by decide +kernel) (by decide +kernel)
theorem wmL_117 : Cond.methodLink RL 117 yX6_nextYear ∈ z_W := z_wi 687 (by decide +kernel) (by decide +kernel)
theorem wmL_120 : Cond.methodLink RL 120 yL_money ∈ z_W := z_wi 691 (by decide +kernel) (by decide +kernel)
theorem wmL_124 : Cond.methodLink RL 124 yX6_order ∈ z_W := z_wi 721 (by decide +kernel) (by decide +kernel)
theorem wmL_127 : Cond.methodLink RL 127 yX6_draft ∈ z_W := z_wi 730 (by decide +kernel) (by decide +kernel)
theorem wmL_130 : Cond.methodLink RL 130 yX6_revise ∈ z_W := z_wi 740 (by decide +kernel) (by decide +kernel)
theorem wmL_133 : Cond.methodLink RL 133 yL_parts ∈ z_W := z_wi 744 (by decide +kernel) (by decide +kernel)
theorem wmL_137 : Cond.methodLink RL 137 yX6_accept ∈ z_W := z_wi 815 (by decide +kernel) (by decide +kernel)
theorem wmL_140 : Cond.methodLink RL 140 yX6_kill ∈ z_W := z_wi 833 (by decide +kernel) (by decide +kernel)
theorem wmL_142 : Cond.methodLink RL 142 yX6_royalty ∈ z_W := z_wi 837 (by decide +kernel) (by decide +kernel)
theorem wmL_145 : Cond.methodLink RL 145 yX6_dispute ∈ z_W := z_wi 845 (by decide +kernel) (by decide +kernel)
theorem wmL_149 : Cond.methodLink RL 149 yL_told ∈ z_W := z_wi 399 (by decide +kernel) (by decide +kernel)
theorem wmL_153 : Cond.methodLink RL 153 yL_cell ∈ z_W := z_wi 392 (by decide +kernel) (by decide +kernel)
theorem wmL_157 : Cond.methodLink RL 157 yL_act ∈ z_W := z_wi 649 (by decide +kernel) (by decide +kernel)
theorem wmL_161 : Cond.methodLink RL 161 yL_ahead ∈ z_W := z_wi 517 (by decide +kernel) (by decide +kernel)
theorem wmX0_18 : Cond.methodLink RX0 18 yX0_begin ∈ z_W := z_wi 605 (by decide +kernel) (by decide +kernel)
theorem wmX0_32 : Cond.methodLink RX0 32 yX0_split ∈ z_W := z_wi 609 (by decide +kernel) (by decide +kernel)
theorem wmX0_42 : Cond.methodLink RX0 42 yX0_cutToCap ∈ z_W := z_wi 620 (by decide +kernel) (by decide +kernel)
theorem wmX0_65 : Cond.methodLink RX0 65 yX4_allParts ∈ z_W := z_wi 613 (by decide +kernel) (by decide +kernel)
theorem wmX0_69 : Cond.methodLink RX0 69 yJ9_max_7cf53 ∈ z_W := z_wi 614 (by decide +kernel) (by decide +kernel)
theorem wmX0_78 : Cond.methodLinkNest RX0 78 yX6_at "PenGuild" ∈ z_W := z_wi 615 (by decide +kernel) (by decide +kernel)
theorem wmX0_81 : Cond.methodLink RX0 81 yX0_giveUnit ∈ z_W := z_wi 616 (by decide +kernel) (by decide +kernel)
theorem wmX1_24 : Cond.methodLink RX1 24 yX1_begin ∈ z_W := z_wi 528 (by decide +kernel) (by decide +kernel)
theorem wmX1_32 : Cond.methodLink RX1 32 yX1_setTrial ∈ z_W := z_wi 545 (by decide +kernel) (by decide +kernel)
theorem wmX1_36 : Cond.methodLink RX1 36 yX1_gap ∈ z_W := z_wi 549 (by decide +kernel) (by decide +kernel)
theorem wmX1_39 : Cond.methodLink RX1 39 yX1_keepTrial ∈ z_W := z_wi 557 (by decide +kernel) (by decide +kernel)
theorem wmX1_42 : Cond.methodLink RX1 42 yX4_writers ∈ z_W := z_wi 532 (by decide +kernel) (by decide +kernel)
theorem wmX1_49 : Cond.methodLinkNest RX1 49 yX6_isIn "PenGuild" ∈ z_W := z_wi 543 (by decide +kernel) (by decide +kernel)
theorem wmX1_54 : Cond.methodLinkNest RX1 54 yX6_at "PenGuild" ∈ z_W := z_wi 544 (by decide +kernel) (by decide +kernel)
theorem wmX1_58 : Cond.methodLink RX1 58 yJ9_abs_0f7a4 ∈ z_W := z_wi 553 (by decide +kernel) (by decide +kernel)
theorem wmX1_63 : Cond.methodLink RX1 63 yJ9_max_7cf53 ∈ z_W := z_wi 554 (by decide +kernel) (by decide +kernel)
theorem wmX2_18 : Cond.methodLink RX2 18 yX2_readToError ∈ z_W := z_wi 764 (by decide +kernel) (by decide +kernel)
theorem wmX2_32 : Cond.methodLink RX2 32 yX2_endItem ∈ z_W := z_wi 797 (by decide +kernel) (by decide +kernel)
theorem wmX2_35 : Cond.methodLink RX2 35 yJ7_fill_53178 ∈ z_W := z_wi 768 (by decide +kernel) (by decide +kernel)
theorem wmX2_47 : Cond.methodLink RX2 47 yX2_takes ∈ z_W := z_wi 769 (by decide +kernel) (by decide +kernel)
theorem wmX2_51 : Cond.methodLink RX2 51 yX2_takesDigit ∈ z_W := z_wi 773 (by decide +kernel) (by decide +kernel)
theorem wmX2_54 : Cond.methodLink RX2 54 yX2_takesAfterOne ∈ z_W := z_wi 785 (by decide +kernel) (by decide +kernel)
theorem wmX2_57 : Cond.methodLink RX2 57 yX2_takesStar ∈ z_W := z_wi 789 (by decide +kernel) (by decide +kernel)
theorem wmX2_60 : Cond.methodLink RX2 60 yX2_takesComma ∈ z_W := z_wi 793 (by decide +kernel) (by decide +kernel)
theorem wmX2_63 : Cond.methodLink RX2 63 yX2_takesFactor ∈ z_W := z_wi 801 (by decide +kernel) (by decide +kernel)
theorem wmX2_66 : Cond.methodLink RX2 66 yX2_takesOne ∈ z_W := z_wi 777 (by decide +kernel) (by decide +kernel)
theorem wmX2_70 : Cond.methodLink RX2 70 yX2_takesPen ∈ z_W := z_wi 781 (by decide +kernel) (by decide +kernel)
theorem wmX3_34 : Cond.methodLinkNest RX3 34 yX6_copyRow "PenGuild" ∈ z_W := z_wi 669 (by decide +kernel) (by decide +kernel)
theorem wmX3_38 : Cond.methodLinkNest RX3 38 yX6_withheld "PenGuild" ∈ z_W := z_wi 832 (by decide +kernel) (by decide +kernel)
theorem wmX3_42 : Cond.methodLink RX3 42 yJ9_abs_0f7a4 ∈ z_W := z_wi 514 (by decide +kernel) (by decide +kernel)
theorem wmX4_40 : Cond.methodLinkNest RX4 40 yX6_copyRow "PenGuild" ∈ z_W := z_wi 679 (by decide +kernel) (by decide +kernel)
theorem wmX4_44 : Cond.methodLinkNest RX4 44 yX6_at "PenGuild" ∈ z_W := z_wi 437 (by decide +kernel) (by decide +kernel)
theorem wmX4_48 : Cond.methodLinkNest RX4 48 yX6_sumOf "PenGuild" ∈ z_W := z_wi 471 (by decide +kernel) (by decide +kernel)
theorem wmX4_52 : Cond.methodLink RX4 52 yX4_allParts ∈ z_W := z_wi 490 (by decide +kernel) (by decide +kernel)
theorem wmX4_56 : Cond.methodLink RX4 56 yX4_allDrafts ∈ z_W := z_wi 491 (by decide +kernel) (by decide +kernel)
theorem wmX4_59 : Cond.methodLink RX4 59 yX4_writers ∈ z_W := z_wi 855 (by decide +kernel) (by decide +kernel)
theorem wmX4_62 : Cond.methodLinkNest RX4 62 yX6_isIn "PenGuild" ∈ z_W := z_wi 540 (by decide +kernel) (by decide +kernel)
theorem wmX4_66 : Cond.methodLink RX4 66 yX4_writerWithMost ∈ z_W := z_wi 536 (by decide +kernel) (by decide +kernel)
theorem wmX5_37 : Cond.methodLink RX5 37 yX3_copyFrom ∈ z_W := z_wi 665 (by decide +kernel) (by decide +kernel)
theorem wmX5_41 : Cond.methodLink RX5 41 yX4_copyFrom ∈ z_W := z_wi 675 (by decide +kernel) (by decide +kernel)
theorem wmX5_44 : Cond.methodLinkNest RX5 44 yX6_copyRow "PenGuild" ∈ z_W := z_wi 680 (by decide +kernel) (by decide +kernel)
theorem wmX6_65 : Cond.methodLink RX6 65 yX6_save ∈ z_W := z_wi 657 (by decide +kernel) (by decide +kernel)
theorem wmX6_71 : Cond.methodLink RX6 71 yX6_needPen ∈ z_W := z_wi 409 (by decide +kernel) (by decide +kernel)
theorem wmX6_76 : Cond.methodLink RX6 76 yX6_needRange ∈ z_W := z_wi 310 (by decide +kernel) (by decide +kernel)
theorem wmX6_88 : Cond.methodLink RX6 88 yX6_needAtLeast ∈ z_W := z_wi 700 (by decide +kernel) (by decide +kernel)
theorem wmX6_92 : Cond.methodLink RX6 92 yX3_passByline ∈ z_W := z_wi 704 (by decide +kernel) (by decide +kernel)
theorem wmX6_109 : Cond.methodLink RX6 109 yX6_needSetting ∈ z_W := z_wi 499 (by decide +kernel) (by decide +kernel)
theorem wmX6_130 : Cond.methodLink RX6 130 yJ7_fill_53178 ∈ z_W := z_wi 642 (by decide +kernel) (by decide +kernel)
theorem wmX6_139 : Cond.methodLink RX6 139 yX4_begin ∈ z_W := z_wi 726 (by decide +kernel) (by decide +kernel)
theorem wmX6_143 : Cond.methodLink RX6 143 yX6_needPiece ∈ z_W := z_wi 457 (by decide +kernel) (by decide +kernel)
theorem wmX6_146 : Cond.methodLink RX6 146 yX6_needUnended ∈ z_W := z_wi 734 (by decide +kernel) (by decide +kernel)
theorem wmX6_149 : Cond.methodLink RX6 149 yX4_allDrafts ∈ z_W := z_wi 467 (by decide +kernel) (by decide +kernel)
theorem wmX6_158 : Cond.methodLink RX6 158 yX6_at ∈ z_W := z_wi 462 (by decide +kernel) (by decide +kernel)
theorem wmX6_170 : Cond.methodLink RX6 170 yX2_isList ∈ z_W := z_wi 760 (by decide +kernel) (by decide +kernel)
theorem wmX6_174 : Cond.methodLink RX6 174 yX2_greatestPen ∈ z_W := z_wi 805 (by decide +kernel) (by decide +kernel)
theorem wmX6_185 : Cond.methodLink RX6 185 yX4_takeParts ∈ z_W := z_wi 811 (by decide +kernel) (by decide +kernel)
theorem wmX6_192 : Cond.methodLink RX6 192 yX4_allParts ∈ z_W := z_wi 478 (by decide +kernel) (by decide +kernel)
theorem wmX6_197 : Cond.methodLink RX6 197 yX0_divideFee ∈ z_W := z_wi 820 (by decide +kernel) (by decide +kernel)
theorem wmX6_201 : Cond.methodLink RX6 201 yX6_bringIn ∈ z_W := z_wi 824 (by decide +kernel) (by decide +kernel)
theorem wmX6_204 : Cond.methodLink RX6 204 yX5_killFee ∈ z_W := z_wi 482 (by decide +kernel) (by decide +kernel)
theorem wmX6_207 : Cond.methodLink RX6 207 yX6_needAccepted ∈ z_W := z_wi 581 (by decide +kernel) (by decide +kernel)
theorem wmX6_210 : Cond.methodLink RX6 210 yX0_divideRoyalty ∈ z_W := z_wi 601 (by decide +kernel) (by decide +kernel)
theorem wmX6_219 : Cond.methodLink RX6 219 yX4_addToYear ∈ z_W := z_wi 841 (by decide +kernel) (by decide +kernel)
theorem wmX6_226 : Cond.methodLink RX6 226 yX4_disputers ∈ z_W := z_wi 486 (by decide +kernel) (by decide +kernel)
theorem wmX6_229 : Cond.methodLink RX6 229 yX6_isIn ∈ z_W := z_wi 849 (by decide +kernel) (by decide +kernel)
theorem wmX6_235 : Cond.methodLink RX6 235 yX4_takePartsFromDrafts ∈ z_W := z_wi 851 (by decide +kernel) (by decide +kernel)
theorem wmX6_261 : Cond.methodLink RX6 261 yX3_bylinesOf ∈ z_W := z_wi 429 (by decide +kernel) (by decide +kernel)
theorem wmX6_264 : Cond.methodLink RX6 264 yX4_draftsBy ∈ z_W := z_wi 433 (by decide +kernel) (by decide +kernel)
theorem wmX6_267 : Cond.methodLink RX6 267 yX3_placeOf ∈ z_W := z_wi 440 (by decide +kernel) (by decide +kernel)
theorem wmX6_273 : Cond.methodLink RX6 273 yX4_sharers ∈ z_W := z_wi 474 (by decide +kernel) (by decide +kernel)
theorem wmX6_279 : Cond.methodLink RX6 279 yX6_sum ∈ z_W := z_wi 381 (by decide +kernel) (by decide +kernel)
theorem wmX6_283 : Cond.methodLink RX6 283 yX4_inStage ∈ z_W := z_wi 384 (by decide +kernel) (by decide +kernel)
theorem wmX6_286 : Cond.methodLink RX6 286 yX3_bylinesAway ∈ z_W := z_wi 388 (by decide +kernel) (by decide +kernel)
theorem wmX6_289 : Cond.methodLink RX6 289 yX6_gainOf ∈ z_W := z_wi 624 (by decide +kernel) (by decide +kernel)
theorem wmX6_292 : Cond.methodLink RX6 292 yX1_find ∈ z_W := z_wi 524 (by decide +kernel) (by decide +kernel)
theorem wmX6_297 : Cond.methodLink RX6 297 yX6_findBest ∈ z_W := z_wi 638 (by decide +kernel) (by decide +kernel)
theorem wmX6_300 : Cond.methodLink RX6 300 yX3_differences ∈ z_W := z_wi 510 (by decide +kernel) (by decide +kernel)
theorem wmX6_344 : Cond.methodLink RX6 344 yX5_copyFrom ∈ z_W := z_wi 661 (by decide +kernel) (by decide +kernel)
theorem wmX6_348 : Cond.methodLink RX6 348 yJ9_min_7cf53 ∈ z_W := z_wi 631 (by decide +kernel) (by decide +kernel)
theorem wmX6_362 : Cond.methodLink RX6 362 yX3_earn ∈ z_W := z_wi 828 (by decide +kernel) (by decide +kernel)
theorem wmX6_365 : Cond.methodLink RX6 365 yX6_withheld ∈ z_W := z_wi 628 (by decide +kernel) (by decide +kernel)
theorem wmX6_368 : Cond.methodLink RX6 368 yX6_preferIfBetter ∈ z_W := z_wi 645 (by decide +kernel) (by decide +kernel)
set_option maxRecDepth 100000 in
theorem wc_J7_fill_53178 : Cond.code yJ7_fill_53178 cJ7_fill_53178 4 none ∈ z_W := z_wi 644 (by rfl) (by decide +kernel)
theorem wt_J7_fill_53178 : Cond.static yJ7_fill_53178 ∈ z_W := z_wi 643 (by decide +kernel) (by decide +kernel)
set_option maxRecDepth 100000 in
theorem wc_J9_abs_0f7a4 : Cond.code yJ9_abs_0f7a4 cJ9_abs_0f7a4 1 (some .int) ∈ z_W := z_wi 516 (by rfl) (by decide +kernel)
theorem wt_J9_abs_0f7a4 : Cond.static yJ9_abs_0f7a4 ∈ z_W := z_wi 515 (by decide +kernel) (by decide +kernel)
set_option maxRecDepth 100000 in
theorem wc_J9_max_7cf53 : Cond.code yJ9_max_7cf53 cJ9_max_7cf53 2 (some .int) ∈ z_W := z_wi 556 (by rfl) (by decide +kernel)
theorem wt_J9_max_7cf53 : Cond.static yJ9_max_7cf53 ∈ z_W := z_wi 555 (by decide +kernel) (by decide +kernel)
set_option maxRecDepth 100000 in
theorem wc_J9_min_7cf53 : Cond.code yJ9_min_7cf53 cJ9_min_7cf53 2 (some .int) ∈ z_W := z_wi 633 (by rfl) (by decide +kernel)
theorem wt_J9_min_7cf53 : Cond.static yJ9_min_7cf53 ∈ z_W := z_wi 632 (by decide +kernel) (by decide +kernel)
set_option maxRecDepth 100000 in
theorem wc_L_act : Cond.code yL_act cL_act 15 (some .boolean) ∈ z_W := z_wi 651 (by rfl) (by decide +kernel)
theorem wt_L_act : Cond.static yL_act ∈ z_W := z_wi 650 (by decide +kernel) (by decide +kernel)
set_option maxRecDepth 100000 in
theorem wc_L_ahead : Cond.code yL_ahead cL_ahead 19 (some .boolean) ∈ z_W := z_wi 519 (by rfl) (by decide +kernel)
theorem wt_L_ahead : Cond.static yL_ahead ∈ z_W := z_wi 518 (by decide +kernel) (by decide +kernel)
set_option maxRecDepth 100000 in
theorem wc_L_at : Cond.code yL_at cL_at 2 (some .int) ∈ z_W := z_wi 398 (by rfl) (by decide +kernel)
theorem wt_L_at : Cond.static yL_at ∈ z_W := z_wi 397 (by decide +kernel) (by decide +kernel)
set_option maxRecDepth 100000 in
theorem wc_L_cell : Cond.code yL_cell cL_cell 2 (some .int) ∈ z_W := z_wi 394 (by rfl) (by decide +kernel)
theorem wt_L_cell : Cond.static yL_cell ∈ z_W := z_wi 393 (by decide +kernel) (by decide +kernel)
set_option maxRecDepth 100000 in
theorem wc_L_comes : Cond.code yL_comes cL_comes 16 (some .int) ∈ z_W := z_wi 569 (by rfl) (by decide +kernel)
theorem wt_L_comes : Cond.static yL_comes ∈ z_W := z_wi 568 (by decide +kernel) (by decide +kernel)
set_option maxRecDepth 100000 in
theorem wc_L_fair : Cond.code yL_fair cL_fair 13 (some .int) ∈ z_W := z_wi 563 (by rfl) (by decide +kernel)
theorem wt_L_fair : Cond.static yL_fair ∈ z_W := z_wi 562 (by decide +kernel) (by decide +kernel)
set_option maxRecDepth 100000 in
theorem wc_L_four : Cond.code yL_four cL_four 2 (some .int) ∈ z_W := z_wi 452 (by rfl) (by decide +kernel)
theorem wt_L_four : Cond.static yL_four ∈ z_W := z_wi 451 (by decide +kernel) (by decide +kernel)
set_option maxRecDepth 100000 in
theorem wc_L_gets : Cond.code yL_gets cL_gets 5 (some .int) ∈ z_W := z_wi 572 (by rfl) (by decide +kernel)
theorem wt_L_gets : Cond.static yL_gets ∈ z_W := z_wi 571 (by decide +kernel) (by decide +kernel)
set_option maxRecDepth 100000 in
theorem wc_L_kill : Cond.code yL_kill cL_kill 3 (some .int) ∈ z_W := z_wi 494 (by rfl) (by decide +kernel)
theorem wt_L_kill : Cond.static yL_kill ∈ z_W := z_wi 493 (by decide +kernel) (by decide +kernel)
set_option maxRecDepth 100000 in
theorem wc_L_money : Cond.code yL_money cL_money 10 (some .boolean) ∈ z_W := z_wi 693 (by rfl) (by decide +kernel)
theorem wt_L_money : Cond.static yL_money ∈ z_W := z_wi 692 (by decide +kernel) (by decide +kernel)
set_option maxRecDepth 100000 in
theorem wc_L_parts : Cond.code yL_parts cL_parts 13 (some .boolean) ∈ z_W := z_wi 746 (by rfl) (by decide +kernel)
theorem wt_L_parts : Cond.static yL_parts ∈ z_W := z_wi 745 (by decide +kernel) (by decide +kernel)
set_option maxRecDepth 100000 in
theorem wc_L_pens : Cond.code yL_pens cL_pens 9 (some .boolean) ∈ z_W := z_wi 404 (by rfl) (by decide +kernel)
theorem wt_L_pens : Cond.static yL_pens ∈ z_W := z_wi 403 (by decide +kernel) (by decide +kernel)
set_option maxRecDepth 100000 in
theorem wc_L_pieces : Cond.code yL_pieces cL_pieces 11 (some .boolean) ∈ z_W := z_wi 446 (by rfl) (by decide +kernel)
theorem wt_L_pieces : Cond.static yL_pieces ∈ z_W := z_wi 445 (by decide +kernel) (by decide +kernel)
set_option maxRecDepth 100000 in
theorem wc_L_quarrels : Cond.code yL_quarrels cL_quarrels 5 (some .boolean) ∈ z_W := z_wi 449 (by rfl) (by decide +kernel)
theorem wt_L_quarrels : Cond.static yL_quarrels ∈ z_W := z_wi 448 (by decide +kernel) (by decide +kernel)
set_option maxRecDepth 100000 in
theorem wc_L_same : Cond.code yL_same cL_same 3 none ∈ z_W := z_wi 566 (by rfl) (by decide +kernel)
theorem wt_L_same : Cond.static yL_same ∈ z_W := z_wi 565 (by decide +kernel) (by decide +kernel)
set_option maxRecDepth 100000 in
theorem wc_L_share : Cond.code yL_share cL_share 10 (some .int) ∈ z_W := z_wi 575 (by rfl) (by decide +kernel)
theorem wt_L_share : Cond.static yL_share ∈ z_W := z_wi 574 (by decide +kernel) (by decide +kernel)
set_option maxRecDepth 100000 in
theorem wc_L_sum : Cond.code yL_sum cL_sum 5 (some .int) ∈ z_W := z_wi 505 (by rfl) (by decide +kernel)
theorem wt_L_sum : Cond.static yL_sum ∈ z_W := z_wi 504 (by decide +kernel) (by decide +kernel)
set_option maxRecDepth 100000 in
theorem wc_L_told : Cond.code yL_told cL_told 13 (some .boolean) ∈ z_W := z_wi 401 (by rfl) (by decide +kernel)
theorem wt_L_told : Cond.static yL_told ∈ z_W := z_wi 400 (by decide +kernel) (by decide +kernel)
set_option maxRecDepth 100000 in
theorem wc_X0_begin : Cond.code yX0_begin cX0_begin 4 none ∈ z_W := z_wi 608 (by rfl) (by decide +kernel)
theorem wi_X0_begin : Cond.instanceMethod yX0_begin ∈ z_W := z_wi 607 (by decide +kernel) (by decide +kernel)
theorem ws_X0_begin : Cond.selects RX0 yX0_begin yX0_begin ∈ z_W := z_wi 9 (by decide +kernel) (by decide +kernel)
set_option maxRecDepth 100000 in
theorem wc_X0_cutToCap : Cond.code yX0_cutToCap cX0_cutToCap 7 none ∈ z_W := z_wi 623 (by rfl) (by decide +kernel)
theorem wi_X0_cutToCap : Cond.instanceMethod yX0_cutToCap ∈ z_W := z_wi 622 (by decide +kernel) (by decide +kernel)
theorem ws_X0_cutToCap : Cond.selects RX0 yX0_cutToCap yX0_cutToCap ∈ z_W := z_wi 12 (by decide +kernel) (by decide +kernel)
set_option maxRecDepth 100000 in
theorem wc_X0_divideFee : Cond.code yX0_divideFee cX0_divideFee 4 none ∈ z_W := z_wi 823 (by rfl) (by decide +kernel)
theorem wi_X0_divideFee : Cond.instanceMethod yX0_divideFee ∈ z_W := z_wi 821 (by decide +kernel) (by decide +kernel)
theorem ws_X0_divideFee : Cond.selects RX0 yX0_divideFee yX0_divideFee ∈ z_W := z_wi 822 (by decide +kernel) (by decide +kernel)
set_option maxRecDepth 100000 in
theorem wc_X0_divideRoyalty : Cond.code yX0_divideRoyalty cX0_divideRoyalty 4 none ∈ z_W := z_wi 604 (by rfl) (by decide +kernel)
theorem wi_X0_divideRoyalty : Cond.instanceMethod yX0_divideRoyalty ∈ z_W := z_wi 602 (by decide +kernel) (by decide +kernel)
theorem ws_X0_divideRoyalty : Cond.selects RX0 yX0_divideRoyalty yX0_divideRoyalty ∈ z_W := z_wi 603 (by decide +kernel) (by decide +kernel)
set_option maxRecDepth 100000 in
theorem wc_X0_giveUnit : Cond.code yX0_giveUnit cX0_giveUnit 3 none ∈ z_W := z_wi 619 (by rfl) (by decide +kernel)
theorem wi_X0_giveUnit : Cond.instanceMethod yX0_giveUnit ∈ z_W := z_wi 618 (by decide +kernel) (by decide +kernel)
theorem ws_X0_giveUnit : Cond.selects RX0 yX0_giveUnit yX0_giveUnit ∈ z_W := z_wi 11 (by decide +kernel) (by decide +kernel)
set_option maxRecDepth 100000 in
theorem wc_X0_split : Cond.code yX0_split cX0_split 8 none ∈ z_W := z_wi 612 (by rfl) (by decide +kernel)
theorem wi_X0_split : Cond.instanceMethod yX0_split ∈ z_W := z_wi 611 (by decide +kernel) (by decide +kernel)
theorem ws_X0_split : Cond.selects RX0 yX0_split yX0_split ∈ z_W := z_wi 10 (by decide +kernel) (by decide +kernel)
set_option maxRecDepth 100000 in
theorem wc_X1_begin : Cond.code yX1_begin cX1_begin 5 none ∈ z_W := z_wi 531 (by rfl) (by decide +kernel)
theorem wi_X1_begin : Cond.instanceMethod yX1_begin ∈ z_W := z_wi 530 (by decide +kernel) (by decide +kernel)
theorem ws_X1_begin : Cond.selects RX1 yX1_begin yX1_begin ∈ z_W := z_wi 3 (by decide +kernel) (by decide +kernel)
set_option maxRecDepth 100000 in
theorem wc_X1_find : Cond.code yX1_find cX1_find 10 none ∈ z_W := z_wi 527 (by rfl) (by decide +kernel)
theorem wi_X1_find : Cond.instanceMethod yX1_find ∈ z_W := z_wi 525 (by decide +kernel) (by decide +kernel)
theorem ws_X1_find : Cond.selects RX1 yX1_find yX1_find ∈ z_W := z_wi 526 (by decide +kernel) (by decide +kernel)
set_option maxRecDepth 100000 in
theorem wc_X1_gap : Cond.code yX1_gap cX1_gap 4 (some .int) ∈ z_W := z_wi 552 (by rfl) (by decide +kernel)
theorem wi_X1_gap : Cond.instanceMethod yX1_gap ∈ z_W := z_wi 551 (by decide +kernel) (by decide +kernel)
theorem ws_X1_gap : Cond.selects RX1 yX1_gap yX1_gap ∈ z_W := z_wi 6 (by decide +kernel) (by decide +kernel)
set_option maxRecDepth 100000 in
theorem wc_X1_keepTrial : Cond.code yX1_keepTrial cX1_keepTrial 2 none ∈ z_W := z_wi 560 (by rfl) (by decide +kernel)
theorem wi_X1_keepTrial : Cond.instanceMethod yX1_keepTrial ∈ z_W := z_wi 559 (by decide +kernel) (by decide +kernel)
theorem ws_X1_keepTrial : Cond.selects RX1 yX1_keepTrial yX1_keepTrial ∈ z_W := z_wi 7 (by decide +kernel) (by decide +kernel)
set_option maxRecDepth 100000 in
theorem wc_X1_setTrial : Cond.code yX1_setTrial cX1_setTrial 5 (some .int) ∈ z_W := z_wi 548 (by rfl) (by decide +kernel)
theorem wi_X1_setTrial : Cond.instanceMethod yX1_setTrial ∈ z_W := z_wi 547 (by decide +kernel) (by decide +kernel)
theorem ws_X1_setTrial : Cond.selects RX1 yX1_setTrial yX1_setTrial ∈ z_W := z_wi 5 (by decide +kernel) (by decide +kernel)
set_option maxRecDepth 100000 in
theorem wc_X2_endItem : Cond.code yX2_endItem cX2_endItem 1 none ∈ z_W := z_wi 800 (by rfl) (by decide +kernel)
theorem wi_X2_endItem : Cond.instanceMethod yX2_endItem ∈ z_W := z_wi 799 (by decide +kernel) (by decide +kernel)
theorem ws_X2_endItem : Cond.selects RX2 yX2_endItem yX2_endItem ∈ z_W := z_wi 25 (by decide +kernel) (by decide +kernel)
set_option maxRecDepth 100000 in
theorem wc_X2_greatestPen : Cond.code yX2_greatestPen cX2_greatestPen 3 (some .int) ∈ z_W := z_wi 808 (by rfl) (by decide +kernel)
theorem wi_X2_greatestPen : Cond.instanceMethod yX2_greatestPen ∈ z_W := z_wi 806 (by decide +kernel) (by decide +kernel)
theorem ws_X2_greatestPen : Cond.selects RX2 yX2_greatestPen yX2_greatestPen ∈ z_W := z_wi 807 (by decide +kernel) (by decide +kernel)
set_option maxRecDepth 100000 in
theorem wc_X2_isList : Cond.code yX2_isList cX2_isList 1 (some .boolean) ∈ z_W := z_wi 763 (by rfl) (by decide +kernel)
theorem wi_X2_isList : Cond.instanceMethod yX2_isList ∈ z_W := z_wi 761 (by decide +kernel) (by decide +kernel)
theorem ws_X2_isList : Cond.selects RX2 yX2_isList yX2_isList ∈ z_W := z_wi 762 (by decide +kernel) (by decide +kernel)
set_option maxRecDepth 100000 in
theorem wc_X2_readToError : Cond.code yX2_readToError cX2_readToError 2 (some .int) ∈ z_W := z_wi 767 (by rfl) (by decide +kernel)
theorem wi_X2_readToError : Cond.instanceMethod yX2_readToError ∈ z_W := z_wi 765 (by decide +kernel) (by decide +kernel)
theorem ws_X2_readToError : Cond.selects RX2 yX2_readToError yX2_readToError ∈ z_W := z_wi 766 (by decide +kernel) (by decide +kernel)
set_option maxRecDepth 100000 in
theorem wc_X2_takes : Cond.code yX2_takes cX2_takes 2 (some .boolean) ∈ z_W := z_wi 772 (by rfl) (by decide +kernel)
theorem wi_X2_takes : Cond.instanceMethod yX2_takes ∈ z_W := z_wi 771 (by decide +kernel) (by decide +kernel)
theorem ws_X2_takes : Cond.selects RX2 yX2_takes yX2_takes ∈ z_W := z_wi 18 (by decide +kernel) (by decide +kernel)
set_option maxRecDepth 100000 in
theorem wc_X2_takesAfterOne : Cond.code yX2_takesAfterOne cX2_takesAfterOne 2 (some .boolean) ∈ z_W := z_wi 788 (by rfl) (by decide +kernel)
theorem wi_X2_takesAfterOne : Cond.instanceMethod yX2_takesAfterOne ∈ z_W := z_wi 787 (by decide +kernel) (by decide +kernel)
theorem ws_X2_takesAfterOne : Cond.selects RX2 yX2_takesAfterOne yX2_takesAfterOne ∈ z_W := z_wi 22 (by decide +kernel) (by decide +kernel)
set_option maxRecDepth 100000 in
theorem wc_X2_takesComma : Cond.code yX2_takesComma cX2_takesComma 2 (some .boolean) ∈ z_W := z_wi 796 (by rfl) (by decide +kernel)
theorem wi_X2_takesComma : Cond.instanceMethod yX2_takesComma ∈ z_W := z_wi 795 (by decide +kernel) (by decide +kernel)
theorem ws_X2_takesComma : Cond.selects RX2 yX2_takesComma yX2_takesComma ∈ z_W := z_wi 24 (by decide +kernel) (by decide +kernel)
set_option maxRecDepth 100000 in
theorem wc_X2_takesDigit : Cond.code yX2_takesDigit cX2_takesDigit 2 (some .boolean) ∈ z_W := z_wi 776 (by rfl) (by decide +kernel)
theorem wi_X2_takesDigit : Cond.instanceMethod yX2_takesDigit ∈ z_W := z_wi 775 (by decide +kernel) (by decide +kernel)
theorem ws_X2_takesDigit : Cond.selects RX2 yX2_takesDigit yX2_takesDigit ∈ z_W := z_wi 19 (by decide +kernel) (by decide +kernel)
set_option maxRecDepth 100000 in
theorem wc_X2_takesFactor : Cond.code yX2_takesFactor cX2_takesFactor 2 (some .boolean) ∈ z_W := z_wi 804 (by rfl) (by decide +kernel)
theorem wi_X2_takesFactor : Cond.instanceMethod yX2_takesFactor ∈ z_W := z_wi 803 (by decide +kernel) (by decide +kernel)
theorem ws_X2_takesFactor : Cond.selects RX2 yX2_takesFactor yX2_takesFactor ∈ z_W := z_wi 26 (by decide +kernel) (by decide +kernel)
set_option maxRecDepth 100000 in
theorem wc_X2_takesOne : Cond.code yX2_takesOne cX2_takesOne 1 (some .boolean) ∈ z_W := z_wi 780 (by rfl) (by decide +kernel)
theorem wi_X2_takesOne : Cond.instanceMethod yX2_takesOne ∈ z_W := z_wi 779 (by decide +kernel) (by decide +kernel)
theorem ws_X2_takesOne : Cond.selects RX2 yX2_takesOne yX2_takesOne ∈ z_W := z_wi 20 (by decide +kernel) (by decide +kernel)
set_option maxRecDepth 100000 in
theorem wc_X2_takesPen : Cond.code yX2_takesPen cX2_takesPen 2 (some .boolean) ∈ z_W := z_wi 784 (by rfl) (by decide +kernel)
theorem wi_X2_takesPen : Cond.instanceMethod yX2_takesPen ∈ z_W := z_wi 783 (by decide +kernel) (by decide +kernel)
theorem ws_X2_takesPen : Cond.selects RX2 yX2_takesPen yX2_takesPen ∈ z_W := z_wi 21 (by decide +kernel) (by decide +kernel)
set_option maxRecDepth 100000 in
theorem wc_X2_takesStar : Cond.code yX2_takesStar cX2_takesStar 2 (some .boolean) ∈ z_W := z_wi 792 (by rfl) (by decide +kernel)
theorem wi_X2_takesStar : Cond.instanceMethod yX2_takesStar ∈ z_W := z_wi 791 (by decide +kernel) (by decide +kernel)
theorem ws_X2_takesStar : Cond.selects RX2 yX2_takesStar yX2_takesStar ∈ z_W := z_wi 23 (by decide +kernel) (by decide +kernel)
set_option maxRecDepth 100000 in
theorem wc_X3_bylinesAway : Cond.code yX3_bylinesAway cX3_bylinesAway 3 (some .int) ∈ z_W := z_wi 391 (by rfl) (by decide +kernel)
theorem wi_X3_bylinesAway : Cond.instanceMethod yX3_bylinesAway ∈ z_W := z_wi 389 (by decide +kernel) (by decide +kernel)
theorem ws_X3_bylinesAway : Cond.selects RX3 yX3_bylinesAway yX3_bylinesAway ∈ z_W := z_wi 390 (by decide +kernel) (by decide +kernel)
set_option maxRecDepth 100000 in
theorem wc_X3_bylinesOf : Cond.code yX3_bylinesOf cX3_bylinesOf 4 (some .int) ∈ z_W := z_wi 432 (by rfl) (by decide +kernel)
theorem wi_X3_bylinesOf : Cond.instanceMethod yX3_bylinesOf ∈ z_W := z_wi 430 (by decide +kernel) (by decide +kernel)
theorem ws_X3_bylinesOf : Cond.selects RX3 yX3_bylinesOf yX3_bylinesOf ∈ z_W := z_wi 431 (by decide +kernel) (by decide +kernel)
set_option maxRecDepth 100000 in
theorem wc_X3_copyFrom : Cond.code yX3_copyFrom cX3_copyFrom 2 none ∈ z_W := z_wi 668 (by rfl) (by decide +kernel)
theorem wi_X3_copyFrom : Cond.instanceMethod yX3_copyFrom ∈ z_W := z_wi 666 (by decide +kernel) (by decide +kernel)
theorem ws_X3_copyFrom : Cond.selects RX3 yX3_copyFrom yX3_copyFrom ∈ z_W := z_wi 667 (by decide +kernel) (by decide +kernel)
set_option maxRecDepth 100000 in
theorem wc_X3_differences : Cond.code yX3_differences cX3_differences 4 (some .int) ∈ z_W := z_wi 513 (by rfl) (by decide +kernel)
theorem wi_X3_differences : Cond.instanceMethod yX3_differences ∈ z_W := z_wi 511 (by decide +kernel) (by decide +kernel)
theorem ws_X3_differences : Cond.selects RX3 yX3_differences yX3_differences ∈ z_W := z_wi 512 (by decide +kernel) (by decide +kernel)
set_option maxRecDepth 100000 in
theorem wc_X3_earn : Cond.code yX3_earn cX3_earn 4 (some .int) ∈ z_W := z_wi 831 (by rfl) (by decide +kernel)
theorem wi_X3_earn : Cond.instanceMethod yX3_earn ∈ z_W := z_wi 829 (by decide +kernel) (by decide +kernel)
theorem ws_X3_earn : Cond.selects RX3 yX3_earn yX3_earn ∈ z_W := z_wi 830 (by decide +kernel) (by decide +kernel)
set_option maxRecDepth 100000 in
theorem wc_X3_passByline : Cond.code yX3_passByline cX3_passByline 4 none ∈ z_W := z_wi 707 (by rfl) (by decide +kernel)
theorem wi_X3_passByline : Cond.instanceMethod yX3_passByline ∈ z_W := z_wi 705 (by decide +kernel) (by decide +kernel)
theorem ws_X3_passByline : Cond.selects RX3 yX3_passByline yX3_passByline ∈ z_W := z_wi 706 (by decide +kernel) (by decide +kernel)
set_option maxRecDepth 100000 in
theorem wc_X3_placeOf : Cond.code yX3_placeOf cX3_placeOf 5 (some .int) ∈ z_W := z_wi 443 (by rfl) (by decide +kernel)
theorem wi_X3_placeOf : Cond.instanceMethod yX3_placeOf ∈ z_W := z_wi 441 (by decide +kernel) (by decide +kernel)
theorem ws_X3_placeOf : Cond.selects RX3 yX3_placeOf yX3_placeOf ∈ z_W := z_wi 442 (by decide +kernel) (by decide +kernel)
set_option maxRecDepth 100000 in
theorem wc_X4_addToYear : Cond.code yX4_addToYear cX4_addToYear 4 none ∈ z_W := z_wi 844 (by rfl) (by decide +kernel)
theorem wi_X4_addToYear : Cond.instanceMethod yX4_addToYear ∈ z_W := z_wi 842 (by decide +kernel) (by decide +kernel)
theorem ws_X4_addToYear : Cond.selects RX4 yX4_addToYear yX4_addToYear ∈ z_W := z_wi 843 (by decide +kernel) (by decide +kernel)
set_option maxRecDepth 100000 in
theorem wc_X4_allDrafts : Cond.code yX4_allDrafts cX4_allDrafts 2 (some .int) ∈ z_W := z_wi 470 (by rfl) (by decide +kernel)
theorem wi_X4_allDrafts : Cond.instanceMethod yX4_allDrafts ∈ z_W := z_wi 468 (by decide +kernel) (by decide +kernel)
theorem ws_X4_allDrafts : Cond.selects RX4 yX4_allDrafts yX4_allDrafts ∈ z_W := z_wi 469 (by decide +kernel) (by decide +kernel)
set_option maxRecDepth 100000 in
theorem wc_X4_allParts : Cond.code yX4_allParts cX4_allParts 2 (some .int) ∈ z_W := z_wi 481 (by rfl) (by decide +kernel)
theorem wi_X4_allParts : Cond.instanceMethod yX4_allParts ∈ z_W := z_wi 479 (by decide +kernel) (by decide +kernel)
theorem ws_X4_allParts : Cond.selects RX4 yX4_allParts yX4_allParts ∈ z_W := z_wi 480 (by decide +kernel) (by decide +kernel)
set_option maxRecDepth 100000 in
theorem wc_X4_begin : Cond.code yX4_begin cX4_begin 4 (some .int) ∈ z_W := z_wi 729 (by rfl) (by decide +kernel)
theorem wi_X4_begin : Cond.instanceMethod yX4_begin ∈ z_W := z_wi 727 (by decide +kernel) (by decide +kernel)
theorem ws_X4_begin : Cond.selects RX4 yX4_begin yX4_begin ∈ z_W := z_wi 728 (by decide +kernel) (by decide +kernel)
set_option maxRecDepth 100000 in
theorem wc_X4_copyFrom : Cond.code yX4_copyFrom cX4_copyFrom 2 none ∈ z_W := z_wi 678 (by rfl) (by decide +kernel)
theorem wi_X4_copyFrom : Cond.instanceMethod yX4_copyFrom ∈ z_W := z_wi 676 (by decide +kernel) (by decide +kernel)
theorem ws_X4_copyFrom : Cond.selects RX4 yX4_copyFrom yX4_copyFrom ∈ z_W := z_wi 677 (by decide +kernel) (by decide +kernel)
set_option maxRecDepth 100000 in
theorem wc_X4_disputers : Cond.code yX4_disputers cX4_disputers 7 (some .int) ∈ z_W := z_wi 489 (by rfl) (by decide +kernel)
theorem wi_X4_disputers : Cond.instanceMethod yX4_disputers ∈ z_W := z_wi 487 (by decide +kernel) (by decide +kernel)
theorem ws_X4_disputers : Cond.selects RX4 yX4_disputers yX4_disputers ∈ z_W := z_wi 488 (by decide +kernel) (by decide +kernel)
set_option maxRecDepth 100000 in
theorem wc_X4_draftsBy : Cond.code yX4_draftsBy cX4_draftsBy 4 (some .int) ∈ z_W := z_wi 436 (by rfl) (by decide +kernel)
theorem wi_X4_draftsBy : Cond.instanceMethod yX4_draftsBy ∈ z_W := z_wi 434 (by decide +kernel) (by decide +kernel)
theorem ws_X4_draftsBy : Cond.selects RX4 yX4_draftsBy yX4_draftsBy ∈ z_W := z_wi 435 (by decide +kernel) (by decide +kernel)
set_option maxRecDepth 100000 in
theorem wc_X4_inStage : Cond.code yX4_inStage cX4_inStage 4 (some .int) ∈ z_W := z_wi 387 (by rfl) (by decide +kernel)
theorem wi_X4_inStage : Cond.instanceMethod yX4_inStage ∈ z_W := z_wi 385 (by decide +kernel) (by decide +kernel)
theorem ws_X4_inStage : Cond.selects RX4 yX4_inStage yX4_inStage ∈ z_W := z_wi 386 (by decide +kernel) (by decide +kernel)
set_option maxRecDepth 100000 in
theorem wc_X4_sharers : Cond.code yX4_sharers cX4_sharers 4 (some .int) ∈ z_W := z_wi 477 (by rfl) (by decide +kernel)
theorem wi_X4_sharers : Cond.instanceMethod yX4_sharers ∈ z_W := z_wi 475 (by decide +kernel) (by decide +kernel)
theorem ws_X4_sharers : Cond.selects RX4 yX4_sharers yX4_sharers ∈ z_W := z_wi 476 (by decide +kernel) (by decide +kernel)
set_option maxRecDepth 100000 in
theorem wc_X4_takeParts : Cond.code yX4_takeParts cX4_takeParts 4 none ∈ z_W := z_wi 814 (by rfl) (by decide +kernel)
theorem wi_X4_takeParts : Cond.instanceMethod yX4_takeParts ∈ z_W := z_wi 812 (by decide +kernel) (by decide +kernel)
theorem ws_X4_takeParts : Cond.selects RX4 yX4_takeParts yX4_takeParts ∈ z_W := z_wi 813 (by decide +kernel) (by decide +kernel)
set_option maxRecDepth 100000 in
theorem wc_X4_takePartsFromDrafts : Cond.code yX4_takePartsFromDrafts cX4_takePartsFromDrafts 4 none ∈ z_W := z_wi 854 (by rfl) (by decide +kernel)
theorem wi_X4_takePartsFromDrafts : Cond.instanceMethod yX4_takePartsFromDrafts ∈ z_W := z_wi 852 (by decide +kernel) (by decide +kernel)
theorem ws_X4_takePartsFromDrafts : Cond.selects RX4 yX4_takePartsFromDrafts yX4_takePartsFromDrafts ∈ z_W := z_wi 853 (by decide +kernel) (by decide +kernel)
set_option maxRecDepth 100000 in
theorem wc_X4_writerWithMost : Cond.code yX4_writerWithMost cX4_writerWithMost 6 (some .int) ∈ z_W := z_wi 539 (by rfl) (by decide +kernel)
theorem wi_X4_writerWithMost : Cond.instanceMethod yX4_writerWithMost ∈ z_W := z_wi 538 (by decide +kernel) (by decide +kernel)
theorem ws_X4_writerWithMost : Cond.selects RX4 yX4_writerWithMost yX4_writerWithMost ∈ z_W := z_wi 4 (by decide +kernel) (by decide +kernel)
set_option maxRecDepth 100000 in
theorem wc_X4_writers : Cond.code yX4_writers cX4_writers 5 (some .int) ∈ z_W := z_wi 535 (by rfl) (by decide +kernel)
theorem wi_X4_writers : Cond.instanceMethod yX4_writers ∈ z_W := z_wi 533 (by decide +kernel) (by decide +kernel)
theorem ws_X4_writers : Cond.selects RX4 yX4_writers yX4_writers ∈ z_W := z_wi 534 (by decide +kernel) (by decide +kernel)
set_option maxRecDepth 100000 in
theorem wc_X5_copyFrom : Cond.code yX5_copyFrom cX5_copyFrom 2 none ∈ z_W := z_wi 664 (by rfl) (by decide +kernel)
theorem wi_X5_copyFrom : Cond.instanceMethod yX5_copyFrom ∈ z_W := z_wi 662 (by decide +kernel) (by decide +kernel)
theorem ws_X5_copyFrom : Cond.selects RX5 yX5_copyFrom yX5_copyFrom ∈ z_W := z_wi 663 (by decide +kernel) (by decide +kernel)
set_option maxRecDepth 100000 in
theorem wc_X5_killFee : Cond.code yX5_killFee cX5_killFee 3 (some .int) ∈ z_W := z_wi 485 (by rfl) (by decide +kernel)
theorem wi_X5_killFee : Cond.instanceMethod yX5_killFee ∈ z_W := z_wi 483 (by decide +kernel) (by decide +kernel)
theorem ws_X5_killFee : Cond.selects RX5 yX5_killFee yX5_killFee ∈ z_W := z_wi 484 (by decide +kernel) (by decide +kernel)
set_option maxRecDepth 100000 in
theorem wc_X6_accept : Cond.code yX6_accept cX6_accept 4 (some .int) ∈ z_W := z_wi 818 (by rfl) (by decide +kernel)
theorem wi_X6_accept : Cond.instanceMethod yX6_accept ∈ z_W := z_wi 816 (by decide +kernel) (by decide +kernel)
theorem ws_X6_accept : Cond.selects RX6 yX6_accept yX6_accept ∈ z_W := z_wi 817 (by decide +kernel) (by decide +kernel)
set_option maxRecDepth 100000 in
theorem wc_X6_addPen : Cond.code yX6_addPen cX6_addPen 2 (some .int) ∈ z_W := z_wi 655 (by rfl) (by decide +kernel)
theorem wi_X6_addPen : Cond.instanceMethod yX6_addPen ∈ z_W := z_wi 653 (by decide +kernel) (by decide +kernel)
theorem ws_X6_addPen : Cond.selects RX6 yX6_addPen yX6_addPen ∈ z_W := z_wi 654 (by decide +kernel) (by decide +kernel)
set_option maxRecDepth 100000 in
theorem wc_X6_advance : Cond.code yX6_advance cX6_advance 3 (some .int) ∈ z_W := z_wi 716 (by rfl) (by decide +kernel)
theorem wi_X6_advance : Cond.instanceMethod yX6_advance ∈ z_W := z_wi 714 (by decide +kernel) (by decide +kernel)
theorem ws_X6_advance : Cond.selects RX6 yX6_advance yX6_advance ∈ z_W := z_wi 715 (by decide +kernel) (by decide +kernel)
set_option maxRecDepth 100000 in
theorem wc_X6_append : Cond.code yX6_append cX6_append 2 (some .int) ∈ z_W := z_wi 754 (by rfl) (by decide +kernel)
theorem wi_X6_append : Cond.instanceMethod yX6_append ∈ z_W := z_wi 752 (by decide +kernel) (by decide +kernel)
theorem ws_X6_append : Cond.selects RX6 yX6_append yX6_append ∈ z_W := z_wi 753 (by decide +kernel) (by decide +kernel)
set_option maxRecDepth 100000 in
theorem wc_X6_at : Cond.code yX6_at cX6_at 2 (some .int) ∈ z_W := z_wi 439 (by rfl) (by decide +kernel)
theorem wt_X6_at : Cond.static yX6_at ∈ z_W := z_wi 438 (by decide +kernel) (by decide +kernel)
set_option maxRecDepth 100000 in
theorem wc_X6_bestPiece : Cond.code yX6_bestPiece cX6_bestPiece 3 (some .int) ∈ z_W := z_wi 637 (by rfl) (by decide +kernel)
theorem wi_X6_bestPiece : Cond.instanceMethod yX6_bestPiece ∈ z_W := z_wi 635 (by decide +kernel) (by decide +kernel)
theorem ws_X6_bestPiece : Cond.selects RX6 yX6_bestPiece yX6_bestPiece ∈ z_W := z_wi 636 (by decide +kernel) (by decide +kernel)
set_option maxRecDepth 100000 in
theorem wc_X6_between : Cond.code yX6_between cX6_between 4 (some .int) ∈ z_W := z_wi 456 (by rfl) (by decide +kernel)
theorem wi_X6_between : Cond.instanceMethod yX6_between ∈ z_W := z_wi 454 (by decide +kernel) (by decide +kernel)
theorem ws_X6_between : Cond.selects RX6 yX6_between yX6_between ∈ z_W := z_wi 455 (by decide +kernel) (by decide +kernel)
set_option maxRecDepth 100000 in
theorem wc_X6_bringIn : Cond.code yX6_bringIn cX6_bringIn 4 (some .int) ∈ z_W := z_wi 827 (by rfl) (by decide +kernel)
theorem wi_X6_bringIn : Cond.instanceMethod yX6_bringIn ∈ z_W := z_wi 826 (by decide +kernel) (by decide +kernel)
theorem ws_X6_bringIn : Cond.selects RX6 yX6_bringIn yX6_bringIn ∈ z_W := z_wi 27 (by decide +kernel) (by decide +kernel)
set_option maxRecDepth 100000 in
theorem wc_X6_buyBack : Cond.code yX6_buyBack cX6_buyBack 3 (some .int) ∈ z_W := z_wi 711 (by rfl) (by decide +kernel)
theorem wi_X6_buyBack : Cond.instanceMethod yX6_buyBack ∈ z_W := z_wi 709 (by decide +kernel) (by decide +kernel)
theorem ws_X6_buyBack : Cond.selects RX6 yX6_buyBack yX6_buyBack ∈ z_W := z_wi 710 (by decide +kernel) (by decide +kernel)
set_option maxRecDepth 100000 in
theorem wc_X6_clearBuffer : Cond.code yX6_clearBuffer cX6_clearBuffer 2 (some .int) ∈ z_W := z_wi 750 (by rfl) (by decide +kernel)
theorem wi_X6_clearBuffer : Cond.instanceMethod yX6_clearBuffer ∈ z_W := z_wi 748 (by decide +kernel) (by decide +kernel)
theorem ws_X6_clearBuffer : Cond.selects RX6 yX6_clearBuffer yX6_clearBuffer ∈ z_W := z_wi 749 (by decide +kernel) (by decide +kernel)
set_option maxRecDepth 100000 in
theorem wc_X6_copyRow : Cond.code yX6_copyRow cX6_copyRow 2 none ∈ z_W := z_wi 671 (by rfl) (by decide +kernel)
theorem wt_X6_copyRow : Cond.static yX6_copyRow ∈ z_W := z_wi 670 (by decide +kernel) (by decide +kernel)
set_option maxRecDepth 100000 in
theorem wc_X6_count : Cond.code yX6_count cX6_count 2 (some .int) ∈ z_W := z_wi 309 (by rfl) (by decide +kernel)
theorem wi_X6_count : Cond.instanceMethod yX6_count ∈ z_W := z_wi 307 (by decide +kernel) (by decide +kernel)
theorem ws_X6_count : Cond.selects RX6 yX6_count yX6_count ∈ z_W := z_wi 308 (by decide +kernel) (by decide +kernel)
set_option maxRecDepth 100000 in
theorem wc_X6_dispute : Cond.code yX6_dispute cX6_dispute 3 (some .int) ∈ z_W := z_wi 848 (by rfl) (by decide +kernel)
theorem wi_X6_dispute : Cond.instanceMethod yX6_dispute ∈ z_W := z_wi 846 (by decide +kernel) (by decide +kernel)
theorem ws_X6_dispute : Cond.selects RX6 yX6_dispute yX6_dispute ∈ z_W := z_wi 847 (by decide +kernel) (by decide +kernel)
set_option maxRecDepth 100000 in
theorem wc_X6_draft : Cond.code yX6_draft cX6_draft 4 (some .int) ∈ z_W := z_wi 733 (by rfl) (by decide +kernel)
theorem wi_X6_draft : Cond.instanceMethod yX6_draft ∈ z_W := z_wi 731 (by decide +kernel) (by decide +kernel)
theorem ws_X6_draft : Cond.selects RX6 yX6_draft yX6_draft ∈ z_W := z_wi 732 (by decide +kernel) (by decide +kernel)
set_option maxRecDepth 100000 in
theorem wc_X6_fairest : Cond.code yX6_fairest cX6_fairest 3 (some .int) ∈ z_W := z_wi 523 (by rfl) (by decide +kernel)
theorem wi_X6_fairest : Cond.instanceMethod yX6_fairest ∈ z_W := z_wi 521 (by decide +kernel) (by decide +kernel)
theorem ws_X6_fairest : Cond.selects RX6 yX6_fairest yX6_fairest ∈ z_W := z_wi 522 (by decide +kernel) (by decide +kernel)
set_option maxRecDepth 100000 in
theorem wc_X6_findBest : Cond.code yX6_findBest cX6_findBest 3 none ∈ z_W := z_wi 641 (by rfl) (by decide +kernel)
theorem wi_X6_findBest : Cond.instanceMethod yX6_findBest ∈ z_W := z_wi 640 (by decide +kernel) (by decide +kernel)
theorem ws_X6_findBest : Cond.selects RX6 yX6_findBest yX6_findBest ∈ z_W := z_wi 14 (by decide +kernel) (by decide +kernel)
set_option maxRecDepth 100000 in
theorem wc_X6_gainOf : Cond.code yX6_gainOf cX6_gainOf 7 (some .int) ∈ z_W := z_wi 627 (by rfl) (by decide +kernel)
theorem wi_X6_gainOf : Cond.instanceMethod yX6_gainOf ∈ z_W := z_wi 626 (by decide +kernel) (by decide +kernel)
theorem ws_X6_gainOf : Cond.selects RX6 yX6_gainOf yX6_gainOf ∈ z_W := z_wi 13 (by decide +kernel) (by decide +kernel)
set_option maxRecDepth 100000 in
theorem wc_X6_ifPaid : Cond.code yX6_ifPaid cX6_ifPaid 4 (some .int) ∈ z_W := z_wi 579 (by rfl) (by decide +kernel)
theorem wi_X6_ifPaid : Cond.instanceMethod yX6_ifPaid ∈ z_W := z_wi 577 (by decide +kernel) (by decide +kernel)
theorem ws_X6_ifPaid : Cond.selects RX6 yX6_ifPaid yX6_ifPaid ∈ z_W := z_wi 578 (by decide +kernel) (by decide +kernel)
set_option maxRecDepth 100000 in
theorem wc_X6_isIn : Cond.code yX6_isIn cX6_isIn 2 (some .boolean) ∈ z_W := z_wi 542 (by rfl) (by decide +kernel)
theorem wt_X6_isIn : Cond.static yX6_isIn ∈ z_W := z_wi 541 (by decide +kernel) (by decide +kernel)
set_option maxRecDepth 100000 in
theorem wc_X6_kill : Cond.code yX6_kill cX6_kill 3 (some .int) ∈ z_W := z_wi 836 (by rfl) (by decide +kernel)
theorem wi_X6_kill : Cond.instanceMethod yX6_kill ∈ z_W := z_wi 834 (by decide +kernel) (by decide +kernel)
theorem ws_X6_kill : Cond.selects RX6 yX6_kill yX6_kill ∈ z_W := z_wi 835 (by decide +kernel) (by decide +kernel)
set_option maxRecDepth 100000 in
theorem wc_X6_needAccepted : Cond.code yX6_needAccepted cX6_needAccepted 2 none ∈ z_W := z_wi 584 (by rfl) (by decide +kernel)
theorem wi_X6_needAccepted : Cond.instanceMethod yX6_needAccepted ∈ z_W := z_wi 583 (by decide +kernel) (by decide +kernel)
theorem ws_X6_needAccepted : Cond.selects RX6 yX6_needAccepted yX6_needAccepted ∈ z_W := z_wi 8 (by decide +kernel) (by decide +kernel)
set_option maxRecDepth 100000 in
theorem wc_X6_needAtLeast : Cond.code yX6_needAtLeast cX6_needAtLeast 2 none ∈ z_W := z_wi 702 (by rfl) (by decide +kernel)
theorem wt_X6_needAtLeast : Cond.static yX6_needAtLeast ∈ z_W := z_wi 701 (by decide +kernel) (by decide +kernel)
set_option maxRecDepth 100000 in
theorem wc_X6_needPen : Cond.code yX6_needPen cX6_needPen 2 none ∈ z_W := z_wi 412 (by rfl) (by decide +kernel)
theorem wi_X6_needPen : Cond.instanceMethod yX6_needPen ∈ z_W := z_wi 411 (by decide +kernel) (by decide +kernel)
theorem ws_X6_needPen : Cond.selects RX6 yX6_needPen yX6_needPen ∈ z_W := z_wi 1 (by decide +kernel) (by decide +kernel)
set_option maxRecDepth 100000 in
theorem wc_X6_needPiece : Cond.code yX6_needPiece cX6_needPiece 2 none ∈ z_W := z_wi 460 (by rfl) (by decide +kernel)
theorem wi_X6_needPiece : Cond.instanceMethod yX6_needPiece ∈ z_W := z_wi 459 (by decide +kernel) (by decide +kernel)
theorem ws_X6_needPiece : Cond.selects RX6 yX6_needPiece yX6_needPiece ∈ z_W := z_wi 2 (by decide +kernel) (by decide +kernel)
set_option maxRecDepth 100000 in
theorem wc_X6_needRange : Cond.code yX6_needRange cX6_needRange 3 none ∈ z_W := z_wi 312 (by rfl) (by decide +kernel)
theorem wt_X6_needRange : Cond.static yX6_needRange ∈ z_W := z_wi 311 (by decide +kernel) (by decide +kernel)
set_option maxRecDepth 100000 in
theorem wc_X6_needSetting : Cond.code yX6_needSetting cX6_needSetting 1 none ∈ z_W := z_wi 501 (by rfl) (by decide +kernel)
theorem wt_X6_needSetting : Cond.static yX6_needSetting ∈ z_W := z_wi 500 (by decide +kernel) (by decide +kernel)
set_option maxRecDepth 100000 in
theorem wc_X6_needUnended : Cond.code yX6_needUnended cX6_needUnended 2 none ∈ z_W := z_wi 737 (by rfl) (by decide +kernel)
theorem wi_X6_needUnended : Cond.instanceMethod yX6_needUnended ∈ z_W := z_wi 736 (by decide +kernel) (by decide +kernel)
theorem ws_X6_needUnended : Cond.selects RX6 yX6_needUnended yX6_needUnended ∈ z_W := z_wi 17 (by decide +kernel) (by decide +kernel)
set_option maxRecDepth 100000 in
theorem wc_X6_nextYear : Cond.code yX6_nextYear cX6_nextYear 1 (some .int) ∈ z_W := z_wi 690 (by rfl) (by decide +kernel)
theorem wi_X6_nextYear : Cond.instanceMethod yX6_nextYear ∈ z_W := z_wi 688 (by decide +kernel) (by decide +kernel)
theorem ws_X6_nextYear : Cond.selects RX6 yX6_nextYear yX6_nextYear ∈ z_W := z_wi 689 (by decide +kernel) (by decide +kernel)
set_option maxRecDepth 100000 in
theorem wc_X6_order : Cond.code yX6_order cX6_order 3 (some .int) ∈ z_W := z_wi 724 (by rfl) (by decide +kernel)
theorem wi_X6_order : Cond.instanceMethod yX6_order ∈ z_W := z_wi 722 (by decide +kernel) (by decide +kernel)
theorem ws_X6_order : Cond.selects RX6 yX6_order yX6_order ∈ z_W := z_wi 723 (by decide +kernel) (by decide +kernel)
set_option maxRecDepth 100000 in
theorem wc_X6_pen : Cond.code yX6_pen cX6_pen 4 (some .int) ∈ z_W := z_wi 408 (by rfl) (by decide +kernel)
theorem wi_X6_pen : Cond.instanceMethod yX6_pen ∈ z_W := z_wi 406 (by decide +kernel) (by decide +kernel)
theorem ws_X6_pen : Cond.selects RX6 yX6_pen yX6_pen ∈ z_W := z_wi 407 (by decide +kernel) (by decide +kernel)
set_option maxRecDepth 100000 in
theorem wc_X6_piece : Cond.code yX6_piece cX6_piece 4 (some .int) ∈ z_W := z_wi 466 (by rfl) (by decide +kernel)
theorem wi_X6_piece : Cond.instanceMethod yX6_piece ∈ z_W := z_wi 464 (by decide +kernel) (by decide +kernel)
theorem ws_X6_piece : Cond.selects RX6 yX6_piece yX6_piece ∈ z_W := z_wi 465 (by decide +kernel) (by decide +kernel)
set_option maxRecDepth 100000 in
theorem wc_X6_preferIfBetter : Cond.code yX6_preferIfBetter cX6_preferIfBetter 4 none ∈ z_W := z_wi 648 (by rfl) (by decide +kernel)
theorem wi_X6_preferIfBetter : Cond.instanceMethod yX6_preferIfBetter ∈ z_W := z_wi 647 (by decide +kernel) (by decide +kernel)
theorem ws_X6_preferIfBetter : Cond.selects RX6 yX6_preferIfBetter yX6_preferIfBetter ∈ z_W := z_wi 15 (by decide +kernel) (by decide +kernel)
set_option maxRecDepth 100000 in
theorem wc_X6_revise : Cond.code yX6_revise cX6_revise 4 (some .int) ∈ z_W := z_wi 743 (by rfl) (by decide +kernel)
theorem wi_X6_revise : Cond.instanceMethod yX6_revise ∈ z_W := z_wi 741 (by decide +kernel) (by decide +kernel)
theorem ws_X6_revise : Cond.selects RX6 yX6_revise yX6_revise ∈ z_W := z_wi 742 (by decide +kernel) (by decide +kernel)
set_option maxRecDepth 100000 in
theorem wc_X6_royalty : Cond.code yX6_royalty cX6_royalty 3 (some .int) ∈ z_W := z_wi 840 (by rfl) (by decide +kernel)
theorem wi_X6_royalty : Cond.instanceMethod yX6_royalty ∈ z_W := z_wi 838 (by decide +kernel) (by decide +kernel)
theorem ws_X6_royalty : Cond.selects RX6 yX6_royalty yX6_royalty ∈ z_W := z_wi 839 (by decide +kernel) (by decide +kernel)
set_option maxRecDepth 100000 in
theorem wc_X6_save : Cond.code yX6_save cX6_save 2 none ∈ z_W := z_wi 660 (by rfl) (by decide +kernel)
theorem wi_X6_save : Cond.instanceMethod yX6_save ∈ z_W := z_wi 659 (by decide +kernel) (by decide +kernel)
theorem ws_X6_save : Cond.selects RX6 yX6_save yX6_save ∈ z_W := z_wi 16 (by decide +kernel) (by decide +kernel)
set_option maxRecDepth 100000 in
theorem wc_X6_sell : Cond.code yX6_sell cX6_sell 5 (some .int) ∈ z_W := z_wi 698 (by rfl) (by decide +kernel)
theorem wi_X6_sell : Cond.instanceMethod yX6_sell ∈ z_W := z_wi 696 (by decide +kernel) (by decide +kernel)
theorem ws_X6_sell : Cond.selects RX6 yX6_sell yX6_sell ∈ z_W := z_wi 697 (by decide +kernel) (by decide +kernel)
set_option maxRecDepth 100000 in
theorem wc_X6_set : Cond.code yX6_set cX6_set 4 (some .int) ∈ z_W := z_wi 684 (by rfl) (by decide +kernel)
theorem wi_X6_set : Cond.instanceMethod yX6_set ∈ z_W := z_wi 682 (by decide +kernel) (by decide +kernel)
theorem ws_X6_set : Cond.selects RX6 yX6_set yX6_set ∈ z_W := z_wi 683 (by decide +kernel) (by decide +kernel)
set_option maxRecDepth 100000 in
theorem wc_X6_setting : Cond.code yX6_setting cX6_setting 2 (some .int) ∈ z_W := z_wi 498 (by rfl) (by decide +kernel)
theorem wi_X6_setting : Cond.instanceMethod yX6_setting ∈ z_W := z_wi 496 (by decide +kernel) (by decide +kernel)
theorem ws_X6_setting : Cond.selects RX6 yX6_setting yX6_setting ∈ z_W := z_wi 497 (by decide +kernel) (by decide +kernel)
set_option maxRecDepth 100000 in
theorem wc_X6_share : Cond.code yX6_share cX6_share 2 (some .int) ∈ z_W := z_wi 759 (by rfl) (by decide +kernel)
theorem wi_X6_share : Cond.instanceMethod yX6_share ∈ z_W := z_wi 757 (by decide +kernel) (by decide +kernel)
theorem ws_X6_share : Cond.selects RX6 yX6_share yX6_share ∈ z_W := z_wi 758 (by decide +kernel) (by decide +kernel)
set_option maxRecDepth 100000 in
theorem wc_X6_spread : Cond.code yX6_spread cX6_spread 2 (some .double) ∈ z_W := z_wi 509 (by rfl) (by decide +kernel)
theorem wi_X6_spread : Cond.instanceMethod yX6_spread ∈ z_W := z_wi 507 (by decide +kernel) (by decide +kernel)
theorem ws_X6_spread : Cond.selects RX6 yX6_spread yX6_spread ∈ z_W := z_wi 508 (by decide +kernel) (by decide +kernel)
set_option maxRecDepth 100000 in
theorem wc_X6_sum : Cond.code yX6_sum cX6_sum 6 (some .int) ∈ z_W := z_wi 383 (by rfl) (by decide +kernel)
theorem wt_X6_sum : Cond.static yX6_sum ∈ z_W := z_wi 382 (by decide +kernel) (by decide +kernel)
set_option maxRecDepth 100000 in
theorem wc_X6_sumOf : Cond.code yX6_sumOf cX6_sumOf 4 (some .int) ∈ z_W := z_wi 473 (by rfl) (by decide +kernel)
theorem wt_X6_sumOf : Cond.static yX6_sumOf ∈ z_W := z_wi 472 (by decide +kernel) (by decide +kernel)
set_option maxRecDepth 100000 in
theorem wc_X6_withdraw : Cond.code yX6_withdraw cX6_withdraw 3 (some .int) ∈ z_W := z_wi 720 (by rfl) (by decide +kernel)
theorem wi_X6_withdraw : Cond.instanceMethod yX6_withdraw ∈ z_W := z_wi 718 (by decide +kernel) (by decide +kernel)
theorem ws_X6_withdraw : Cond.selects RX6 yX6_withdraw yX6_withdraw ∈ z_W := z_wi 719 (by decide +kernel) (by decide +kernel)
set_option maxRecDepth 100000 in
theorem wc_X6_withheld : Cond.code yX6_withheld cX6_withheld 2 (some .int) ∈ z_W := z_wi 630 (by rfl) (by decide +kernel)
theorem wt_X6_withheld : Cond.static yX6_withheld ∈ z_W := z_wi 629 (by decide +kernel) (by decide +kernel)
theorem wn_J7 : Cond.initialized RJ7 ∈ z_W := z_wi 44 (by decide +kernel) (by decide +kernel)
theorem wn_J9 : Cond.initialized RJ9 ∈ z_W := z_wi 41 (by decide +kernel) (by decide +kernel)
theorem wn_L : Cond.initialized RL ∈ z_W := z_wi 28 (by decide +kernel) (by decide +kernel)
theorem wn_X0 : Cond.initialized RX0 ∈ z_W := z_wi 31 (by decide +kernel) (by decide +kernel)
theorem wn_X1 : Cond.initialized RX1 ∈ z_W := z_wi 32 (by decide +kernel) (by decide +kernel)
theorem wn_X2 : Cond.initialized RX2 ∈ z_W := z_wi 30 (by decide +kernel) (by decide +kernel)
theorem wn_X3 : Cond.initialized RX3 ∈ z_W := z_wi 34 (by decide +kernel) (by decide +kernel)
theorem wn_X4 : Cond.initialized RX4 ∈ z_W := z_wi 35 (by decide +kernel) (by decide +kernel)
theorem wn_X5 : Cond.initialized RX5 ∈ z_W := z_wi 33 (by decide +kernel) (by decide +kernel)
theorem wn_X6 : Cond.initialized RX6 ∈ z_W := z_wi 29 (by decide +kernel) (by decide +kernel)
end
section
/-! ===== a rule a field entry ===== -/
section ZF
variable {G : z_G} {Z : z_Z} {d : z_Md} {Q : State → Prop} {pc : Nat} {ls : List (Option Value)} {st : List Value} {M : z_M} {k n : Nat}
theorem gX0_9 (ho : z_own d = RX0) (hd : decode (z_cc d) pc = .ok (.getfield 9, 3)) (kk : z_J G Z d Q (pc + 3) ls (.ref (z_ad G 0 26) :: st) M k n) : z_J G Z d Q pc ls (.ref (z_ad G 0 25) :: st) M k n :=
  z_getf (C := RX0) (T := TX0) (N := 6) (ci := 0) (kf := 4) (g := 0) (c := 25) (f := (1, 0, 26)) rfl uX0 (by rw [ho]; exact wfX0_9) rfl rfl (by decide) rfl rfl (Or.inl (by decide)) hd kk
theorem gX0_15 (ho : z_own d = RX0) (hd : decode (z_cc d) pc = .ok (.getfield 15, 3)) (kk : z_J G Z d Q (pc + 3) ls (.ref (z_ad G 0 27) :: st) M k n) : z_J G Z d Q pc ls (.ref (z_ad G 0 25) :: st) M k n :=
  z_getf (C := RX0) (T := TX0) (N := 6) (ci := 0) (kf := 5) (g := 0) (c := 25) (f := (1, 0, 27)) rfl uX0 (by rw [ho]; exact wfX0_15) rfl rfl (by decide) rfl rfl (Or.inl (by decide)) hd kk
theorem gX0_22 {g : Nat} (hg : g < 7) (ho : z_own d = RX0) (hd : decode (z_cc d) pc = .ok (.getfield 22, 3)) (kk : z_J G Z d Q (pc + 3) ls (.ref (z_ad G g 8) :: st) M k n) : z_J G Z d Q pc ls (.ref (z_ad G g 0) :: st) M k n :=
  z_getf (C := RX5) (T := TX5) (N := 8) (ci := 5) (kf := 1) (g := g) (c := 0) (f := (1, g, 8)) rfl uX5 (by rw [ho]; exact wfX0_22) rfl rfl (by decide) rfl rfl (Or.inl (Or.inl ⟨by decide, hg⟩)) hd kk
theorem gX0_28 (ho : z_own d = RX0) (hd : decode (z_cc d) pc = .ok (.getfield 28, 3)) (kk : z_J G Z d Q (pc + 3) ls (z_I (M 7 8) :: st) M k n) : z_J G Z d Q pc ls (.ref (z_ad G 0 25) :: st) M k n :=
  z_getf (C := RX0) (T := TX0) (N := 6) (ci := 0) (kf := 0) (g := 0) (c := 25) (f := (0, 7, 8)) rfl uX0 (by rw [ho]; exact wfX0_28) rfl rfl (by decide) rfl rfl (Or.inl (by decide)) hd kk
theorem pX0_28 {v : Int} (hv : z_rg v) (ho : z_own d = RX0) (hd : decode (z_cc d) pc = .ok (.putfield 28, 3)) (kk : z_J G Z d Q (pc + 3) ls (st) (z_sM M 7 8 v) k n) : z_J G Z d Q pc ls (z_I v :: .ref (z_ad G 0 25) :: st) M k n :=
  z_putf (C := RX0) (T := TX0) (N := 6) (ci := 0) (kf := 0) (g := 0) (c := 25) (t := 0) (a := 7) (i := 8) (v := v) rfl uX0 tyX0 tyX0_ok nmX0 (by rw [ho]; exact wfX0_28) rfl rfl rfl (by decide) rfl rfl (by decide) rfl rfl (Or.inl (by decide)) (fun _ => hv) hd kk
theorem gX0_36 {g : Nat} (hg : g < 7) (ho : z_own d = RX0) (hd : decode (z_cc d) pc = .ok (.getfield 36, 3)) (kk : z_J G Z d Q (pc + 3) ls (.ref (z_ad G g 17) :: st) M k n) : z_J G Z d Q pc ls (.ref (z_ad G g 0) :: st) M k n :=
  z_getf (C := RX5) (T := TX5) (N := 8) (ci := 5) (kf := 2) (g := g) (c := 0) (f := (1, g, 17)) rfl uX5 (by rw [ho]; exact wfX0_36) rfl rfl (by decide) rfl rfl (Or.inl (Or.inl ⟨by decide, hg⟩)) hd kk
theorem gX0_39 (ho : z_own d = RX0) (hd : decode (z_cc d) pc = .ok (.getfield 39, 3)) (kk : z_J G Z d Q (pc + 3) ls (z_I (M 7 11) :: st) M k n) : z_J G Z d Q pc ls (.ref (z_ad G 0 25) :: st) M k n :=
  z_getf (C := RX0) (T := TX0) (N := 6) (ci := 0) (kf := 3) (g := 0) (c := 25) (f := (0, 7, 11)) rfl uX0 (by rw [ho]; exact wfX0_39) rfl rfl (by decide) rfl rfl (Or.inl (by decide)) hd kk
theorem pX0_39 {v : Int} (hv : z_rg v) (ho : z_own d = RX0) (hd : decode (z_cc d) pc = .ok (.putfield 39, 3)) (kk : z_J G Z d Q (pc + 3) ls (st) (z_sM M 7 11 v) k n) : z_J G Z d Q pc ls (z_I v :: .ref (z_ad G 0 25) :: st) M k n :=
  z_putf (C := RX0) (T := TX0) (N := 6) (ci := 0) (kf := 3) (g := 0) (c := 25) (t := 0) (a := 7) (i := 11) (v := v) rfl uX0 tyX0 tyX0_ok nmX0 (by rw [ho]; exact wfX0_39) rfl rfl rfl (by decide) rfl rfl (by decide) rfl rfl (Or.inl (by decide)) (fun _ => hv) hd kk
theorem gX0_45 (ho : z_own d = RX0) (hd : decode (z_cc d) pc = .ok (.getfield 45, 3)) (kk : z_J G Z d Q (pc + 3) ls (z_I (M 7 9) :: st) M k n) : z_J G Z d Q pc ls (.ref (z_ad G 0 25) :: st) M k n :=
  z_getf (C := RX0) (T := TX0) (N := 6) (ci := 0) (kf := 1) (g := 0) (c := 25) (f := (0, 7, 9)) rfl uX0 (by rw [ho]; exact wfX0_45) rfl rfl (by decide) rfl rfl (Or.inl (by decide)) hd kk
theorem pX0_45 {v : Int} (hv : z_rg v) (ho : z_own d = RX0) (hd : decode (z_cc d) pc = .ok (.putfield 45, 3)) (kk : z_J G Z d Q (pc + 3) ls (st) (z_sM M 7 9 v) k n) : z_J G Z d Q pc ls (z_I v :: .ref (z_ad G 0 25) :: st) M k n :=
  z_putf (C := RX0) (T := TX0) (N := 6) (ci := 0) (kf := 1) (g := 0) (c := 25) (t := 0) (a := 7) (i := 9) (v := v) rfl uX0 tyX0 tyX0_ok nmX0 (by rw [ho]; exact wfX0_45) rfl rfl rfl (by decide) rfl rfl (by decide) rfl rfl (Or.inl (by decide)) (fun _ => hv) hd kk
theorem gX0_48 {g : Nat} (hg : g < 7) (ho : z_own d = RX0) (hd : decode (z_cc d) pc = .ok (.getfield 48, 3)) (kk : z_J G Z d Q (pc + 3) ls (.ref (z_ad G g 1) :: st) M k n) : z_J G Z d Q pc ls (.ref (z_ad G g 0) :: st) M k n :=
  z_getf (C := RX5) (T := TX5) (N := 8) (ci := 5) (kf := 0) (g := g) (c := 0) (f := (1, g, 1)) rfl uX5 (by rw [ho]; exact wfX0_48) rfl rfl (by decide) rfl rfl (Or.inl (Or.inl ⟨by decide, hg⟩)) hd kk
theorem gX0_52 {g : Nat} (hg : g < 7) (ho : z_own d = RX0) (hd : decode (z_cc d) pc = .ok (.getfield 52, 3)) (kk : z_J G Z d Q (pc + 3) ls (.ref (z_ad G g 5) :: st) M k n) : z_J G Z d Q pc ls (.ref (z_ad G g 1) :: st) M k n :=
  z_getf (C := RX3) (T := TX3) (N := 7) (ci := 3) (kf := 4) (g := g) (c := 1) (f := (1, g, 5)) rfl uX3 (by rw [ho]; exact wfX0_52) rfl rfl (by decide) rfl rfl (Or.inl (Or.inl ⟨by decide, hg⟩)) hd kk
theorem gX0_57 {g : Nat} (hg : g < 7) (ho : z_own d = RX0) (hd : decode (z_cc d) pc = .ok (.getfield 57, 3)) (kk : z_J G Z d Q (pc + 3) ls (.ref (z_ad G g 9) :: st) M k n) : z_J G Z d Q pc ls (.ref (z_ad G g 8) :: st) M k n :=
  z_getf (C := RX4) (T := TX4) (N := 9) (ci := 4) (kf := 1) (g := g) (c := 8) (f := (1, g, 9)) rfl uX4 (by rw [ho]; exact wfX0_57) rfl rfl (by decide) rfl rfl (Or.inl (Or.inl ⟨by decide, hg⟩)) hd kk
theorem gX0_62 (ho : z_own d = RX0) (hd : decode (z_cc d) pc = .ok (.getfield 62, 3)) (kk : z_J G Z d Q (pc + 3) ls (z_I (M 7 10) :: st) M k n) : z_J G Z d Q pc ls (.ref (z_ad G 0 25) :: st) M k n :=
  z_getf (C := RX0) (T := TX0) (N := 6) (ci := 0) (kf := 2) (g := 0) (c := 25) (f := (0, 7, 10)) rfl uX0 (by rw [ho]; exact wfX0_62) rfl rfl (by decide) rfl rfl (Or.inl (by decide)) hd kk
theorem pX0_62 {v : Int} (hv : z_rg v) (ho : z_own d = RX0) (hd : decode (z_cc d) pc = .ok (.putfield 62, 3)) (kk : z_J G Z d Q (pc + 3) ls (st) (z_sM M 7 10 v) k n) : z_J G Z d Q pc ls (z_I v :: .ref (z_ad G 0 25) :: st) M k n :=
  z_putf (C := RX0) (T := TX0) (N := 6) (ci := 0) (kf := 2) (g := 0) (c := 25) (t := 0) (a := 7) (i := 10) (v := v) rfl uX0 tyX0 tyX0_ok nmX0 (by rw [ho]; exact wfX0_62) rfl rfl rfl (by decide) rfl rfl (by decide) rfl rfl (Or.inl (by decide)) (fun _ => hv) hd kk
theorem gX0_75 {g : Nat} (hg : g < 7) (ho : z_own d = RX0) (hd : decode (z_cc d) pc = .ok (.getfield 75, 3)) (kk : z_J G Z d Q (pc + 3) ls (.ref (z_ad G g 14) :: st) M k n) : z_J G Z d Q pc ls (.ref (z_ad G g 8) :: st) M k n :=
  z_getf (C := RX4) (T := TX4) (N := 9) (ci := 4) (kf := 6) (g := g) (c := 8) (f := (1, g, 14)) rfl uX4 (by rw [ho]; exact wfX0_75) rfl rfl (by decide) rfl rfl (Or.inl (Or.inl ⟨by decide, hg⟩)) hd kk
theorem gX0_84 {g : Nat} (hg : g < 7) (ho : z_own d = RX0) (hd : decode (z_cc d) pc = .ok (.getfield 84, 3)) (kk : z_J G Z d Q (pc + 3) ls (.ref (z_ad G g 16) :: st) M k n) : z_J G Z d Q pc ls (.ref (z_ad G g 8) :: st) M k n :=
  z_getf (C := RX4) (T := TX4) (N := 9) (ci := 4) (kf := 8) (g := g) (c := 8) (f := (1, g, 16)) rfl uX4 (by rw [ho]; exact wfX0_84) rfl rfl (by decide) rfl rfl (Or.inl (Or.inl ⟨by decide, hg⟩)) hd kk
theorem gX1_9 (ho : z_own d = RX1) (hd : decode (z_cc d) pc = .ok (.getfield 9, 3)) (kk : z_J G Z d Q (pc + 3) ls (.ref (z_ad G 0 29) :: st) M k n) : z_J G Z d Q pc ls (.ref (z_ad G 0 28) :: st) M k n :=
  z_getf (C := RX1) (T := TX1) (N := 6) (ci := 1) (kf := 0) (g := 0) (c := 28) (f := (1, 0, 29)) rfl uX1 (by rw [ho]; exact wfX1_9) rfl rfl (by decide) rfl rfl (Or.inl (by decide)) hd kk
theorem gX1_15 (ho : z_own d = RX1) (hd : decode (z_cc d) pc = .ok (.getfield 15, 3)) (kk : z_J G Z d Q (pc + 3) ls (.ref (z_ad G 0 30) :: st) M k n) : z_J G Z d Q pc ls (.ref (z_ad G 0 28) :: st) M k n :=
  z_getf (C := RX1) (T := TX1) (N := 6) (ci := 1) (kf := 1) (g := 0) (c := 28) (f := (1, 0, 30)) rfl uX1 (by rw [ho]; exact wfX1_15) rfl rfl (by decide) rfl rfl (Or.inl (by decide)) hd kk
theorem gX1_18 (ho : z_own d = RX1) (hd : decode (z_cc d) pc = .ok (.getfield 18, 3)) (kk : z_J G Z d Q (pc + 3) ls (.ref (z_ad G 0 31) :: st) M k n) : z_J G Z d Q pc ls (.ref (z_ad G 0 28) :: st) M k n :=
  z_getf (C := RX1) (T := TX1) (N := 6) (ci := 1) (kf := 2) (g := 0) (c := 28) (f := (1, 0, 31)) rfl uX1 (by rw [ho]; exact wfX1_18) rfl rfl (by decide) rfl rfl (Or.inl (by decide)) hd kk
theorem gX1_21 (ho : z_own d = RX1) (hd : decode (z_cc d) pc = .ok (.getfield 21, 3)) (kk : z_J G Z d Q (pc + 3) ls (.ref (z_ad G 0 32) :: st) M k n) : z_J G Z d Q pc ls (.ref (z_ad G 0 28) :: st) M k n :=
  z_getf (C := RX1) (T := TX1) (N := 6) (ci := 1) (kf := 3) (g := 0) (c := 28) (f := (1, 0, 32)) rfl uX1 (by rw [ho]; exact wfX1_21) rfl rfl (by decide) rfl rfl (Or.inl (by decide)) hd kk
theorem gX1_28 (ho : z_own d = RX1) (hd : decode (z_cc d) pc = .ok (.getfield 28, 3)) (kk : z_J G Z d Q (pc + 3) ls (z_I (M 7 12) :: st) M k n) : z_J G Z d Q pc ls (.ref (z_ad G 0 28) :: st) M k n :=
  z_getf (C := RX1) (T := TX1) (N := 6) (ci := 1) (kf := 4) (g := 0) (c := 28) (f := (0, 7, 12)) rfl uX1 (by rw [ho]; exact wfX1_28) rfl rfl (by decide) rfl rfl (Or.inl (by decide)) hd kk
theorem pX1_28 {v : Int} (hv : z_rg v) (ho : z_own d = RX1) (hd : decode (z_cc d) pc = .ok (.putfield 28, 3)) (kk : z_J G Z d Q (pc + 3) ls (st) (z_sM M 7 12 v) k n) : z_J G Z d Q pc ls (z_I v :: .ref (z_ad G 0 28) :: st) M k n :=
  z_putf (C := RX1) (T := TX1) (N := 6) (ci := 1) (kf := 4) (g := 0) (c := 28) (t := 0) (a := 7) (i := 12) (v := v) rfl uX1 tyX1 tyX1_ok nmX1 (by rw [ho]; exact wfX1_28) rfl rfl rfl (by decide) rfl rfl (by decide) rfl rfl (Or.inl (by decide)) (fun _ => hv) hd kk
theorem gX1_46 (ho : z_own d = RX1) (hd : decode (z_cc d) pc = .ok (.getfield 46, 3)) (kk : z_J G Z d Q (pc + 3) ls (z_I (M 7 13) :: st) M k n) : z_J G Z d Q pc ls (.ref (z_ad G 0 28) :: st) M k n :=
  z_getf (C := RX1) (T := TX1) (N := 6) (ci := 1) (kf := 5) (g := 0) (c := 28) (f := (0, 7, 13)) rfl uX1 (by rw [ho]; exact wfX1_46) rfl rfl (by decide) rfl rfl (Or.inl (by decide)) hd kk
theorem pX1_46 {v : Int} (hv : z_rg v) (ho : z_own d = RX1) (hd : decode (z_cc d) pc = .ok (.putfield 46, 3)) (kk : z_J G Z d Q (pc + 3) ls (st) (z_sM M 7 13 v) k n) : z_J G Z d Q pc ls (z_I v :: .ref (z_ad G 0 28) :: st) M k n :=
  z_putf (C := RX1) (T := TX1) (N := 6) (ci := 1) (kf := 5) (g := 0) (c := 28) (t := 0) (a := 7) (i := 13) (v := v) rfl uX1 tyX1 tyX1_ok nmX1 (by rw [ho]; exact wfX1_46) rfl rfl rfl (by decide) rfl rfl (by decide) rfl rfl (Or.inl (by decide)) (fun _ => hv) hd kk
theorem gX1_53 {g : Nat} (hg : g < 7) (ho : z_own d = RX1) (hd : decode (z_cc d) pc = .ok (.getfield 53, 3)) (kk : z_J G Z d Q (pc + 3) ls (.ref (z_ad G g 15) :: st) M k n) : z_J G Z d Q pc ls (.ref (z_ad G g 8) :: st) M k n :=
  z_getf (C := RX4) (T := TX4) (N := 9) (ci := 4) (kf := 7) (g := g) (c := 8) (f := (1, g, 15)) rfl uX4 (by rw [ho]; exact wfX1_53) rfl rfl (by decide) rfl rfl (Or.inl (Or.inl ⟨by decide, hg⟩)) hd kk
theorem gX2_11 (ho : z_own d = RX2) (hd : decode (z_cc d) pc = .ok (.getfield 11, 3)) (kk : z_J G Z d Q (pc + 3) ls (.ref (z_ad G 0 23) :: st) M k n) : z_J G Z d Q pc ls (.ref (z_ad G 0 22) :: st) M k n :=
  z_getf (C := RX2) (T := TX2) (N := 7) (ci := 2) (kf := 0) (g := 0) (c := 22) (f := (1, 0, 23)) rfl uX2 (by rw [ho]; exact wfX2_11) rfl rfl (by decide) rfl rfl (Or.inl (by decide)) hd kk
theorem gX2_15 (ho : z_own d = RX2) (hd : decode (z_cc d) pc = .ok (.getfield 15, 3)) (kk : z_J G Z d Q (pc + 3) ls (.ref (z_ad G 0 24) :: st) M k n) : z_J G Z d Q pc ls (.ref (z_ad G 0 22) :: st) M k n :=
  z_getf (C := RX2) (T := TX2) (N := 7) (ci := 2) (kf := 2) (g := 0) (c := 22) (f := (1, 0, 24)) rfl uX2 (by rw [ho]; exact wfX2_15) rfl rfl (by decide) rfl rfl (Or.inl (by decide)) hd kk
theorem gX2_22 (ho : z_own d = RX2) (hd : decode (z_cc d) pc = .ok (.getfield 22, 3)) (kk : z_J G Z d Q (pc + 3) ls (z_I (M 7 3) :: st) M k n) : z_J G Z d Q pc ls (.ref (z_ad G 0 22) :: st) M k n :=
  z_getf (C := RX2) (T := TX2) (N := 7) (ci := 2) (kf := 1) (g := 0) (c := 22) (f := (0, 7, 3)) rfl uX2 (by rw [ho]; exact wfX2_22) rfl rfl (by decide) rfl rfl (Or.inl (by decide)) hd kk
theorem pX2_22 {v : Int} (hv : z_rg v) (ho : z_own d = RX2) (hd : decode (z_cc d) pc = .ok (.putfield 22, 3)) (kk : z_J G Z d Q (pc + 3) ls (st) (z_sM M 7 3 v) k n) : z_J G Z d Q pc ls (z_I v :: .ref (z_ad G 0 22) :: st) M k n :=
  z_putf (C := RX2) (T := TX2) (N := 7) (ci := 2) (kf := 1) (g := 0) (c := 22) (t := 0) (a := 7) (i := 3) (v := v) rfl uX2 tyX2 tyX2_ok nmX2 (by rw [ho]; exact wfX2_22) rfl rfl rfl (by decide) rfl rfl (by decide) rfl rfl (Or.inl (by decide)) (fun _ => hv) hd kk
theorem gX2_26 (ho : z_own d = RX2) (hd : decode (z_cc d) pc = .ok (.getfield 26, 3)) (kk : z_J G Z d Q (pc + 3) ls (z_I (M 7 4) :: st) M k n) : z_J G Z d Q pc ls (.ref (z_ad G 0 22) :: st) M k n :=
  z_getf (C := RX2) (T := TX2) (N := 7) (ci := 2) (kf := 3) (g := 0) (c := 22) (f := (0, 7, 4)) rfl uX2 (by rw [ho]; exact wfX2_26) rfl rfl (by decide) rfl rfl (Or.inl (by decide)) hd kk
theorem pX2_26 {v : Int} (hv : z_rg v) (ho : z_own d = RX2) (hd : decode (z_cc d) pc = .ok (.putfield 26, 3)) (kk : z_J G Z d Q (pc + 3) ls (st) (z_sM M 7 4 v) k n) : z_J G Z d Q pc ls (z_I v :: .ref (z_ad G 0 22) :: st) M k n :=
  z_putf (C := RX2) (T := TX2) (N := 7) (ci := 2) (kf := 3) (g := 0) (c := 22) (t := 0) (a := 7) (i := 4) (v := v) rfl uX2 tyX2 tyX2_ok nmX2 (by rw [ho]; exact wfX2_26) rfl rfl rfl (by decide) rfl rfl (by decide) rfl rfl (Or.inl (by decide)) (fun _ => hv) hd kk
theorem gX2_29 (ho : z_own d = RX2) (hd : decode (z_cc d) pc = .ok (.getfield 29, 3)) (kk : z_J G Z d Q (pc + 3) ls (z_I (M 7 5) :: st) M k n) : z_J G Z d Q pc ls (.ref (z_ad G 0 22) :: st) M k n :=
  z_getf (C := RX2) (T := TX2) (N := 7) (ci := 2) (kf := 4) (g := 0) (c := 22) (f := (0, 7, 5)) rfl uX2 (by rw [ho]; exact wfX2_29) rfl rfl (by decide) rfl rfl (Or.inl (by decide)) hd kk
theorem pX2_29 {v : Int} (hv : z_rg v) (ho : z_own d = RX2) (hd : decode (z_cc d) pc = .ok (.putfield 29, 3)) (kk : z_J G Z d Q (pc + 3) ls (st) (z_sM M 7 5 v) k n) : z_J G Z d Q pc ls (z_I v :: .ref (z_ad G 0 22) :: st) M k n :=
  z_putf (C := RX2) (T := TX2) (N := 7) (ci := 2) (kf := 4) (g := 0) (c := 22) (t := 0) (a := 7) (i := 5) (v := v) rfl uX2 tyX2 tyX2_ok nmX2 (by rw [ho]; exact wfX2_29) rfl rfl rfl (by decide) rfl rfl (by decide) rfl rfl (Or.inl (by decide)) (fun _ => hv) hd kk
theorem gX2_41 (ho : z_own d = RX2) (hd : decode (z_cc d) pc = .ok (.getfield 41, 3)) (kk : z_J G Z d Q (pc + 3) ls (z_I (M 7 6) :: st) M k n) : z_J G Z d Q pc ls (.ref (z_ad G 0 22) :: st) M k n :=
  z_getf (C := RX2) (T := TX2) (N := 7) (ci := 2) (kf := 5) (g := 0) (c := 22) (f := (0, 7, 6)) rfl uX2 (by rw [ho]; exact wfX2_41) rfl rfl (by decide) rfl rfl (Or.inl (by decide)) hd kk
theorem pX2_41 {v : Int} (hv : z_rg v) (ho : z_own d = RX2) (hd : decode (z_cc d) pc = .ok (.putfield 41, 3)) (kk : z_J G Z d Q (pc + 3) ls (st) (z_sM M 7 6 v) k n) : z_J G Z d Q pc ls (z_I v :: .ref (z_ad G 0 22) :: st) M k n :=
  z_putf (C := RX2) (T := TX2) (N := 7) (ci := 2) (kf := 5) (g := 0) (c := 22) (t := 0) (a := 7) (i := 6) (v := v) rfl uX2 tyX2 tyX2_ok nmX2 (by rw [ho]; exact wfX2_41) rfl rfl rfl (by decide) rfl rfl (by decide) rfl rfl (Or.inl (by decide)) (fun _ => hv) hd kk
theorem gX2_44 (ho : z_own d = RX2) (hd : decode (z_cc d) pc = .ok (.getfield 44, 3)) (kk : z_J G Z d Q (pc + 3) ls (z_I (M 7 7) :: st) M k n) : z_J G Z d Q pc ls (.ref (z_ad G 0 22) :: st) M k n :=
  z_getf (C := RX2) (T := TX2) (N := 7) (ci := 2) (kf := 6) (g := 0) (c := 22) (f := (0, 7, 7)) rfl uX2 (by rw [ho]; exact wfX2_44) rfl rfl (by decide) rfl rfl (Or.inl (by decide)) hd kk
theorem pX2_44 {v : Int} (hv : z_rg v) (ho : z_own d = RX2) (hd : decode (z_cc d) pc = .ok (.putfield 44, 3)) (kk : z_J G Z d Q (pc + 3) ls (st) (z_sM M 7 7 v) k n) : z_J G Z d Q pc ls (z_I v :: .ref (z_ad G 0 22) :: st) M k n :=
  z_putf (C := RX2) (T := TX2) (N := 7) (ci := 2) (kf := 6) (g := 0) (c := 22) (t := 0) (a := 7) (i := 7) (v := v) rfl uX2 tyX2 tyX2_ok nmX2 (by rw [ho]; exact wfX2_44) rfl rfl rfl (by decide) rfl rfl (by decide) rfl rfl (Or.inl (by decide)) (fun _ => hv) hd kk
theorem gX3_9 {g : Nat} (hg : g < 7) (ho : z_own d = RX3) (hd : decode (z_cc d) pc = .ok (.getfield 9, 3)) (kk : z_J G Z d Q (pc + 3) ls (.ref (z_ad G g 2) :: st) M k n) : z_J G Z d Q pc ls (.ref (z_ad G g 1) :: st) M k n :=
  z_getf (C := RX3) (T := TX3) (N := 7) (ci := 3) (kf := 1) (g := g) (c := 1) (f := (1, g, 2)) rfl uX3 (by rw [ho]; exact wfX3_9) rfl rfl (by decide) rfl rfl (Or.inl (Or.inl ⟨by decide, hg⟩)) hd kk
theorem gX3_15 {g : Nat} (hg : g < 7) (ho : z_own d = RX3) (hd : decode (z_cc d) pc = .ok (.getfield 15, 3)) (kk : z_J G Z d Q (pc + 3) ls (.ref (z_ad G g 3) :: st) M k n) : z_J G Z d Q pc ls (.ref (z_ad G g 1) :: st) M k n :=
  z_getf (C := RX3) (T := TX3) (N := 7) (ci := 3) (kf := 2) (g := g) (c := 1) (f := (1, g, 3)) rfl uX3 (by rw [ho]; exact wfX3_15) rfl rfl (by decide) rfl rfl (Or.inl (Or.inl ⟨by decide, hg⟩)) hd kk
theorem gX3_18 {g : Nat} (hg : g < 7) (ho : z_own d = RX3) (hd : decode (z_cc d) pc = .ok (.getfield 18, 3)) (kk : z_J G Z d Q (pc + 3) ls (.ref (z_ad G g 4) :: st) M k n) : z_J G Z d Q pc ls (.ref (z_ad G g 1) :: st) M k n :=
  z_getf (C := RX3) (T := TX3) (N := 7) (ci := 3) (kf := 3) (g := g) (c := 1) (f := (1, g, 4)) rfl uX3 (by rw [ho]; exact wfX3_18) rfl rfl (by decide) rfl rfl (Or.inl (Or.inl ⟨by decide, hg⟩)) hd kk
theorem gX3_21 {g : Nat} (hg : g < 7) (ho : z_own d = RX3) (hd : decode (z_cc d) pc = .ok (.getfield 21, 3)) (kk : z_J G Z d Q (pc + 3) ls (.ref (z_ad G g 5) :: st) M k n) : z_J G Z d Q pc ls (.ref (z_ad G g 1) :: st) M k n :=
  z_getf (C := RX3) (T := TX3) (N := 7) (ci := 3) (kf := 4) (g := g) (c := 1) (f := (1, g, 5)) rfl uX3 (by rw [ho]; exact wfX3_21) rfl rfl (by decide) rfl rfl (Or.inl (Or.inl ⟨by decide, hg⟩)) hd kk
theorem gX3_24 {g : Nat} (hg : g < 7) (ho : z_own d = RX3) (hd : decode (z_cc d) pc = .ok (.getfield 24, 3)) (kk : z_J G Z d Q (pc + 3) ls (.ref (z_ad G g 6) :: st) M k n) : z_J G Z d Q pc ls (.ref (z_ad G g 1) :: st) M k n :=
  z_getf (C := RX3) (T := TX3) (N := 7) (ci := 3) (kf := 5) (g := g) (c := 1) (f := (1, g, 6)) rfl uX3 (by rw [ho]; exact wfX3_24) rfl rfl (by decide) rfl rfl (Or.inl (Or.inl ⟨by decide, hg⟩)) hd kk
theorem gX3_27 {g : Nat} (hg : g < 7) (ho : z_own d = RX3) (hd : decode (z_cc d) pc = .ok (.getfield 27, 3)) (kk : z_J G Z d Q (pc + 3) ls (.ref (z_ad G g 7) :: st) M k n) : z_J G Z d Q pc ls (.ref (z_ad G g 1) :: st) M k n :=
  z_getf (C := RX3) (T := TX3) (N := 7) (ci := 3) (kf := 6) (g := g) (c := 1) (f := (1, g, 7)) rfl uX3 (by rw [ho]; exact wfX3_27) rfl rfl (by decide) rfl rfl (Or.inl (Or.inl ⟨by decide, hg⟩)) hd kk
theorem gX3_30 {g : Nat} (hg : g < 7) (ho : z_own d = RX3) (hd : decode (z_cc d) pc = .ok (.getfield 30, 3)) (kk : z_J G Z d Q (pc + 3) ls (z_I (M g 0) :: st) M k n) : z_J G Z d Q pc ls (.ref (z_ad G g 1) :: st) M k n :=
  z_getf (C := RX3) (T := TX3) (N := 7) (ci := 3) (kf := 0) (g := g) (c := 1) (f := (0, g, 0)) rfl uX3 (by rw [ho]; exact wfX3_30) rfl rfl (by decide) rfl rfl (Or.inl (Or.inl ⟨by decide, hg⟩)) hd kk
theorem pX3_30 {g : Nat} (hg : g < 7) {v : Int} (hv : z_rg v) (ho : z_own d = RX3) (hd : decode (z_cc d) pc = .ok (.putfield 30, 3)) (kk : z_J G Z d Q (pc + 3) ls (st) (z_sM M g 0 v) k n) : z_J G Z d Q pc ls (z_I v :: .ref (z_ad G g 1) :: st) M k n :=
  z_putf (C := RX3) (T := TX3) (N := 7) (ci := 3) (kf := 0) (g := g) (c := 1) (t := 0) (a := g) (i := 0) (v := v) rfl uX3 tyX3 tyX3_ok nmX3 (by rw [ho]; exact wfX3_30) rfl rfl rfl (by decide) rfl rfl (by decide) rfl rfl (Or.inl (Or.inl ⟨by decide, hg⟩)) (fun _ => hv) hd kk
theorem gX4_9 {g : Nat} (hg : g < 7) (ho : z_own d = RX4) (hd : decode (z_cc d) pc = .ok (.getfield 9, 3)) (kk : z_J G Z d Q (pc + 3) ls (.ref (z_ad G g 9) :: st) M k n) : z_J G Z d Q pc ls (.ref (z_ad G g 8) :: st) M k n :=
  z_getf (C := RX4) (T := TX4) (N := 9) (ci := 4) (kf := 1) (g := g) (c := 8) (f := (1, g, 9)) rfl uX4 (by rw [ho]; exact wfX4_9) rfl rfl (by decide) rfl rfl (Or.inl (Or.inl ⟨by decide, hg⟩)) hd kk
theorem gX4_15 {g : Nat} (hg : g < 7) (ho : z_own d = RX4) (hd : decode (z_cc d) pc = .ok (.getfield 15, 3)) (kk : z_J G Z d Q (pc + 3) ls (.ref (z_ad G g 10) :: st) M k n) : z_J G Z d Q pc ls (.ref (z_ad G g 8) :: st) M k n :=
  z_getf (C := RX4) (T := TX4) (N := 9) (ci := 4) (kf := 2) (g := g) (c := 8) (f := (1, g, 10)) rfl uX4 (by rw [ho]; exact wfX4_15) rfl rfl (by decide) rfl rfl (Or.inl (Or.inl ⟨by decide, hg⟩)) hd kk
theorem gX4_18 {g : Nat} (hg : g < 7) (ho : z_own d = RX4) (hd : decode (z_cc d) pc = .ok (.getfield 18, 3)) (kk : z_J G Z d Q (pc + 3) ls (.ref (z_ad G g 11) :: st) M k n) : z_J G Z d Q pc ls (.ref (z_ad G g 8) :: st) M k n :=
  z_getf (C := RX4) (T := TX4) (N := 9) (ci := 4) (kf := 3) (g := g) (c := 8) (f := (1, g, 11)) rfl uX4 (by rw [ho]; exact wfX4_18) rfl rfl (by decide) rfl rfl (Or.inl (Or.inl ⟨by decide, hg⟩)) hd kk
theorem gX4_21 {g : Nat} (hg : g < 7) (ho : z_own d = RX4) (hd : decode (z_cc d) pc = .ok (.getfield 21, 3)) (kk : z_J G Z d Q (pc + 3) ls (.ref (z_ad G g 12) :: st) M k n) : z_J G Z d Q pc ls (.ref (z_ad G g 8) :: st) M k n :=
  z_getf (C := RX4) (T := TX4) (N := 9) (ci := 4) (kf := 4) (g := g) (c := 8) (f := (1, g, 12)) rfl uX4 (by rw [ho]; exact wfX4_21) rfl rfl (by decide) rfl rfl (Or.inl (Or.inl ⟨by decide, hg⟩)) hd kk
theorem gX4_24 {g : Nat} (hg : g < 7) (ho : z_own d = RX4) (hd : decode (z_cc d) pc = .ok (.getfield 24, 3)) (kk : z_J G Z d Q (pc + 3) ls (.ref (z_ad G g 13) :: st) M k n) : z_J G Z d Q pc ls (.ref (z_ad G g 8) :: st) M k n :=
  z_getf (C := RX4) (T := TX4) (N := 9) (ci := 4) (kf := 5) (g := g) (c := 8) (f := (1, g, 13)) rfl uX4 (by rw [ho]; exact wfX4_24) rfl rfl (by decide) rfl rfl (Or.inl (Or.inl ⟨by decide, hg⟩)) hd kk
theorem gX4_27 {g : Nat} (hg : g < 7) (ho : z_own d = RX4) (hd : decode (z_cc d) pc = .ok (.getfield 27, 3)) (kk : z_J G Z d Q (pc + 3) ls (.ref (z_ad G g 14) :: st) M k n) : z_J G Z d Q pc ls (.ref (z_ad G g 8) :: st) M k n :=
  z_getf (C := RX4) (T := TX4) (N := 9) (ci := 4) (kf := 6) (g := g) (c := 8) (f := (1, g, 14)) rfl uX4 (by rw [ho]; exact wfX4_27) rfl rfl (by decide) rfl rfl (Or.inl (Or.inl ⟨by decide, hg⟩)) hd kk
theorem gX4_30 {g : Nat} (hg : g < 7) (ho : z_own d = RX4) (hd : decode (z_cc d) pc = .ok (.getfield 30, 3)) (kk : z_J G Z d Q (pc + 3) ls (.ref (z_ad G g 15) :: st) M k n) : z_J G Z d Q pc ls (.ref (z_ad G g 8) :: st) M k n :=
  z_getf (C := RX4) (T := TX4) (N := 9) (ci := 4) (kf := 7) (g := g) (c := 8) (f := (1, g, 15)) rfl uX4 (by rw [ho]; exact wfX4_30) rfl rfl (by decide) rfl rfl (Or.inl (Or.inl ⟨by decide, hg⟩)) hd kk
theorem gX4_33 {g : Nat} (hg : g < 7) (ho : z_own d = RX4) (hd : decode (z_cc d) pc = .ok (.getfield 33, 3)) (kk : z_J G Z d Q (pc + 3) ls (.ref (z_ad G g 16) :: st) M k n) : z_J G Z d Q pc ls (.ref (z_ad G g 8) :: st) M k n :=
  z_getf (C := RX4) (T := TX4) (N := 9) (ci := 4) (kf := 8) (g := g) (c := 8) (f := (1, g, 16)) rfl uX4 (by rw [ho]; exact wfX4_33) rfl rfl (by decide) rfl rfl (Or.inl (Or.inl ⟨by decide, hg⟩)) hd kk
theorem gX4_36 {g : Nat} (hg : g < 7) (ho : z_own d = RX4) (hd : decode (z_cc d) pc = .ok (.getfield 36, 3)) (kk : z_J G Z d Q (pc + 3) ls (z_I (M g 1) :: st) M k n) : z_J G Z d Q pc ls (.ref (z_ad G g 8) :: st) M k n :=
  z_getf (C := RX4) (T := TX4) (N := 9) (ci := 4) (kf := 0) (g := g) (c := 8) (f := (0, g, 1)) rfl uX4 (by rw [ho]; exact wfX4_36) rfl rfl (by decide) rfl rfl (Or.inl (Or.inl ⟨by decide, hg⟩)) hd kk
theorem pX4_36 {g : Nat} (hg : g < 7) {v : Int} (hv : z_rg v) (ho : z_own d = RX4) (hd : decode (z_cc d) pc = .ok (.putfield 36, 3)) (kk : z_J G Z d Q (pc + 3) ls (st) (z_sM M g 1 v) k n) : z_J G Z d Q pc ls (z_I v :: .ref (z_ad G g 8) :: st) M k n :=
  z_putf (C := RX4) (T := TX4) (N := 9) (ci := 4) (kf := 0) (g := g) (c := 8) (t := 0) (a := g) (i := 1) (v := v) rfl uX4 tyX4 tyX4_ok nmX4 (by rw [ho]; exact wfX4_36) rfl rfl rfl (by decide) rfl rfl (by decide) rfl rfl (Or.inl (Or.inl ⟨by decide, hg⟩)) (fun _ => hv) hd kk
theorem gX5_12 {g : Nat} (hg : g < 7) (ho : z_own d = RX5) (hd : decode (z_cc d) pc = .ok (.getfield 12, 3)) (kk : z_J G Z d Q (pc + 3) ls (.ref (z_ad G g 1) :: st) M k n) : z_J G Z d Q pc ls (.ref (z_ad G g 0) :: st) M k n :=
  z_getf (C := RX5) (T := TX5) (N := 8) (ci := 5) (kf := 0) (g := g) (c := 0) (f := (1, g, 1)) rfl uX5 (by rw [ho]; exact wfX5_12) rfl rfl (by decide) rfl rfl (Or.inl (Or.inl ⟨by decide, hg⟩)) hd kk
theorem gX5_21 {g : Nat} (hg : g < 7) (ho : z_own d = RX5) (hd : decode (z_cc d) pc = .ok (.getfield 21, 3)) (kk : z_J G Z d Q (pc + 3) ls (.ref (z_ad G g 8) :: st) M k n) : z_J G Z d Q pc ls (.ref (z_ad G g 0) :: st) M k n :=
  z_getf (C := RX5) (T := TX5) (N := 8) (ci := 5) (kf := 1) (g := g) (c := 0) (f := (1, g, 8)) rfl uX5 (by rw [ho]; exact wfX5_21) rfl rfl (by decide) rfl rfl (Or.inl (Or.inl ⟨by decide, hg⟩)) hd kk
theorem gX5_34 {g : Nat} (hg : g < 7) (ho : z_own d = RX5) (hd : decode (z_cc d) pc = .ok (.getfield 34, 3)) (kk : z_J G Z d Q (pc + 3) ls (.ref (z_ad G g 17) :: st) M k n) : z_J G Z d Q pc ls (.ref (z_ad G g 0) :: st) M k n :=
  z_getf (C := RX5) (T := TX5) (N := 8) (ci := 5) (kf := 2) (g := g) (c := 0) (f := (1, g, 17)) rfl uX5 (by rw [ho]; exact wfX5_34) rfl rfl (by decide) rfl rfl (Or.inl (Or.inl ⟨by decide, hg⟩)) hd kk
theorem gX5_48 {g : Nat} (hg : g < 7) (ho : z_own d = RX5) (hd : decode (z_cc d) pc = .ok (.getfield 48, 3)) (kk : z_J G Z d Q (pc + 3) ls (z_I (M g 2) :: st) M k n) : z_J G Z d Q pc ls (.ref (z_ad G g 0) :: st) M k n :=
  z_getf (C := RX5) (T := TX5) (N := 8) (ci := 5) (kf := 3) (g := g) (c := 0) (f := (0, g, 2)) rfl uX5 (by rw [ho]; exact wfX5_48) rfl rfl (by decide) rfl rfl (Or.inl (Or.inl ⟨by decide, hg⟩)) hd kk
theorem pX5_48 {g : Nat} (hg : g < 7) {v : Int} (hv : z_rg v) (ho : z_own d = RX5) (hd : decode (z_cc d) pc = .ok (.putfield 48, 3)) (kk : z_J G Z d Q (pc + 3) ls (st) (z_sM M g 2 v) k n) : z_J G Z d Q pc ls (z_I v :: .ref (z_ad G g 0) :: st) M k n :=
  z_putf (C := RX5) (T := TX5) (N := 8) (ci := 5) (kf := 3) (g := g) (c := 0) (t := 0) (a := g) (i := 2) (v := v) rfl uX5 tyX5 tyX5_ok nmX5 (by rw [ho]; exact wfX5_48) rfl rfl rfl (by decide) rfl rfl (by decide) rfl rfl (Or.inl (Or.inl ⟨by decide, hg⟩)) (fun _ => hv) hd kk
theorem gX5_52 {g : Nat} (hg : g < 7) (ho : z_own d = RX5) (hd : decode (z_cc d) pc = .ok (.getfield 52, 3)) (kk : z_J G Z d Q (pc + 3) ls (z_I (M g 3) :: st) M k n) : z_J G Z d Q pc ls (.ref (z_ad G g 0) :: st) M k n :=
  z_getf (C := RX5) (T := TX5) (N := 8) (ci := 5) (kf := 4) (g := g) (c := 0) (f := (0, g, 3)) rfl uX5 (by rw [ho]; exact wfX5_52) rfl rfl (by decide) rfl rfl (Or.inl (Or.inl ⟨by decide, hg⟩)) hd kk
theorem pX5_52 {g : Nat} (hg : g < 7) {v : Int} (hv : z_rg v) (ho : z_own d = RX5) (hd : decode (z_cc d) pc = .ok (.putfield 52, 3)) (kk : z_J G Z d Q (pc + 3) ls (st) (z_sM M g 3 v) k n) : z_J G Z d Q pc ls (z_I v :: .ref (z_ad G g 0) :: st) M k n :=
  z_putf (C := RX5) (T := TX5) (N := 8) (ci := 5) (kf := 4) (g := g) (c := 0) (t := 0) (a := g) (i := 3) (v := v) rfl uX5 tyX5 tyX5_ok nmX5 (by rw [ho]; exact wfX5_52) rfl rfl rfl (by decide) rfl rfl (by decide) rfl rfl (Or.inl (Or.inl ⟨by decide, hg⟩)) (fun _ => hv) hd kk
theorem gX5_55 {g : Nat} (hg : g < 7) (ho : z_own d = RX5) (hd : decode (z_cc d) pc = .ok (.getfield 55, 3)) (kk : z_J G Z d Q (pc + 3) ls (z_I (M g 4) :: st) M k n) : z_J G Z d Q pc ls (.ref (z_ad G g 0) :: st) M k n :=
  z_getf (C := RX5) (T := TX5) (N := 8) (ci := 5) (kf := 5) (g := g) (c := 0) (f := (0, g, 4)) rfl uX5 (by rw [ho]; exact wfX5_55) rfl rfl (by decide) rfl rfl (Or.inl (Or.inl ⟨by decide, hg⟩)) hd kk
theorem pX5_55 {g : Nat} (hg : g < 7) {v : Int} (hv : z_rg v) (ho : z_own d = RX5) (hd : decode (z_cc d) pc = .ok (.putfield 55, 3)) (kk : z_J G Z d Q (pc + 3) ls (st) (z_sM M g 4 v) k n) : z_J G Z d Q pc ls (z_I v :: .ref (z_ad G g 0) :: st) M k n :=
  z_putf (C := RX5) (T := TX5) (N := 8) (ci := 5) (kf := 5) (g := g) (c := 0) (t := 0) (a := g) (i := 4) (v := v) rfl uX5 tyX5 tyX5_ok nmX5 (by rw [ho]; exact wfX5_55) rfl rfl rfl (by decide) rfl rfl (by decide) rfl rfl (Or.inl (Or.inl ⟨by decide, hg⟩)) (fun _ => hv) hd kk
theorem gX5_58 {g : Nat} (hg : g < 7) (ho : z_own d = RX5) (hd : decode (z_cc d) pc = .ok (.getfield 58, 3)) (kk : z_J G Z d Q (pc + 3) ls (z_I (M g 7) :: st) M k n) : z_J G Z d Q pc ls (.ref (z_ad G g 0) :: st) M k n :=
  z_getf (C := RX5) (T := TX5) (N := 8) (ci := 5) (kf := 6) (g := g) (c := 0) (f := (0, g, 7)) rfl uX5 (by rw [ho]; exact wfX5_58) rfl rfl (by decide) rfl rfl (Or.inl (Or.inl ⟨by decide, hg⟩)) hd kk
theorem pX5_58 {g : Nat} (hg : g < 7) {v : Int} (hv : z_rg v) (ho : z_own d = RX5) (hd : decode (z_cc d) pc = .ok (.putfield 58, 3)) (kk : z_J G Z d Q (pc + 3) ls (st) (z_sM M g 7 v) k n) : z_J G Z d Q pc ls (z_I v :: .ref (z_ad G g 0) :: st) M k n :=
  z_putf (C := RX5) (T := TX5) (N := 8) (ci := 5) (kf := 6) (g := g) (c := 0) (t := 0) (a := g) (i := 7) (v := v) rfl uX5 tyX5 tyX5_ok nmX5 (by rw [ho]; exact wfX5_58) rfl rfl rfl (by decide) rfl rfl (by decide) rfl rfl (Or.inl (Or.inl ⟨by decide, hg⟩)) (fun _ => hv) hd kk
theorem gX5_61 {g : Nat} (hg : g < 7) (ho : z_own d = RX5) (hd : decode (z_cc d) pc = .ok (.getfield 61, 3)) (kk : z_J G Z d Q (pc + 3) ls (z_I (M g 6) :: st) M k n) : z_J G Z d Q pc ls (.ref (z_ad G g 0) :: st) M k n :=
  z_getf (C := RX5) (T := TX5) (N := 8) (ci := 5) (kf := 7) (g := g) (c := 0) (f := (0, g, 6)) rfl uX5 (by rw [ho]; exact wfX5_61) rfl rfl (by decide) rfl rfl (Or.inl (Or.inl ⟨by decide, hg⟩)) hd kk
theorem pX5_61 {g : Nat} (hg : g < 7) {v : Int} (hv : z_rg v) (ho : z_own d = RX5) (hd : decode (z_cc d) pc = .ok (.putfield 61, 3)) (kk : z_J G Z d Q (pc + 3) ls (st) (z_sM M g 6 v) k n) : z_J G Z d Q pc ls (z_I v :: .ref (z_ad G g 0) :: st) M k n :=
  z_putf (C := RX5) (T := TX5) (N := 8) (ci := 5) (kf := 7) (g := g) (c := 0) (t := 0) (a := g) (i := 6) (v := v) rfl uX5 tyX5 tyX5_ok nmX5 (by rw [ho]; exact wfX5_61) rfl rfl rfl (by decide) rfl rfl (by decide) rfl rfl (Or.inl (Or.inl ⟨by decide, hg⟩)) (fun _ => hv) hd kk
theorem gX5_64 {g : Nat} (hg : g < 7) (ho : z_own d = RX5) (hd : decode (z_cc d) pc = .ok (.getfield 64, 3)) (kk : z_J G Z d Q (pc + 3) ls (.ref (z_ad G g 11) :: st) M k n) : z_J G Z d Q pc ls (.ref (z_ad G g 8) :: st) M k n :=
  z_getf (C := RX4) (T := TX4) (N := 9) (ci := 4) (kf := 3) (g := g) (c := 8) (f := (1, g, 11)) rfl uX4 (by rw [ho]; exact wfX5_64) rfl rfl (by decide) rfl rfl (Or.inl (Or.inl ⟨by decide, hg⟩)) hd kk
theorem gX5_67 {g : Nat} (hg : g < 7) (ho : z_own d = RX5) (hd : decode (z_cc d) pc = .ok (.getfield 67, 3)) (kk : z_J G Z d Q (pc + 3) ls (.ref (z_ad G g 10) :: st) M k n) : z_J G Z d Q pc ls (.ref (z_ad G g 8) :: st) M k n :=
  z_getf (C := RX4) (T := TX4) (N := 9) (ci := 4) (kf := 2) (g := g) (c := 8) (f := (1, g, 10)) rfl uX4 (by rw [ho]; exact wfX5_67) rfl rfl (by decide) rfl rfl (Or.inl (Or.inl ⟨by decide, hg⟩)) hd kk
theorem gX6_11 (ho : z_own d = RX6) (hd : decode (z_cc d) pc = .ok (.getfield 11, 3)) (kk : z_J G Z d Q (pc + 3) ls (.ref (z_ad G 0 21) :: st) M k n) : z_J G Z d Q pc ls (.ref (z_ad G 0 20) :: st) M k n :=
  z_getf (C := RX6) (T := TX6) (N := 9) (ci := 6) (kf := 0) (g := 0) (c := 20) (f := (1, 0, 21)) rfl uX6 (by rw [ho]; exact wfX6_11) rfl rfl (by decide) rfl rfl (Or.inl (by decide)) hd kk
theorem gX6_18 (ho : z_own d = RX6) (hd : decode (z_cc d) pc = .ok (.getfield 18, 3)) (kk : z_J G Z d Q (pc + 3) ls (.ref (z_ad G 0 22) :: st) M k n) : z_J G Z d Q pc ls (.ref (z_ad G 0 20) :: st) M k n :=
  z_getf (C := RX6) (T := TX6) (N := 9) (ci := 6) (kf := 4) (g := 0) (c := 20) (f := (1, 0, 22)) rfl uX6 (by rw [ho]; exact wfX6_18) rfl rfl (by decide) rfl rfl (Or.inl (by decide)) hd kk
theorem gX6_25 (ho : z_own d = RX6) (hd : decode (z_cc d) pc = .ok (.getfield 25, 3)) (kk : z_J G Z d Q (pc + 3) ls (.ref (z_ad G 0 25) :: st) M k n) : z_J G Z d Q pc ls (.ref (z_ad G 0 20) :: st) M k n :=
  z_getf (C := RX6) (T := TX6) (N := 9) (ci := 6) (kf := 5) (g := 0) (c := 20) (f := (1, 0, 25)) rfl uX6 (by rw [ho]; exact wfX6_25) rfl rfl (by decide) rfl rfl (Or.inl (by decide)) hd kk
theorem gX6_32 (ho : z_own d = RX6) (hd : decode (z_cc d) pc = .ok (.getfield 32, 3)) (kk : z_J G Z d Q (pc + 3) ls (.ref (z_ad G 0 28) :: st) M k n) : z_J G Z d Q pc ls (.ref (z_ad G 0 20) :: st) M k n :=
  z_getf (C := RX6) (T := TX6) (N := 9) (ci := 6) (kf := 6) (g := 0) (c := 20) (f := (1, 0, 28)) rfl uX6 (by rw [ho]; exact wfX6_32) rfl rfl (by decide) rfl rfl (Or.inl (by decide)) hd kk
theorem gX6_36 (ho : z_own d = RX6) (hd : decode (z_cc d) pc = .ok (.getfield 36, 3)) (kk : z_J G Z d Q (pc + 3) ls (.ref (z_ad G 0 33) :: st) M k n) : z_J G Z d Q pc ls (.ref (z_ad G 0 20) :: st) M k n :=
  z_getf (C := RX6) (T := TX6) (N := 9) (ci := 6) (kf := 7) (g := 0) (c := 20) (f := (1, 0, 33)) rfl uX6 (by rw [ho]; exact wfX6_36) rfl rfl (by decide) rfl rfl (Or.inl (by decide)) hd kk
theorem gX6_40 (ho : z_own d = RX6) (hd : decode (z_cc d) pc = .ok (.getfield 40, 3)) (kk : z_J G Z d Q (pc + 3) ls (.ref (z_ad G 0 34) :: st) M k n) : z_J G Z d Q pc ls (.ref (z_ad G 0 20) :: st) M k n :=
  z_getf (C := RX6) (T := TX6) (N := 9) (ci := 6) (kf := 8) (g := 0) (c := 20) (f := (1, 0, 34)) rfl uX6 (by rw [ho]; exact wfX6_40) rfl rfl (by decide) rfl rfl (Or.inl (by decide)) hd kk
theorem gX6_44 {g : Nat} (hn : M 7 2 = (g : Int)) (ho : z_own d = RX6) (hd : decode (z_cc d) pc = .ok (.getfield 44, 3)) (kk : z_J G Z d Q (pc + 3) ls (.ref (z_ad G g 0) :: st) M k n) : z_J G Z d Q pc ls (.ref (z_ad G 0 20) :: st) M k n := by
  refine z_getf (C := RX6) (T := TX6) (N := 9) (ci := 6) (kf := 3) (g := 0) (c := 20) (f := (2, 7, 2)) rfl uX6 (by rw [ho]; exact wfX6_44) rfl rfl (by decide) rfl rfl (Or.inl (by decide)) hd ?_
  show z_J G Z d Q (pc + 3) ls (.ref (z_ad G (M 7 2).toNat 0) :: st) M k n
  rw [hn]
  exact kk
theorem pX6_44 {g : Nat} (hg : g < 7) (ho : z_own d = RX6) (hd : decode (z_cc d) pc = .ok (.putfield 44, 3)) (kk : z_J G Z d Q (pc + 3) ls (st) (z_sM M 7 2 (g : Int)) k n) : z_J G Z d Q pc ls (.ref (z_ad G g 0) :: .ref (z_ad G 0 20) :: st) M k n :=
  z_putf (C := RX6) (T := TX6) (N := 9) (ci := 6) (kf := 3) (g := 0) (c := 20) (t := 2) (a := 7) (i := 2) (v := (g : Int)) rfl uX6 tyX6 tyX6_ok nmX6 (by rw [ho]; exact wfX6_44) rfl rfl rfl (by decide) rfl rfl (by decide) rfl rfl (Or.inl (by decide)) (fun _ => ⟨by omega, by omega⟩) hd kk
theorem gX6_48 {g : Nat} (hg : g < 7) (ho : z_own d = RX6) (hd : decode (z_cc d) pc = .ok (.getfield 48, 3)) (kk : z_J G Z d Q (pc + 3) ls (.ref (z_ad G g 1) :: st) M k n) : z_J G Z d Q pc ls (.ref (z_ad G g 0) :: st) M k n :=
  z_getf (C := RX5) (T := TX5) (N := 8) (ci := 5) (kf := 0) (g := g) (c := 0) (f := (1, g, 1)) rfl uX5 (by rw [ho]; exact wfX6_48) rfl rfl (by decide) rfl rfl (Or.inl (Or.inl ⟨by decide, hg⟩)) hd kk
theorem gX6_52 {g : Nat} (hg : g < 7) (ho : z_own d = RX6) (hd : decode (z_cc d) pc = .ok (.getfield 52, 3)) (kk : z_J G Z d Q (pc + 3) ls (z_I (M g 0) :: st) M k n) : z_J G Z d Q pc ls (.ref (z_ad G g 1) :: st) M k n :=
  z_getf (C := RX3) (T := TX3) (N := 7) (ci := 3) (kf := 0) (g := g) (c := 1) (f := (0, g, 0)) rfl uX3 (by rw [ho]; exact wfX6_52) rfl rfl (by decide) rfl rfl (Or.inl (Or.inl ⟨by decide, hg⟩)) hd kk
theorem pX6_52 {g : Nat} (hg : g < 7) {v : Int} (hv : z_rg v) (ho : z_own d = RX6) (hd : decode (z_cc d) pc = .ok (.putfield 52, 3)) (kk : z_J G Z d Q (pc + 3) ls (st) (z_sM M g 0 v) k n) : z_J G Z d Q pc ls (z_I v :: .ref (z_ad G g 1) :: st) M k n :=
  z_putf (C := RX3) (T := TX3) (N := 7) (ci := 3) (kf := 0) (g := g) (c := 1) (t := 0) (a := g) (i := 0) (v := v) rfl uX3 tyX3 tyX3_ok nmX3 (by rw [ho]; exact wfX6_52) rfl rfl rfl (by decide) rfl rfl (by decide) rfl rfl (Or.inl (Or.inl ⟨by decide, hg⟩)) (fun _ => hv) hd kk
theorem gX6_68 {g : Nat} (hg : g < 7) (ho : z_own d = RX6) (hd : decode (z_cc d) pc = .ok (.getfield 68, 3)) (kk : z_J G Z d Q (pc + 3) ls (.ref (z_ad G g 5) :: st) M k n) : z_J G Z d Q pc ls (.ref (z_ad G g 1) :: st) M k n :=
  z_getf (C := RX3) (T := TX3) (N := 7) (ci := 3) (kf := 4) (g := g) (c := 1) (f := (1, g, 5)) rfl uX3 (by rw [ho]; exact wfX6_68) rfl rfl (by decide) rfl rfl (Or.inl (Or.inl ⟨by decide, hg⟩)) hd kk
theorem gX6_85 {g : Nat} (hg : g < 7) (ho : z_own d = RX6) (hd : decode (z_cc d) pc = .ok (.getfield 85, 3)) (kk : z_J G Z d Q (pc + 3) ls (.ref (z_ad G g 2) :: st) M k n) : z_J G Z d Q pc ls (.ref (z_ad G g 1) :: st) M k n :=
  z_getf (C := RX3) (T := TX3) (N := 7) (ci := 3) (kf := 1) (g := g) (c := 1) (f := (1, g, 2)) rfl uX3 (by rw [ho]; exact wfX6_85) rfl rfl (by decide) rfl rfl (Or.inl (Or.inl ⟨by decide, hg⟩)) hd kk
theorem gX6_97 {g : Nat} (hg : g < 7) (ho : z_own d = RX6) (hd : decode (z_cc d) pc = .ok (.getfield 97, 3)) (kk : z_J G Z d Q (pc + 3) ls (.ref (z_ad G g 6) :: st) M k n) : z_J G Z d Q pc ls (.ref (z_ad G g 1) :: st) M k n :=
  z_getf (C := RX3) (T := TX3) (N := 7) (ci := 3) (kf := 5) (g := g) (c := 1) (f := (1, g, 6)) rfl uX3 (by rw [ho]; exact wfX6_97) rfl rfl (by decide) rfl rfl (Or.inl (Or.inl ⟨by decide, hg⟩)) hd kk
theorem gX6_100 {g : Nat} (hg : g < 7) (ho : z_own d = RX6) (hd : decode (z_cc d) pc = .ok (.getfield 100, 3)) (kk : z_J G Z d Q (pc + 3) ls (z_I (M g 3) :: st) M k n) : z_J G Z d Q pc ls (.ref (z_ad G g 0) :: st) M k n :=
  z_getf (C := RX5) (T := TX5) (N := 8) (ci := 5) (kf := 4) (g := g) (c := 0) (f := (0, g, 3)) rfl uX5 (by rw [ho]; exact wfX6_100) rfl rfl (by decide) rfl rfl (Or.inl (Or.inl ⟨by decide, hg⟩)) hd kk
theorem pX6_100 {g : Nat} (hg : g < 7) {v : Int} (hv : z_rg v) (ho : z_own d = RX6) (hd : decode (z_cc d) pc = .ok (.putfield 100, 3)) (kk : z_J G Z d Q (pc + 3) ls (st) (z_sM M g 3 v) k n) : z_J G Z d Q pc ls (z_I v :: .ref (z_ad G g 0) :: st) M k n :=
  z_putf (C := RX5) (T := TX5) (N := 8) (ci := 5) (kf := 4) (g := g) (c := 0) (t := 0) (a := g) (i := 3) (v := v) rfl uX5 tyX5 tyX5_ok nmX5 (by rw [ho]; exact wfX6_100) rfl rfl rfl (by decide) rfl rfl (by decide) rfl rfl (Or.inl (Or.inl ⟨by decide, hg⟩)) (fun _ => hv) hd kk
theorem gX6_103 {g : Nat} (hg : g < 7) (ho : z_own d = RX6) (hd : decode (z_cc d) pc = .ok (.getfield 103, 3)) (kk : z_J G Z d Q (pc + 3) ls (.ref (z_ad G g 3) :: st) M k n) : z_J G Z d Q pc ls (.ref (z_ad G g 1) :: st) M k n :=
  z_getf (C := RX3) (T := TX3) (N := 7) (ci := 3) (kf := 2) (g := g) (c := 1) (f := (1, g, 3)) rfl uX3 (by rw [ho]; exact wfX6_103) rfl rfl (by decide) rfl rfl (Or.inl (Or.inl ⟨by decide, hg⟩)) hd kk
theorem gX6_106 {g : Nat} (hg : g < 7) (ho : z_own d = RX6) (hd : decode (z_cc d) pc = .ok (.getfield 106, 3)) (kk : z_J G Z d Q (pc + 3) ls (.ref (z_ad G g 7) :: st) M k n) : z_J G Z d Q pc ls (.ref (z_ad G g 1) :: st) M k n :=
  z_getf (C := RX3) (T := TX3) (N := 7) (ci := 3) (kf := 6) (g := g) (c := 1) (f := (1, g, 7)) rfl uX3 (by rw [ho]; exact wfX6_106) rfl rfl (by decide) rfl rfl (Or.inl (Or.inl ⟨by decide, hg⟩)) hd kk
theorem gX6_115 {g : Nat} (hg : g < 7) (ho : z_own d = RX6) (hd : decode (z_cc d) pc = .ok (.getfield 115, 3)) (kk : z_J G Z d Q (pc + 3) ls (.ref (z_ad G g 17) :: st) M k n) : z_J G Z d Q pc ls (.ref (z_ad G g 0) :: st) M k n :=
  z_getf (C := RX5) (T := TX5) (N := 8) (ci := 5) (kf := 2) (g := g) (c := 0) (f := (1, g, 17)) rfl uX5 (by rw [ho]; exact wfX6_115) rfl rfl (by decide) rfl rfl (Or.inl (Or.inl ⟨by decide, hg⟩)) hd kk
theorem gX6_118 {g : Nat} (hg : g < 7) (ho : z_own d = RX6) (hd : decode (z_cc d) pc = .ok (.getfield 118, 3)) (kk : z_J G Z d Q (pc + 3) ls (z_I (M g 2) :: st) M k n) : z_J G Z d Q pc ls (.ref (z_ad G g 0) :: st) M k n :=
  z_getf (C := RX5) (T := TX5) (N := 8) (ci := 5) (kf := 3) (g := g) (c := 0) (f := (0, g, 2)) rfl uX5 (by rw [ho]; exact wfX6_118) rfl rfl (by decide) rfl rfl (Or.inl (Or.inl ⟨by decide, hg⟩)) hd kk
theorem pX6_118 {g : Nat} (hg : g < 7) {v : Int} (hv : z_rg v) (ho : z_own d = RX6) (hd : decode (z_cc d) pc = .ok (.putfield 118, 3)) (kk : z_J G Z d Q (pc + 3) ls (st) (z_sM M g 2 v) k n) : z_J G Z d Q pc ls (z_I v :: .ref (z_ad G g 0) :: st) M k n :=
  z_putf (C := RX5) (T := TX5) (N := 8) (ci := 5) (kf := 3) (g := g) (c := 0) (t := 0) (a := g) (i := 2) (v := v) rfl uX5 tyX5 tyX5_ok nmX5 (by rw [ho]; exact wfX6_118) rfl rfl rfl (by decide) rfl rfl (by decide) rfl rfl (Or.inl (Or.inl ⟨by decide, hg⟩)) (fun _ => hv) hd kk
theorem gX6_121 {g : Nat} (hg : g < 7) (ho : z_own d = RX6) (hd : decode (z_cc d) pc = .ok (.getfield 121, 3)) (kk : z_J G Z d Q (pc + 3) ls (.ref (z_ad G g 8) :: st) M k n) : z_J G Z d Q pc ls (.ref (z_ad G g 0) :: st) M k n :=
  z_getf (C := RX5) (T := TX5) (N := 8) (ci := 5) (kf := 1) (g := g) (c := 0) (f := (1, g, 8)) rfl uX5 (by rw [ho]; exact wfX6_121) rfl rfl (by decide) rfl rfl (Or.inl (Or.inl ⟨by decide, hg⟩)) hd kk
theorem gX6_125 {g : Nat} (hg : g < 7) (ho : z_own d = RX6) (hd : decode (z_cc d) pc = .ok (.getfield 125, 3)) (kk : z_J G Z d Q (pc + 3) ls (.ref (z_ad G g 16) :: st) M k n) : z_J G Z d Q pc ls (.ref (z_ad G g 8) :: st) M k n :=
  z_getf (C := RX4) (T := TX4) (N := 9) (ci := 4) (kf := 8) (g := g) (c := 8) (f := (1, g, 16)) rfl uX4 (by rw [ho]; exact wfX6_125) rfl rfl (by decide) rfl rfl (Or.inl (Or.inl ⟨by decide, hg⟩)) hd kk
theorem gX6_136 {g : Nat} (hg : g < 7) (ho : z_own d = RX6) (hd : decode (z_cc d) pc = .ok (.getfield 136, 3)) (kk : z_J G Z d Q (pc + 3) ls (z_I (M g 1) :: st) M k n) : z_J G Z d Q pc ls (.ref (z_ad G g 8) :: st) M k n :=
  z_getf (C := RX4) (T := TX4) (N := 9) (ci := 4) (kf := 0) (g := g) (c := 8) (f := (0, g, 1)) rfl uX4 (by rw [ho]; exact wfX6_136) rfl rfl (by decide) rfl rfl (Or.inl (Or.inl ⟨by decide, hg⟩)) hd kk
theorem pX6_136 {g : Nat} (hg : g < 7) {v : Int} (hv : z_rg v) (ho : z_own d = RX6) (hd : decode (z_cc d) pc = .ok (.putfield 136, 3)) (kk : z_J G Z d Q (pc + 3) ls (st) (z_sM M g 1 v) k n) : z_J G Z d Q pc ls (z_I v :: .ref (z_ad G g 8) :: st) M k n :=
  z_putf (C := RX4) (T := TX4) (N := 9) (ci := 4) (kf := 0) (g := g) (c := 8) (t := 0) (a := g) (i := 1) (v := v) rfl uX4 tyX4 tyX4_ok nmX4 (by rw [ho]; exact wfX6_136) rfl rfl rfl (by decide) rfl rfl (by decide) rfl rfl (Or.inl (Or.inl ⟨by decide, hg⟩)) (fun _ => hv) hd kk
theorem gX6_155 {g : Nat} (hg : g < 7) (ho : z_own d = RX6) (hd : decode (z_cc d) pc = .ok (.getfield 155, 3)) (kk : z_J G Z d Q (pc + 3) ls (.ref (z_ad G g 15) :: st) M k n) : z_J G Z d Q pc ls (.ref (z_ad G g 8) :: st) M k n :=
  z_getf (C := RX4) (T := TX4) (N := 9) (ci := 4) (kf := 7) (g := g) (c := 8) (f := (1, g, 15)) rfl uX4 (by rw [ho]; exact wfX6_155) rfl rfl (by decide) rfl rfl (Or.inl (Or.inl ⟨by decide, hg⟩)) hd kk
theorem gX6_161 {g : Nat} (hg : g < 7) (ho : z_own d = RX6) (hd : decode (z_cc d) pc = .ok (.getfield 161, 3)) (kk : z_J G Z d Q (pc + 3) ls (.ref (z_ad G g 11) :: st) M k n) : z_J G Z d Q pc ls (.ref (z_ad G g 8) :: st) M k n :=
  z_getf (C := RX4) (T := TX4) (N := 9) (ci := 4) (kf := 3) (g := g) (c := 8) (f := (1, g, 11)) rfl uX4 (by rw [ho]; exact wfX6_161) rfl rfl (by decide) rfl rfl (Or.inl (Or.inl ⟨by decide, hg⟩)) hd kk
theorem gX6_164 {g : Nat} (hg : g < 7) (ho : z_own d = RX6) (hd : decode (z_cc d) pc = .ok (.getfield 164, 3)) (kk : z_J G Z d Q (pc + 3) ls (.ref (z_ad G g 10) :: st) M k n) : z_J G Z d Q pc ls (.ref (z_ad G g 8) :: st) M k n :=
  z_getf (C := RX4) (T := TX4) (N := 9) (ci := 4) (kf := 2) (g := g) (c := 8) (f := (1, g, 10)) rfl uX4 (by rw [ho]; exact wfX6_164) rfl rfl (by decide) rfl rfl (Or.inl (Or.inl ⟨by decide, hg⟩)) hd kk
theorem gX6_167 {g : Nat} (hg : g < 7) (ho : z_own d = RX6) (hd : decode (z_cc d) pc = .ok (.getfield 167, 3)) (kk : z_J G Z d Q (pc + 3) ls (.ref (z_ad G g 12) :: st) M k n) : z_J G Z d Q pc ls (.ref (z_ad G g 8) :: st) M k n :=
  z_getf (C := RX4) (T := TX4) (N := 9) (ci := 4) (kf := 4) (g := g) (c := 8) (f := (1, g, 12)) rfl uX4 (by rw [ho]; exact wfX6_167) rfl rfl (by decide) rfl rfl (Or.inl (Or.inl ⟨by decide, hg⟩)) hd kk
theorem gX6_182 (ho : z_own d = RX6) (hd : decode (z_cc d) pc = .ok (.getfield 182, 3)) (kk : z_J G Z d Q (pc + 3) ls (.ref (z_ad G 0 24) :: st) M k n) : z_J G Z d Q pc ls (.ref (z_ad G 0 22) :: st) M k n :=
  z_getf (C := RX2) (T := TX2) (N := 7) (ci := 2) (kf := 2) (g := 0) (c := 22) (f := (1, 0, 24)) rfl uX2 (by rw [ho]; exact wfX6_182) rfl rfl (by decide) rfl rfl (Or.inl (by decide)) hd kk
theorem gX6_189 (ho : z_own d = RX6) (hd : decode (z_cc d) pc = .ok (.getfield 189, 3)) (kk : z_J G Z d Q (pc + 3) ls (z_I (M 7 3) :: st) M k n) : z_J G Z d Q pc ls (.ref (z_ad G 0 22) :: st) M k n :=
  z_getf (C := RX2) (T := TX2) (N := 7) (ci := 2) (kf := 1) (g := 0) (c := 22) (f := (0, 7, 3)) rfl uX2 (by rw [ho]; exact wfX6_189) rfl rfl (by decide) rfl rfl (Or.inl (by decide)) hd kk
theorem pX6_189 {v : Int} (hv : z_rg v) (ho : z_own d = RX6) (hd : decode (z_cc d) pc = .ok (.putfield 189, 3)) (kk : z_J G Z d Q (pc + 3) ls (st) (z_sM M 7 3 v) k n) : z_J G Z d Q pc ls (z_I v :: .ref (z_ad G 0 22) :: st) M k n :=
  z_putf (C := RX2) (T := TX2) (N := 7) (ci := 2) (kf := 1) (g := 0) (c := 22) (t := 0) (a := 7) (i := 3) (v := v) rfl uX2 tyX2 tyX2_ok nmX2 (by rw [ho]; exact wfX6_189) rfl rfl rfl (by decide) rfl rfl (by decide) rfl rfl (Or.inl (by decide)) (fun _ => hv) hd kk
theorem gX6_213 {g : Nat} (hg : g < 7) (ho : z_own d = RX6) (hd : decode (z_cc d) pc = .ok (.getfield 213, 3)) (kk : z_J G Z d Q (pc + 3) ls (.ref (z_ad G g 13) :: st) M k n) : z_J G Z d Q pc ls (.ref (z_ad G g 8) :: st) M k n :=
  z_getf (C := RX4) (T := TX4) (N := 9) (ci := 4) (kf := 5) (g := g) (c := 8) (f := (1, g, 13)) rfl uX4 (by rw [ho]; exact wfX6_213) rfl rfl (by decide) rfl rfl (Or.inl (Or.inl ⟨by decide, hg⟩)) hd kk
theorem gX6_216 (ho : z_own d = RX6) (hd : decode (z_cc d) pc = .ok (.getfield 216, 3)) (kk : z_J G Z d Q (pc + 3) ls (.ref (z_ad G 0 26) :: st) M k n) : z_J G Z d Q pc ls (.ref (z_ad G 0 25) :: st) M k n :=
  z_getf (C := RX0) (T := TX0) (N := 6) (ci := 0) (kf := 4) (g := 0) (c := 25) (f := (1, 0, 26)) rfl uX0 (by rw [ho]; exact wfX6_216) rfl rfl (by decide) rfl rfl (Or.inl (by decide)) hd kk
theorem gX6_222 {g : Nat} (hg : g < 7) (ho : z_own d = RX6) (hd : decode (z_cc d) pc = .ok (.getfield 222, 3)) (kk : z_J G Z d Q (pc + 3) ls (z_I (M g 7) :: st) M k n) : z_J G Z d Q pc ls (.ref (z_ad G g 0) :: st) M k n :=
  z_getf (C := RX5) (T := TX5) (N := 8) (ci := 5) (kf := 6) (g := g) (c := 0) (f := (0, g, 7)) rfl uX5 (by rw [ho]; exact wfX6_222) rfl rfl (by decide) rfl rfl (Or.inl (Or.inl ⟨by decide, hg⟩)) hd kk
theorem pX6_222 {g : Nat} (hg : g < 7) {v : Int} (hv : z_rg v) (ho : z_own d = RX6) (hd : decode (z_cc d) pc = .ok (.putfield 222, 3)) (kk : z_J G Z d Q (pc + 3) ls (st) (z_sM M g 7 v) k n) : z_J G Z d Q pc ls (z_I v :: .ref (z_ad G g 0) :: st) M k n :=
  z_putf (C := RX5) (T := TX5) (N := 8) (ci := 5) (kf := 6) (g := g) (c := 0) (t := 0) (a := g) (i := 7) (v := v) rfl uX5 tyX5 tyX5_ok nmX5 (by rw [ho]; exact wfX6_222) rfl rfl rfl (by decide) rfl rfl (by decide) rfl rfl (Or.inl (Or.inl ⟨by decide, hg⟩)) (fun _ => hv) hd kk
theorem gX6_225 (ho : z_own d = RX6) (hd : decode (z_cc d) pc = .ok (.getfield 225, 3)) (kk : z_J G Z d Q (pc + 3) ls (z_I (M 7 9) :: st) M k n) : z_J G Z d Q pc ls (.ref (z_ad G 0 25) :: st) M k n :=
  z_getf (C := RX0) (T := TX0) (N := 6) (ci := 0) (kf := 1) (g := 0) (c := 25) (f := (0, 7, 9)) rfl uX0 (by rw [ho]; exact wfX6_225) rfl rfl (by decide) rfl rfl (Or.inl (by decide)) hd kk
theorem pX6_225 {v : Int} (hv : z_rg v) (ho : z_own d = RX6) (hd : decode (z_cc d) pc = .ok (.putfield 225, 3)) (kk : z_J G Z d Q (pc + 3) ls (st) (z_sM M 7 9 v) k n) : z_J G Z d Q pc ls (z_I v :: .ref (z_ad G 0 25) :: st) M k n :=
  z_putf (C := RX0) (T := TX0) (N := 6) (ci := 0) (kf := 1) (g := 0) (c := 25) (t := 0) (a := 7) (i := 9) (v := v) rfl uX0 tyX0 tyX0_ok nmX0 (by rw [ho]; exact wfX6_225) rfl rfl rfl (by decide) rfl rfl (by decide) rfl rfl (Or.inl (by decide)) (fun _ => hv) hd kk
theorem gX6_238 {g : Nat} (hg : g < 7) (ho : z_own d = RX6) (hd : decode (z_cc d) pc = .ok (.getfield 238, 3)) (kk : z_J G Z d Q (pc + 3) ls (z_I (M g 6) :: st) M k n) : z_J G Z d Q pc ls (.ref (z_ad G g 0) :: st) M k n :=
  z_getf (C := RX5) (T := TX5) (N := 8) (ci := 5) (kf := 7) (g := g) (c := 0) (f := (0, g, 6)) rfl uX5 (by rw [ho]; exact wfX6_238) rfl rfl (by decide) rfl rfl (Or.inl (Or.inl ⟨by decide, hg⟩)) hd kk
theorem pX6_238 {g : Nat} (hg : g < 7) {v : Int} (hv : z_rg v) (ho : z_own d = RX6) (hd : decode (z_cc d) pc = .ok (.putfield 238, 3)) (kk : z_J G Z d Q (pc + 3) ls (st) (z_sM M g 6 v) k n) : z_J G Z d Q pc ls (z_I v :: .ref (z_ad G g 0) :: st) M k n :=
  z_putf (C := RX5) (T := TX5) (N := 8) (ci := 5) (kf := 7) (g := g) (c := 0) (t := 0) (a := g) (i := 6) (v := v) rfl uX5 tyX5 tyX5_ok nmX5 (by rw [ho]; exact wfX6_238) rfl rfl rfl (by decide) rfl rfl (by decide) rfl rfl (Or.inl (Or.inl ⟨by decide, hg⟩)) (fun _ => hv) hd kk
theorem gX6_241 {g : Nat} (hg : g < 7) (ho : z_own d = RX6) (hd : decode (z_cc d) pc = .ok (.getfield 241, 3)) (kk : z_J G Z d Q (pc + 3) ls (.ref (z_ad G g 14) :: st) M k n) : z_J G Z d Q pc ls (.ref (z_ad G g 8) :: st) M k n :=
  z_getf (C := RX4) (T := TX4) (N := 9) (ci := 4) (kf := 6) (g := g) (c := 8) (f := (1, g, 14)) rfl uX4 (by rw [ho]; exact wfX6_241) rfl rfl (by decide) rfl rfl (Or.inl (Or.inl ⟨by decide, hg⟩)) hd kk
theorem gX6_244 (ho : z_own d = RX6) (hd : decode (z_cc d) pc = .ok (.getfield 244, 3)) (kk : z_J G Z d Q (pc + 3) ls (.ref (z_ad G 0 23) :: st) M k n) : z_J G Z d Q pc ls (.ref (z_ad G 0 22) :: st) M k n :=
  z_getf (C := RX2) (T := TX2) (N := 7) (ci := 2) (kf := 0) (g := 0) (c := 22) (f := (1, 0, 23)) rfl uX2 (by rw [ho]; exact wfX6_244) rfl rfl (by decide) rfl rfl (Or.inl (by decide)) hd kk
theorem gX6_250 (ho : z_own d = RX6) (hd : decode (z_cc d) pc = .ok (.getfield 250, 3)) (kk : z_J G Z d Q (pc + 3) ls (z_I (M 7 1) :: st) M k n) : z_J G Z d Q pc ls (.ref (z_ad G 0 20) :: st) M k n :=
  z_getf (C := RX6) (T := TX6) (N := 9) (ci := 6) (kf := 2) (g := 0) (c := 20) (f := (0, 7, 1)) rfl uX6 (by rw [ho]; exact wfX6_250) rfl rfl (by decide) rfl rfl (Or.inl (by decide)) hd kk
theorem pX6_250 {v : Int} (hv : z_rg v) (ho : z_own d = RX6) (hd : decode (z_cc d) pc = .ok (.putfield 250, 3)) (kk : z_J G Z d Q (pc + 3) ls (st) (z_sM M 7 1 v) k n) : z_J G Z d Q pc ls (z_I v :: .ref (z_ad G 0 20) :: st) M k n :=
  z_putf (C := RX6) (T := TX6) (N := 9) (ci := 6) (kf := 2) (g := 0) (c := 20) (t := 0) (a := 7) (i := 1) (v := v) rfl uX6 tyX6 tyX6_ok nmX6 (by rw [ho]; exact wfX6_250) rfl rfl rfl (by decide) rfl rfl (by decide) rfl rfl (Or.inl (by decide)) (fun _ => hv) hd kk
theorem gX6_255 (ho : z_own d = RX6) (hd : decode (z_cc d) pc = .ok (.getfield 255, 3)) (kk : z_J G Z d Q (pc + 3) ls (z_I (M 7 0) :: st) M k n) : z_J G Z d Q pc ls (.ref (z_ad G 0 20) :: st) M k n :=
  z_getf (C := RX6) (T := TX6) (N := 9) (ci := 6) (kf := 1) (g := 0) (c := 20) (f := (0, 7, 0)) rfl uX6 (by rw [ho]; exact wfX6_255) rfl rfl (by decide) rfl rfl (Or.inl (by decide)) hd kk
theorem pX6_255 {v : Int} (hv : z_rg v) (ho : z_own d = RX6) (hd : decode (z_cc d) pc = .ok (.putfield 255, 3)) (kk : z_J G Z d Q (pc + 3) ls (st) (z_sM M 7 0 v) k n) : z_J G Z d Q pc ls (z_I v :: .ref (z_ad G 0 20) :: st) M k n :=
  z_putf (C := RX6) (T := TX6) (N := 9) (ci := 6) (kf := 1) (g := 0) (c := 20) (t := 0) (a := 7) (i := 0) (v := v) rfl uX6 tyX6 tyX6_ok nmX6 (by rw [ho]; exact wfX6_255) rfl rfl rfl (by decide) rfl rfl (by decide) rfl rfl (Or.inl (by decide)) (fun _ => hv) hd kk
theorem gX6_258 {g : Nat} (hg : g < 7) (ho : z_own d = RX6) (hd : decode (z_cc d) pc = .ok (.getfield 258, 3)) (kk : z_J G Z d Q (pc + 3) ls (.ref (z_ad G g 4) :: st) M k n) : z_J G Z d Q pc ls (.ref (z_ad G g 1) :: st) M k n :=
  z_getf (C := RX3) (T := TX3) (N := 7) (ci := 3) (kf := 3) (g := g) (c := 1) (f := (1, g, 4)) rfl uX3 (by rw [ho]; exact wfX6_258) rfl rfl (by decide) rfl rfl (Or.inl (Or.inl ⟨by decide, hg⟩)) hd kk
theorem gX6_270 {g : Nat} (hg : g < 7) (ho : z_own d = RX6) (hd : decode (z_cc d) pc = .ok (.getfield 270, 3)) (kk : z_J G Z d Q (pc + 3) ls (.ref (z_ad G g 9) :: st) M k n) : z_J G Z d Q pc ls (.ref (z_ad G g 8) :: st) M k n :=
  z_getf (C := RX4) (T := TX4) (N := 9) (ci := 4) (kf := 1) (g := g) (c := 8) (f := (1, g, 9)) rfl uX4 (by rw [ho]; exact wfX6_270) rfl rfl (by decide) rfl rfl (Or.inl (Or.inl ⟨by decide, hg⟩)) hd kk
theorem gX6_276 {g : Nat} (hg : g < 7) (ho : z_own d = RX6) (hd : decode (z_cc d) pc = .ok (.getfield 276, 3)) (kk : z_J G Z d Q (pc + 3) ls (z_I (M g 4) :: st) M k n) : z_J G Z d Q pc ls (.ref (z_ad G g 0) :: st) M k n :=
  z_getf (C := RX5) (T := TX5) (N := 8) (ci := 5) (kf := 5) (g := g) (c := 0) (f := (0, g, 4)) rfl uX5 (by rw [ho]; exact wfX6_276) rfl rfl (by decide) rfl rfl (Or.inl (Or.inl ⟨by decide, hg⟩)) hd kk
theorem pX6_276 {g : Nat} (hg : g < 7) {v : Int} (hv : z_rg v) (ho : z_own d = RX6) (hd : decode (z_cc d) pc = .ok (.putfield 276, 3)) (kk : z_J G Z d Q (pc + 3) ls (st) (z_sM M g 4 v) k n) : z_J G Z d Q pc ls (z_I v :: .ref (z_ad G g 0) :: st) M k n :=
  z_putf (C := RX5) (T := TX5) (N := 8) (ci := 5) (kf := 5) (g := g) (c := 0) (t := 0) (a := g) (i := 4) (v := v) rfl uX5 tyX5 tyX5_ok nmX5 (by rw [ho]; exact wfX6_276) rfl rfl rfl (by decide) rfl rfl (by decide) rfl rfl (Or.inl (Or.inl ⟨by decide, hg⟩)) (fun _ => hv) hd kk
theorem gX6_296 (ho : z_own d = RX6) (hd : decode (z_cc d) pc = .ok (.getfield 296, 3)) (kk : z_J G Z d Q (pc + 3) ls (.ref (z_ad G 0 29) :: st) M k n) : z_J G Z d Q pc ls (.ref (z_ad G 0 28) :: st) M k n :=
  z_getf (C := RX1) (T := TX1) (N := 6) (ci := 1) (kf := 0) (g := 0) (c := 28) (f := (1, 0, 29)) rfl uX1 (by rw [ho]; exact wfX6_296) rfl rfl (by decide) rfl rfl (Or.inl (by decide)) hd kk
theorem gX6_353 (ho : z_own d = RX6) (hd : decode (z_cc d) pc = .ok (.getfield 353, 3)) (kk : z_J G Z d Q (pc + 3) ls (z_I (M 7 8) :: st) M k n) : z_J G Z d Q pc ls (.ref (z_ad G 0 25) :: st) M k n :=
  z_getf (C := RX0) (T := TX0) (N := 6) (ci := 0) (kf := 0) (g := 0) (c := 25) (f := (0, 7, 8)) rfl uX0 (by rw [ho]; exact wfX6_353) rfl rfl (by decide) rfl rfl (Or.inl (by decide)) hd kk
theorem pX6_353 {v : Int} (hv : z_rg v) (ho : z_own d = RX6) (hd : decode (z_cc d) pc = .ok (.putfield 353, 3)) (kk : z_J G Z d Q (pc + 3) ls (st) (z_sM M 7 8 v) k n) : z_J G Z d Q pc ls (z_I v :: .ref (z_ad G 0 25) :: st) M k n :=
  z_putf (C := RX0) (T := TX0) (N := 6) (ci := 0) (kf := 0) (g := 0) (c := 25) (t := 0) (a := 7) (i := 8) (v := v) rfl uX0 tyX0 tyX0_ok nmX0 (by rw [ho]; exact wfX6_353) rfl rfl rfl (by decide) rfl rfl (by decide) rfl rfl (Or.inl (by decide)) (fun _ => hv) hd kk
theorem gX6_356 (ho : z_own d = RX6) (hd : decode (z_cc d) pc = .ok (.getfield 356, 3)) (kk : z_J G Z d Q (pc + 3) ls (z_I (M 7 10) :: st) M k n) : z_J G Z d Q pc ls (.ref (z_ad G 0 25) :: st) M k n :=
  z_getf (C := RX0) (T := TX0) (N := 6) (ci := 0) (kf := 2) (g := 0) (c := 25) (f := (0, 7, 10)) rfl uX0 (by rw [ho]; exact wfX6_356) rfl rfl (by decide) rfl rfl (Or.inl (by decide)) hd kk
theorem pX6_356 {v : Int} (hv : z_rg v) (ho : z_own d = RX6) (hd : decode (z_cc d) pc = .ok (.putfield 356, 3)) (kk : z_J G Z d Q (pc + 3) ls (st) (z_sM M 7 10 v) k n) : z_J G Z d Q pc ls (z_I v :: .ref (z_ad G 0 25) :: st) M k n :=
  z_putf (C := RX0) (T := TX0) (N := 6) (ci := 0) (kf := 2) (g := 0) (c := 25) (t := 0) (a := 7) (i := 10) (v := v) rfl uX0 tyX0 tyX0_ok nmX0 (by rw [ho]; exact wfX6_356) rfl rfl rfl (by decide) rfl rfl (by decide) rfl rfl (Or.inl (by decide)) (fun _ => hv) hd kk
theorem gX6_359 (ho : z_own d = RX6) (hd : decode (z_cc d) pc = .ok (.getfield 359, 3)) (kk : z_J G Z d Q (pc + 3) ls (z_I (M 7 11) :: st) M k n) : z_J G Z d Q pc ls (.ref (z_ad G 0 25) :: st) M k n :=
  z_getf (C := RX0) (T := TX0) (N := 6) (ci := 0) (kf := 3) (g := 0) (c := 25) (f := (0, 7, 11)) rfl uX0 (by rw [ho]; exact wfX6_359) rfl rfl (by decide) rfl rfl (Or.inl (by decide)) hd kk
theorem pX6_359 {v : Int} (hv : z_rg v) (ho : z_own d = RX6) (hd : decode (z_cc d) pc = .ok (.putfield 359, 3)) (kk : z_J G Z d Q (pc + 3) ls (st) (z_sM M 7 11 v) k n) : z_J G Z d Q pc ls (z_I v :: .ref (z_ad G 0 25) :: st) M k n :=
  z_putf (C := RX0) (T := TX0) (N := 6) (ci := 0) (kf := 3) (g := 0) (c := 25) (t := 0) (a := 7) (i := 11) (v := v) rfl uX0 tyX0 tyX0_ok nmX0 (by rw [ho]; exact wfX6_359) rfl rfl rfl (by decide) rfl rfl (by decide) rfl rfl (Or.inl (by decide)) (fun _ => hv) hd kk
end ZF
end
section
/-! ===== a rule a method entry ===== -/
abbrev KJ7_fill_53178 (G : z_G) (args : List Value) (M : z_M) (o : z_O) (M1 : z_M) : Prop := z_Con G yJ7_fill_53178 cJ7_fill_53178 4 none 0 0 args M o M1
theorem n_J7_fill_53178 : z_name yJ7_fill_53178 2 := ⟨⟨by decide +kernel, by decide +kernel⟩, by decide +kernel⟩
abbrev KJ9_abs_0f7a4 (G : z_G) (args : List Value) (M : z_M) (o : z_O) (M1 : z_M) : Prop := z_Con G yJ9_abs_0f7a4 cJ9_abs_0f7a4 1 (some .int) 0 0 args M o M1
theorem n_J9_abs_0f7a4 : z_name yJ9_abs_0f7a4 1 := ⟨⟨by decide +kernel, by decide +kernel⟩, by decide +kernel⟩
abbrev KJ9_max_7cf53 (G : z_G) (args : List Value) (M : z_M) (o : z_O) (M1 : z_M) : Prop := z_Con G yJ9_max_7cf53 cJ9_max_7cf53 2 (some .int) 0 0 args M o M1
theorem n_J9_max_7cf53 : z_name yJ9_max_7cf53 2 := ⟨⟨by decide +kernel, by decide +kernel⟩, by decide +kernel⟩
abbrev KJ9_min_7cf53 (G : z_G) (args : List Value) (M : z_M) (o : z_O) (M1 : z_M) : Prop := z_Con G yJ9_min_7cf53 cJ9_min_7cf53 2 (some .int) 0 0 args M o M1
theorem n_J9_min_7cf53 : z_name yJ9_min_7cf53 2 := ⟨⟨by decide +kernel, by decide +kernel⟩, by decide +kernel⟩
abbrev KL_act (G : z_G) (args : List Value) (M : z_M) (o : z_O) (M1 : z_M) : Prop := z_Con G yL_act cL_act 15 (some .boolean) 9 177 args M o M1
theorem n_L_act : z_name yL_act 11 := ⟨⟨by decide +kernel, by decide +kernel⟩, by decide +kernel⟩
abbrev KL_ahead (G : z_G) (args : List Value) (M : z_M) (o : z_O) (M1 : z_M) : Prop := z_Con G yL_ahead cL_ahead 19 (some .boolean) 8 159 args M o M1
theorem n_L_ahead : z_name yL_ahead 9 := ⟨⟨by decide +kernel, by decide +kernel⟩, by decide +kernel⟩
abbrev KL_at (G : z_G) (args : List Value) (M : z_M) (o : z_O) (M1 : z_M) : Prop := z_Con G yL_at cL_at 2 (some .int) 0 0 args M o M1
theorem n_L_at : z_name yL_at 2 := ⟨⟨by decide +kernel, by decide +kernel⟩, by decide +kernel⟩
abbrev KL_cell (G : z_G) (args : List Value) (M : z_M) (o : z_O) (M1 : z_M) : Prop := z_Con G yL_cell cL_cell 2 (some .int) 0 0 args M o M1
theorem n_L_cell : z_name yL_cell 2 := ⟨⟨by decide +kernel, by decide +kernel⟩, by decide +kernel⟩
abbrev KL_comes (G : z_G) (args : List Value) (M : z_M) (o : z_O) (M1 : z_M) : Prop := z_Con G yL_comes cL_comes 16 (some .int) 2 50 args M o M1
theorem n_L_comes : z_name yL_comes 9 := ⟨⟨by decide +kernel, by decide +kernel⟩, by decide +kernel⟩
abbrev KL_fair (G : z_G) (args : List Value) (M : z_M) (o : z_O) (M1 : z_M) : Prop := z_Con G yL_fair cL_fair 13 (some .int) 1 21 args M o M1
theorem n_L_fair : z_name yL_fair 3 := ⟨⟨by decide +kernel, by decide +kernel⟩, by decide +kernel⟩
abbrev KL_four (G : z_G) (args : List Value) (M : z_M) (o : z_O) (M1 : z_M) : Prop := z_Con G yL_four cL_four 2 (some .int) 0 0 args M o M1
theorem n_L_four : z_name yL_four 2 := ⟨⟨by decide +kernel, by decide +kernel⟩, by decide +kernel⟩
abbrev KL_gets (G : z_G) (args : List Value) (M : z_M) (o : z_O) (M1 : z_M) : Prop := z_Con G yL_gets cL_gets 5 (some .int) 0 0 args M o M1
theorem n_L_gets : z_name yL_gets 4 := ⟨⟨by decide +kernel, by decide +kernel⟩, by decide +kernel⟩
abbrev KL_kill (G : z_G) (args : List Value) (M : z_M) (o : z_O) (M1 : z_M) : Prop := z_Con G yL_kill cL_kill 3 (some .int) 0 0 args M o M1
theorem n_L_kill : z_name yL_kill 3 := ⟨⟨by decide +kernel, by decide +kernel⟩, by decide +kernel⟩
abbrev KL_money (G : z_G) (args : List Value) (M : z_M) (o : z_O) (M1 : z_M) : Prop := z_Con G yL_money cL_money 10 (some .boolean) 8 148 args M o M1
theorem n_L_money : z_name yL_money 6 := ⟨⟨by decide +kernel, by decide +kernel⟩, by decide +kernel⟩
abbrev KL_parts (G : z_G) (args : List Value) (M : z_M) (o : z_O) (M1 : z_M) : Prop := z_Con G yL_parts cL_parts 13 (some .boolean) 8 145 args M o M1
theorem n_L_parts : z_name yL_parts 7 := ⟨⟨by decide +kernel, by decide +kernel⟩, by decide +kernel⟩
abbrev KL_pens (G : z_G) (args : List Value) (M : z_M) (o : z_O) (M1 : z_M) : Prop := z_Con G yL_pens cL_pens 9 (some .boolean) 8 135 args M o M1
theorem n_L_pens : z_name yL_pens 4 := ⟨⟨by decide +kernel, by decide +kernel⟩, by decide +kernel⟩
abbrev KL_pieces (G : z_G) (args : List Value) (M : z_M) (o : z_O) (M1 : z_M) : Prop := z_Con G yL_pieces cL_pieces 11 (some .boolean) 8 135 args M o M1
theorem n_L_pieces : z_name yL_pieces 7 := ⟨⟨by decide +kernel, by decide +kernel⟩, by decide +kernel⟩
abbrev KL_quarrels (G : z_G) (args : List Value) (M : z_M) (o : z_O) (M1 : z_M) : Prop := z_Con G yL_quarrels cL_quarrels 5 (some .boolean) 1 21 args M o M1
theorem n_L_quarrels : z_name yL_quarrels 5 := ⟨⟨by decide +kernel, by decide +kernel⟩, by decide +kernel⟩
abbrev KL_same (G : z_G) (args : List Value) (M : z_M) (o : z_O) (M1 : z_M) : Prop := z_Con G yL_same cL_same 3 none 0 0 args M o M1
theorem n_L_same : z_name yL_same 2 := ⟨⟨by decide +kernel, by decide +kernel⟩, by decide +kernel⟩
abbrev KL_share (G : z_G) (args : List Value) (M : z_M) (o : z_O) (M1 : z_M) : Prop := z_Con G yL_share cL_share 10 (some .int) 1 21 args M o M1
theorem n_L_share : z_name yL_share 4 := ⟨⟨by decide +kernel, by decide +kernel⟩, by decide +kernel⟩
abbrev KL_sum (G : z_G) (args : List Value) (M : z_M) (o : z_O) (M1 : z_M) : Prop := z_Con G yL_sum cL_sum 5 (some .int) 0 0 args M o M1
theorem n_L_sum : z_name yL_sum 3 := ⟨⟨by decide +kernel, by decide +kernel⟩, by decide +kernel⟩
abbrev KL_told (G : z_G) (args : List Value) (M : z_M) (o : z_O) (M1 : z_M) : Prop := z_Con G yL_told cL_told 13 (some .boolean) 9 165 args M o M1
theorem n_L_told : z_name yL_told 8 := ⟨⟨by decide +kernel, by decide +kernel⟩, by decide +kernel⟩
abbrev KX0_begin (G : z_G) (args : List Value) (M : z_M) (o : z_O) (M1 : z_M) : Prop := z_Con G yX0_begin cX0_begin 4 none 0 0 args M o M1
theorem n_X0_begin : z_name yX0_begin 3 := ⟨⟨by decide +kernel, by decide +kernel⟩, by decide +kernel⟩
abbrev KX0_cutToCap (G : z_G) (args : List Value) (M : z_M) (o : z_O) (M1 : z_M) : Prop := z_Con G yX0_cutToCap cX0_cutToCap 7 none 1 21 args M o M1
theorem n_X0_cutToCap : z_name yX0_cutToCap 3 := ⟨⟨by decide +kernel, by decide +kernel⟩, by decide +kernel⟩
abbrev KX0_divideFee (G : z_G) (args : List Value) (M : z_M) (o : z_O) (M1 : z_M) : Prop := z_Con G yX0_divideFee cX0_divideFee 4 none 4 92 args M o M1
theorem n_X0_divideFee : z_name yX0_divideFee 3 := ⟨⟨by decide +kernel, by decide +kernel⟩, by decide +kernel⟩
abbrev KX0_divideRoyalty (G : z_G) (args : List Value) (M : z_M) (o : z_O) (M1 : z_M) : Prop := z_Con G yX0_divideRoyalty cX0_divideRoyalty 4 none 4 92 args M o M1
theorem n_X0_divideRoyalty : z_name yX0_divideRoyalty 3 := ⟨⟨by decide +kernel, by decide +kernel⟩, by decide +kernel⟩
abbrev KX0_giveUnit (G : z_G) (args : List Value) (M : z_M) (o : z_O) (M1 : z_M) : Prop := z_Con G yX0_giveUnit cX0_giveUnit 3 none 0 0 args M o M1
theorem n_X0_giveUnit : z_name yX0_giveUnit 0 := ⟨⟨by decide +kernel, by decide +kernel⟩, by decide +kernel⟩
abbrev KX0_split (G : z_G) (args : List Value) (M : z_M) (o : z_O) (M1 : z_M) : Prop := z_Con G yX0_split cX0_split 8 none 3 65 args M o M1
theorem n_X0_split : z_name yX0_split 3 := ⟨⟨by decide +kernel, by decide +kernel⟩, by decide +kernel⟩
abbrev KX1_begin (G : z_G) (args : List Value) (M : z_M) (o : z_O) (M1 : z_M) : Prop := z_Con G yX1_begin cX1_begin 5 none 3 70 args M o M1
theorem n_X1_begin : z_name yX1_begin 2 := ⟨⟨by decide +kernel, by decide +kernel⟩, by decide +kernel⟩
abbrev KX1_find (G : z_G) (args : List Value) (M : z_M) (o : z_O) (M1 : z_M) : Prop := z_Con G yX1_find cX1_find 10 none 4 94 args M o M1
theorem n_X1_find : z_name yX1_find 2 := ⟨⟨by decide +kernel, by decide +kernel⟩, by decide +kernel⟩
abbrev KX1_gap (G : z_G) (args : List Value) (M : z_M) (o : z_O) (M1 : z_M) : Prop := z_Con G yX1_gap cX1_gap 4 (some .int) 1 21 args M o M1
theorem n_X1_gap : z_name yX1_gap 1 := ⟨⟨by decide +kernel, by decide +kernel⟩, by decide +kernel⟩
abbrev KX1_keepTrial (G : z_G) (args : List Value) (M : z_M) (o : z_O) (M1 : z_M) : Prop := z_Con G yX1_keepTrial cX1_keepTrial 2 none 0 0 args M o M1
theorem n_X1_keepTrial : z_name yX1_keepTrial 0 := ⟨⟨by decide +kernel, by decide +kernel⟩, by decide +kernel⟩
abbrev KX1_setTrial (G : z_G) (args : List Value) (M : z_M) (o : z_O) (M1 : z_M) : Prop := z_Con G yX1_setTrial cX1_setTrial 5 (some .int) 0 0 args M o M1
theorem n_X1_setTrial : z_name yX1_setTrial 1 := ⟨⟨by decide +kernel, by decide +kernel⟩, by decide +kernel⟩
abbrev KX2_endItem (G : z_G) (args : List Value) (M : z_M) (o : z_O) (M1 : z_M) : Prop := z_Con G yX2_endItem cX2_endItem 1 none 0 0 args M o M1
theorem n_X2_endItem : z_name yX2_endItem 0 := ⟨⟨by decide +kernel, by decide +kernel⟩, by decide +kernel⟩
abbrev KX2_greatestPen (G : z_G) (args : List Value) (M : z_M) (o : z_O) (M1 : z_M) : Prop := z_Con G yX2_greatestPen cX2_greatestPen 3 (some .int) 0 0 args M o M1
theorem n_X2_greatestPen : z_name yX2_greatestPen 0 := ⟨⟨by decide +kernel, by decide +kernel⟩, by decide +kernel⟩
abbrev KX2_isList (G : z_G) (args : List Value) (M : z_M) (o : z_O) (M1 : z_M) : Prop := z_Con G yX2_isList cX2_isList 1 (some .boolean) 5 104 args M o M1
theorem n_X2_isList : z_name yX2_isList 0 := ⟨⟨by decide +kernel, by decide +kernel⟩, by decide +kernel⟩
abbrev KX2_readToError (G : z_G) (args : List Value) (M : z_M) (o : z_O) (M1 : z_M) : Prop := z_Con G yX2_readToError cX2_readToError 2 (some .int) 4 83 args M o M1
theorem n_X2_readToError : z_name yX2_readToError 0 := ⟨⟨by decide +kernel, by decide +kernel⟩, by decide +kernel⟩
abbrev KX2_takes (G : z_G) (args : List Value) (M : z_M) (o : z_O) (M1 : z_M) : Prop := z_Con G yX2_takes cX2_takes 2 (some .boolean) 3 62 args M o M1
theorem n_X2_takes : z_name yX2_takes 1 := ⟨⟨by decide +kernel, by decide +kernel⟩, by decide +kernel⟩
abbrev KX2_takesAfterOne (G : z_G) (args : List Value) (M : z_M) (o : z_O) (M1 : z_M) : Prop := z_Con G yX2_takesAfterOne cX2_takesAfterOne 2 (some .boolean) 2 41 args M o M1
theorem n_X2_takesAfterOne : z_name yX2_takesAfterOne 1 := ⟨⟨by decide +kernel, by decide +kernel⟩, by decide +kernel⟩
abbrev KX2_takesComma (G : z_G) (args : List Value) (M : z_M) (o : z_O) (M1 : z_M) : Prop := z_Con G yX2_takesComma cX2_takesComma 2 (some .boolean) 1 20 args M o M1
theorem n_X2_takesComma : z_name yX2_takesComma 1 := ⟨⟨by decide +kernel, by decide +kernel⟩, by decide +kernel⟩
abbrev KX2_takesDigit (G : z_G) (args : List Value) (M : z_M) (o : z_O) (M1 : z_M) : Prop := z_Con G yX2_takesDigit cX2_takesDigit 2 (some .boolean) 1 21 args M o M1
theorem n_X2_takesDigit : z_name yX2_takesDigit 1 := ⟨⟨by decide +kernel, by decide +kernel⟩, by decide +kernel⟩
abbrev KX2_takesFactor (G : z_G) (args : List Value) (M : z_M) (o : z_O) (M1 : z_M) : Prop := z_Con G yX2_takesFactor cX2_takesFactor 2 (some .boolean) 0 0 args M o M1
theorem n_X2_takesFactor : z_name yX2_takesFactor 1 := ⟨⟨by decide +kernel, by decide +kernel⟩, by decide +kernel⟩
abbrev KX2_takesOne (G : z_G) (args : List Value) (M : z_M) (o : z_O) (M1 : z_M) : Prop := z_Con G yX2_takesOne cX2_takesOne 1 (some .boolean) 0 0 args M o M1
theorem n_X2_takesOne : z_name yX2_takesOne 0 := ⟨⟨by decide +kernel, by decide +kernel⟩, by decide +kernel⟩
abbrev KX2_takesPen (G : z_G) (args : List Value) (M : z_M) (o : z_O) (M1 : z_M) : Prop := z_Con G yX2_takesPen cX2_takesPen 2 (some .boolean) 0 0 args M o M1
theorem n_X2_takesPen : z_name yX2_takesPen 1 := ⟨⟨by decide +kernel, by decide +kernel⟩, by decide +kernel⟩
abbrev KX2_takesStar (G : z_G) (args : List Value) (M : z_M) (o : z_O) (M1 : z_M) : Prop := z_Con G yX2_takesStar cX2_takesStar 2 (some .boolean) 0 0 args M o M1
theorem n_X2_takesStar : z_name yX2_takesStar 1 := ⟨⟨by decide +kernel, by decide +kernel⟩, by decide +kernel⟩
abbrev KX3_bylinesAway (G : z_G) (args : List Value) (M : z_M) (o : z_O) (M1 : z_M) : Prop := z_Con G yX3_bylinesAway cX3_bylinesAway 3 (some .int) 0 0 args M o M1
theorem n_X3_bylinesAway : z_name yX3_bylinesAway 0 := ⟨⟨by decide +kernel, by decide +kernel⟩, by decide +kernel⟩
abbrev KX3_bylinesOf (G : z_G) (args : List Value) (M : z_M) (o : z_O) (M1 : z_M) : Prop := z_Con G yX3_bylinesOf cX3_bylinesOf 4 (some .int) 0 0 args M o M1
theorem n_X3_bylinesOf : z_name yX3_bylinesOf 1 := ⟨⟨by decide +kernel, by decide +kernel⟩, by decide +kernel⟩
abbrev KX3_copyFrom (G : z_G) (args : List Value) (M : z_M) (o : z_O) (M1 : z_M) : Prop := z_Con G yX3_copyFrom cX3_copyFrom 2 none 2 61 args M o M1
theorem n_X3_copyFrom : z_name yX3_copyFrom 1 := ⟨⟨by decide +kernel, by decide +kernel⟩, by decide +kernel⟩
abbrev KX3_differences (G : z_G) (args : List Value) (M : z_M) (o : z_O) (M1 : z_M) : Prop := z_Con G yX3_differences cX3_differences 4 (some .int) 1 20 args M o M1
theorem n_X3_differences : z_name yX3_differences 0 := ⟨⟨by decide +kernel, by decide +kernel⟩, by decide +kernel⟩
abbrev KX3_earn (G : z_G) (args : List Value) (M : z_M) (o : z_O) (M1 : z_M) : Prop := z_Con G yX3_earn cX3_earn 4 (some .int) 2 42 args M o M1
theorem n_X3_earn : z_name yX3_earn 2 := ⟨⟨by decide +kernel, by decide +kernel⟩, by decide +kernel⟩
abbrev KX3_passByline (G : z_G) (args : List Value) (M : z_M) (o : z_O) (M1 : z_M) : Prop := z_Con G yX3_passByline cX3_passByline 4 none 0 0 args M o M1
theorem n_X3_passByline : z_name yX3_passByline 3 := ⟨⟨by decide +kernel, by decide +kernel⟩, by decide +kernel⟩
abbrev KX3_placeOf (G : z_G) (args : List Value) (M : z_M) (o : z_O) (M1 : z_M) : Prop := z_Con G yX3_placeOf cX3_placeOf 5 (some .int) 0 0 args M o M1
theorem n_X3_placeOf : z_name yX3_placeOf 1 := ⟨⟨by decide +kernel, by decide +kernel⟩, by decide +kernel⟩
abbrev KX4_addToYear (G : z_G) (args : List Value) (M : z_M) (o : z_O) (M1 : z_M) : Prop := z_Con G yX4_addToYear cX4_addToYear 4 none 1 21 args M o M1
theorem n_X4_addToYear : z_name yX4_addToYear 2 := ⟨⟨by decide +kernel, by decide +kernel⟩, by decide +kernel⟩
abbrev KX4_allDrafts (G : z_G) (args : List Value) (M : z_M) (o : z_O) (M1 : z_M) : Prop := z_Con G yX4_allDrafts cX4_allDrafts 2 (some .int) 2 44 args M o M1
theorem n_X4_allDrafts : z_name yX4_allDrafts 1 := ⟨⟨by decide +kernel, by decide +kernel⟩, by decide +kernel⟩
abbrev KX4_allParts (G : z_G) (args : List Value) (M : z_M) (o : z_O) (M1 : z_M) : Prop := z_Con G yX4_allParts cX4_allParts 2 (some .int) 2 44 args M o M1
theorem n_X4_allParts : z_name yX4_allParts 1 := ⟨⟨by decide +kernel, by decide +kernel⟩, by decide +kernel⟩
abbrev KX4_begin (G : z_G) (args : List Value) (M : z_M) (o : z_O) (M1 : z_M) : Prop := z_Con G yX4_begin cX4_begin 4 (some .int) 1 21 args M o M1
theorem n_X4_begin : z_name yX4_begin 2 := ⟨⟨by decide +kernel, by decide +kernel⟩, by decide +kernel⟩
abbrev KX4_copyFrom (G : z_G) (args : List Value) (M : z_M) (o : z_O) (M1 : z_M) : Prop := z_Con G yX4_copyFrom cX4_copyFrom 2 none 2 61 args M o M1
theorem n_X4_copyFrom : z_name yX4_copyFrom 1 := ⟨⟨by decide +kernel, by decide +kernel⟩, by decide +kernel⟩
abbrev KX4_disputers (G : z_G) (args : List Value) (M : z_M) (o : z_O) (M1 : z_M) : Prop := z_Con G yX4_disputers cX4_disputers 7 (some .int) 3 65 args M o M1
theorem n_X4_disputers : z_name yX4_disputers 1 := ⟨⟨by decide +kernel, by decide +kernel⟩, by decide +kernel⟩
abbrev KX4_draftsBy (G : z_G) (args : List Value) (M : z_M) (o : z_O) (M1 : z_M) : Prop := z_Con G yX4_draftsBy cX4_draftsBy 4 (some .int) 1 21 args M o M1
theorem n_X4_draftsBy : z_name yX4_draftsBy 1 := ⟨⟨by decide +kernel, by decide +kernel⟩, by decide +kernel⟩
abbrev KX4_inStage (G : z_G) (args : List Value) (M : z_M) (o : z_O) (M1 : z_M) : Prop := z_Con G yX4_inStage cX4_inStage 4 (some .int) 0 0 args M o M1
theorem n_X4_inStage : z_name yX4_inStage 1 := ⟨⟨by decide +kernel, by decide +kernel⟩, by decide +kernel⟩
abbrev KX4_sharers (G : z_G) (args : List Value) (M : z_M) (o : z_O) (M1 : z_M) : Prop := z_Con G yX4_sharers cX4_sharers 4 (some .int) 1 21 args M o M1
theorem n_X4_sharers : z_name yX4_sharers 1 := ⟨⟨by decide +kernel, by decide +kernel⟩, by decide +kernel⟩
abbrev KX4_takeParts (G : z_G) (args : List Value) (M : z_M) (o : z_O) (M1 : z_M) : Prop := z_Con G yX4_takeParts cX4_takeParts 4 none 1 21 args M o M1
theorem n_X4_takeParts : z_name yX4_takeParts 2 := ⟨⟨by decide +kernel, by decide +kernel⟩, by decide +kernel⟩
abbrev KX4_takePartsFromDrafts (G : z_G) (args : List Value) (M : z_M) (o : z_O) (M1 : z_M) : Prop := z_Con G yX4_takePartsFromDrafts cX4_takePartsFromDrafts 4 none 3 70 args M o M1
theorem n_X4_takePartsFromDrafts : z_name yX4_takePartsFromDrafts 1 := ⟨⟨by decide +kernel, by decide +kernel⟩, by decide +kernel⟩
abbrev KX4_writerWithMost (G : z_G) (args : List Value) (M : z_M) (o : z_O) (M1 : z_M) : Prop := z_Con G yX4_writerWithMost cX4_writerWithMost 6 (some .int) 1 21 args M o M1
theorem n_X4_writerWithMost : z_name yX4_writerWithMost 2 := ⟨⟨by decide +kernel, by decide +kernel⟩, by decide +kernel⟩
abbrev KX4_writers (G : z_G) (args : List Value) (M : z_M) (o : z_O) (M1 : z_M) : Prop := z_Con G yX4_writers cX4_writers 5 (some .int) 2 46 args M o M1
theorem n_X4_writers : z_name yX4_writers 1 := ⟨⟨by decide +kernel, by decide +kernel⟩, by decide +kernel⟩
abbrev KX5_copyFrom (G : z_G) (args : List Value) (M : z_M) (o : z_O) (M1 : z_M) : Prop := z_Con G yX5_copyFrom cX5_copyFrom 2 none 3 82 args M o M1
theorem n_X5_copyFrom : z_name yX5_copyFrom 1 := ⟨⟨by decide +kernel, by decide +kernel⟩, by decide +kernel⟩
abbrev KX5_killFee (G : z_G) (args : List Value) (M : z_M) (o : z_O) (M1 : z_M) : Prop := z_Con G yX5_killFee cX5_killFee 3 (some .int) 0 0 args M o M1
theorem n_X5_killFee : z_name yX5_killFee 1 := ⟨⟨by decide +kernel, by decide +kernel⟩, by decide +kernel⟩
abbrev KX6_accept (G : z_G) (args : List Value) (M : z_M) (o : z_O) (M1 : z_M) : Prop := z_Con G yX6_accept cX6_accept 4 (some .int) 7 124 args M o M1
theorem n_X6_accept : z_name yX6_accept 1 := ⟨⟨by decide +kernel, by decide +kernel⟩, by decide +kernel⟩
abbrev KX6_addPen (G : z_G) (args : List Value) (M : z_M) (o : z_O) (M1 : z_M) : Prop := z_Con G yX6_addPen cX6_addPen 2 (some .int) 6 124 args M o M1
theorem n_X6_addPen : z_name yX6_addPen 0 := ⟨⟨by decide +kernel, by decide +kernel⟩, by decide +kernel⟩
abbrev KX6_advance (G : z_G) (args : List Value) (M : z_M) (o : z_O) (M1 : z_M) : Prop := z_Con G yX6_advance cX6_advance 3 (some .int) 7 124 args M o M1
theorem n_X6_advance : z_name yX6_advance 2 := ⟨⟨by decide +kernel, by decide +kernel⟩, by decide +kernel⟩
abbrev KX6_append (G : z_G) (args : List Value) (M : z_M) (o : z_O) (M1 : z_M) : Prop := z_Con G yX6_append cX6_append 2 (some .int) 7 112 args M o M1
theorem n_X6_append : z_name yX6_append 1 := ⟨⟨by decide +kernel, by decide +kernel⟩, by decide +kernel⟩
abbrev KX6_at (G : z_G) (args : List Value) (M : z_M) (o : z_O) (M1 : z_M) : Prop := z_Con G yX6_at cX6_at 2 (some .int) 0 0 args M o M1
theorem n_X6_at : z_name yX6_at 2 := ⟨⟨by decide +kernel, by decide +kernel⟩, by decide +kernel⟩
abbrev KX6_bestPiece (G : z_G) (args : List Value) (M : z_M) (o : z_O) (M1 : z_M) : Prop := z_Con G yX6_bestPiece cX6_bestPiece 3 (some .int) 7 137 args M o M1
theorem n_X6_bestPiece : z_name yX6_bestPiece 2 := ⟨⟨by decide +kernel, by decide +kernel⟩, by decide +kernel⟩
abbrev KX6_between (G : z_G) (args : List Value) (M : z_M) (o : z_O) (M1 : z_M) : Prop := z_Con G yX6_between cX6_between 4 (some .int) 7 112 args M o M1
theorem n_X6_between : z_name yX6_between 3 := ⟨⟨by decide +kernel, by decide +kernel⟩, by decide +kernel⟩
abbrev KX6_bringIn (G : z_G) (args : List Value) (M : z_M) (o : z_O) (M1 : z_M) : Prop := z_Con G yX6_bringIn cX6_bringIn 4 (some .int) 3 65 args M o M1
theorem n_X6_bringIn : z_name yX6_bringIn 1 := ⟨⟨by decide +kernel, by decide +kernel⟩, by decide +kernel⟩
abbrev KX6_buyBack (G : z_G) (args : List Value) (M : z_M) (o : z_O) (M1 : z_M) : Prop := z_Con G yX6_buyBack cX6_buyBack 3 (some .int) 7 124 args M o M1
theorem n_X6_buyBack : z_name yX6_buyBack 1 := ⟨⟨by decide +kernel, by decide +kernel⟩, by decide +kernel⟩
abbrev KX6_clearBuffer (G : z_G) (args : List Value) (M : z_M) (o : z_O) (M1 : z_M) : Prop := z_Con G yX6_clearBuffer cX6_clearBuffer 2 (some .int) 0 0 args M o M1
theorem n_X6_clearBuffer : z_name yX6_clearBuffer 0 := ⟨⟨by decide +kernel, by decide +kernel⟩, by decide +kernel⟩
abbrev KX6_copyRow (G : z_G) (args : List Value) (M : z_M) (o : z_O) (M1 : z_M) : Prop := z_Con G yX6_copyRow cX6_copyRow 2 none 1 40 args M o M1
theorem n_X6_copyRow : z_name yX6_copyRow 2 := ⟨⟨by decide +kernel, by decide +kernel⟩, by decide +kernel⟩
abbrev KX6_count (G : z_G) (args : List Value) (M : z_M) (o : z_O) (M1 : z_M) : Prop := z_Con G yX6_count cX6_count 2 (some .int) 7 112 args M o M1
theorem n_X6_count : z_name yX6_count 1 := ⟨⟨by decide +kernel, by decide +kernel⟩, by decide +kernel⟩
abbrev KX6_dispute (G : z_G) (args : List Value) (M : z_M) (o : z_O) (M1 : z_M) : Prop := z_Con G yX6_dispute cX6_dispute 3 (some .int) 7 124 args M o M1
theorem n_X6_dispute : z_name yX6_dispute 2 := ⟨⟨by decide +kernel, by decide +kernel⟩, by decide +kernel⟩
abbrev KX6_draft (G : z_G) (args : List Value) (M : z_M) (o : z_O) (M1 : z_M) : Prop := z_Con G yX6_draft cX6_draft 4 (some .int) 7 124 args M o M1
theorem n_X6_draft : z_name yX6_draft 2 := ⟨⟨by decide +kernel, by decide +kernel⟩, by decide +kernel⟩
abbrev KX6_fairest (G : z_G) (args : List Value) (M : z_M) (o : z_O) (M1 : z_M) : Prop := z_Con G yX6_fairest cX6_fairest 3 (some .int) 7 123 args M o M1
theorem n_X6_fairest : z_name yX6_fairest 2 := ⟨⟨by decide +kernel, by decide +kernel⟩, by decide +kernel⟩
abbrev KX6_findBest (G : z_G) (args : List Value) (M : z_M) (o : z_O) (M1 : z_M) : Prop := z_Con G yX6_findBest cX6_findBest 3 none 5 115 args M o M1
theorem n_X6_findBest : z_name yX6_findBest 1 := ⟨⟨by decide +kernel, by decide +kernel⟩, by decide +kernel⟩
abbrev KX6_gainOf (G : z_G) (args : List Value) (M : z_M) (o : z_O) (M1 : z_M) : Prop := z_Con G yX6_gainOf cX6_gainOf 7 (some .int) 2 42 args M o M1
theorem n_X6_gainOf : z_name yX6_gainOf 1 := ⟨⟨by decide +kernel, by decide +kernel⟩, by decide +kernel⟩
abbrev KX6_ifPaid (G : z_G) (args : List Value) (M : z_M) (o : z_O) (M1 : z_M) : Prop := z_Con G yX6_ifPaid cX6_ifPaid 4 (some .int) 7 115 args M o M1
theorem n_X6_ifPaid : z_name yX6_ifPaid 3 := ⟨⟨by decide +kernel, by decide +kernel⟩, by decide +kernel⟩
abbrev KX6_isIn (G : z_G) (args : List Value) (M : z_M) (o : z_O) (M1 : z_M) : Prop := z_Con G yX6_isIn cX6_isIn 2 (some .boolean) 0 0 args M o M1
theorem n_X6_isIn : z_name yX6_isIn 2 := ⟨⟨by decide +kernel, by decide +kernel⟩, by decide +kernel⟩
abbrev KX6_kill (G : z_G) (args : List Value) (M : z_M) (o : z_O) (M1 : z_M) : Prop := z_Con G yX6_kill cX6_kill 3 (some .int) 7 124 args M o M1
theorem n_X6_kill : z_name yX6_kill 1 := ⟨⟨by decide +kernel, by decide +kernel⟩, by decide +kernel⟩
abbrev KX6_needAccepted (G : z_G) (args : List Value) (M : z_M) (o : z_O) (M1 : z_M) : Prop := z_Con G yX6_needAccepted cX6_needAccepted 2 none 6 90 args M o M1
theorem n_X6_needAccepted : z_name yX6_needAccepted 1 := ⟨⟨by decide +kernel, by decide +kernel⟩, by decide +kernel⟩
abbrev KX6_needAtLeast (G : z_G) (args : List Value) (M : z_M) (o : z_O) (M1 : z_M) : Prop := z_Con G yX6_needAtLeast cX6_needAtLeast 2 none 6 90 args M o M1
theorem n_X6_needAtLeast : z_name yX6_needAtLeast 2 := ⟨⟨by decide +kernel, by decide +kernel⟩, by decide +kernel⟩
abbrev KX6_needPen (G : z_G) (args : List Value) (M : z_M) (o : z_O) (M1 : z_M) : Prop := z_Con G yX6_needPen cX6_needPen 2 none 6 90 args M o M1
theorem n_X6_needPen : z_name yX6_needPen 1 := ⟨⟨by decide +kernel, by decide +kernel⟩, by decide +kernel⟩
abbrev KX6_needPiece (G : z_G) (args : List Value) (M : z_M) (o : z_O) (M1 : z_M) : Prop := z_Con G yX6_needPiece cX6_needPiece 2 none 6 90 args M o M1
theorem n_X6_needPiece : z_name yX6_needPiece 1 := ⟨⟨by decide +kernel, by decide +kernel⟩, by decide +kernel⟩
abbrev KX6_needRange (G : z_G) (args : List Value) (M : z_M) (o : z_O) (M1 : z_M) : Prop := z_Con G yX6_needRange cX6_needRange 3 none 6 90 args M o M1
theorem n_X6_needRange : z_name yX6_needRange 3 := ⟨⟨by decide +kernel, by decide +kernel⟩, by decide +kernel⟩
abbrev KX6_needSetting (G : z_G) (args : List Value) (M : z_M) (o : z_O) (M1 : z_M) : Prop := z_Con G yX6_needSetting cX6_needSetting 1 none 6 90 args M o M1
theorem n_X6_needSetting : z_name yX6_needSetting 1 := ⟨⟨by decide +kernel, by decide +kernel⟩, by decide +kernel⟩
abbrev KX6_needUnended (G : z_G) (args : List Value) (M : z_M) (o : z_O) (M1 : z_M) : Prop := z_Con G yX6_needUnended cX6_needUnended 2 none 6 90 args M o M1
theorem n_X6_needUnended : z_name yX6_needUnended 1 := ⟨⟨by decide +kernel, by decide +kernel⟩, by decide +kernel⟩
abbrev KX6_nextYear (G : z_G) (args : List Value) (M : z_M) (o : z_O) (M1 : z_M) : Prop := z_Con G yX6_nextYear cX6_nextYear 1 (some .int) 5 124 args M o M1
theorem n_X6_nextYear : z_name yX6_nextYear 0 := ⟨⟨by decide +kernel, by decide +kernel⟩, by decide +kernel⟩
abbrev KX6_order (G : z_G) (args : List Value) (M : z_M) (o : z_O) (M1 : z_M) : Prop := z_Con G yX6_order cX6_order 3 (some .int) 7 124 args M o M1
theorem n_X6_order : z_name yX6_order 2 := ⟨⟨by decide +kernel, by decide +kernel⟩, by decide +kernel⟩
abbrev KX6_pen (G : z_G) (args : List Value) (M : z_M) (o : z_O) (M1 : z_M) : Prop := z_Con G yX6_pen cX6_pen 4 (some .int) 7 112 args M o M1
theorem n_X6_pen : z_name yX6_pen 2 := ⟨⟨by decide +kernel, by decide +kernel⟩, by decide +kernel⟩
abbrev KX6_piece (G : z_G) (args : List Value) (M : z_M) (o : z_O) (M1 : z_M) : Prop := z_Con G yX6_piece cX6_piece 4 (some .int) 7 112 args M o M1
theorem n_X6_piece : z_name yX6_piece 2 := ⟨⟨by decide +kernel, by decide +kernel⟩, by decide +kernel⟩
abbrev KX6_preferIfBetter (G : z_G) (args : List Value) (M : z_M) (o : z_O) (M1 : z_M) : Prop := z_Con G yX6_preferIfBetter cX6_preferIfBetter 4 none 3 68 args M o M1
theorem n_X6_preferIfBetter : z_name yX6_preferIfBetter 1 := ⟨⟨by decide +kernel, by decide +kernel⟩, by decide +kernel⟩
abbrev KX6_revise (G : z_G) (args : List Value) (M : z_M) (o : z_O) (M1 : z_M) : Prop := z_Con G yX6_revise cX6_revise 4 (some .int) 7 124 args M o M1
theorem n_X6_revise : z_name yX6_revise 2 := ⟨⟨by decide +kernel, by decide +kernel⟩, by decide +kernel⟩
abbrev KX6_royalty (G : z_G) (args : List Value) (M : z_M) (o : z_O) (M1 : z_M) : Prop := z_Con G yX6_royalty cX6_royalty 3 (some .int) 7 124 args M o M1
theorem n_X6_royalty : z_name yX6_royalty 2 := ⟨⟨by decide +kernel, by decide +kernel⟩, by decide +kernel⟩
abbrev KX6_save (G : z_G) (args : List Value) (M : z_M) (o : z_O) (M1 : z_M) : Prop := z_Con G yX6_save cX6_save 2 none 4 103 args M o M1
theorem n_X6_save : z_name yX6_save 0 := ⟨⟨by decide +kernel, by decide +kernel⟩, by decide +kernel⟩
abbrev KX6_sell (G : z_G) (args : List Value) (M : z_M) (o : z_O) (M1 : z_M) : Prop := z_Con G yX6_sell cX6_sell 5 (some .int) 7 124 args M o M1
theorem n_X6_sell : z_name yX6_sell 3 := ⟨⟨by decide +kernel, by decide +kernel⟩, by decide +kernel⟩
abbrev KX6_set (G : z_G) (args : List Value) (M : z_M) (o : z_O) (M1 : z_M) : Prop := z_Con G yX6_set cX6_set 4 (some .int) 7 124 args M o M1
theorem n_X6_set : z_name yX6_set 2 := ⟨⟨by decide +kernel, by decide +kernel⟩, by decide +kernel⟩
abbrev KX6_setting (G : z_G) (args : List Value) (M : z_M) (o : z_O) (M1 : z_M) : Prop := z_Con G yX6_setting cX6_setting 2 (some .int) 7 110 args M o M1
theorem n_X6_setting : z_name yX6_setting 1 := ⟨⟨by decide +kernel, by decide +kernel⟩, by decide +kernel⟩
abbrev KX6_share (G : z_G) (args : List Value) (M : z_M) (o : z_O) (M1 : z_M) : Prop := z_Con G yX6_share cX6_share 2 (some .int) 7 124 args M o M1
theorem n_X6_share : z_name yX6_share 1 := ⟨⟨by decide +kernel, by decide +kernel⟩, by decide +kernel⟩
abbrev KX6_spread (G : z_G) (args : List Value) (M : z_M) (o : z_O) (M1 : z_M) : Prop := z_Con G yX6_spread cX6_spread 2 (some .double) 2 43 args M o M1
theorem n_X6_spread : z_name yX6_spread 0 := ⟨⟨by decide +kernel, by decide +kernel⟩, by decide +kernel⟩
abbrev KX6_sum (G : z_G) (args : List Value) (M : z_M) (o : z_O) (M1 : z_M) : Prop := z_Con G yX6_sum cX6_sum 6 (some .int) 0 0 args M o M1
theorem n_X6_sum : z_name yX6_sum 1 := ⟨⟨by decide +kernel, by decide +kernel⟩, by decide +kernel⟩
abbrev KX6_sumOf (G : z_G) (args : List Value) (M : z_M) (o : z_O) (M1 : z_M) : Prop := z_Con G yX6_sumOf cX6_sumOf 4 (some .int) 1 21 args M o M1
theorem n_X6_sumOf : z_name yX6_sumOf 2 := ⟨⟨by decide +kernel, by decide +kernel⟩, by decide +kernel⟩
abbrev KX6_withdraw (G : z_G) (args : List Value) (M : z_M) (o : z_O) (M1 : z_M) : Prop := z_Con G yX6_withdraw cX6_withdraw 3 (some .int) 7 124 args M o M1
theorem n_X6_withdraw : z_name yX6_withdraw 2 := ⟨⟨by decide +kernel, by decide +kernel⟩, by decide +kernel⟩
abbrev KX6_withheld (G : z_G) (args : List Value) (M : z_M) (o : z_O) (M1 : z_M) : Prop := z_Con G yX6_withheld cX6_withheld 2 (some .int) 1 21 args M o M1
theorem n_X6_withheld : z_name yX6_withheld 2 := ⟨⟨by decide +kernel, by decide +kernel⟩, by decide +kernel⟩
section ZL
variable {G : z_G} {Z : z_Z} {d : z_Md} {Q : State → Prop} {pc : Nat} {ls : List (Option Value)} {rest : List Value} {M M1 : z_M}
theorem kL_8 {a1 a2 : Value} {r : Int} (hC : KL_four G [a1, a2] M (.inl (some (z_I r))) M1) (ho : z_own d = RL) (hfit : z_fit d 0 0 2) (hcat : (rest.map fun v => v.category).sum ≤ 8) (hd : decode (z_cc d) pc = .ok (.invokestatic 8, 3)) (kk : z_J G Z d Q (pc + 3) ls (z_I r :: rest) M1 0 0) : z_J G Z d Q pc ls (a2 :: a1 :: rest) M 0 0 :=
  z_callS hC (by rw [ho]; exact wmL_8) wt_L_four wc_L_four wn_L n_L_four rfl rfl hfit ⟨Nat.zero_le _, Nat.zero_le _⟩ hcat hd kk
theorem kL_14 {a1 a2 a3 a4 : Value} {r : Int} (hC : KL_gets G [a1, a2, a3, a4] M (.inl (some (z_I r))) M1) (ho : z_own d = RL) (hfit : z_fit d 0 0 5) (hcat : (rest.map fun v => v.category).sum ≤ 8) (hd : decode (z_cc d) pc = .ok (.invokestatic 14, 3)) (kk : z_J G Z d Q (pc + 3) ls (z_I r :: rest) M1 0 0) : z_J G Z d Q pc ls (a4 :: a3 :: a2 :: a1 :: rest) M 0 0 :=
  z_callS hC (by rw [ho]; exact wmL_14) wt_L_gets wc_L_gets wn_L n_L_gets rfl rfl hfit ⟨Nat.zero_le _, Nat.zero_le _⟩ hcat hd kk
theorem kL_18 {a1 a2 a3 a4 : Value} {r : Int} (hC : KL_share G [a1, a2, a3, a4] M (.inl (some (z_I r))) M1) (ho : z_own d = RL) (hfit : z_fit d 1 21 10) (hcat : (rest.map fun v => v.category).sum ≤ 8) (hd : decode (z_cc d) pc = .ok (.invokestatic 18, 3)) (kk : z_J G Z d Q (pc + 3) ls (z_I r :: rest) M1 0 0) : z_J G Z d Q pc ls (a4 :: a3 :: a2 :: a1 :: rest) M 0 0 :=
  z_callS hC (by rw [ho]; exact wmL_18) wt_L_share wc_L_share wn_L n_L_share rfl rfl hfit ⟨Nat.zero_le _, Nat.zero_le _⟩ hcat hd kk
theorem kL_22 {a1 a2 : Value} {r : Int} (hC : KX6_pen G [.ref (z_ad G 0 20), a1, a2] M (.inl (some (z_I r))) M1) (ho : z_own d = RL) (hfit : z_fit d 7 112 4) (hcat : (rest.map fun v => v.category).sum ≤ 8) (hd : decode (z_cc d) pc = .ok (.invokevirtual 22, 3)) (kk : z_J G Z d Q (pc + 3) ls (z_I r :: rest) M1 0 0) : z_J G Z d Q pc ls (a2 :: a1 :: .ref (z_ad G 0 20) :: rest) M 0 0 :=
  z_callV hC (by rw [ho]; exact wmL_22) wi_X6_pen ws_X6_pen wc_X6_pen wn_X6 n_X6_pen (Or.inl (by decide)) rfl rfl rfl rfl hfit ⟨Nat.zero_le _, Nat.zero_le _⟩ hcat hd kk
theorem kL_28 {a1 a2 a3 a4 a5 : Value} {r : Int} (hC : KL_quarrels G [a1, a2, a3, a4, a5] M (.inl (some (z_I r))) M1) (ho : z_own d = RL) (hfit : z_fit d 1 21 5) (hcat : (rest.map fun v => v.category).sum ≤ 8) (hd : decode (z_cc d) pc = .ok (.invokestatic 28, 3)) (kk : z_J G Z d Q (pc + 3) ls (z_I r :: rest) M1 0 0) : z_J G Z d Q pc ls (a5 :: a4 :: a3 :: a2 :: a1 :: rest) M 0 0 :=
  z_callS hC (by rw [ho]; exact wmL_28) wt_L_quarrels wc_L_quarrels wn_L n_L_quarrels rfl rfl hfit ⟨Nat.zero_le _, Nat.zero_le _⟩ hcat hd kk
theorem kL_32 {a1 a2 a3 : Value} {r : Int} (hC : KX6_between G [.ref (z_ad G 0 20), a1, a2, a3] M (.inl (some (z_I r))) M1) (ho : z_own d = RL) (hfit : z_fit d 7 112 4) (hcat : (rest.map fun v => v.category).sum ≤ 8) (hd : decode (z_cc d) pc = .ok (.invokevirtual 32, 3)) (kk : z_J G Z d Q (pc + 3) ls (z_I r :: rest) M1 0 0) : z_J G Z d Q pc ls (a3 :: a2 :: a1 :: .ref (z_ad G 0 20) :: rest) M 0 0 :=
  z_callV hC (by rw [ho]; exact wmL_32) wi_X6_between ws_X6_between wc_X6_between wn_X6 n_X6_between (Or.inl (by decide)) rfl rfl rfl rfl hfit ⟨Nat.zero_le _, Nat.zero_le _⟩ hcat hd kk
theorem kL_36 {a1 a2 : Value} {r : Int} (hC : KX6_piece G [.ref (z_ad G 0 20), a1, a2] M (.inl (some (z_I r))) M1) (ho : z_own d = RL) (hfit : z_fit d 7 112 4) (hcat : (rest.map fun v => v.category).sum ≤ 8) (hd : decode (z_cc d) pc = .ok (.invokevirtual 36, 3)) (kk : z_J G Z d Q (pc + 3) ls (z_I r :: rest) M1 0 0) : z_J G Z d Q pc ls (a2 :: a1 :: .ref (z_ad G 0 20) :: rest) M 0 0 :=
  z_callV hC (by rw [ho]; exact wmL_36) wi_X6_piece ws_X6_piece wc_X6_piece wn_X6 n_X6_piece (Or.inl (by decide)) rfl rfl rfl rfl hfit ⟨Nat.zero_le _, Nat.zero_le _⟩ hcat hd kk
theorem kL_39 {a1 a2 a3 : Value} {r : Int} (hC : KL_kill G [a1, a2, a3] M (.inl (some (z_I r))) M1) (ho : z_own d = RL) (hfit : z_fit d 0 0 3) (hcat : (rest.map fun v => v.category).sum ≤ 8) (hd : decode (z_cc d) pc = .ok (.invokestatic 39, 3)) (kk : z_J G Z d Q (pc + 3) ls (z_I r :: rest) M1 0 0) : z_J G Z d Q pc ls (a3 :: a2 :: a1 :: rest) M 0 0 :=
  z_callS hC (by rw [ho]; exact wmL_39) wt_L_kill wc_L_kill wn_L n_L_kill rfl rfl hfit ⟨Nat.zero_le _, Nat.zero_le _⟩ hcat hd kk
theorem kL_43 {a1 a2 a3 a4 : Value} {r : Int} (hC : KL_pens G [a1, a2, a3, a4] M (.inl (some (z_I r))) M1) (ho : z_own d = RL) (hfit : z_fit d 8 135 9) (hcat : (rest.map fun v => v.category).sum ≤ 8) (hd : decode (z_cc d) pc = .ok (.invokestatic 43, 3)) (kk : z_J G Z d Q (pc + 3) ls (z_I r :: rest) M1 0 0) : z_J G Z d Q pc ls (a4 :: a3 :: a2 :: a1 :: rest) M 0 0 :=
  z_callS hC (by rw [ho]; exact wmL_43) wt_L_pens wc_L_pens wn_L n_L_pens rfl rfl hfit ⟨Nat.zero_le _, Nat.zero_le _⟩ hcat hd kk
theorem kL_47 {a1 a2 a3 a4 a5 a6 a7 : Value} {r : Int} (hC : KL_pieces G [a1, a2, a3, a4, a5, a6, a7] M (.inl (some (z_I r))) M1) (ho : z_own d = RL) (hfit : z_fit d 8 135 11) (hcat : (rest.map fun v => v.category).sum ≤ 8) (hd : decode (z_cc d) pc = .ok (.invokestatic 47, 3)) (kk : z_J G Z d Q (pc + 3) ls (z_I r :: rest) M1 0 0) : z_J G Z d Q pc ls (a7 :: a6 :: a5 :: a4 :: a3 :: a2 :: a1 :: rest) M 0 0 :=
  z_callS hC (by rw [ho]; exact wmL_47) wt_L_pieces wc_L_pieces wn_L n_L_pieces rfl rfl hfit ⟨Nat.zero_le _, Nat.zero_le _⟩ hcat hd kk
theorem kL_51 {a1 : Value} {r : Int} (hC : KX6_setting G [.ref (z_ad G 0 20), a1] M (.inl (some (z_I r))) M1) (ho : z_own d = RL) (hfit : z_fit d 7 110 2) (hcat : (rest.map fun v => v.category).sum ≤ 8) (hd : decode (z_cc d) pc = .ok (.invokevirtual 51, 3)) (kk : z_J G Z d Q (pc + 3) ls (z_I r :: rest) M1 0 0) : z_J G Z d Q pc ls (a1 :: .ref (z_ad G 0 20) :: rest) M 0 0 :=
  z_callV hC (by rw [ho]; exact wmL_51) wi_X6_setting ws_X6_setting wc_X6_setting wn_X6 n_X6_setting (Or.inl (by decide)) rfl rfl rfl rfl hfit ⟨Nat.zero_le _, Nat.zero_le _⟩ hcat hd kk
theorem kL_55 {a1 : Value} {r : Int} (hC : KX6_count G [.ref (z_ad G 0 20), a1] M (.inl (some (z_I r))) M1) (ho : z_own d = RL) (hfit : z_fit d 7 112 2) (hcat : (rest.map fun v => v.category).sum ≤ 8) (hd : decode (z_cc d) pc = .ok (.invokevirtual 55, 3)) (kk : z_J G Z d Q (pc + 3) ls (z_I r :: rest) M1 0 0) : z_J G Z d Q pc ls (a1 :: .ref (z_ad G 0 20) :: rest) M 0 0 :=
  z_callV hC (by rw [ho]; exact wmL_55) wi_X6_count ws_X6_count wc_X6_count wn_X6 n_X6_count (Or.inl (by decide)) rfl rfl rfl rfl hfit ⟨Nat.zero_le _, Nat.zero_le _⟩ hcat hd kk
theorem kL_58 {a1 a2 a3 : Value} {r : Int} (hC : KL_sum G [a1, a2, a3] M (.inl (some (z_I r))) M1) (ho : z_own d = RL) (hfit : z_fit d 0 0 5) (hcat : (rest.map fun v => v.category).sum ≤ 8) (hd : decode (z_cc d) pc = .ok (.invokestatic 58, 3)) (kk : z_J G Z d Q (pc + 3) ls (z_I r :: rest) M1 0 0) : z_J G Z d Q pc ls (a3 :: a2 :: a1 :: rest) M 0 0 :=
  z_callS hC (by rw [ho]; exact wmL_58) wt_L_sum wc_L_sum wn_L n_L_sum rfl rfl hfit ⟨Nat.zero_le _, Nat.zero_le _⟩ hcat hd kk
theorem kL_61 {r : UInt64} (hC : KX6_spread G [.ref (z_ad G 0 20)] M (.inl (some (.double r))) M1) (ho : z_own d = RL) (hfit : z_fit d 2 43 2) (hcat : (rest.map fun v => v.category).sum ≤ 8) (hd : decode (z_cc d) pc = .ok (.invokevirtual 61, 3)) (kk : z_J G Z d Q (pc + 3) ls (.double r :: rest) M1 0 0) : z_J G Z d Q pc ls (.ref (z_ad G 0 20) :: rest) M 0 0 :=
  z_callV hC (by rw [ho]; exact wmL_61) wi_X6_spread ws_X6_spread wc_X6_spread wn_X6 n_X6_spread (Or.inl (by decide)) rfl rfl rfl rfl hfit ⟨Nat.zero_le _, Nat.zero_le _⟩ hcat hd kk
theorem kL_65 {a1 a2 : Value} {r : Int} (hC : KL_at G [a1, a2] M (.inl (some (z_I r))) M1) (ho : z_own d = RL) (hfit : z_fit d 0 0 2) (hcat : (rest.map fun v => v.category).sum ≤ 8) (hd : decode (z_cc d) pc = .ok (.invokestatic 65, 3)) (kk : z_J G Z d Q (pc + 3) ls (z_I r :: rest) M1 0 0) : z_J G Z d Q pc ls (a2 :: a1 :: rest) M 0 0 :=
  z_callS hC (by rw [ho]; exact wmL_65) wt_L_at wc_L_at wn_L n_L_at rfl rfl hfit ⟨Nat.zero_le _, Nat.zero_le _⟩ hcat hd kk
theorem kL_68 {a1 a2 : Value} {r : Int} (hC : KX6_fairest G [.ref (z_ad G 0 20), a1, a2] M (.inl (some (z_I r))) M1) (ho : z_own d = RL) (hfit : z_fit d 7 123 3) (hcat : (rest.map fun v => v.category).sum ≤ 8) (hd : decode (z_cc d) pc = .ok (.invokevirtual 68, 3)) (kk : z_J G Z d Q (pc + 3) ls (z_I r :: rest) M1 0 0) : z_J G Z d Q pc ls (a2 :: a1 :: .ref (z_ad G 0 20) :: rest) M 0 0 :=
  z_callV hC (by rw [ho]; exact wmL_68) wi_X6_fairest ws_X6_fairest wc_X6_fairest wn_X6 n_X6_fairest (Or.inl (by decide)) rfl rfl rfl rfl hfit ⟨Nat.zero_le _, Nat.zero_le _⟩ hcat hd kk
theorem kL_71 {a1 a2 a3 : Value} {r : Int} (hC : KL_fair G [a1, a2, a3] M (.inl (some (z_I r))) M1) (ho : z_own d = RL) (hfit : z_fit d 1 21 13) (hcat : (rest.map fun v => v.category).sum ≤ 8) (hd : decode (z_cc d) pc = .ok (.invokestatic 71, 3)) (kk : z_J G Z d Q (pc + 3) ls (z_I r :: rest) M1 0 0) : z_J G Z d Q pc ls (a3 :: a2 :: a1 :: rest) M 0 0 :=
  z_callS hC (by rw [ho]; exact wmL_71) wt_L_fair wc_L_fair wn_L n_L_fair rfl rfl hfit ⟨Nat.zero_le _, Nat.zero_le _⟩ hcat hd kk
theorem kL_75 {a1 a2 : Value} (hC : KL_same G [a1, a2] M (.inl none) M1) (ho : z_own d = RL) (hfit : z_fit d 0 0 3) (hcat : (rest.map fun v => v.category).sum ≤ 8) (hd : decode (z_cc d) pc = .ok (.invokestatic 75, 3)) (kk : z_J G Z d Q (pc + 3) ls (rest) M1 0 0) : z_J G Z d Q pc ls (a2 :: a1 :: rest) M 0 0 :=
  z_callS hC (by rw [ho]; exact wmL_75) wt_L_same wc_L_same wn_L n_L_same rfl rfl hfit ⟨Nat.zero_le _, Nat.zero_le _⟩ hcat hd kk
theorem kL_79 {a1 a2 a3 a4 a5 a6 a7 a8 a9 : Value} {r : Int} (hC : KL_comes G [a1, a2, a3, a4, a5, a6, a7, a8, a9] M (.inl (some (z_I r))) M1) (ho : z_own d = RL) (hfit : z_fit d 2 50 16) (hcat : (rest.map fun v => v.category).sum ≤ 8) (hd : decode (z_cc d) pc = .ok (.invokestatic 79, 3)) (kk : z_J G Z d Q (pc + 3) ls (z_I r :: rest) M1 0 0) : z_J G Z d Q pc ls (a9 :: a8 :: a7 :: a6 :: a5 :: a4 :: a3 :: a2 :: a1 :: rest) M 0 0 :=
  z_callS hC (by rw [ho]; exact wmL_79) wt_L_comes wc_L_comes wn_L n_L_comes rfl rfl hfit ⟨Nat.zero_le _, Nat.zero_le _⟩ hcat hd kk
theorem kL_83 {a1 a2 a3 : Value} {r : Int} (hC : KX6_ifPaid G [.ref (z_ad G 0 20), a1, a2, a3] M (.inl (some (z_I r))) M1) (ho : z_own d = RL) (hfit : z_fit d 7 115 4) (hcat : (rest.map fun v => v.category).sum ≤ 8) (hd : decode (z_cc d) pc = .ok (.invokevirtual 83, 3)) (kk : z_J G Z d Q (pc + 3) ls (z_I r :: rest) M1 0 0) : z_J G Z d Q pc ls (a3 :: a2 :: a1 :: .ref (z_ad G 0 20) :: rest) M 0 0 :=
  z_callV hC (by rw [ho]; exact wmL_83) wi_X6_ifPaid ws_X6_ifPaid wc_X6_ifPaid wn_X6 n_X6_ifPaid (Or.inl (by decide)) rfl rfl rfl rfl hfit ⟨Nat.zero_le _, Nat.zero_le _⟩ hcat hd kk
theorem kL_86 {a1 a2 : Value} {r : Int} (hC : KX6_bestPiece G [.ref (z_ad G 0 20), a1, a2] M (.inl (some (z_I r))) M1) (ho : z_own d = RL) (hfit : z_fit d 7 137 3) (hcat : (rest.map fun v => v.category).sum ≤ 8) (hd : decode (z_cc d) pc = .ok (.invokevirtual 86, 3)) (kk : z_J G Z d Q (pc + 3) ls (z_I r :: rest) M1 0 0) : z_J G Z d Q pc ls (a2 :: a1 :: .ref (z_ad G 0 20) :: rest) M 0 0 :=
  z_callV hC (by rw [ho]; exact wmL_86) wi_X6_bestPiece ws_X6_bestPiece wc_X6_bestPiece wn_X6 n_X6_bestPiece (Or.inl (by decide)) rfl rfl rfl rfl hfit ⟨Nat.zero_le _, Nat.zero_le _⟩ hcat hd kk
theorem kL_90 {a1 a2 a3 : Value} {r : Int} (hC : KX6_sell G [.ref (z_ad G 0 20), a1, a2, a3] M (.inl (some (z_I r))) M1) (ho : z_own d = RL) (hfit : z_fit d 7 124 5) (hcat : (rest.map fun v => v.category).sum ≤ 8) (hd : decode (z_cc d) pc = .ok (.invokevirtual 90, 3)) (kk : z_J G Z d Q (pc + 3) ls (z_I r :: rest) M1 0 0) : z_J G Z d Q pc ls (a3 :: a2 :: a1 :: .ref (z_ad G 0 20) :: rest) M 0 0 :=
  z_callV hC (by rw [ho]; exact wmL_90) wi_X6_sell ws_X6_sell wc_X6_sell wn_X6 n_X6_sell (Or.inl (by decide)) rfl rfl rfl rfl hfit ⟨Nat.zero_le _, Nat.zero_le _⟩ hcat hd kk
theorem kL_93 {a1 : Value} {r : Int} (hC : KX6_buyBack G [.ref (z_ad G 0 20), a1] M (.inl (some (z_I r))) M1) (ho : z_own d = RL) (hfit : z_fit d 7 124 3) (hcat : (rest.map fun v => v.category).sum ≤ 8) (hd : decode (z_cc d) pc = .ok (.invokevirtual 93, 3)) (kk : z_J G Z d Q (pc + 3) ls (z_I r :: rest) M1 0 0) : z_J G Z d Q pc ls (a1 :: .ref (z_ad G 0 20) :: rest) M 0 0 :=
  z_callV hC (by rw [ho]; exact wmL_93) wi_X6_buyBack ws_X6_buyBack wc_X6_buyBack wn_X6 n_X6_buyBack (Or.inl (by decide)) rfl rfl rfl rfl hfit ⟨Nat.zero_le _, Nat.zero_le _⟩ hcat hd kk
theorem kL_96 {a1 a2 : Value} {r : Int} (hC : KX6_advance G [.ref (z_ad G 0 20), a1, a2] M (.inl (some (z_I r))) M1) (ho : z_own d = RL) (hfit : z_fit d 7 124 3) (hcat : (rest.map fun v => v.category).sum ≤ 8) (hd : decode (z_cc d) pc = .ok (.invokevirtual 96, 3)) (kk : z_J G Z d Q (pc + 3) ls (z_I r :: rest) M1 0 0) : z_J G Z d Q pc ls (a2 :: a1 :: .ref (z_ad G 0 20) :: rest) M 0 0 :=
  z_callV hC (by rw [ho]; exact wmL_96) wi_X6_advance ws_X6_advance wc_X6_advance wn_X6 n_X6_advance (Or.inl (by decide)) rfl rfl rfl rfl hfit ⟨Nat.zero_le _, Nat.zero_le _⟩ hcat hd kk
theorem kL_99 {a1 a2 : Value} {r : Int} (hC : KX6_withdraw G [.ref (z_ad G 0 20), a1, a2] M (.inl (some (z_I r))) M1) (ho : z_own d = RL) (hfit : z_fit d 7 124 3) (hcat : (rest.map fun v => v.category).sum ≤ 8) (hd : decode (z_cc d) pc = .ok (.invokevirtual 99, 3)) (kk : z_J G Z d Q (pc + 3) ls (z_I r :: rest) M1 0 0) : z_J G Z d Q pc ls (a2 :: a1 :: .ref (z_ad G 0 20) :: rest) M 0 0 :=
  z_callV hC (by rw [ho]; exact wmL_99) wi_X6_withdraw ws_X6_withdraw wc_X6_withdraw wn_X6 n_X6_withdraw (Or.inl (by decide)) rfl rfl rfl rfl hfit ⟨Nat.zero_le _, Nat.zero_le _⟩ hcat hd kk
theorem kL_102 {r : Int} (hC : KX6_clearBuffer G [.ref (z_ad G 0 20)] M (.inl (some (z_I r))) M1) (ho : z_own d = RL) (hfit : z_fit d 0 0 2) (hcat : (rest.map fun v => v.category).sum ≤ 8) (hd : decode (z_cc d) pc = .ok (.invokevirtual 102, 3)) (kk : z_J G Z d Q (pc + 3) ls (z_I r :: rest) M1 0 0) : z_J G Z d Q pc ls (.ref (z_ad G 0 20) :: rest) M 0 0 :=
  z_callV hC (by rw [ho]; exact wmL_102) wi_X6_clearBuffer ws_X6_clearBuffer wc_X6_clearBuffer wn_X6 n_X6_clearBuffer (Or.inl (by decide)) rfl rfl rfl rfl hfit ⟨Nat.zero_le _, Nat.zero_le _⟩ hcat hd kk
theorem kL_106 {a1 : Value} {r : Int} (hC : KX6_append G [.ref (z_ad G 0 20), a1] M (.inl (some (z_I r))) M1) (ho : z_own d = RL) (hfit : z_fit d 7 112 2) (hcat : (rest.map fun v => v.category).sum ≤ 8) (hd : decode (z_cc d) pc = .ok (.invokevirtual 106, 3)) (kk : z_J G Z d Q (pc + 3) ls (z_I r :: rest) M1 0 0) : z_J G Z d Q pc ls (a1 :: .ref (z_ad G 0 20) :: rest) M 0 0 :=
  z_callV hC (by rw [ho]; exact wmL_106) wi_X6_append ws_X6_append wc_X6_append wn_X6 n_X6_append (Or.inl (by decide)) rfl rfl rfl rfl hfit ⟨Nat.zero_le _, Nat.zero_le _⟩ hcat hd kk
theorem kL_109 {a1 : Value} {r : Int} (hC : KX6_share G [.ref (z_ad G 0 20), a1] M (.inl (some (z_I r))) M1) (ho : z_own d = RL) (hfit : z_fit d 7 124 2) (hcat : (rest.map fun v => v.category).sum ≤ 8) (hd : decode (z_cc d) pc = .ok (.invokevirtual 109, 3)) (kk : z_J G Z d Q (pc + 3) ls (z_I r :: rest) M1 0 0) : z_J G Z d Q pc ls (a1 :: .ref (z_ad G 0 20) :: rest) M 0 0 :=
  z_callV hC (by rw [ho]; exact wmL_109) wi_X6_share ws_X6_share wc_X6_share wn_X6 n_X6_share (Or.inl (by decide)) rfl rfl rfl rfl hfit ⟨Nat.zero_le _, Nat.zero_le _⟩ hcat hd kk
theorem kL_111 {r : Int} (hC : KX6_addPen G [.ref (z_ad G 0 20)] M (.inl (some (z_I r))) M1) (ho : z_own d = RL) (hfit : z_fit d 6 124 2) (hcat : (rest.map fun v => v.category).sum ≤ 8) (hd : decode (z_cc d) pc = .ok (.invokevirtual 111, 3)) (kk : z_J G Z d Q (pc + 3) ls (z_I r :: rest) M1 0 0) : z_J G Z d Q pc ls (.ref (z_ad G 0 20) :: rest) M 0 0 :=
  z_callV hC (by rw [ho]; exact wmL_111) wi_X6_addPen ws_X6_addPen wc_X6_addPen wn_X6 n_X6_addPen (Or.inl (by decide)) rfl rfl rfl rfl hfit ⟨Nat.zero_le _, Nat.zero_le _⟩ hcat hd kk
theorem kL_114 {a1 a2 : Value} {r : Int} (hC : KX6_set G [.ref (z_ad G 0 20), a1, a2] M (.inl (some (z_I r))) M1) (ho : z_own d = RL) (hfit : z_fit d 7 124 4) (hcat : (rest.map fun v => v.category).sum ≤ 8) (hd : decode (z_cc d) pc = .ok (.invokevirtual 114, 3)) (kk : z_J G Z d Q (pc + 3) ls (z_I r :: rest) M1 0 0) : z_J G Z d Q pc ls (a2 :: a1 :: .ref (z_ad G 0 20) :: rest) M 0 0 :=
  z_callV hC (by rw [ho]; exact wmL_114) wi_X6_set ws_X6_set wc_X6_set wn_X6 n_X6_set (Or.inl (by decide)) rfl rfl rfl rfl hfit ⟨Nat.zero_le _, Nat.zero_le _⟩ hcat hd kk
theorem kL_117 {r : Int} (hC : KX6_nextYear G [.ref (z_ad G 0 20)] M (.inl (some (z_I r))) M1) (ho : z_own d = RL) (hfit : z_fit d 5 124 1) (hcat : (rest.map fun v => v.category).sum ≤ 8) (hd : decode (z_cc d) pc = .ok (.invokevirtual 117, 3)) (kk : z_J G Z d Q (pc + 3) ls (z_I r :: rest) M1 0 0) : z_J G Z d Q pc ls (.ref (z_ad G 0 20) :: rest) M 0 0 :=
  z_callV hC (by rw [ho]; exact wmL_117) wi_X6_nextYear ws_X6_nextYear wc_X6_nextYear wn_X6 n_X6_nextYear (Or.inl (by decide)) rfl rfl rfl rfl hfit ⟨Nat.zero_le _, Nat.zero_le _⟩ hcat hd kk
theorem kL_120 {a1 a2 a3 a4 a5 a6 : Value} {r : Int} (hC : KL_money G [a1, a2, a3, a4, a5, a6] M (.inl (some (z_I r))) M1) (ho : z_own d = RL) (hfit : z_fit d 8 148 10) (hcat : (rest.map fun v => v.category).sum ≤ 8) (hd : decode (z_cc d) pc = .ok (.invokestatic 120, 3)) (kk : z_J G Z d Q (pc + 3) ls (z_I r :: rest) M1 0 0) : z_J G Z d Q pc ls (a6 :: a5 :: a4 :: a3 :: a2 :: a1 :: rest) M 0 0 :=
  z_callS hC (by rw [ho]; exact wmL_120) wt_L_money wc_L_money wn_L n_L_money rfl rfl hfit ⟨Nat.zero_le _, Nat.zero_le _⟩ hcat hd kk
theorem kL_124 {a1 a2 : Value} {r : Int} (hC : KX6_order G [.ref (z_ad G 0 20), a1, a2] M (.inl (some (z_I r))) M1) (ho : z_own d = RL) (hfit : z_fit d 7 124 3) (hcat : (rest.map fun v => v.category).sum ≤ 8) (hd : decode (z_cc d) pc = .ok (.invokevirtual 124, 3)) (kk : z_J G Z d Q (pc + 3) ls (z_I r :: rest) M1 0 0) : z_J G Z d Q pc ls (a2 :: a1 :: .ref (z_ad G 0 20) :: rest) M 0 0 :=
  z_callV hC (by rw [ho]; exact wmL_124) wi_X6_order ws_X6_order wc_X6_order wn_X6 n_X6_order (Or.inl (by decide)) rfl rfl rfl rfl hfit ⟨Nat.zero_le _, Nat.zero_le _⟩ hcat hd kk
theorem kL_127 {a1 a2 : Value} {r : Int} (hC : KX6_draft G [.ref (z_ad G 0 20), a1, a2] M (.inl (some (z_I r))) M1) (ho : z_own d = RL) (hfit : z_fit d 7 124 4) (hcat : (rest.map fun v => v.category).sum ≤ 8) (hd : decode (z_cc d) pc = .ok (.invokevirtual 127, 3)) (kk : z_J G Z d Q (pc + 3) ls (z_I r :: rest) M1 0 0) : z_J G Z d Q pc ls (a2 :: a1 :: .ref (z_ad G 0 20) :: rest) M 0 0 :=
  z_callV hC (by rw [ho]; exact wmL_127) wi_X6_draft ws_X6_draft wc_X6_draft wn_X6 n_X6_draft (Or.inl (by decide)) rfl rfl rfl rfl hfit ⟨Nat.zero_le _, Nat.zero_le _⟩ hcat hd kk
theorem kL_130 {a1 a2 : Value} {r : Int} (hC : KX6_revise G [.ref (z_ad G 0 20), a1, a2] M (.inl (some (z_I r))) M1) (ho : z_own d = RL) (hfit : z_fit d 7 124 4) (hcat : (rest.map fun v => v.category).sum ≤ 8) (hd : decode (z_cc d) pc = .ok (.invokevirtual 130, 3)) (kk : z_J G Z d Q (pc + 3) ls (z_I r :: rest) M1 0 0) : z_J G Z d Q pc ls (a2 :: a1 :: .ref (z_ad G 0 20) :: rest) M 0 0 :=
  z_callV hC (by rw [ho]; exact wmL_130) wi_X6_revise ws_X6_revise wc_X6_revise wn_X6 n_X6_revise (Or.inl (by decide)) rfl rfl rfl rfl hfit ⟨Nat.zero_le _, Nat.zero_le _⟩ hcat hd kk
theorem kL_133 {a1 a2 a3 a4 a5 a6 a7 : Value} {r : Int} (hC : KL_parts G [a1, a2, a3, a4, a5, a6, a7] M (.inl (some (z_I r))) M1) (ho : z_own d = RL) (hfit : z_fit d 8 145 13) (hcat : (rest.map fun v => v.category).sum ≤ 8) (hd : decode (z_cc d) pc = .ok (.invokestatic 133, 3)) (kk : z_J G Z d Q (pc + 3) ls (z_I r :: rest) M1 0 0) : z_J G Z d Q pc ls (a7 :: a6 :: a5 :: a4 :: a3 :: a2 :: a1 :: rest) M 0 0 :=
  z_callS hC (by rw [ho]; exact wmL_133) wt_L_parts wc_L_parts wn_L n_L_parts rfl rfl hfit ⟨Nat.zero_le _, Nat.zero_le _⟩ hcat hd kk
theorem kL_137 {a1 : Value} {r : Int} (hC : KX6_accept G [.ref (z_ad G 0 20), a1] M (.inl (some (z_I r))) M1) (ho : z_own d = RL) (hfit : z_fit d 7 124 4) (hcat : (rest.map fun v => v.category).sum ≤ 8) (hd : decode (z_cc d) pc = .ok (.invokevirtual 137, 3)) (kk : z_J G Z d Q (pc + 3) ls (z_I r :: rest) M1 0 0) : z_J G Z d Q pc ls (a1 :: .ref (z_ad G 0 20) :: rest) M 0 0 :=
  z_callV hC (by rw [ho]; exact wmL_137) wi_X6_accept ws_X6_accept wc_X6_accept wn_X6 n_X6_accept (Or.inl (by decide)) rfl rfl rfl rfl hfit ⟨Nat.zero_le _, Nat.zero_le _⟩ hcat hd kk
theorem kL_140 {a1 : Value} {r : Int} (hC : KX6_kill G [.ref (z_ad G 0 20), a1] M (.inl (some (z_I r))) M1) (ho : z_own d = RL) (hfit : z_fit d 7 124 3) (hcat : (rest.map fun v => v.category).sum ≤ 8) (hd : decode (z_cc d) pc = .ok (.invokevirtual 140, 3)) (kk : z_J G Z d Q (pc + 3) ls (z_I r :: rest) M1 0 0) : z_J G Z d Q pc ls (a1 :: .ref (z_ad G 0 20) :: rest) M 0 0 :=
  z_callV hC (by rw [ho]; exact wmL_140) wi_X6_kill ws_X6_kill wc_X6_kill wn_X6 n_X6_kill (Or.inl (by decide)) rfl rfl rfl rfl hfit ⟨Nat.zero_le _, Nat.zero_le _⟩ hcat hd kk
theorem kL_142 {a1 a2 : Value} {r : Int} (hC : KX6_royalty G [.ref (z_ad G 0 20), a1, a2] M (.inl (some (z_I r))) M1) (ho : z_own d = RL) (hfit : z_fit d 7 124 3) (hcat : (rest.map fun v => v.category).sum ≤ 8) (hd : decode (z_cc d) pc = .ok (.invokevirtual 142, 3)) (kk : z_J G Z d Q (pc + 3) ls (z_I r :: rest) M1 0 0) : z_J G Z d Q pc ls (a2 :: a1 :: .ref (z_ad G 0 20) :: rest) M 0 0 :=
  z_callV hC (by rw [ho]; exact wmL_142) wi_X6_royalty ws_X6_royalty wc_X6_royalty wn_X6 n_X6_royalty (Or.inl (by decide)) rfl rfl rfl rfl hfit ⟨Nat.zero_le _, Nat.zero_le _⟩ hcat hd kk
theorem kL_145 {a1 a2 : Value} {r : Int} (hC : KX6_dispute G [.ref (z_ad G 0 20), a1, a2] M (.inl (some (z_I r))) M1) (ho : z_own d = RL) (hfit : z_fit d 7 124 3) (hcat : (rest.map fun v => v.category).sum ≤ 8) (hd : decode (z_cc d) pc = .ok (.invokevirtual 145, 3)) (kk : z_J G Z d Q (pc + 3) ls (z_I r :: rest) M1 0 0) : z_J G Z d Q pc ls (a2 :: a1 :: .ref (z_ad G 0 20) :: rest) M 0 0 :=
  z_callV hC (by rw [ho]; exact wmL_145) wi_X6_dispute ws_X6_dispute wc_X6_dispute wn_X6 n_X6_dispute (Or.inl (by decide)) rfl rfl rfl rfl hfit ⟨Nat.zero_le _, Nat.zero_le _⟩ hcat hd kk
theorem kL_149 {a1 a2 a3 a4 a5 a6 a7 a8 : Value} {r : Int} (hC : KL_told G [a1, a2, a3, a4, a5, a6, a7, a8] M (.inl (some (z_I r))) M1) (ho : z_own d = RL) (hfit : z_fit d 9 165 13) (hcat : (rest.map fun v => v.category).sum ≤ 8) (hd : decode (z_cc d) pc = .ok (.invokestatic 149, 3)) (kk : z_J G Z d Q (pc + 3) ls (z_I r :: rest) M1 0 0) : z_J G Z d Q pc ls (a8 :: a7 :: a6 :: a5 :: a4 :: a3 :: a2 :: a1 :: rest) M 0 0 :=
  z_callS hC (by rw [ho]; exact wmL_149) wt_L_told wc_L_told wn_L n_L_told rfl rfl hfit ⟨Nat.zero_le _, Nat.zero_le _⟩ hcat hd kk
theorem kL_153 {a1 a2 : Value} {r : Int} (hC : KL_cell G [a1, a2] M (.inl (some (z_I r))) M1) (ho : z_own d = RL) (hfit : z_fit d 0 0 2) (hcat : (rest.map fun v => v.category).sum ≤ 8) (hd : decode (z_cc d) pc = .ok (.invokestatic 153, 3)) (kk : z_J G Z d Q (pc + 3) ls (z_I r :: rest) M1 0 0) : z_J G Z d Q pc ls (a2 :: a1 :: rest) M 0 0 :=
  z_callS hC (by rw [ho]; exact wmL_153) wt_L_cell wc_L_cell wn_L n_L_cell rfl rfl hfit ⟨Nat.zero_le _, Nat.zero_le _⟩ hcat hd kk
theorem kL_157 {a1 a2 a3 a4 a5 a6 a7 a8 a9 a10 a11 : Value} {r : Int} (hC : KL_act G [a1, a2, a3, a4, a5, a6, a7, a8, a9, a10, a11] M (.inl (some (z_I r))) M1) (ho : z_own d = RL) (hfit : z_fit d 9 177 15) (hcat : (rest.map fun v => v.category).sum ≤ 8) (hd : decode (z_cc d) pc = .ok (.invokestatic 157, 3)) (kk : z_J G Z d Q (pc + 3) ls (z_I r :: rest) M1 0 0) : z_J G Z d Q pc ls (a11 :: a10 :: a9 :: a8 :: a7 :: a6 :: a5 :: a4 :: a3 :: a2 :: a1 :: rest) M 0 0 :=
  z_callS hC (by rw [ho]; exact wmL_157) wt_L_act wc_L_act wn_L n_L_act rfl rfl hfit ⟨Nat.zero_le _, Nat.zero_le _⟩ hcat hd kk
theorem kL_161 {a1 a2 a3 a4 a5 a6 a7 a8 a9 : Value} {r : Int} (hC : KL_ahead G [a1, a2, a3, a4, a5, a6, a7, a8, a9] M (.inl (some (z_I r))) M1) (ho : z_own d = RL) (hfit : z_fit d 8 159 19) (hcat : (rest.map fun v => v.category).sum ≤ 8) (hd : decode (z_cc d) pc = .ok (.invokestatic 161, 3)) (kk : z_J G Z d Q (pc + 3) ls (z_I r :: rest) M1 0 0) : z_J G Z d Q pc ls (a9 :: a8 :: a7 :: a6 :: a5 :: a4 :: a3 :: a2 :: a1 :: rest) M 0 0 :=
  z_callS hC (by rw [ho]; exact wmL_161) wt_L_ahead wc_L_ahead wn_L n_L_ahead rfl rfl hfit ⟨Nat.zero_le _, Nat.zero_le _⟩ hcat hd kk
theorem kX0_18 {a1 a2 a3 : Value} (hC : KX0_begin G [.ref (z_ad G 0 25), a1, a2, a3] M (.inl none) M1) (ho : z_own d = RX0) (hfit : z_fit d 0 0 4) (hcat : (rest.map fun v => v.category).sum ≤ 8) (hd : decode (z_cc d) pc = .ok (.invokevirtual 18, 3)) (kk : z_J G Z d Q (pc + 3) ls (rest) M1 0 0) : z_J G Z d Q pc ls (a3 :: a2 :: a1 :: .ref (z_ad G 0 25) :: rest) M 0 0 :=
  z_callV hC (by rw [ho]; exact wmX0_18) wi_X0_begin ws_X0_begin wc_X0_begin wn_X0 n_X0_begin (Or.inl (by decide)) rfl rfl rfl rfl hfit ⟨Nat.zero_le _, Nat.zero_le _⟩ hcat hd kk
theorem kX0_32 {a1 a2 a3 : Value} (hC : KX0_split G [.ref (z_ad G 0 25), a1, a2, a3] M (.inl none) M1) (ho : z_own d = RX0) (hfit : z_fit d 3 65 8) (hcat : (rest.map fun v => v.category).sum ≤ 8) (hd : decode (z_cc d) pc = .ok (.invokevirtual 32, 3)) (kk : z_J G Z d Q (pc + 3) ls (rest) M1 0 0) : z_J G Z d Q pc ls (a3 :: a2 :: a1 :: .ref (z_ad G 0 25) :: rest) M 0 0 :=
  z_callV hC (by rw [ho]; exact wmX0_32) wi_X0_split ws_X0_split wc_X0_split wn_X0 n_X0_split (Or.inl (by decide)) rfl rfl rfl rfl hfit ⟨Nat.zero_le _, Nat.zero_le _⟩ hcat hd kk
theorem kX0_42 {a1 a2 a3 : Value} (hC : KX0_cutToCap G [.ref (z_ad G 0 25), a1, a2, a3] M (.inl none) M1) (ho : z_own d = RX0) (hfit : z_fit d 1 21 7) (hcat : (rest.map fun v => v.category).sum ≤ 8) (hd : decode (z_cc d) pc = .ok (.invokevirtual 42, 3)) (kk : z_J G Z d Q (pc + 3) ls (rest) M1 0 0) : z_J G Z d Q pc ls (a3 :: a2 :: a1 :: .ref (z_ad G 0 25) :: rest) M 0 0 :=
  z_callV hC (by rw [ho]; exact wmX0_42) wi_X0_cutToCap ws_X0_cutToCap wc_X0_cutToCap wn_X0 n_X0_cutToCap (Or.inl (by decide)) rfl rfl rfl rfl hfit ⟨Nat.zero_le _, Nat.zero_le _⟩ hcat hd kk
theorem kX0_65 {a1 : Value} {r : Int} {g : Nat} (hg : g < 7) (hC : KX4_allParts G [.ref (z_ad G g 8), a1] M (.inl (some (z_I r))) M1) (ho : z_own d = RX0) (hfit : z_fit d 2 44 2) (hcat : (rest.map fun v => v.category).sum ≤ 8) (hd : decode (z_cc d) pc = .ok (.invokevirtual 65, 3)) (kk : z_J G Z d Q (pc + 3) ls (z_I r :: rest) M1 0 0) : z_J G Z d Q pc ls (a1 :: .ref (z_ad G g 8) :: rest) M 0 0 :=
  z_callV hC (by rw [ho]; exact wmX0_65) wi_X4_allParts ws_X4_allParts wc_X4_allParts wn_X4 n_X4_allParts (Or.inl (Or.inl ⟨by decide, hg⟩)) rfl rfl rfl rfl hfit ⟨Nat.zero_le _, Nat.zero_le _⟩ hcat hd kk
theorem kX0_69 {a1 a2 : Value} {r : Int} (hC : KJ9_max_7cf53 G [a1, a2] M (.inl (some (z_I r))) M1) (ho : z_own d = RX0) (hfit : z_fit d 0 0 2) (hcat : (rest.map fun v => v.category).sum ≤ 8) (hd : decode (z_cc d) pc = .ok (.invokestatic 69, 3)) (kk : z_J G Z d Q (pc + 3) ls (z_I r :: rest) M1 0 0) : z_J G Z d Q pc ls (a2 :: a1 :: rest) M 0 0 :=
  z_callS hC (by rw [ho]; exact wmX0_69) wt_J9_max_7cf53 wc_J9_max_7cf53 wn_J9 n_J9_max_7cf53 rfl rfl hfit ⟨Nat.zero_le _, Nat.zero_le _⟩ hcat hd kk
theorem kX0_78 {a1 a2 : Value} {r : Int} (hC : KX6_at G [a1, a2] M (.inl (some (z_I r))) M1) (ho : z_own d = RX0) (hfit : z_fit d 0 0 2) (hcat : (rest.map fun v => v.category).sum ≤ 8) (hd : decode (z_cc d) pc = .ok (.invokestatic 78, 3)) (kk : z_J G Z d Q (pc + 3) ls (z_I r :: rest) M1 0 0) : z_J G Z d Q pc ls (a2 :: a1 :: rest) M 0 0 :=
  z_callN hC (by rw [ho]; exact wmX0_78) wt_X6_at wc_X6_at wn_X6 n_X6_at rfl rfl hfit ⟨Nat.zero_le _, Nat.zero_le _⟩ hcat hd kk
theorem kX0_81 (hC : KX0_giveUnit G [.ref (z_ad G 0 25)] M (.inl none) M1) (ho : z_own d = RX0) (hfit : z_fit d 0 0 3) (hcat : (rest.map fun v => v.category).sum ≤ 8) (hd : decode (z_cc d) pc = .ok (.invokevirtual 81, 3)) (kk : z_J G Z d Q (pc + 3) ls (rest) M1 0 0) : z_J G Z d Q pc ls (.ref (z_ad G 0 25) :: rest) M 0 0 :=
  z_callV hC (by rw [ho]; exact wmX0_81) wi_X0_giveUnit ws_X0_giveUnit wc_X0_giveUnit wn_X0 n_X0_giveUnit (Or.inl (by decide)) rfl rfl rfl rfl hfit ⟨Nat.zero_le _, Nat.zero_le _⟩ hcat hd kk
theorem kX1_24 {a1 a2 : Value} (hC : KX1_begin G [.ref (z_ad G 0 28), a1, a2] M (.inl none) M1) (ho : z_own d = RX1) (hfit : z_fit d 3 70 5) (hcat : (rest.map fun v => v.category).sum ≤ 8) (hd : decode (z_cc d) pc = .ok (.invokevirtual 24, 3)) (kk : z_J G Z d Q (pc + 3) ls (rest) M1 0 0) : z_J G Z d Q pc ls (a2 :: a1 :: .ref (z_ad G 0 28) :: rest) M 0 0 :=
  z_callV hC (by rw [ho]; exact wmX1_24) wi_X1_begin ws_X1_begin wc_X1_begin wn_X1 n_X1_begin (Or.inl (by decide)) rfl rfl rfl rfl hfit ⟨Nat.zero_le _, Nat.zero_le _⟩ hcat hd kk
theorem kX1_32 {a1 : Value} {r : Int} (hC : KX1_setTrial G [.ref (z_ad G 0 28), a1] M (.inl (some (z_I r))) M1) (ho : z_own d = RX1) (hfit : z_fit d 0 0 5) (hcat : (rest.map fun v => v.category).sum ≤ 8) (hd : decode (z_cc d) pc = .ok (.invokevirtual 32, 3)) (kk : z_J G Z d Q (pc + 3) ls (z_I r :: rest) M1 0 0) : z_J G Z d Q pc ls (a1 :: .ref (z_ad G 0 28) :: rest) M 0 0 :=
  z_callV hC (by rw [ho]; exact wmX1_32) wi_X1_setTrial ws_X1_setTrial wc_X1_setTrial wn_X1 n_X1_setTrial (Or.inl (by decide)) rfl rfl rfl rfl hfit ⟨Nat.zero_le _, Nat.zero_le _⟩ hcat hd kk
theorem kX1_36 {a1 : Value} {r : Int} (hC : KX1_gap G [.ref (z_ad G 0 28), a1] M (.inl (some (z_I r))) M1) (ho : z_own d = RX1) (hfit : z_fit d 1 21 4) (hcat : (rest.map fun v => v.category).sum ≤ 8) (hd : decode (z_cc d) pc = .ok (.invokevirtual 36, 3)) (kk : z_J G Z d Q (pc + 3) ls (z_I r :: rest) M1 0 0) : z_J G Z d Q pc ls (a1 :: .ref (z_ad G 0 28) :: rest) M 0 0 :=
  z_callV hC (by rw [ho]; exact wmX1_36) wi_X1_gap ws_X1_gap wc_X1_gap wn_X1 n_X1_gap (Or.inl (by decide)) rfl rfl rfl rfl hfit ⟨Nat.zero_le _, Nat.zero_le _⟩ hcat hd kk
theorem kX1_39 (hC : KX1_keepTrial G [.ref (z_ad G 0 28)] M (.inl none) M1) (ho : z_own d = RX1) (hfit : z_fit d 0 0 2) (hcat : (rest.map fun v => v.category).sum ≤ 8) (hd : decode (z_cc d) pc = .ok (.invokevirtual 39, 3)) (kk : z_J G Z d Q (pc + 3) ls (rest) M1 0 0) : z_J G Z d Q pc ls (.ref (z_ad G 0 28) :: rest) M 0 0 :=
  z_callV hC (by rw [ho]; exact wmX1_39) wi_X1_keepTrial ws_X1_keepTrial wc_X1_keepTrial wn_X1 n_X1_keepTrial (Or.inl (by decide)) rfl rfl rfl rfl hfit ⟨Nat.zero_le _, Nat.zero_le _⟩ hcat hd kk
theorem kX1_42 {a1 : Value} {r : Int} {g : Nat} (hg : g < 7) (hC : KX4_writers G [.ref (z_ad G g 8), a1] M (.inl (some (z_I r))) M1) (ho : z_own d = RX1) (hfit : z_fit d 2 46 5) (hcat : (rest.map fun v => v.category).sum ≤ 8) (hd : decode (z_cc d) pc = .ok (.invokevirtual 42, 3)) (kk : z_J G Z d Q (pc + 3) ls (z_I r :: rest) M1 0 0) : z_J G Z d Q pc ls (a1 :: .ref (z_ad G g 8) :: rest) M 0 0 :=
  z_callV hC (by rw [ho]; exact wmX1_42) wi_X4_writers ws_X4_writers wc_X4_writers wn_X4 n_X4_writers (Or.inl (Or.inl ⟨by decide, hg⟩)) rfl rfl rfl rfl hfit ⟨Nat.zero_le _, Nat.zero_le _⟩ hcat hd kk
theorem kX1_49 {a1 a2 : Value} {r : Int} (hC : KX6_isIn G [a1, a2] M (.inl (some (z_I r))) M1) (ho : z_own d = RX1) (hfit : z_fit d 0 0 2) (hcat : (rest.map fun v => v.category).sum ≤ 8) (hd : decode (z_cc d) pc = .ok (.invokestatic 49, 3)) (kk : z_J G Z d Q (pc + 3) ls (z_I r :: rest) M1 0 0) : z_J G Z d Q pc ls (a2 :: a1 :: rest) M 0 0 :=
  z_callN hC (by rw [ho]; exact wmX1_49) wt_X6_isIn wc_X6_isIn wn_X6 n_X6_isIn rfl rfl hfit ⟨Nat.zero_le _, Nat.zero_le _⟩ hcat hd kk
theorem kX1_54 {a1 a2 : Value} {r : Int} (hC : KX6_at G [a1, a2] M (.inl (some (z_I r))) M1) (ho : z_own d = RX1) (hfit : z_fit d 0 0 2) (hcat : (rest.map fun v => v.category).sum ≤ 8) (hd : decode (z_cc d) pc = .ok (.invokestatic 54, 3)) (kk : z_J G Z d Q (pc + 3) ls (z_I r :: rest) M1 0 0) : z_J G Z d Q pc ls (a2 :: a1 :: rest) M 0 0 :=
  z_callN hC (by rw [ho]; exact wmX1_54) wt_X6_at wc_X6_at wn_X6 n_X6_at rfl rfl hfit ⟨Nat.zero_le _, Nat.zero_le _⟩ hcat hd kk
theorem kX1_58 {a1 : Value} {r : Int} (hC : KJ9_abs_0f7a4 G [a1] M (.inl (some (z_I r))) M1) (ho : z_own d = RX1) (hfit : z_fit d 0 0 1) (hcat : (rest.map fun v => v.category).sum ≤ 8) (hd : decode (z_cc d) pc = .ok (.invokestatic 58, 3)) (kk : z_J G Z d Q (pc + 3) ls (z_I r :: rest) M1 0 0) : z_J G Z d Q pc ls (a1 :: rest) M 0 0 :=
  z_callS hC (by rw [ho]; exact wmX1_58) wt_J9_abs_0f7a4 wc_J9_abs_0f7a4 wn_J9 n_J9_abs_0f7a4 rfl rfl hfit ⟨Nat.zero_le _, Nat.zero_le _⟩ hcat hd kk
theorem kX1_63 {a1 a2 : Value} {r : Int} (hC : KJ9_max_7cf53 G [a1, a2] M (.inl (some (z_I r))) M1) (ho : z_own d = RX1) (hfit : z_fit d 0 0 2) (hcat : (rest.map fun v => v.category).sum ≤ 8) (hd : decode (z_cc d) pc = .ok (.invokestatic 63, 3)) (kk : z_J G Z d Q (pc + 3) ls (z_I r :: rest) M1 0 0) : z_J G Z d Q pc ls (a2 :: a1 :: rest) M 0 0 :=
  z_callS hC (by rw [ho]; exact wmX1_63) wt_J9_max_7cf53 wc_J9_max_7cf53 wn_J9 n_J9_max_7cf53 rfl rfl hfit ⟨Nat.zero_le _, Nat.zero_le _⟩ hcat hd kk
theorem kX2_18 {r : Int} (hC : KX2_readToError G [.ref (z_ad G 0 22)] M (.inl (some (z_I r))) M1) (ho : z_own d = RX2) (hfit : z_fit d 4 83 2) (hcat : (rest.map fun v => v.category).sum ≤ 8) (hd : decode (z_cc d) pc = .ok (.invokevirtual 18, 3)) (kk : z_J G Z d Q (pc + 3) ls (z_I r :: rest) M1 0 0) : z_J G Z d Q pc ls (.ref (z_ad G 0 22) :: rest) M 0 0 :=
  z_callV hC (by rw [ho]; exact wmX2_18) wi_X2_readToError ws_X2_readToError wc_X2_readToError wn_X2 n_X2_readToError (Or.inl (by decide)) rfl rfl rfl rfl hfit ⟨Nat.zero_le _, Nat.zero_le _⟩ hcat hd kk
theorem kX2_32 (hC : KX2_endItem G [.ref (z_ad G 0 22)] M (.inl none) M1) (ho : z_own d = RX2) (hfit : z_fit d 0 0 1) (hcat : (rest.map fun v => v.category).sum ≤ 8) (hd : decode (z_cc d) pc = .ok (.invokevirtual 32, 3)) (kk : z_J G Z d Q (pc + 3) ls (rest) M1 0 0) : z_J G Z d Q pc ls (.ref (z_ad G 0 22) :: rest) M 0 0 :=
  z_callV hC (by rw [ho]; exact wmX2_32) wi_X2_endItem ws_X2_endItem wc_X2_endItem wn_X2 n_X2_endItem (Or.inl (by decide)) rfl rfl rfl rfl hfit ⟨Nat.zero_le _, Nat.zero_le _⟩ hcat hd kk
theorem kX2_35 {a1 a2 : Value} (hC : KJ7_fill_53178 G [a1, a2] M (.inl none) M1) (ho : z_own d = RX2) (hfit : z_fit d 0 0 4) (hcat : (rest.map fun v => v.category).sum ≤ 8) (hd : decode (z_cc d) pc = .ok (.invokestatic 35, 3)) (kk : z_J G Z d Q (pc + 3) ls (rest) M1 0 0) : z_J G Z d Q pc ls (a2 :: a1 :: rest) M 0 0 :=
  z_callS hC (by rw [ho]; exact wmX2_35) wt_J7_fill_53178 wc_J7_fill_53178 wn_J7 n_J7_fill_53178 rfl rfl hfit ⟨Nat.zero_le _, Nat.zero_le _⟩ hcat hd kk
theorem kX2_47 {a1 : Value} {r : Int} (hC : KX2_takes G [.ref (z_ad G 0 22), a1] M (.inl (some (z_I r))) M1) (ho : z_own d = RX2) (hfit : z_fit d 3 62 2) (hcat : (rest.map fun v => v.category).sum ≤ 8) (hd : decode (z_cc d) pc = .ok (.invokevirtual 47, 3)) (kk : z_J G Z d Q (pc + 3) ls (z_I r :: rest) M1 0 0) : z_J G Z d Q pc ls (a1 :: .ref (z_ad G 0 22) :: rest) M 0 0 :=
  z_callV hC (by rw [ho]; exact wmX2_47) wi_X2_takes ws_X2_takes wc_X2_takes wn_X2 n_X2_takes (Or.inl (by decide)) rfl rfl rfl rfl hfit ⟨Nat.zero_le _, Nat.zero_le _⟩ hcat hd kk
theorem kX2_51 {a1 : Value} {r : Int} (hC : KX2_takesDigit G [.ref (z_ad G 0 22), a1] M (.inl (some (z_I r))) M1) (ho : z_own d = RX2) (hfit : z_fit d 1 21 2) (hcat : (rest.map fun v => v.category).sum ≤ 8) (hd : decode (z_cc d) pc = .ok (.invokevirtual 51, 3)) (kk : z_J G Z d Q (pc + 3) ls (z_I r :: rest) M1 0 0) : z_J G Z d Q pc ls (a1 :: .ref (z_ad G 0 22) :: rest) M 0 0 :=
  z_callV hC (by rw [ho]; exact wmX2_51) wi_X2_takesDigit ws_X2_takesDigit wc_X2_takesDigit wn_X2 n_X2_takesDigit (Or.inl (by decide)) rfl rfl rfl rfl hfit ⟨Nat.zero_le _, Nat.zero_le _⟩ hcat hd kk
theorem kX2_54 {a1 : Value} {r : Int} (hC : KX2_takesAfterOne G [.ref (z_ad G 0 22), a1] M (.inl (some (z_I r))) M1) (ho : z_own d = RX2) (hfit : z_fit d 2 41 2) (hcat : (rest.map fun v => v.category).sum ≤ 8) (hd : decode (z_cc d) pc = .ok (.invokevirtual 54, 3)) (kk : z_J G Z d Q (pc + 3) ls (z_I r :: rest) M1 0 0) : z_J G Z d Q pc ls (a1 :: .ref (z_ad G 0 22) :: rest) M 0 0 :=
  z_callV hC (by rw [ho]; exact wmX2_54) wi_X2_takesAfterOne ws_X2_takesAfterOne wc_X2_takesAfterOne wn_X2 n_X2_takesAfterOne (Or.inl (by decide)) rfl rfl rfl rfl hfit ⟨Nat.zero_le _, Nat.zero_le _⟩ hcat hd kk
theorem kX2_57 {a1 : Value} {r : Int} (hC : KX2_takesStar G [.ref (z_ad G 0 22), a1] M (.inl (some (z_I r))) M1) (ho : z_own d = RX2) (hfit : z_fit d 0 0 2) (hcat : (rest.map fun v => v.category).sum ≤ 8) (hd : decode (z_cc d) pc = .ok (.invokevirtual 57, 3)) (kk : z_J G Z d Q (pc + 3) ls (z_I r :: rest) M1 0 0) : z_J G Z d Q pc ls (a1 :: .ref (z_ad G 0 22) :: rest) M 0 0 :=
  z_callV hC (by rw [ho]; exact wmX2_57) wi_X2_takesStar ws_X2_takesStar wc_X2_takesStar wn_X2 n_X2_takesStar (Or.inl (by decide)) rfl rfl rfl rfl hfit ⟨Nat.zero_le _, Nat.zero_le _⟩ hcat hd kk
theorem kX2_60 {a1 : Value} {r : Int} (hC : KX2_takesComma G [.ref (z_ad G 0 22), a1] M (.inl (some (z_I r))) M1) (ho : z_own d = RX2) (hfit : z_fit d 1 20 2) (hcat : (rest.map fun v => v.category).sum ≤ 8) (hd : decode (z_cc d) pc = .ok (.invokevirtual 60, 3)) (kk : z_J G Z d Q (pc + 3) ls (z_I r :: rest) M1 0 0) : z_J G Z d Q pc ls (a1 :: .ref (z_ad G 0 22) :: rest) M 0 0 :=
  z_callV hC (by rw [ho]; exact wmX2_60) wi_X2_takesComma ws_X2_takesComma wc_X2_takesComma wn_X2 n_X2_takesComma (Or.inl (by decide)) rfl rfl rfl rfl hfit ⟨Nat.zero_le _, Nat.zero_le _⟩ hcat hd kk
theorem kX2_63 {a1 : Value} {r : Int} (hC : KX2_takesFactor G [.ref (z_ad G 0 22), a1] M (.inl (some (z_I r))) M1) (ho : z_own d = RX2) (hfit : z_fit d 0 0 2) (hcat : (rest.map fun v => v.category).sum ≤ 8) (hd : decode (z_cc d) pc = .ok (.invokevirtual 63, 3)) (kk : z_J G Z d Q (pc + 3) ls (z_I r :: rest) M1 0 0) : z_J G Z d Q pc ls (a1 :: .ref (z_ad G 0 22) :: rest) M 0 0 :=
  z_callV hC (by rw [ho]; exact wmX2_63) wi_X2_takesFactor ws_X2_takesFactor wc_X2_takesFactor wn_X2 n_X2_takesFactor (Or.inl (by decide)) rfl rfl rfl rfl hfit ⟨Nat.zero_le _, Nat.zero_le _⟩ hcat hd kk
theorem kX2_66 {r : Int} (hC : KX2_takesOne G [.ref (z_ad G 0 22)] M (.inl (some (z_I r))) M1) (ho : z_own d = RX2) (hfit : z_fit d 0 0 1) (hcat : (rest.map fun v => v.category).sum ≤ 8) (hd : decode (z_cc d) pc = .ok (.invokevirtual 66, 3)) (kk : z_J G Z d Q (pc + 3) ls (z_I r :: rest) M1 0 0) : z_J G Z d Q pc ls (.ref (z_ad G 0 22) :: rest) M 0 0 :=
  z_callV hC (by rw [ho]; exact wmX2_66) wi_X2_takesOne ws_X2_takesOne wc_X2_takesOne wn_X2 n_X2_takesOne (Or.inl (by decide)) rfl rfl rfl rfl hfit ⟨Nat.zero_le _, Nat.zero_le _⟩ hcat hd kk
theorem kX2_70 {a1 : Value} {r : Int} (hC : KX2_takesPen G [.ref (z_ad G 0 22), a1] M (.inl (some (z_I r))) M1) (ho : z_own d = RX2) (hfit : z_fit d 0 0 2) (hcat : (rest.map fun v => v.category).sum ≤ 8) (hd : decode (z_cc d) pc = .ok (.invokevirtual 70, 3)) (kk : z_J G Z d Q (pc + 3) ls (z_I r :: rest) M1 0 0) : z_J G Z d Q pc ls (a1 :: .ref (z_ad G 0 22) :: rest) M 0 0 :=
  z_callV hC (by rw [ho]; exact wmX2_70) wi_X2_takesPen ws_X2_takesPen wc_X2_takesPen wn_X2 n_X2_takesPen (Or.inl (by decide)) rfl rfl rfl rfl hfit ⟨Nat.zero_le _, Nat.zero_le _⟩ hcat hd kk
theorem kX3_34 {a1 a2 : Value} (hC : KX6_copyRow G [a1, a2] M (.inl none) M1) (ho : z_own d = RX3) (hfit : z_fit d 1 40 2) (hcat : (rest.map fun v => v.category).sum ≤ 8) (hd : decode (z_cc d) pc = .ok (.invokestatic 34, 3)) (kk : z_J G Z d Q (pc + 3) ls (rest) M1 0 0) : z_J G Z d Q pc ls (a2 :: a1 :: rest) M 0 0 :=
  z_callN hC (by rw [ho]; exact wmX3_34) wt_X6_copyRow wc_X6_copyRow wn_X6 n_X6_copyRow rfl rfl hfit ⟨Nat.zero_le _, Nat.zero_le _⟩ hcat hd kk
theorem kX3_38 {a1 a2 : Value} {r : Int} (hC : KX6_withheld G [a1, a2] M (.inl (some (z_I r))) M1) (ho : z_own d = RX3) (hfit : z_fit d 1 21 2) (hcat : (rest.map fun v => v.category).sum ≤ 8) (hd : decode (z_cc d) pc = .ok (.invokestatic 38, 3)) (kk : z_J G Z d Q (pc + 3) ls (z_I r :: rest) M1 0 0) : z_J G Z d Q pc ls (a2 :: a1 :: rest) M 0 0 :=
  z_callN hC (by rw [ho]; exact wmX3_38) wt_X6_withheld wc_X6_withheld wn_X6 n_X6_withheld rfl rfl hfit ⟨Nat.zero_le _, Nat.zero_le _⟩ hcat hd kk
theorem kX3_42 {a1 : Value} {r : Int} (hC : KJ9_abs_0f7a4 G [a1] M (.inl (some (z_I r))) M1) (ho : z_own d = RX3) (hfit : z_fit d 0 0 1) (hcat : (rest.map fun v => v.category).sum ≤ 8) (hd : decode (z_cc d) pc = .ok (.invokestatic 42, 3)) (kk : z_J G Z d Q (pc + 3) ls (z_I r :: rest) M1 0 0) : z_J G Z d Q pc ls (a1 :: rest) M 0 0 :=
  z_callS hC (by rw [ho]; exact wmX3_42) wt_J9_abs_0f7a4 wc_J9_abs_0f7a4 wn_J9 n_J9_abs_0f7a4 rfl rfl hfit ⟨Nat.zero_le _, Nat.zero_le _⟩ hcat hd kk
theorem kX4_40 {a1 a2 : Value} (hC : KX6_copyRow G [a1, a2] M (.inl none) M1) (ho : z_own d = RX4) (hfit : z_fit d 1 40 2) (hcat : (rest.map fun v => v.category).sum ≤ 8) (hd : decode (z_cc d) pc = .ok (.invokestatic 40, 3)) (kk : z_J G Z d Q (pc + 3) ls (rest) M1 0 0) : z_J G Z d Q pc ls (a2 :: a1 :: rest) M 0 0 :=
  z_callN hC (by rw [ho]; exact wmX4_40) wt_X6_copyRow wc_X6_copyRow wn_X6 n_X6_copyRow rfl rfl hfit ⟨Nat.zero_le _, Nat.zero_le _⟩ hcat hd kk
theorem kX4_44 {a1 a2 : Value} {r : Int} (hC : KX6_at G [a1, a2] M (.inl (some (z_I r))) M1) (ho : z_own d = RX4) (hfit : z_fit d 0 0 2) (hcat : (rest.map fun v => v.category).sum ≤ 8) (hd : decode (z_cc d) pc = .ok (.invokestatic 44, 3)) (kk : z_J G Z d Q (pc + 3) ls (z_I r :: rest) M1 0 0) : z_J G Z d Q pc ls (a2 :: a1 :: rest) M 0 0 :=
  z_callN hC (by rw [ho]; exact wmX4_44) wt_X6_at wc_X6_at wn_X6 n_X6_at rfl rfl hfit ⟨Nat.zero_le _, Nat.zero_le _⟩ hcat hd kk
theorem kX4_48 {a1 a2 : Value} {r : Int} (hC : KX6_sumOf G [a1, a2] M (.inl (some (z_I r))) M1) (ho : z_own d = RX4) (hfit : z_fit d 1 21 4) (hcat : (rest.map fun v => v.category).sum ≤ 8) (hd : decode (z_cc d) pc = .ok (.invokestatic 48, 3)) (kk : z_J G Z d Q (pc + 3) ls (z_I r :: rest) M1 0 0) : z_J G Z d Q pc ls (a2 :: a1 :: rest) M 0 0 :=
  z_callN hC (by rw [ho]; exact wmX4_48) wt_X6_sumOf wc_X6_sumOf wn_X6 n_X6_sumOf rfl rfl hfit ⟨Nat.zero_le _, Nat.zero_le _⟩ hcat hd kk
theorem kX4_52 {a1 : Value} {r : Int} {g : Nat} (hg : g < 7) (hC : KX4_allParts G [.ref (z_ad G g 8), a1] M (.inl (some (z_I r))) M1) (ho : z_own d = RX4) (hfit : z_fit d 2 44 2) (hcat : (rest.map fun v => v.category).sum ≤ 8) (hd : decode (z_cc d) pc = .ok (.invokevirtual 52, 3)) (kk : z_J G Z d Q (pc + 3) ls (z_I r :: rest) M1 0 0) : z_J G Z d Q pc ls (a1 :: .ref (z_ad G g 8) :: rest) M 0 0 :=
  z_callV hC (by rw [ho]; exact wmX4_52) wi_X4_allParts ws_X4_allParts wc_X4_allParts wn_X4 n_X4_allParts (Or.inl (Or.inl ⟨by decide, hg⟩)) rfl rfl rfl rfl hfit ⟨Nat.zero_le _, Nat.zero_le _⟩ hcat hd kk
theorem kX4_56 {a1 : Value} {r : Int} {g : Nat} (hg : g < 7) (hC : KX4_allDrafts G [.ref (z_ad G g 8), a1] M (.inl (some (z_I r))) M1) (ho : z_own d = RX4) (hfit : z_fit d 2 44 2) (hcat : (rest.map fun v => v.category).sum ≤ 8) (hd : decode (z_cc d) pc = .ok (.invokevirtual 56, 3)) (kk : z_J G Z d Q (pc + 3) ls (z_I r :: rest) M1 0 0) : z_J G Z d Q pc ls (a1 :: .ref (z_ad G g 8) :: rest) M 0 0 :=
  z_callV hC (by rw [ho]; exact wmX4_56) wi_X4_allDrafts ws_X4_allDrafts wc_X4_allDrafts wn_X4 n_X4_allDrafts (Or.inl (Or.inl ⟨by decide, hg⟩)) rfl rfl rfl rfl hfit ⟨Nat.zero_le _, Nat.zero_le _⟩ hcat hd kk
theorem kX4_59 {a1 : Value} {r : Int} {g : Nat} (hg : g < 7) (hC : KX4_writers G [.ref (z_ad G g 8), a1] M (.inl (some (z_I r))) M1) (ho : z_own d = RX4) (hfit : z_fit d 2 46 5) (hcat : (rest.map fun v => v.category).sum ≤ 8) (hd : decode (z_cc d) pc = .ok (.invokevirtual 59, 3)) (kk : z_J G Z d Q (pc + 3) ls (z_I r :: rest) M1 0 0) : z_J G Z d Q pc ls (a1 :: .ref (z_ad G g 8) :: rest) M 0 0 :=
  z_callV hC (by rw [ho]; exact wmX4_59) wi_X4_writers ws_X4_writers wc_X4_writers wn_X4 n_X4_writers (Or.inl (Or.inl ⟨by decide, hg⟩)) rfl rfl rfl rfl hfit ⟨Nat.zero_le _, Nat.zero_le _⟩ hcat hd kk
theorem kX4_62 {a1 a2 : Value} {r : Int} (hC : KX6_isIn G [a1, a2] M (.inl (some (z_I r))) M1) (ho : z_own d = RX4) (hfit : z_fit d 0 0 2) (hcat : (rest.map fun v => v.category).sum ≤ 8) (hd : decode (z_cc d) pc = .ok (.invokestatic 62, 3)) (kk : z_J G Z d Q (pc + 3) ls (z_I r :: rest) M1 0 0) : z_J G Z d Q pc ls (a2 :: a1 :: rest) M 0 0 :=
  z_callN hC (by rw [ho]; exact wmX4_62) wt_X6_isIn wc_X6_isIn wn_X6 n_X6_isIn rfl rfl hfit ⟨Nat.zero_le _, Nat.zero_le _⟩ hcat hd kk
theorem kX4_66 {a1 a2 : Value} {r : Int} {g : Nat} (hg : g < 7) (hC : KX4_writerWithMost G [.ref (z_ad G g 8), a1, a2] M (.inl (some (z_I r))) M1) (ho : z_own d = RX4) (hfit : z_fit d 1 21 6) (hcat : (rest.map fun v => v.category).sum ≤ 8) (hd : decode (z_cc d) pc = .ok (.invokevirtual 66, 3)) (kk : z_J G Z d Q (pc + 3) ls (z_I r :: rest) M1 0 0) : z_J G Z d Q pc ls (a2 :: a1 :: .ref (z_ad G g 8) :: rest) M 0 0 :=
  z_callV hC (by rw [ho]; exact wmX4_66) wi_X4_writerWithMost ws_X4_writerWithMost wc_X4_writerWithMost wn_X4 n_X4_writerWithMost (Or.inl (Or.inl ⟨by decide, hg⟩)) rfl rfl rfl rfl hfit ⟨Nat.zero_le _, Nat.zero_le _⟩ hcat hd kk
theorem kX5_37 {a1 : Value} {g : Nat} (hg : g < 7) (hC : KX3_copyFrom G [.ref (z_ad G g 1), a1] M (.inl none) M1) (ho : z_own d = RX5) (hfit : z_fit d 2 61 2) (hcat : (rest.map fun v => v.category).sum ≤ 8) (hd : decode (z_cc d) pc = .ok (.invokevirtual 37, 3)) (kk : z_J G Z d Q (pc + 3) ls (rest) M1 0 0) : z_J G Z d Q pc ls (a1 :: .ref (z_ad G g 1) :: rest) M 0 0 :=
  z_callV hC (by rw [ho]; exact wmX5_37) wi_X3_copyFrom ws_X3_copyFrom wc_X3_copyFrom wn_X3 n_X3_copyFrom (Or.inl (Or.inl ⟨by decide, hg⟩)) rfl rfl rfl rfl hfit ⟨Nat.zero_le _, Nat.zero_le _⟩ hcat hd kk
theorem kX5_41 {a1 : Value} {g : Nat} (hg : g < 7) (hC : KX4_copyFrom G [.ref (z_ad G g 8), a1] M (.inl none) M1) (ho : z_own d = RX5) (hfit : z_fit d 2 61 2) (hcat : (rest.map fun v => v.category).sum ≤ 8) (hd : decode (z_cc d) pc = .ok (.invokevirtual 41, 3)) (kk : z_J G Z d Q (pc + 3) ls (rest) M1 0 0) : z_J G Z d Q pc ls (a1 :: .ref (z_ad G g 8) :: rest) M 0 0 :=
  z_callV hC (by rw [ho]; exact wmX5_41) wi_X4_copyFrom ws_X4_copyFrom wc_X4_copyFrom wn_X4 n_X4_copyFrom (Or.inl (Or.inl ⟨by decide, hg⟩)) rfl rfl rfl rfl hfit ⟨Nat.zero_le _, Nat.zero_le _⟩ hcat hd kk
theorem kX5_44 {a1 a2 : Value} (hC : KX6_copyRow G [a1, a2] M (.inl none) M1) (ho : z_own d = RX5) (hfit : z_fit d 1 40 2) (hcat : (rest.map fun v => v.category).sum ≤ 8) (hd : decode (z_cc d) pc = .ok (.invokestatic 44, 3)) (kk : z_J G Z d Q (pc + 3) ls (rest) M1 0 0) : z_J G Z d Q pc ls (a2 :: a1 :: rest) M 0 0 :=
  z_callN hC (by rw [ho]; exact wmX5_44) wt_X6_copyRow wc_X6_copyRow wn_X6 n_X6_copyRow rfl rfl hfit ⟨Nat.zero_le _, Nat.zero_le _⟩ hcat hd kk
theorem kX6_65 (hC : KX6_save G [.ref (z_ad G 0 20)] M (.inl none) M1) (ho : z_own d = RX6) (hfit : z_fit d 4 103 2) (hcat : (rest.map fun v => v.category).sum ≤ 8) (hd : decode (z_cc d) pc = .ok (.invokevirtual 65, 3)) (kk : z_J G Z d Q (pc + 3) ls (rest) M1 0 0) : z_J G Z d Q pc ls (.ref (z_ad G 0 20) :: rest) M 0 0 :=
  z_callV hC (by rw [ho]; exact wmX6_65) wi_X6_save ws_X6_save wc_X6_save wn_X6 n_X6_save (Or.inl (by decide)) rfl rfl rfl rfl hfit ⟨Nat.zero_le _, Nat.zero_le _⟩ hcat hd kk
theorem kX6_71 {a1 : Value} (hC : KX6_needPen G [.ref (z_ad G 0 20), a1] M (.inl none) M1) (ho : z_own d = RX6) (hfit : z_fit d 6 90 2) (hcat : (rest.map fun v => v.category).sum ≤ 8) (hd : decode (z_cc d) pc = .ok (.invokevirtual 71, 3)) (kk : z_J G Z d Q (pc + 3) ls (rest) M1 0 0) : z_J G Z d Q pc ls (a1 :: .ref (z_ad G 0 20) :: rest) M 0 0 :=
  z_callV hC (by rw [ho]; exact wmX6_71) wi_X6_needPen ws_X6_needPen wc_X6_needPen wn_X6 n_X6_needPen (Or.inl (by decide)) rfl rfl rfl rfl hfit ⟨Nat.zero_le _, Nat.zero_le _⟩ hcat hd kk
theorem kX6_76 {a1 a2 a3 : Value} (hC : KX6_needRange G [a1, a2, a3] M (.inl none) M1) (ho : z_own d = RX6) (hfit : z_fit d 6 90 3) (hcat : (rest.map fun v => v.category).sum ≤ 8) (hd : decode (z_cc d) pc = .ok (.invokestatic 76, 3)) (kk : z_J G Z d Q (pc + 3) ls (rest) M1 0 0) : z_J G Z d Q pc ls (a3 :: a2 :: a1 :: rest) M 0 0 :=
  z_callS hC (by rw [ho]; exact wmX6_76) wt_X6_needRange wc_X6_needRange wn_X6 n_X6_needRange rfl rfl hfit ⟨Nat.zero_le _, Nat.zero_le _⟩ hcat hd kk
theorem kX6_88 {a1 a2 : Value} (hC : KX6_needAtLeast G [a1, a2] M (.inl none) M1) (ho : z_own d = RX6) (hfit : z_fit d 6 90 2) (hcat : (rest.map fun v => v.category).sum ≤ 8) (hd : decode (z_cc d) pc = .ok (.invokestatic 88, 3)) (kk : z_J G Z d Q (pc + 3) ls (rest) M1 0 0) : z_J G Z d Q pc ls (a2 :: a1 :: rest) M 0 0 :=
  z_callS hC (by rw [ho]; exact wmX6_88) wt_X6_needAtLeast wc_X6_needAtLeast wn_X6 n_X6_needAtLeast rfl rfl hfit ⟨Nat.zero_le _, Nat.zero_le _⟩ hcat hd kk
theorem kX6_92 {a1 a2 a3 : Value} {g : Nat} (hg : g < 7) (hC : KX3_passByline G [.ref (z_ad G g 1), a1, a2, a3] M (.inl none) M1) (ho : z_own d = RX6) (hfit : z_fit d 0 0 4) (hcat : (rest.map fun v => v.category).sum ≤ 8) (hd : decode (z_cc d) pc = .ok (.invokevirtual 92, 3)) (kk : z_J G Z d Q (pc + 3) ls (rest) M1 0 0) : z_J G Z d Q pc ls (a3 :: a2 :: a1 :: .ref (z_ad G g 1) :: rest) M 0 0 :=
  z_callV hC (by rw [ho]; exact wmX6_92) wi_X3_passByline ws_X3_passByline wc_X3_passByline wn_X3 n_X3_passByline (Or.inl (Or.inl ⟨by decide, hg⟩)) rfl rfl rfl rfl hfit ⟨Nat.zero_le _, Nat.zero_le _⟩ hcat hd kk
theorem kX6_109 {a1 : Value} (hC : KX6_needSetting G [a1] M (.inl none) M1) (ho : z_own d = RX6) (hfit : z_fit d 6 90 1) (hcat : (rest.map fun v => v.category).sum ≤ 8) (hd : decode (z_cc d) pc = .ok (.invokestatic 109, 3)) (kk : z_J G Z d Q (pc + 3) ls (rest) M1 0 0) : z_J G Z d Q pc ls (a1 :: rest) M 0 0 :=
  z_callS hC (by rw [ho]; exact wmX6_109) wt_X6_needSetting wc_X6_needSetting wn_X6 n_X6_needSetting rfl rfl hfit ⟨Nat.zero_le _, Nat.zero_le _⟩ hcat hd kk
theorem kX6_130 {a1 a2 : Value} (hC : KJ7_fill_53178 G [a1, a2] M (.inl none) M1) (ho : z_own d = RX6) (hfit : z_fit d 0 0 4) (hcat : (rest.map fun v => v.category).sum ≤ 8) (hd : decode (z_cc d) pc = .ok (.invokestatic 130, 3)) (kk : z_J G Z d Q (pc + 3) ls (rest) M1 0 0) : z_J G Z d Q pc ls (a2 :: a1 :: rest) M 0 0 :=
  z_callS hC (by rw [ho]; exact wmX6_130) wt_J7_fill_53178 wc_J7_fill_53178 wn_J7 n_J7_fill_53178 rfl rfl hfit ⟨Nat.zero_le _, Nat.zero_le _⟩ hcat hd kk
theorem kX6_139 {a1 a2 : Value} {r : Int} {g : Nat} (hg : g < 7) (hC : KX4_begin G [.ref (z_ad G g 8), a1, a2] M (.inl (some (z_I r))) M1) (ho : z_own d = RX6) (hfit : z_fit d 1 21 4) (hcat : (rest.map fun v => v.category).sum ≤ 8) (hd : decode (z_cc d) pc = .ok (.invokevirtual 139, 3)) (kk : z_J G Z d Q (pc + 3) ls (z_I r :: rest) M1 0 0) : z_J G Z d Q pc ls (a2 :: a1 :: .ref (z_ad G g 8) :: rest) M 0 0 :=
  z_callV hC (by rw [ho]; exact wmX6_139) wi_X4_begin ws_X4_begin wc_X4_begin wn_X4 n_X4_begin (Or.inl (Or.inl ⟨by decide, hg⟩)) rfl rfl rfl rfl hfit ⟨Nat.zero_le _, Nat.zero_le _⟩ hcat hd kk
theorem kX6_143 {a1 : Value} (hC : KX6_needPiece G [.ref (z_ad G 0 20), a1] M (.inl none) M1) (ho : z_own d = RX6) (hfit : z_fit d 6 90 2) (hcat : (rest.map fun v => v.category).sum ≤ 8) (hd : decode (z_cc d) pc = .ok (.invokevirtual 143, 3)) (kk : z_J G Z d Q (pc + 3) ls (rest) M1 0 0) : z_J G Z d Q pc ls (a1 :: .ref (z_ad G 0 20) :: rest) M 0 0 :=
  z_callV hC (by rw [ho]; exact wmX6_143) wi_X6_needPiece ws_X6_needPiece wc_X6_needPiece wn_X6 n_X6_needPiece (Or.inl (by decide)) rfl rfl rfl rfl hfit ⟨Nat.zero_le _, Nat.zero_le _⟩ hcat hd kk
theorem kX6_146 {a1 : Value} (hC : KX6_needUnended G [.ref (z_ad G 0 20), a1] M (.inl none) M1) (ho : z_own d = RX6) (hfit : z_fit d 6 90 2) (hcat : (rest.map fun v => v.category).sum ≤ 8) (hd : decode (z_cc d) pc = .ok (.invokevirtual 146, 3)) (kk : z_J G Z d Q (pc + 3) ls (rest) M1 0 0) : z_J G Z d Q pc ls (a1 :: .ref (z_ad G 0 20) :: rest) M 0 0 :=
  z_callV hC (by rw [ho]; exact wmX6_146) wi_X6_needUnended ws_X6_needUnended wc_X6_needUnended wn_X6 n_X6_needUnended (Or.inl (by decide)) rfl rfl rfl rfl hfit ⟨Nat.zero_le _, Nat.zero_le _⟩ hcat hd kk
theorem kX6_149 {a1 : Value} {r : Int} {g : Nat} (hg : g < 7) (hC : KX4_allDrafts G [.ref (z_ad G g 8), a1] M (.inl (some (z_I r))) M1) (ho : z_own d = RX6) (hfit : z_fit d 2 44 2) (hcat : (rest.map fun v => v.category).sum ≤ 8) (hd : decode (z_cc d) pc = .ok (.invokevirtual 149, 3)) (kk : z_J G Z d Q (pc + 3) ls (z_I r :: rest) M1 0 0) : z_J G Z d Q pc ls (a1 :: .ref (z_ad G g 8) :: rest) M 0 0 :=
  z_callV hC (by rw [ho]; exact wmX6_149) wi_X4_allDrafts ws_X4_allDrafts wc_X4_allDrafts wn_X4 n_X4_allDrafts (Or.inl (Or.inl ⟨by decide, hg⟩)) rfl rfl rfl rfl hfit ⟨Nat.zero_le _, Nat.zero_le _⟩ hcat hd kk
theorem kX6_158 {a1 a2 : Value} {r : Int} (hC : KX6_at G [a1, a2] M (.inl (some (z_I r))) M1) (ho : z_own d = RX6) (hfit : z_fit d 0 0 2) (hcat : (rest.map fun v => v.category).sum ≤ 8) (hd : decode (z_cc d) pc = .ok (.invokestatic 158, 3)) (kk : z_J G Z d Q (pc + 3) ls (z_I r :: rest) M1 0 0) : z_J G Z d Q pc ls (a2 :: a1 :: rest) M 0 0 :=
  z_callS hC (by rw [ho]; exact wmX6_158) wt_X6_at wc_X6_at wn_X6 n_X6_at rfl rfl hfit ⟨Nat.zero_le _, Nat.zero_le _⟩ hcat hd kk
theorem kX6_170 {r : Int} (hC : KX2_isList G [.ref (z_ad G 0 22)] M (.inl (some (z_I r))) M1) (ho : z_own d = RX6) (hfit : z_fit d 5 104 1) (hcat : (rest.map fun v => v.category).sum ≤ 8) (hd : decode (z_cc d) pc = .ok (.invokevirtual 170, 3)) (kk : z_J G Z d Q (pc + 3) ls (z_I r :: rest) M1 0 0) : z_J G Z d Q pc ls (.ref (z_ad G 0 22) :: rest) M 0 0 :=
  z_callV hC (by rw [ho]; exact wmX6_170) wi_X2_isList ws_X2_isList wc_X2_isList wn_X2 n_X2_isList (Or.inl (by decide)) rfl rfl rfl rfl hfit ⟨Nat.zero_le _, Nat.zero_le _⟩ hcat hd kk
theorem kX6_174 {r : Int} (hC : KX2_greatestPen G [.ref (z_ad G 0 22)] M (.inl (some (z_I r))) M1) (ho : z_own d = RX6) (hfit : z_fit d 0 0 3) (hcat : (rest.map fun v => v.category).sum ≤ 8) (hd : decode (z_cc d) pc = .ok (.invokevirtual 174, 3)) (kk : z_J G Z d Q (pc + 3) ls (z_I r :: rest) M1 0 0) : z_J G Z d Q pc ls (.ref (z_ad G 0 22) :: rest) M 0 0 :=
  z_callV hC (by rw [ho]; exact wmX6_174) wi_X2_greatestPen ws_X2_greatestPen wc_X2_greatestPen wn_X2 n_X2_greatestPen (Or.inl (by decide)) rfl rfl rfl rfl hfit ⟨Nat.zero_le _, Nat.zero_le _⟩ hcat hd kk
theorem kX6_185 {a1 a2 : Value} {g : Nat} (hg : g < 7) (hC : KX4_takeParts G [.ref (z_ad G g 8), a1, a2] M (.inl none) M1) (ho : z_own d = RX6) (hfit : z_fit d 1 21 4) (hcat : (rest.map fun v => v.category).sum ≤ 8) (hd : decode (z_cc d) pc = .ok (.invokevirtual 185, 3)) (kk : z_J G Z d Q (pc + 3) ls (rest) M1 0 0) : z_J G Z d Q pc ls (a2 :: a1 :: .ref (z_ad G g 8) :: rest) M 0 0 :=
  z_callV hC (by rw [ho]; exact wmX6_185) wi_X4_takeParts ws_X4_takeParts wc_X4_takeParts wn_X4 n_X4_takeParts (Or.inl (Or.inl ⟨by decide, hg⟩)) rfl rfl rfl rfl hfit ⟨Nat.zero_le _, Nat.zero_le _⟩ hcat hd kk
theorem kX6_192 {a1 : Value} {r : Int} {g : Nat} (hg : g < 7) (hC : KX4_allParts G [.ref (z_ad G g 8), a1] M (.inl (some (z_I r))) M1) (ho : z_own d = RX6) (hfit : z_fit d 2 44 2) (hcat : (rest.map fun v => v.category).sum ≤ 8) (hd : decode (z_cc d) pc = .ok (.invokevirtual 192, 3)) (kk : z_J G Z d Q (pc + 3) ls (z_I r :: rest) M1 0 0) : z_J G Z d Q pc ls (a1 :: .ref (z_ad G g 8) :: rest) M 0 0 :=
  z_callV hC (by rw [ho]; exact wmX6_192) wi_X4_allParts ws_X4_allParts wc_X4_allParts wn_X4 n_X4_allParts (Or.inl (Or.inl ⟨by decide, hg⟩)) rfl rfl rfl rfl hfit ⟨Nat.zero_le _, Nat.zero_le _⟩ hcat hd kk
theorem kX6_197 {a1 a2 a3 : Value} (hC : KX0_divideFee G [.ref (z_ad G 0 25), a1, a2, a3] M (.inl none) M1) (ho : z_own d = RX6) (hfit : z_fit d 4 92 4) (hcat : (rest.map fun v => v.category).sum ≤ 8) (hd : decode (z_cc d) pc = .ok (.invokevirtual 197, 3)) (kk : z_J G Z d Q (pc + 3) ls (rest) M1 0 0) : z_J G Z d Q pc ls (a3 :: a2 :: a1 :: .ref (z_ad G 0 25) :: rest) M 0 0 :=
  z_callV hC (by rw [ho]; exact wmX6_197) wi_X0_divideFee ws_X0_divideFee wc_X0_divideFee wn_X0 n_X0_divideFee (Or.inl (by decide)) rfl rfl rfl rfl hfit ⟨Nat.zero_le _, Nat.zero_le _⟩ hcat hd kk
theorem kX6_201 {a1 : Value} {r : Int} (hC : KX6_bringIn G [.ref (z_ad G 0 20), a1] M (.inl (some (z_I r))) M1) (ho : z_own d = RX6) (hfit : z_fit d 3 65 4) (hcat : (rest.map fun v => v.category).sum ≤ 8) (hd : decode (z_cc d) pc = .ok (.invokevirtual 201, 3)) (kk : z_J G Z d Q (pc + 3) ls (z_I r :: rest) M1 0 0) : z_J G Z d Q pc ls (a1 :: .ref (z_ad G 0 20) :: rest) M 0 0 :=
  z_callV hC (by rw [ho]; exact wmX6_201) wi_X6_bringIn ws_X6_bringIn wc_X6_bringIn wn_X6 n_X6_bringIn (Or.inl (by decide)) rfl rfl rfl rfl hfit ⟨Nat.zero_le _, Nat.zero_le _⟩ hcat hd kk
theorem kX6_204 {a1 : Value} {r : Int} {g : Nat} (hg : g < 7) (hC : KX5_killFee G [.ref (z_ad G g 0), a1] M (.inl (some (z_I r))) M1) (ho : z_own d = RX6) (hfit : z_fit d 0 0 3) (hcat : (rest.map fun v => v.category).sum ≤ 8) (hd : decode (z_cc d) pc = .ok (.invokevirtual 204, 3)) (kk : z_J G Z d Q (pc + 3) ls (z_I r :: rest) M1 0 0) : z_J G Z d Q pc ls (a1 :: .ref (z_ad G g 0) :: rest) M 0 0 :=
  z_callV hC (by rw [ho]; exact wmX6_204) wi_X5_killFee ws_X5_killFee wc_X5_killFee wn_X5 n_X5_killFee (Or.inl (Or.inl ⟨by decide, hg⟩)) rfl rfl rfl rfl hfit ⟨Nat.zero_le _, Nat.zero_le _⟩ hcat hd kk
theorem kX6_207 {a1 : Value} (hC : KX6_needAccepted G [.ref (z_ad G 0 20), a1] M (.inl none) M1) (ho : z_own d = RX6) (hfit : z_fit d 6 90 2) (hcat : (rest.map fun v => v.category).sum ≤ 8) (hd : decode (z_cc d) pc = .ok (.invokevirtual 207, 3)) (kk : z_J G Z d Q (pc + 3) ls (rest) M1 0 0) : z_J G Z d Q pc ls (a1 :: .ref (z_ad G 0 20) :: rest) M 0 0 :=
  z_callV hC (by rw [ho]; exact wmX6_207) wi_X6_needAccepted ws_X6_needAccepted wc_X6_needAccepted wn_X6 n_X6_needAccepted (Or.inl (by decide)) rfl rfl rfl rfl hfit ⟨Nat.zero_le _, Nat.zero_le _⟩ hcat hd kk
theorem kX6_210 {a1 a2 a3 : Value} (hC : KX0_divideRoyalty G [.ref (z_ad G 0 25), a1, a2, a3] M (.inl none) M1) (ho : z_own d = RX6) (hfit : z_fit d 4 92 4) (hcat : (rest.map fun v => v.category).sum ≤ 8) (hd : decode (z_cc d) pc = .ok (.invokevirtual 210, 3)) (kk : z_J G Z d Q (pc + 3) ls (rest) M1 0 0) : z_J G Z d Q pc ls (a3 :: a2 :: a1 :: .ref (z_ad G 0 25) :: rest) M 0 0 :=
  z_callV hC (by rw [ho]; exact wmX6_210) wi_X0_divideRoyalty ws_X0_divideRoyalty wc_X0_divideRoyalty wn_X0 n_X0_divideRoyalty (Or.inl (by decide)) rfl rfl rfl rfl hfit ⟨Nat.zero_le _, Nat.zero_le _⟩ hcat hd kk
theorem kX6_219 {a1 a2 : Value} {g : Nat} (hg : g < 7) (hC : KX4_addToYear G [.ref (z_ad G g 8), a1, a2] M (.inl none) M1) (ho : z_own d = RX6) (hfit : z_fit d 1 21 4) (hcat : (rest.map fun v => v.category).sum ≤ 8) (hd : decode (z_cc d) pc = .ok (.invokevirtual 219, 3)) (kk : z_J G Z d Q (pc + 3) ls (rest) M1 0 0) : z_J G Z d Q pc ls (a2 :: a1 :: .ref (z_ad G g 8) :: rest) M 0 0 :=
  z_callV hC (by rw [ho]; exact wmX6_219) wi_X4_addToYear ws_X4_addToYear wc_X4_addToYear wn_X4 n_X4_addToYear (Or.inl (Or.inl ⟨by decide, hg⟩)) rfl rfl rfl rfl hfit ⟨Nat.zero_le _, Nat.zero_le _⟩ hcat hd kk
theorem kX6_226 {a1 : Value} {r : Int} {g : Nat} (hg : g < 7) (hC : KX4_disputers G [.ref (z_ad G g 8), a1] M (.inl (some (z_I r))) M1) (ho : z_own d = RX6) (hfit : z_fit d 3 65 7) (hcat : (rest.map fun v => v.category).sum ≤ 8) (hd : decode (z_cc d) pc = .ok (.invokevirtual 226, 3)) (kk : z_J G Z d Q (pc + 3) ls (z_I r :: rest) M1 0 0) : z_J G Z d Q pc ls (a1 :: .ref (z_ad G g 8) :: rest) M 0 0 :=
  z_callV hC (by rw [ho]; exact wmX6_226) wi_X4_disputers ws_X4_disputers wc_X4_disputers wn_X4 n_X4_disputers (Or.inl (Or.inl ⟨by decide, hg⟩)) rfl rfl rfl rfl hfit ⟨Nat.zero_le _, Nat.zero_le _⟩ hcat hd kk
theorem kX6_229 {a1 a2 : Value} {r : Int} (hC : KX6_isIn G [a1, a2] M (.inl (some (z_I r))) M1) (ho : z_own d = RX6) (hfit : z_fit d 0 0 2) (hcat : (rest.map fun v => v.category).sum ≤ 8) (hd : decode (z_cc d) pc = .ok (.invokestatic 229, 3)) (kk : z_J G Z d Q (pc + 3) ls (z_I r :: rest) M1 0 0) : z_J G Z d Q pc ls (a2 :: a1 :: rest) M 0 0 :=
  z_callS hC (by rw [ho]; exact wmX6_229) wt_X6_isIn wc_X6_isIn wn_X6 n_X6_isIn rfl rfl hfit ⟨Nat.zero_le _, Nat.zero_le _⟩ hcat hd kk
theorem kX6_235 {a1 : Value} {g : Nat} (hg : g < 7) (hC : KX4_takePartsFromDrafts G [.ref (z_ad G g 8), a1] M (.inl none) M1) (ho : z_own d = RX6) (hfit : z_fit d 3 70 4) (hcat : (rest.map fun v => v.category).sum ≤ 8) (hd : decode (z_cc d) pc = .ok (.invokevirtual 235, 3)) (kk : z_J G Z d Q (pc + 3) ls (rest) M1 0 0) : z_J G Z d Q pc ls (a1 :: .ref (z_ad G g 8) :: rest) M 0 0 :=
  z_callV hC (by rw [ho]; exact wmX6_235) wi_X4_takePartsFromDrafts ws_X4_takePartsFromDrafts wc_X4_takePartsFromDrafts wn_X4 n_X4_takePartsFromDrafts (Or.inl (Or.inl ⟨by decide, hg⟩)) rfl rfl rfl rfl hfit ⟨Nat.zero_le _, Nat.zero_le _⟩ hcat hd kk
theorem kX6_261 {a1 : Value} {r : Int} {g : Nat} (hg : g < 7) (hC : KX3_bylinesOf G [.ref (z_ad G g 1), a1] M (.inl (some (z_I r))) M1) (ho : z_own d = RX6) (hfit : z_fit d 0 0 4) (hcat : (rest.map fun v => v.category).sum ≤ 8) (hd : decode (z_cc d) pc = .ok (.invokevirtual 261, 3)) (kk : z_J G Z d Q (pc + 3) ls (z_I r :: rest) M1 0 0) : z_J G Z d Q pc ls (a1 :: .ref (z_ad G g 1) :: rest) M 0 0 :=
  z_callV hC (by rw [ho]; exact wmX6_261) wi_X3_bylinesOf ws_X3_bylinesOf wc_X3_bylinesOf wn_X3 n_X3_bylinesOf (Or.inl (Or.inl ⟨by decide, hg⟩)) rfl rfl rfl rfl hfit ⟨Nat.zero_le _, Nat.zero_le _⟩ hcat hd kk
theorem kX6_264 {a1 : Value} {r : Int} {g : Nat} (hg : g < 7) (hC : KX4_draftsBy G [.ref (z_ad G g 8), a1] M (.inl (some (z_I r))) M1) (ho : z_own d = RX6) (hfit : z_fit d 1 21 4) (hcat : (rest.map fun v => v.category).sum ≤ 8) (hd : decode (z_cc d) pc = .ok (.invokevirtual 264, 3)) (kk : z_J G Z d Q (pc + 3) ls (z_I r :: rest) M1 0 0) : z_J G Z d Q pc ls (a1 :: .ref (z_ad G g 8) :: rest) M 0 0 :=
  z_callV hC (by rw [ho]; exact wmX6_264) wi_X4_draftsBy ws_X4_draftsBy wc_X4_draftsBy wn_X4 n_X4_draftsBy (Or.inl (Or.inl ⟨by decide, hg⟩)) rfl rfl rfl rfl hfit ⟨Nat.zero_le _, Nat.zero_le _⟩ hcat hd kk
theorem kX6_267 {a1 : Value} {r : Int} {g : Nat} (hg : g < 7) (hC : KX3_placeOf G [.ref (z_ad G g 1), a1] M (.inl (some (z_I r))) M1) (ho : z_own d = RX6) (hfit : z_fit d 0 0 5) (hcat : (rest.map fun v => v.category).sum ≤ 8) (hd : decode (z_cc d) pc = .ok (.invokevirtual 267, 3)) (kk : z_J G Z d Q (pc + 3) ls (z_I r :: rest) M1 0 0) : z_J G Z d Q pc ls (a1 :: .ref (z_ad G g 1) :: rest) M 0 0 :=
  z_callV hC (by rw [ho]; exact wmX6_267) wi_X3_placeOf ws_X3_placeOf wc_X3_placeOf wn_X3 n_X3_placeOf (Or.inl (Or.inl ⟨by decide, hg⟩)) rfl rfl rfl rfl hfit ⟨Nat.zero_le _, Nat.zero_le _⟩ hcat hd kk
theorem kX6_273 {a1 : Value} {r : Int} {g : Nat} (hg : g < 7) (hC : KX4_sharers G [.ref (z_ad G g 8), a1] M (.inl (some (z_I r))) M1) (ho : z_own d = RX6) (hfit : z_fit d 1 21 4) (hcat : (rest.map fun v => v.category).sum ≤ 8) (hd : decode (z_cc d) pc = .ok (.invokevirtual 273, 3)) (kk : z_J G Z d Q (pc + 3) ls (z_I r :: rest) M1 0 0) : z_J G Z d Q pc ls (a1 :: .ref (z_ad G g 8) :: rest) M 0 0 :=
  z_callV hC (by rw [ho]; exact wmX6_273) wi_X4_sharers ws_X4_sharers wc_X4_sharers wn_X4 n_X4_sharers (Or.inl (Or.inl ⟨by decide, hg⟩)) rfl rfl rfl rfl hfit ⟨Nat.zero_le _, Nat.zero_le _⟩ hcat hd kk
theorem kX6_279 {a1 : Value} {r : Int} (hC : KX6_sum G [a1] M (.inl (some (z_I r))) M1) (ho : z_own d = RX6) (hfit : z_fit d 0 0 6) (hcat : (rest.map fun v => v.category).sum ≤ 8) (hd : decode (z_cc d) pc = .ok (.invokestatic 279, 3)) (kk : z_J G Z d Q (pc + 3) ls (z_I r :: rest) M1 0 0) : z_J G Z d Q pc ls (a1 :: rest) M 0 0 :=
  z_callS hC (by rw [ho]; exact wmX6_279) wt_X6_sum wc_X6_sum wn_X6 n_X6_sum rfl rfl hfit ⟨Nat.zero_le _, Nat.zero_le _⟩ hcat hd kk
theorem kX6_283 {a1 : Value} {r : Int} {g : Nat} (hg : g < 7) (hC : KX4_inStage G [.ref (z_ad G g 8), a1] M (.inl (some (z_I r))) M1) (ho : z_own d = RX6) (hfit : z_fit d 0 0 4) (hcat : (rest.map fun v => v.category).sum ≤ 8) (hd : decode (z_cc d) pc = .ok (.invokevirtual 283, 3)) (kk : z_J G Z d Q (pc + 3) ls (z_I r :: rest) M1 0 0) : z_J G Z d Q pc ls (a1 :: .ref (z_ad G g 8) :: rest) M 0 0 :=
  z_callV hC (by rw [ho]; exact wmX6_283) wi_X4_inStage ws_X4_inStage wc_X4_inStage wn_X4 n_X4_inStage (Or.inl (Or.inl ⟨by decide, hg⟩)) rfl rfl rfl rfl hfit ⟨Nat.zero_le _, Nat.zero_le _⟩ hcat hd kk
theorem kX6_286 {r : Int} {g : Nat} (hg : g < 7) (hC : KX3_bylinesAway G [.ref (z_ad G g 1)] M (.inl (some (z_I r))) M1) (ho : z_own d = RX6) (hfit : z_fit d 0 0 3) (hcat : (rest.map fun v => v.category).sum ≤ 8) (hd : decode (z_cc d) pc = .ok (.invokevirtual 286, 3)) (kk : z_J G Z d Q (pc + 3) ls (z_I r :: rest) M1 0 0) : z_J G Z d Q pc ls (.ref (z_ad G g 1) :: rest) M 0 0 :=
  z_callV hC (by rw [ho]; exact wmX6_286) wi_X3_bylinesAway ws_X3_bylinesAway wc_X3_bylinesAway wn_X3 n_X3_bylinesAway (Or.inl (Or.inl ⟨by decide, hg⟩)) rfl rfl rfl rfl hfit ⟨Nat.zero_le _, Nat.zero_le _⟩ hcat hd kk
theorem kX6_289 {a1 : Value} {r : Int} (hC : KX6_gainOf G [.ref (z_ad G 0 20), a1] M (.inl (some (z_I r))) M1) (ho : z_own d = RX6) (hfit : z_fit d 2 42 7) (hcat : (rest.map fun v => v.category).sum ≤ 8) (hd : decode (z_cc d) pc = .ok (.invokevirtual 289, 3)) (kk : z_J G Z d Q (pc + 3) ls (z_I r :: rest) M1 0 0) : z_J G Z d Q pc ls (a1 :: .ref (z_ad G 0 20) :: rest) M 0 0 :=
  z_callV hC (by rw [ho]; exact wmX6_289) wi_X6_gainOf ws_X6_gainOf wc_X6_gainOf wn_X6 n_X6_gainOf (Or.inl (by decide)) rfl rfl rfl rfl hfit ⟨Nat.zero_le _, Nat.zero_le _⟩ hcat hd kk
theorem kX6_292 {a1 a2 : Value} (hC : KX1_find G [.ref (z_ad G 0 28), a1, a2] M (.inl none) M1) (ho : z_own d = RX6) (hfit : z_fit d 4 94 10) (hcat : (rest.map fun v => v.category).sum ≤ 8) (hd : decode (z_cc d) pc = .ok (.invokevirtual 292, 3)) (kk : z_J G Z d Q (pc + 3) ls (rest) M1 0 0) : z_J G Z d Q pc ls (a2 :: a1 :: .ref (z_ad G 0 28) :: rest) M 0 0 :=
  z_callV hC (by rw [ho]; exact wmX6_292) wi_X1_find ws_X1_find wc_X1_find wn_X1 n_X1_find (Or.inl (by decide)) rfl rfl rfl rfl hfit ⟨Nat.zero_le _, Nat.zero_le _⟩ hcat hd kk
theorem kX6_297 {a1 : Value} (hC : KX6_findBest G [.ref (z_ad G 0 20), a1] M (.inl none) M1) (ho : z_own d = RX6) (hfit : z_fit d 5 115 3) (hcat : (rest.map fun v => v.category).sum ≤ 8) (hd : decode (z_cc d) pc = .ok (.invokevirtual 297, 3)) (kk : z_J G Z d Q (pc + 3) ls (rest) M1 0 0) : z_J G Z d Q pc ls (a1 :: .ref (z_ad G 0 20) :: rest) M 0 0 :=
  z_callV hC (by rw [ho]; exact wmX6_297) wi_X6_findBest ws_X6_findBest wc_X6_findBest wn_X6 n_X6_findBest (Or.inl (by decide)) rfl rfl rfl rfl hfit ⟨Nat.zero_le _, Nat.zero_le _⟩ hcat hd kk
theorem kX6_300 {r : Int} {g : Nat} (hg : g < 7) (hC : KX3_differences G [.ref (z_ad G g 1)] M (.inl (some (z_I r))) M1) (ho : z_own d = RX6) (hfit : z_fit d 1 20 4) (hcat : (rest.map fun v => v.category).sum ≤ 8) (hd : decode (z_cc d) pc = .ok (.invokevirtual 300, 3)) (kk : z_J G Z d Q (pc + 3) ls (z_I r :: rest) M1 0 0) : z_J G Z d Q pc ls (.ref (z_ad G g 1) :: rest) M 0 0 :=
  z_callV hC (by rw [ho]; exact wmX6_300) wi_X3_differences ws_X3_differences wc_X3_differences wn_X3 n_X3_differences (Or.inl (Or.inl ⟨by decide, hg⟩)) rfl rfl rfl rfl hfit ⟨Nat.zero_le _, Nat.zero_le _⟩ hcat hd kk
theorem kX6_344 {a1 : Value} {g : Nat} (hg : g < 7) (hC : KX5_copyFrom G [.ref (z_ad G g 0), a1] M (.inl none) M1) (ho : z_own d = RX6) (hfit : z_fit d 3 82 2) (hcat : (rest.map fun v => v.category).sum ≤ 8) (hd : decode (z_cc d) pc = .ok (.invokevirtual 344, 3)) (kk : z_J G Z d Q (pc + 3) ls (rest) M1 0 0) : z_J G Z d Q pc ls (a1 :: .ref (z_ad G g 0) :: rest) M 0 0 :=
  z_callV hC (by rw [ho]; exact wmX6_344) wi_X5_copyFrom ws_X5_copyFrom wc_X5_copyFrom wn_X5 n_X5_copyFrom (Or.inl (Or.inl ⟨by decide, hg⟩)) rfl rfl rfl rfl hfit ⟨Nat.zero_le _, Nat.zero_le _⟩ hcat hd kk
theorem kX6_348 {a1 a2 : Value} {r : Int} (hC : KJ9_min_7cf53 G [a1, a2] M (.inl (some (z_I r))) M1) (ho : z_own d = RX6) (hfit : z_fit d 0 0 2) (hcat : (rest.map fun v => v.category).sum ≤ 8) (hd : decode (z_cc d) pc = .ok (.invokestatic 348, 3)) (kk : z_J G Z d Q (pc + 3) ls (z_I r :: rest) M1 0 0) : z_J G Z d Q pc ls (a2 :: a1 :: rest) M 0 0 :=
  z_callS hC (by rw [ho]; exact wmX6_348) wt_J9_min_7cf53 wc_J9_min_7cf53 wn_J9 n_J9_min_7cf53 rfl rfl hfit ⟨Nat.zero_le _, Nat.zero_le _⟩ hcat hd kk
theorem kX6_362 {a1 a2 : Value} {r : Int} {g : Nat} (hg : g < 7) (hC : KX3_earn G [.ref (z_ad G g 1), a1, a2] M (.inl (some (z_I r))) M1) (ho : z_own d = RX6) (hfit : z_fit d 2 42 4) (hcat : (rest.map fun v => v.category).sum ≤ 8) (hd : decode (z_cc d) pc = .ok (.invokevirtual 362, 3)) (kk : z_J G Z d Q (pc + 3) ls (z_I r :: rest) M1 0 0) : z_J G Z d Q pc ls (a2 :: a1 :: .ref (z_ad G g 1) :: rest) M 0 0 :=
  z_callV hC (by rw [ho]; exact wmX6_362) wi_X3_earn ws_X3_earn wc_X3_earn wn_X3 n_X3_earn (Or.inl (Or.inl ⟨by decide, hg⟩)) rfl rfl rfl rfl hfit ⟨Nat.zero_le _, Nat.zero_le _⟩ hcat hd kk
theorem kX6_365 {a1 a2 : Value} {r : Int} (hC : KX6_withheld G [a1, a2] M (.inl (some (z_I r))) M1) (ho : z_own d = RX6) (hfit : z_fit d 1 21 2) (hcat : (rest.map fun v => v.category).sum ≤ 8) (hd : decode (z_cc d) pc = .ok (.invokestatic 365, 3)) (kk : z_J G Z d Q (pc + 3) ls (z_I r :: rest) M1 0 0) : z_J G Z d Q pc ls (a2 :: a1 :: rest) M 0 0 :=
  z_callS hC (by rw [ho]; exact wmX6_365) wt_X6_withheld wc_X6_withheld wn_X6 n_X6_withheld rfl rfl hfit ⟨Nat.zero_le _, Nat.zero_le _⟩ hcat hd kk
theorem kX6_368 {a1 : Value} (hC : KX6_preferIfBetter G [.ref (z_ad G 0 20), a1] M (.inl none) M1) (ho : z_own d = RX6) (hfit : z_fit d 3 68 4) (hcat : (rest.map fun v => v.category).sum ≤ 8) (hd : decode (z_cc d) pc = .ok (.invokevirtual 368, 3)) (kk : z_J G Z d Q (pc + 3) ls (rest) M1 0 0) : z_J G Z d Q pc ls (a1 :: .ref (z_ad G 0 20) :: rest) M 0 0 :=
  z_callV hC (by rw [ho]; exact wmX6_368) wi_X6_preferIfBetter ws_X6_preferIfBetter wc_X6_preferIfBetter wn_X6 n_X6_preferIfBetter (Or.inl (by decide)) rfl rfl rfl rfl hfit ⟨Nat.zero_le _, Nat.zero_le _⟩ hcat hd kk
end ZL
end
section
/-- a loop that counts up to n -/
theorem z_upn {P : Nat → Prop} (n : Nat) (he : P n) (hs : ∀ i : Nat, i < n → P (i + 1) → P i) : P 0 := by
  have key : ∀ j i, i + j = n → P i := by
    intro j
    induction j with
    | zero => intro i h; rw [show i = n by omega]; exact he
    | succ j ih => intro i h; exact hs i (by omega) (ih (i + 1) (by omega))
  exact key n 0 (by omega)
end
section
/-! ===== the books as a row of numbers: what the calls do to it ===== -/
section ZS
variable {G : z_G} {Z : z_Z} {d : z_Md} {Q : State → Prop} {pc : Nat} {ls : List (Option Value)} {st : List Value} {M M' : z_M} {k n : Nat}
theorem z_mem (e : M = M') (kk : z_J G Z d Q pc ls st M' k n) : z_J G Z d Q pc ls st M k n := e ▸ kk
theorem z_top {v v' : Int} (e : v = v') (kk : z_J G Z d Q pc ls (z_I v' :: st) M k n) : z_J G Z d Q pc ls (z_I v :: st) M k n := e ▸ kk
theorem z_sM_sR (M : z_M) (a : Nat) (b : Int → Int) (i v : Int) : z_sM (z_sR M a b) a i v = z_sR M a (z_uf b i v) := by
  rw [z_sM_R, z_sR_self, z_sR_R]
theorem z_sM_sM (M : z_M) (a : Nat) (i v w : Int) : z_sM (z_sM M a i v) a i w = z_sM M a i w := by
  rw [z_sM_R, z_sM_R, z_sM_R, z_sR_self, z_uf_uf, z_sR_R]
theorem z_sM_self (M : z_M) (a : Nat) (i v : Int) : z_sM M a i v a i = v := by unfold z_sM; rw [if_pos ⟨rfl, rfl⟩]
theorem z_sM_row (M : z_M) {a a' : Nat} (i v : Int) (h : a' ≠ a) : z_sM M a i v a' = M a' := by
  funext j; unfold z_sM; rw [if_neg (fun q => h q.1)]
theorem z_sM_ne (M : z_M) (a : Nat) {i i' : Int} (v : Int) (h : i' ≠ i) : z_sM M a i v a i' = M a i' := by
  unfold z_sM; rw [if_neg (fun q => h q.2)]
/-- n places of row r from d on become those of row s from e on -/
def z_cp (r s : Int → Int) (d e n : Int) : Int → Int := fun j => if d ≤ j ∧ j < d + n then s (j - d + e) else r j
theorem z_cp_0 (r s : Int → Int) (d e : Int) : z_cp r s d e 0 = r := by
  funext j; unfold z_cp; rw [if_neg (by omega)]
theorem z_cp_s (r s : Int → Int) (d e : Int) (n : Nat) {v i : Int} (hi : i = d + n) (hv : v = s (e + n)) : z_uf (z_cp r s d e n) i v = z_cp r s d e ((n + 1 : Nat) : Int) := by
  subst hi; subst hv
  funext j; unfold z_uf z_cp
  by_cases h : j = d + n
  · subst h
    rw [if_pos rfl, if_pos (by omega)]
    congr 1; omega
  · rw [if_neg h]
    by_cases h2 : d ≤ j ∧ j < d + n
    · rw [if_pos h2, if_pos (by omega)]
    · rw [if_neg h2, if_neg (by omega)]
def z_rows (r z : Int → Int) (s : Int) : Int → Int := if s = 6 then z_cp (z_cp r r 0 906 4530) z (906 * 5) 0 906 else z_cp r z (906 * s) 0 906
def z_rn (s : Int) : Int := if s = 6 then 6 else s + 1
/-- the reference's memory behind save() -/
def z_SV (M : z_M) : z_M := z_sM (z_sR M 24 (z_rows (M 24) (M 22) (M 21 2))) 21 2 (z_rn (M 21 2))
theorem z_SV_row {a : Nat} (h1 : a ≠ 24) (h2 : a ≠ 21) : z_SV M a = M a := by
  unfold z_SV; rw [z_sM_row _ _ _ h2, z_sR_ne _ _ h1]
theorem z_SV_21 {i : Int} (h : i ≠ 2) : z_SV M 21 i = M 21 i := by
  unfold z_SV; rw [z_sM_ne _ _ _ h, z_sR_ne _ _ (by decide)]
end ZS
end
section
theorem wk_L_7 : Cond.constant RL 7 (Int32.ofInt (1249150122)) ∈ z_W := z_wi 395 (by decide +kernel) (by decide +kernel)
theorem wk_X6_75 : Cond.constant RX6 75 (Int32.ofInt (100000)) ∈ z_W := z_wi 580 (by decide +kernel) (by decide +kernel)
theorem wk_L_89 : Cond.constant RL 89 (Int32.ofInt (100000)) ∈ z_W := z_wi 694 (by decide +kernel) (by decide +kernel)
theorem wk_L_156 : Cond.constant RL 156 (Int32.ofInt (2147483647)) ∈ z_W := z_wi 856 (by decide +kernel) (by decide +kernel)
end
