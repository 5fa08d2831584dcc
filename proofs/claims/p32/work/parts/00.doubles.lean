/-! ===== doubles: what is wanted of them, over the library's laws ===== -/
theorem z_n64 {a : UInt64} (h : FP.Core.val64 a ≠ .nan) : vf_n64 a := by
  have h1 := (FP.Core.ne_nan a).mp h
  have h2 := FP.Core.mask_toNat a
  unfold vf_n64
  rw [UInt64.le_iff_toNat_le, h2]
  exact h1
theorem z_oi {b : Int} (h1 : -2147483648 ≤ b) (h2 : b ≤ 2147483647) : (Int32.ofInt b).toInt = b := Int32.toInt_ofInt_of_le (by omega) (by omega)
theorem z_oi0 {b : Int} (h1 : -2147483648 ≤ b) (h2 : b ≤ 2147483647) (h3 : b ≠ 0) : Int32.ofInt b ≠ 0 := by
  intro e
  have h := z_oi h1 h2
  rw [e] at h
  exact h3 h.symm
theorem z_fi2d (a : Int) : vf_n64 (FP.i2d (Int32.ofInt a)) := z_n64 (FP.Core.i2d_fin _).ne_nan
theorem z_fdn {a b : Int} (hb : 0 < b) (hb' : b ≤ 2147483647) : FP.Core.val64 (FP.ddiv (FP.i2d (Int32.ofInt a)) (FP.i2d (Int32.ofInt b))) ≠ .nan := by
  refine (FP.Core.notNaN_iff _).mp (FP.Core.ddiv_out (FP.Core.i2d_fin _).notNaN (FP.Core.i2d_fin _) ?_)
  rw [FP.Core.zero_bits2]
  exact FP.Core.i2d_ne_zero (z_oi0 (by omega) hb' (by omega))
theorem z_fdiv {a b : Int} (hb : 0 < b) (hb' : b ≤ 2147483647) : vf_n64 (FP.ddiv (FP.i2d (Int32.ofInt a)) (FP.i2d (Int32.ofInt b))) := z_n64 (z_fdn hb hb')
theorem z_fdiv_self {a b : Int} (hb : 0 < b) (hb' : b ≤ 2147483647) : Op.cmpValue (FP.dcmp (FP.ddiv (FP.i2d (Int32.ofInt a)) (FP.i2d (Int32.ofInt b))) (FP.ddiv (FP.i2d (Int32.ofInt a)) (FP.i2d (Int32.ofInt b)))) .l = Int32.ofInt 0 := by
  have h : FP.dcmp (FP.ddiv (FP.i2d (Int32.ofInt a)) (FP.i2d (Int32.ofInt b))) (FP.ddiv (FP.i2d (Int32.ofInt a)) (FP.i2d (Int32.ofInt b))) = some .eq := FP.Core.dcmp_self (z_fdn hb hb')
  rw [h]
  rfl
theorem z_fint {a : Int} (h1 : -2147483648 ≤ a) (h2 : a ≤ 2147483647) : FP.Core.DInt a (FP.i2d (Int32.ofInt a)) := by
  have h := FP.Core.i2d_int (Int32.ofInt a)
  rw [z_oi h1 h2] at h
  exact h
theorem z_fmul {a b : Int} (ha : 0 < a) (hb : 0 < b) (h : a * b ≤ 2147483647) (ha' : a ≤ 2147483647) (hb' : b ≤ 2147483647) : FP.dmul (FP.i2d (Int32.ofInt a)) (FP.i2d (Int32.ofInt b)) = FP.i2d (Int32.ofInt (a * b)) := by
  have hp : 0 < a * b := Int.mul_pos ha hb
  generalize hm : a * b = m at *
  have h1 := FP.Core.dmul_int (z_fint (a := a) (by omega) ha') (z_fint (a := b) (by omega) hb') (by rw [hm]; omega)
  rw [hm] at h1
  exact FP.Core.dint_unique (by omega) h1 (z_fint (a := m) (by omega) h)
/-! the bits of a double from 0 up to 1 -/
def z_sc (x : UInt64) : Nat → UInt64
  | 0 => x
  | i + 1 => FP.dmul (z_sc x i) 4611686018427387904
abbrev z_sd (x : UInt64) (e : Nat) : UInt64 := FP.dmul (FP.dsub (z_sc x e) FP.dconst1) 4841369599423283200
def z_bok (x : UInt64) (e : Nat) (m : Int) : Prop := e ≤ 1000 ∧ Op.cmpValue (FP.dcmp x FP.dconst0) .l = Int32.ofInt 1 ∧ (∀ i, i < e → Op.cmpValue (FP.dcmp (z_sc x i) FP.dconst1) .g = Int32.ofInt (-1) ∧ vf_n64 (FP.dmul (z_sc x i) 4611686018427387904)) ∧ (∃ r : Int, 0 ≤ r ∧ r ≤ 1 ∧ Op.cmpValue (FP.dcmp (z_sc x e) FP.dconst1) .g = Int32.ofInt r) ∧ vf_n64 (FP.dsub (z_sc x e) FP.dconst1) ∧ vf_n64 (z_sd x e) ∧ FP.d2l (z_sd x e) = Int64.ofInt m ∧ (1023 - e) * 4503599627370496 + m = x.toInt64.toInt
theorem z_dwfit {c : Nat} {q : Int} (h1 : 4503599627370496 ≤ c) (h2 : c < 9007199254740992) (h3 : -1074 ≤ q) (h4 : q ≤ 971) : FP.Core.fits FP.Core.b64 (.fin false c q) := by
  refine ⟨?_, ?_, ?_, .inr ?_⟩
  · show c < 2 ^ 53
    omega
  · rw [FP.Core.qmin_b64]; exact h3
  · rw [show FP.Core.b64.qmax = 971 by decide]; exact h4
  · rw [FP.Core.tails_b64]; omega
theorem z_v2 : FP.Core.val64 4611686018427387904 = .fin false (2 ^ 52) (-51) := by decide +kernel
theorem z_v1 : FP.Core.val64 FP.dconst1 = .fin false (2 ^ 52) (-52) := by decide +kernel
theorem z_v52 : FP.Core.val64 4841369599423283200 = .fin false (2 ^ 52) 0 := by decide +kernel
theorem z_v0 : FP.Core.val64 FP.dconst0 = .fin false 0 (-1074) := by decide +kernel
theorem z_dbl {y : UInt64} {c : Nat} {q : Int} (h1 : 4503599627370496 ≤ c) (h2 : c < 9007199254740992) (h3 : -1075 ≤ q) (h4 : q ≤ 970) (h : FP.Core.val64 y = .fin false c q) : FP.Core.val64 (FP.dmul y 4611686018427387904) = .fin false c (q + 1) := by
  show FP.Core.val64 (FP.Core.dmul y 4611686018427387904) = _
  rw [FP.Core.val64_dmul, h, z_v2]
  show FP.Core.roundRatio FP.Core.b64 false (c * 2 ^ 52) 1 (q + -51) = _
  refine FP.Core.roundRatio_exact FP.Core.good_b64 (by decide) (z_dwfit h1 h2 (by omega) (by omega)) ?_
  rw [show (q + -51 - (q + 1)).toNat = 0 by omega, show (q + 1 - (q + -51)).toNat = 52 by omega]
  omega
theorem z_ord1 {y : UInt64} {c : Nat} {q : Int} (h : FP.Core.val64 y = .fin false c q) (hq : q ≤ -52) : FP.dcmp y FP.dconst1 = some (compare (c : Int) ((2 ^ 52 * 2 ^ (-52 - q).toNat : Nat) : Int)) := by
  show FP.Core.order (FP.Core.val64 y) (FP.Core.val64 FP.dconst1) = _
  rw [h, z_v1]
  show some (compare ((c * 2 ^ (q - min q (-52)).toNat : Nat) : Int) ((2 ^ 52 * 2 ^ (-52 - min q (-52)).toNat : Nat) : Int)) = _
  rw [show min q (-52) = q by omega, Int.sub_self]
  show some (compare ((c * 1 : Nat) : Int) _) = _
  rw [Nat.mul_one]
theorem z_lt1 {y : UInt64} {c : Nat} {q : Int} (h2 : c < 9007199254740992) (hq : q < -52) (h : FP.Core.val64 y = .fin false c q) : Op.cmpValue (FP.dcmp y FP.dconst1) .g = Int32.ofInt (-1) := by
  rw [z_ord1 h (by omega), (FP.Core.compare_lt_iff _ _).mpr ?_]
  · rfl
  · have e : (2 : Nat) ^ (-52 - q).toNat = 2 * 2 ^ (-53 - q).toNat := by
      rw [show (-52 - q).toNat = (-53 - q).toNat + 1 by omega, Nat.pow_succ, Nat.mul_comm]
    have := Nat.two_pow_pos (-53 - q).toNat
    rw [e]
    omega
theorem z_ge1 {y : UInt64} {c : Nat} (h1 : 4503599627370496 ≤ c) (h : FP.Core.val64 y = .fin false c (-52)) : ∃ r : Int, 0 ≤ r ∧ r ≤ 1 ∧ Op.cmpValue (FP.dcmp y FP.dconst1) .g = Int32.ofInt r := by
  rw [z_ord1 h (by omega), show (2 ^ 52 * 2 ^ ((-52 : Int) - -52).toNat : Nat) = 4503599627370496 by decide]
  by_cases e : c = 4503599627370496
  · refine ⟨0, by decide, by decide, ?_⟩
    rw [(FP.Core.compare_eq_iff _ _).mpr (by omega)]
    rfl
  · refine ⟨1, by decide, by decide, ?_⟩
    rw [(FP.Core.compare_gt_iff _ _).mpr (by omega)]
    rfl
theorem z_gt0 {y : UInt64} {c : Nat} {q : Int} (h1 : 4503599627370496 ≤ c) (hq : -1074 ≤ q) (h : FP.Core.val64 y = .fin false c q) : Op.cmpValue (FP.dcmp y FP.dconst0) .l = Int32.ofInt 1 := by
  have e : FP.dcmp y FP.dconst0 = some .gt := by
    show FP.Core.order (FP.Core.val64 y) (FP.Core.val64 FP.dconst0) = _
    rw [h, z_v0]
    show some (compare ((c * 2 ^ (q - min q (-1074)).toNat : Nat) : Int) ((0 * 2 ^ (-1074 - min q (-1074)).toNat : Nat) : Int)) = _
    rw [(FP.Core.compare_gt_iff _ _).mpr ?_]
    have := Nat.mul_pos (show 0 < c by omega) (Nat.two_pow_pos (q - min q (-1074)).toNat)
    omega
  rw [e]
  rfl
theorem z_whl0 {c' T a b w k p : Nat} (h : c' * 2 ^ w = T * 2 ^ k) (e : p + a + k = w + b) : c' * 2 ^ p * 2 ^ a = T * 2 ^ b := by
  refine Nat.eq_of_mul_eq_mul_right (Nat.two_pow_pos k) ?_
  calc c' * 2 ^ p * 2 ^ a * 2 ^ k = c' * 2 ^ (p + a + k) := by rw [Nat.pow_add, Nat.pow_add]; ac_rfl
    _ = c' * 2 ^ (w + b) := by rw [e]
    _ = c' * 2 ^ w * 2 ^ b := by rw [Nat.pow_add, Nat.mul_assoc]
    _ = T * 2 ^ k * 2 ^ b := by rw [h]
    _ = T * 2 ^ b * 2 ^ k := by ac_rfl
theorem z_dwup {d D j k p : Nat} (h : d ≤ D) (e : k = p + j) : d * 2 ^ k ≤ 2 ^ p * 2 ^ j * D := by
  subst e
  rw [Nat.pow_add, Nat.mul_comm]
  exact Nat.mul_le_mul_left _ h
theorem z_lo {d D j k p s : Nat} (h : D ≤ d * 2 ^ s) (e : k = p + j + s) : 2 ^ p * 2 ^ j * D ≤ d * 2 ^ k := by
  subst e
  calc 2 ^ p * 2 ^ j * D ≤ 2 ^ p * 2 ^ j * (d * 2 ^ s) := Nat.mul_le_mul_left _ h
    _ = d * 2 ^ (p + j + s) := by rw [Nat.pow_add, Nat.pow_add]; ac_rfl
theorem z_uo {K : Nat} (h : 1 ≤ K) : FP.Core.unitsOf FP.Core.b64 (K * 2 ^ 52) = 2 ^ 52 * 2 ^ (K - 1) := by
  rw [← FP.Core.tails_b64]
  exact FP.Core.unitsOf_start h
theorem z_whl {c' T : Nat} {q' : Int} (hq : -1074 ≤ q') (h : c' * 2 ^ (q' - -1074).toNat = T * 2 ^ (-52 - -1074 : Int).toNat) : FP.Core.Whole (T : Int) (.fin false (c' * 2 ^ 52) (q' + 0)) := by
  show ((c' * 2 ^ 52 * 2 ^ (q' + 0).toNat : Nat) : Int) = (T : Int) * ((2 ^ (-(q' + 0)).toNat : Nat) : Int)
  rw [← Int.natCast_mul]
  congr 1
  rw [Int.add_zero, show (-52 - -1074 : Int).toNat = 1022 by decide] at *
  exact z_whl0 h (by omega)
theorem z_sub1 {y : UInt64} {T : Nat} (h2 : T < 4503599627370496) (h : FP.Core.val64 y = .fin false (2 ^ 52 + T) (-52)) : ∃ c' q', FP.Core.val64 (FP.dsub y FP.dconst1) = .fin false c' q' ∧ -1074 ≤ q' ∧ c' * 2 ^ (q' - -1074).toNat = T * 2 ^ (-52 - -1074 : Int).toNat := by
  have hx : FP.Core.exactSum (FP.Core.val64 y) (FP.Core.negate (FP.Core.val64 FP.dconst1)) = .fin false T (-52) := by
    rw [h, z_v1]
    show FP.Core.Datum.fin (FP.Core.sumSign false true (FP.Core.sumUnits false (2 ^ 52 + T) (-52) true (2 ^ 52) (-52) (-52))) (FP.Core.sumUnits false (2 ^ 52 + T) (-52) true (2 ^ 52) (-52) (-52)).natAbs (-52) = _
    have hv : FP.Core.sumUnits false (2 ^ 52 + T) (-52) true (2 ^ 52) (-52) (-52) = (T : Int) := by
      show (((2 ^ 52 + T) * 1 : Nat) : Int) + -((2 ^ 52 * 1 : Nat) : Int) = _
      omega
    rw [hv]
    congr 1
    unfold FP.Core.sumSign
    split
    · rfl
    · exact decide_eq_false (by omega)
  obtain ⟨c', q', e1, e2⟩ := FP.Core.round_exact FP.Core.good_b64 false (c := T) (q := -52) (by show T < 2 ^ 53; omega) (by rw [FP.Core.qmin_b64]; decide) (by decide)
  have hy : FP.Core.val64 (FP.dsub y FP.dconst1) = .fin false c' q' := by
    show FP.Core.val64 (FP.Core.dsub y FP.dconst1) = _
    rw [FP.Core.val64_dsub, hx, e1]
  have hf := FP.Core.val64_fits (FP.dsub y FP.dconst1)
  rw [hy] at hf
  have hq := hf.2.1
  rw [FP.Core.qmin_b64] at hq e2
  exact ⟨c', q', hy, hq, e2⟩
theorem z_mul52 {y : UInt64} {c' T : Nat} {q' : Int} (h2 : T < 4503599627370496) (hq : -1074 ≤ q') (h : c' * 2 ^ (q' - -1074).toNat = T * 2 ^ (-52 - -1074 : Int).toNat) (hy : FP.Core.val64 y = .fin false c' q') : FP.Core.DInt (T : Int) (FP.dmul y 4841369599423283200) := by
  show FP.Core.Whole (T : Int) (FP.Core.val64 (FP.Core.dmul y 4841369599423283200))
  rw [FP.Core.val64_dmul, hy, z_v52]
  exact FP.Core.whole_round FP.Core.good_b64 FP.Core.wide_b64 (by show _ ≤ 2 ^ 53; omega) (z_whl hq h)
theorem z_dwd2l {y : UInt64} {T : Nat} (h2 : T < 4503599627370496) (h : FP.Core.DInt (T : Int) y) : FP.d2l y = Int64.ofInt (T : Int) :=
  FP.Core.d2l_int (by rw [Int64.toInt_ofInt_of_le (by omega) (by omega)]; exact h)
/-- a double whose exponent and digits are known -/
theorem z_bokn {x : UInt64} {E T : Nat} (h1 : 23 ≤ E) (h2 : E ≤ 1023) (hT : T < 4503599627370496) (hx : FP.Core.val64 x = .fin false (2 ^ 52 + T) ((E : Int) - 1075)) (hn : x.toNat = E * 4503599627370496 + T) : z_bok x (1023 - E) (T : Int) := by
  have hs : ∀ i : Nat, E + i ≤ 1023 → FP.Core.val64 (z_sc x i) = .fin false (2 ^ 52 + T) ((E : Int) + i - 1075) := by
    intro i
    induction i with
    | zero =>
      intro _
      show FP.Core.val64 x = _
      rw [hx]
      congr 1
    | succ i y_h =>
      intro hi
      have h := z_dbl (by omega) (by omega) (by omega) (by omega) (y_h (by omega))
      rw [show (E : Int) + i - 1075 + 1 = (E : Int) + (i + 1 : Nat) - 1075 by omega] at h
      exact h
  have he := hs (1023 - E) (by omega)
  rw [show (E : Int) + (1023 - E : Nat) - 1075 = -52 by omega] at he
  obtain ⟨c', q', y1, y2, y3⟩ := z_sub1 hT he
  have y4 := z_mul52 hT y2 y3 y1
  refine ⟨by omega, z_gt0 (by omega) (by omega) hx, fun i hi => ⟨z_lt1 (by omega) (by omega) (hs i (by omega)), ?_⟩, z_ge1 (by omega) he, ?_, ?_, z_dwd2l hT y4, ?_⟩
  · refine z_n64 ?_
    rw [z_dbl (by omega) (by omega) (by omega) (by omega) (hs i (by omega))]
    exact FP.Core.Datum.noConfusion
  · refine z_n64 ?_
    rw [y1]
    exact FP.Core.Datum.noConfusion
  · exact z_n64 (FP.Core.DInt_ne_nan y4)
  · have hlt : 2 * x.toNat < 2 ^ 64 := by omega
    have e : x.toInt64.toInt = (x.toNat : Int) := BitVec.toInt_eq_toNat_of_lt hlt
    rw [e, hn]
    omega
theorem z_qcong {c1 c2 d D a1 b1 a2 b2 u v : Nat} (h1 : c1 * 2 ^ a1 = d * 2 ^ b1) (h2 : c2 * 2 ^ a2 = D * 2 ^ b2) (h : u + b1 + a2 = v + a1 + b2) : c1 * D * 2 ^ u = d * c2 * 2 ^ v := by
  refine Nat.eq_of_mul_eq_mul_right (Nat.two_pow_pos (a1 + b2)) ?_
  calc c1 * D * 2 ^ u * 2 ^ (a1 + b2) = (c1 * 2 ^ a1) * (D * 2 ^ b2) * 2 ^ u := by rw [Nat.pow_add]; ac_rfl
    _ = (d * 2 ^ b1) * (c2 * 2 ^ a2) * 2 ^ u := by rw [h1, h2]
    _ = d * c2 * 2 ^ (u + b1 + a2) := by rw [Nat.pow_add, Nat.pow_add]; ac_rfl
    _ = d * c2 * 2 ^ (v + a1 + b2) := by rw [h]
    _ = d * c2 * 2 ^ v * 2 ^ (a1 + b2) := by rw [Nat.add_assoc, Nat.pow_add, ← Nat.mul_assoc]
/-- a quotient of whole numbers, rounded -/
theorem z_quo {d D : Int} (hd : 0 < d) (hd' : d ≤ 2147483647) (hD : 0 < D) (hD' : D ≤ 2147483647) : FP.Core.val64 (FP.ddiv (FP.i2d (Int32.ofInt d)) (FP.i2d (Int32.ofInt D))) = FP.Core.roundRatio FP.Core.b64 false d.natAbs D.natAbs 0 := by
  have w1 := z_fint (a := d) (by omega) hd'
  have w2 := z_fint (a := D) (by omega) hD'
  show FP.Core.val64 (FP.Core.ddiv _ _) = _
  rw [FP.Core.val64_ddiv]
  unfold FP.Core.DInt at w1 w2
  change FP.Core.Whole d (FP.Core.val64 (FP.Core.i2d (Int32.ofInt d))) at w1
  change FP.Core.Whole D (FP.Core.val64 (FP.Core.i2d (Int32.ofInt D))) at w2
  generalize FP.Core.val64 (FP.Core.i2d (Int32.ofInt d)) = X at *
  generalize FP.Core.val64 (FP.Core.i2d (Int32.ofInt D)) = Y at *
  cases X with
  | nan => exact w1.elim
  | inf => exact w1.elim
  | fin s c1 q1 =>
  cases Y with
  | nan => exact w2.elim
  | inf => exact w2.elim
  | fin t c2 q2 =>
    have s1 := FP.Core.whole_sign w1 (by omega)
    have s2 := FP.Core.whole_sign w2 (by omega)
    rw [decide_eq_false (by omega)] at s1 s2
    subst s1 s2
    have n0 : c2 ≠ 0 := by have := FP.Core.whole_zero w2; omega
    show (if c2 = 0 then _ else FP.Core.roundRatio FP.Core.b64 false c1 c2 (q1 - q2)) = _
    rw [if_neg n0]
    exact FP.Core.roundRatio_congr (by omega) (by omega) (z_qcong (FP.Core.whole_natAbs w1) (FP.Core.whole_natAbs w2) (by omega))
theorem z_dcd {x : UInt64} (h0 : x.toNat < 2 ^ 63) (h1 : 4503599627370496 ≤ x.toNat) (h2 : x.toNat < 2047 * 4503599627370496) : FP.Core.val64 x = .fin false (2 ^ 52 + x.toNat % 4503599627370496) (((x.toNat / 4503599627370496 : Nat) : Int) - 1075) := by
  have eE : FP.Core.fieldE FP.Core.b64 x.toNat = x.toNat / 4503599627370496 := by
    show x.toNat / 4503599627370496 % 2048 = _
    omega
  have eS : FP.Core.fieldS FP.Core.b64 x.toNat = false := by
    show (x.toNat / 4503599627370496 / 2048 % 2 == 1) = false
    rw [show x.toNat / 4503599627370496 / 2048 % 2 = 0 by omega]
    rfl
  show FP.Core.decode FP.Core.b64 x.toNat = _
  unfold FP.Core.decode
  rw [eE, eS, FP.Core.exps_b64, if_neg (by omega), if_neg (by omega), FP.Core.qmin_b64]
  show FP.Core.Datum.fin false (2 ^ 52 + x.toNat % 4503599627370496) _ = _
  congr 1
  omega
theorem z_bokq {d D : Int} (hd : 0 < d) (h : d ≤ D) (hD' : D ≤ 2147483647) : ∃ e m, z_bok (FP.ddiv (FP.i2d (Int32.ofInt d)) (FP.i2d (Int32.ofInt D))) e m := by
  have hq := z_quo hd (by omega) (show 0 < D by omega) hD'
  have hnn : FP.Core.val64 (FP.ddiv (FP.i2d (Int32.ofInt d)) (FP.i2d (Int32.ofInt D))) ≠ .nan := z_fdn (by omega) hD'
  generalize FP.ddiv (FP.i2d (Int32.ofInt d)) (FP.i2d (Int32.ofInt D)) = x at *
  have hs := FP.Core.sgn_bits hnn
  rw [hq, FP.Core.sgn_roundRatio] at hs
  have h0 : x.toNat < 2 ^ 63 := by have := of_decide_eq_false hs.symm; omega
  have hm : FP.Core.mag FP.Core.b64 x.toNat = x.toNat := by rw [FP.Core.mag_toNat64]; exact Nat.mod_eq_of_lt h0
  have q0 : FP.Core.b64.qmin = -1074 := FP.Core.qmin_b64
  have u1 : FP.Core.inUnits d.natAbs 0 (-1074) = d.natAbs * 2 ^ 1074 := rfl
  have hup : x.toNat ≤ 1023 * 2 ^ 52 := by
    rw [← hm]
    refine FP.Core.mag_le FP.Core.good_b64 (e0 := -1074) hq (by omega) (by omega) (by omega) ?_
    rw [u1, z_uo (K := 1023) (by decide), q0, show ((-1074 : Int) - -1074).toNat = 0 by decide, Nat.pow_zero, Nat.mul_one]
    exact z_dwup (by omega) (by decide)
  have hlo : 992 * 2 ^ 52 ≤ x.toNat := by
    rw [← hm]
    refine FP.Core.mag_ge FP.Core.good_b64 (e0 := -1074) hq (by omega) (by omega) (by omega) (by rw [FP.Core.infBits_b64]; omega) ?_
    rw [u1, z_uo (K := 992) (by decide), q0, show ((-1074 : Int) - -1074).toNat = 0 by decide, Nat.pow_zero, Nat.mul_one]
    exact z_lo (s := 31) (by omega) (by decide)
  exact ⟨_, _, z_bokn (E := x.toNat / 4503599627370496) (T := x.toNat % 4503599627370496) (by omega) (by omega) (by omega) (z_dcd h0 (by omega) (by omega)) (by omega)⟩
theorem z_dwf0 {D : Int} (hD : 0 < D) (hD' : D ≤ 2147483647) : FP.ddiv (FP.i2d (Int32.ofInt 0)) (FP.i2d (Int32.ofInt D)) = FP.dconst0 := by
  have w2 := z_fint (a := D) (by omega) hD'
  have e0 : FP.i2d (Int32.ofInt 0) = FP.dconst0 := by decide +kernel
  rw [e0]
  have hv : FP.Core.val64 (FP.ddiv FP.dconst0 (FP.i2d (Int32.ofInt D))) = .fin false 0 (-1074) := by
    show FP.Core.val64 (FP.Core.ddiv _ _) = _
    rw [FP.Core.val64_ddiv, z_v0]
    unfold FP.Core.DInt at w2
    change FP.Core.Whole D (FP.Core.val64 (FP.Core.i2d (Int32.ofInt D))) at w2
    generalize FP.Core.val64 (FP.Core.i2d (Int32.ofInt D)) = Y at *
    cases Y with
    | nan => exact w2.elim
    | inf => exact w2.elim
    | fin t c2 q2 =>
      have s2 := FP.Core.whole_sign w2 (by omega)
      rw [decide_eq_false (by omega)] at s2
      subst s2
      have n0 : c2 ≠ 0 := by have := FP.Core.whole_zero w2; omega
      show (if c2 = 0 then _ else FP.Core.roundRatio FP.Core.b64 false 0 c2 (-1074 - q2)) = _
      rw [if_neg n0]
      unfold FP.Core.roundRatio
      rw [if_pos rfl, FP.Core.qmin_b64]
  refine FP.Core.val64_inj ?_ (hv.trans z_v0.symm)
  rw [hv]
  exact FP.Core.Datum.noConfusion
