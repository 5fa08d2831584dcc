/-! ===== bits ===== -/
def z_bit (x p : Int) : Int := x / 2 ^ p.toNat % 2
def z_bor (x p : Int) : Int := ((x.toNat ||| 2 ^ p.toNat : Nat) : Int)
theorem z_nI {x : Int} (h : 0 ≤ x) : Int32.ofInt x = nI x.toNat := by
  obtain ⟨n, rfl⟩ := Int.eq_ofNat_of_zero_le h
  rfl
theorem z_shc : ∀ n : Nat, n < 32 → ((nI n &&& 31).toBitVec.smod 32).toNat = n := by decide +kernel
theorem z_bshr {x p : Int} (hx : 0 ≤ x) (hx' : x ≤ 2147483647) (hp : 0 ≤ p) (hp' : p < 31) : Int32.ofInt x >>> (Int32.ofInt p &&& 31) = Int32.ofInt (x / 2 ^ p.toNat) := by
  obtain ⟨n, rfl⟩ := Int.eq_ofNat_of_zero_le hx
  obtain ⟨q, rfl⟩ := Int.eq_ofNat_of_zero_le hp
  rw [z_nI hx, z_nI hp]
  show nI n >>> (nI q &&& 31) = _
  rw [pk_shrN (by omega) _ q (z_shc q (by omega))]
  show nI (n / 2 ^ q) = Int32.ofInt ((n : Int) / 2 ^ q)
  rw [show (n : Int) / 2 ^ q = ((n / 2 ^ q : Nat) : Int) by push_cast; rfl]
  rfl
theorem z_nand (a b : Nat) : nI a &&& nI b = nI (a &&& b) := by
  apply Int32.toBitVec_inj.mp
  rw [Int32.toBitVec_and]
  apply BitVec.eq_of_getLsbD_eq
  intro i hi
  rw [BitVec.getLsbD_and]
  show ((BitVec.ofNat 32 a).getLsbD i && (BitVec.ofNat 32 b).getLsbD i) = (BitVec.ofNat 32 (a &&& b)).getLsbD i
  simp [BitVec.getLsbD_ofNat, Nat.testBit_and, hi]
theorem z_nor (a b : Nat) : nI a ||| nI b = nI (a ||| b) := by
  apply Int32.toBitVec_inj.mp
  rw [Int32.toBitVec_or]
  apply BitVec.eq_of_getLsbD_eq
  intro i hi
  rw [BitVec.getLsbD_or]
  show ((BitVec.ofNat 32 a).getLsbD i || (BitVec.ofNat 32 b).getLsbD i) = (BitVec.ofNat 32 (a ||| b)).getLsbD i
  simp [BitVec.getLsbD_ofNat, Nat.testBit_or, hi]
theorem z_band1 {x : Int} (hx : 0 ≤ x) : Int32.ofInt x &&& Int32.ofInt 1 = Int32.ofInt (x % 2) := by
  obtain ⟨n, rfl⟩ := Int.eq_ofNat_of_zero_le hx
  rw [z_nI hx]
  show nI n &&& nI 1 = _
  rw [z_nand, Nat.and_one_is_mod, show ((n : Nat) : Int) % 2 = ((n % 2 : Nat) : Int) by push_cast; rfl]
  rfl
theorem z_bshl1 : ∀ n : Nat, n < 31 → Int32.ofInt 1 <<< (Int32.ofInt (n : Int) &&& 31) = Int32.ofInt ((2 ^ n : Nat) : Int) := by decide +kernel
theorem z_bshl {p : Int} (hp : 0 ≤ p) (hp' : p < 31) : Int32.ofInt 1 <<< (Int32.ofInt p &&& 31) = Int32.ofInt ((2 ^ p.toNat : Nat) : Int) := by
  obtain ⟨q, rfl⟩ := Int.eq_ofNat_of_zero_le hp
  exact z_bshl1 q (by omega)
theorem z_bori {x p : Int} (hx : 0 ≤ x) : Int32.ofInt x ||| Int32.ofInt ((2 ^ p.toNat : Nat) : Int) = Int32.ofInt (z_bor x p) := by
  obtain ⟨n, rfl⟩ := Int.eq_ofNat_of_zero_le hx
  show nI n ||| nI (2 ^ p.toNat) = nI (n ||| 2 ^ p.toNat)
  exact z_nor _ _
theorem z_bori0 {x : Int} (hx : 0 ≤ x) : Int32.ofInt x ||| Int32.ofInt 0 = Int32.ofInt x := by
  obtain ⟨n, rfl⟩ := Int.eq_ofNat_of_zero_le hx
  show nI n ||| nI 0 = nI n
  rw [z_nor, Nat.or_zero]
theorem z_bit_tb {x p : Int} (hx : 0 ≤ x) : z_bit x p = if x.toNat.testBit p.toNat then 1 else 0 := by
  obtain ⟨n, rfl⟩ := Int.eq_ofNat_of_zero_le hx
  unfold z_bit
  rw [Nat.testBit_eq_decide_div_mod_eq, show ((n : Nat) : Int) / 2 ^ p.toNat % 2 = ((n / 2 ^ p.toNat % 2 : Nat) : Int) by push_cast; rfl]
  have h : n / 2 ^ p.toNat % 2 < 2 := Nat.mod_lt _ (by decide)
  show ((n / 2 ^ p.toNat % 2 : Nat) : Int) = if decide (n / 2 ^ p.toNat % 2 = 1) = true then 1 else 0
  by_cases e : n / 2 ^ p.toNat % 2 = 1
  · rw [e]; rfl
  · have e0 : n / 2 ^ p.toNat % 2 = 0 := by omega
    rw [e0]; rfl
theorem z_bit_01 (x p : Int) : z_bit x p = 0 ∨ z_bit x p = 1 := by unfold z_bit; omega
theorem z_bor_nn (x p : Int) : 0 ≤ z_bor x p := Int.natCast_nonneg _
theorem z_bit_bor {x p q : Int} (hp : 0 ≤ p) (hq : 0 ≤ q) (hx : 0 ≤ x) : z_bit (z_bor x p) q = if q = p then 1 else z_bit x q := by
  rw [z_bit_tb (z_bor_nn x p), z_bit_tb hx]
  unfold z_bor
  rw [Int.toNat_natCast, Nat.testBit_or, Nat.testBit_two_pow]
  by_cases e : q = p
  · subst e; simp
  · have : ¬ p.toNat = q.toNat := by omega
    rw [if_neg e]; simp [this]
theorem z_bit_0 (p : Int) : z_bit 0 p = 0 := by unfold z_bit; simp
theorem z_bor_lt {x p : Int} {n : Nat} (hx : 0 ≤ x) (h : x < 2 ^ n) (hp : 0 ≤ p) (hp' : p < n) : z_bor x p < 2 ^ n := by
  obtain ⟨m, rfl⟩ := Int.eq_ofNat_of_zero_le hx
  unfold z_bor
  have h1 : m < 2 ^ n := by exact_mod_cast h
  have h2 : 2 ^ p.toNat < 2 ^ n := Nat.pow_lt_pow_right (by decide) (by omega)
  have := Nat.or_lt_two_pow h1 h2
  rw [Int.toNat_natCast]
  exact_mod_cast this
