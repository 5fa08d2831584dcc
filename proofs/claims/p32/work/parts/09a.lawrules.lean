/-! ===== the law: its rules ===== -/
theorem al_pe : z_al 0 40 = some (0, 40, 24, fun p => 14 + p) := rfl
theorem al_pi : z_al 0 41 = some (0, 40, 20, fun p => 86 + p) := rfl
theorem al_dr : z_al 0 42 = some (0, 40, 16, fun p => 186 + 12 * (p / 4) + p % 4) := rfl
theorem al_pa : z_al 0 43 = some (0, 40, 16, fun p => 426 + 12 * (p / 4) + p % 4) := rfl
theorem al_go : z_al 0 44 = some (0, 40, 16, fun p => 666 + 12 * (p / 4) + p % 4) := rfl
theorem al_st : z_al 0 45 = some (0, 40, 6, fun p => 8 + p) := rfl
theorem al_c : z_al 0 46 = some (0, 40, 8, fun p => p) := rfl
theorem alg_pe {g R : Nat} (h : R = 40 + g) : z_al g 40 = some (0, R, 24, fun p => 14 + p) := by subst h; rfl
theorem alg_pi {g R : Nat} (h : R = 40 + g) : z_al g 41 = some (0, R, 20, fun p => 86 + p) := by subst h; rfl
theorem alg_go {g R : Nat} (h : R = 40 + g) : z_al g 44 = some (0, R, 16, fun p => 666 + 12 * (p / 4) + p % 4) := by subst h; rfl
theorem alg_c {g R : Nat} (h : R = 40 + g) : z_al g 46 = some (0, R, 8, fun p => p) := by subst h; rfl
/-- the rows (g = 0) or their copies -/
def z_cq (G : z_G) (g : Nat) : Prop := g = 0 ∨ (z_on G ∧ g = 1)
theorem z_cq_dm {G : z_G} {g k : Nat} (h : z_cq G g) (hk : k = 40 ∨ k = 41 ∨ k = 44 ∨ k = 46) : z_dm G g k := by
  rcases h with rfl | ⟨h1, h2⟩
  · exact Or.inl (Or.inr ⟨rfl, by omega⟩)
  · exact Or.inr ⟨h1, h2, hk⟩
def z_ush (x : Int) : Int := ((Int32.ofInt x).toUInt32 >>> ((Int32.ofInt 1).toUInt32 &&& Int32.toUInt32 31)).toInt32.toInt
theorem z_ush_rg (x : Int) : 0 ≤ z_ush x ∧ z_ush x ≤ 2147483647 := by
  unfold z_ush
  have e : ((Int32.ofInt 1).toUInt32 &&& Int32.toUInt32 31) = 1 := by decide +kernel
  rw [e]
  have h1 : ((Int32.ofInt x).toUInt32 >>> (1 : UInt32)).toNat = (Int32.ofInt x).toUInt32.toNat / 2 := by
    rw [UInt32.toNat_shiftRight]
    rw [show ((1 : UInt32).toNat % 32) = 1 from rfl, Nat.shiftRight_eq_div_pow]
  have h2 := (Int32.ofInt x).toUInt32.toNat_lt
  have h3 : ((Int32.ofInt x).toUInt32 >>> (1 : UInt32)).toNat < 2147483648 := by rw [h1]; omega
  generalize (Int32.ofInt x).toUInt32 >>> (1 : UInt32) = u at h3
  have h4 : u.toInt32.toInt = (u.toNat : Int) := by
    rw [Int32.toInt, UInt32.toInt32, BitVec.toInt_eq_toNat_of_lt]
    · rfl
    · show 2 * u.toNat < 2 ^ 32
      omega
  rw [h4]
  omega
/-- at(x, n) of the law -/
def z_atv (x n : Int) : Int := z_ush x % n
theorem z_atv_rg {x n : Int} (h : 0 < n) : 0 ≤ z_atv x n ∧ z_atv x n < n := ⟨Int.emod_nonneg _ (by omega), Int.emod_lt_of_pos _ h⟩
section ZLA
variable {G : z_G} {Z : z_Z} {d : z_Md} {Q : State → Prop} {pc : Nat} {ls ls' : List (Option Value)} {st : List Value} {M M' : z_M} {k n : Nat}
theorem z_lld {g R c m : Nat} {ix : Int → Int} {i j v : Int} (hal : z_al g c = some (0, R, m, ix)) (hdm : z_dm G g c) (hv : M R j = v) (h0 : 0 ≤ i) (h1 : i < (m : Int)) (hm : m ≤ 6000) (hj : ix i = j) (hd : decode (z_cc d) pc = .ok (.iaload, 1)) (kk : z_J G Z d Q (pc + 1) ls (z_I v :: st) M k n) : z_J G Z d Q pc ls (z_I i :: .ref (z_ad G g c) :: st) M k n := by
  refine z_iald hal hdm h0 h1 hm hd ?_
  rw [hj, hv]; exact kk
theorem z_lst {g R c m : Nat} {ix : Int → Int} {i j v : Int} (hal : z_al g c = some (0, R, m, ix)) (hdm : z_dm G g c) (h0 : 0 ≤ i) (h1 : i < (m : Int)) (hm : m ≤ 6000) (hj : ix i = j) (hv : z_rg v) (hd : decode (z_cc d) pc = .ok (.iastore, 1)) (kk : z_J G Z d Q (pc + 1) ls st (z_sM M R j v) k n) : z_J G Z d Q pc ls (z_I v :: z_I i :: .ref (z_ad G g c) :: st) M k n := by
  refine z_iast hal hdm h0 h1 hm hv hd ?_
  rw [hj]; exact kk
theorem z_lsE (e : ls = ls') (kk : z_J G Z d Q pc ls' st M k n) : z_J G Z d Q pc ls st M k n := e ▸ kk
theorem z_iushr {x y r : Int} (hr : ((Int32.ofInt x).toUInt32 >>> ((Int32.ofInt y).toUInt32 &&& Int32.toUInt32 31)).toInt32 = Int32.ofInt r) (hd : decode (z_cc d) pc = .ok (.iushr, 1)) (kk : z_J G Z d Q (pc + 1) ls (z_I r :: st) M k n) : z_J G Z d Q pc ls (z_I y :: z_I x :: st) M k n :=
  fun hO H locs la hW hS hL => lv_iushr hO.1 hO.2.1 hd hr (kk hO H locs la hW hS hL)
theorem z_ushE (x : Int) : ((Int32.ofInt x).toUInt32 >>> ((Int32.ofInt 1).toUInt32 &&& Int32.toUInt32 31)).toInt32 = Int32.ofInt (z_ush x) := (Int32.ofInt_toInt _).symm
/-- any number that a shift, or an and, gives -/
def z_iv (x : Int32) : Int := x.toInt
theorem z_ivE (x : Int32) : x = Int32.ofInt (z_iv x) := (Int32.ofInt_toInt _).symm
theorem z_iv_rg (x : Int32) : z_rg (z_iv x) := ⟨Int32.le_toInt _, by have := Int32.toInt_lt x; unfold z_iv; omega⟩
/-- the script's numbers -/
def z_y (xs : Nat → Int32) (i : Int) : Int := (xs i.toNat).toInt
theorem z_y_rg (xs : Nat → Int32) (i : Int) : z_rg (z_y xs i) := ⟨Int32.le_toInt _, by have := Int32.toInt_lt (xs i.toNat); unfold z_y; omega⟩
theorem z_slen (hd : decode (z_cc d) pc = .ok (.arraylength, 1)) (kk : z_J G Z d Q (pc + 1) ls (z_I ((z_scp G).2.1 : Int) :: st) M k n) : z_J G Z d Q pc ls (.ref (z_scp G).1 :: st) M k n := fun hO H locs la hW hS hL =>
  va_slen hO.1 hO.2.1 hO.2.2.2.2.2.2.2.2.2.2.2.2.2.2.1 (z_X_lt hO.2.2.2.2.2.2.2.2.2.2.2.2.2.2.1) (fun q => absurd hO.2.2.2.2.2.2.2.2.2.2.2.2.2.2.2.1 (Nat.not_lt.mpr q)) hS hd (kk hO H locs la hW hS hL)
theorem z_sld {i : Int} (h0 : 0 ≤ i) (h1 : i < ((z_scp G).2.1 : Int)) (hd : decode (z_cc d) pc = .ok (.iaload, 1)) (kk : z_J G Z d Q (pc + 1) ls (z_I (z_y (z_scp G).2.2 i) :: st) M k n) : z_J G Z d Q pc ls (z_I i :: .ref (z_scp G).1 :: st) M k n := fun hO H locs la hW hS hL => by
  have hsc := hO.2.2.2.2.2.2.2.2.2.2.2.2.2.2
  have hL2 := hsc.2.2
  refine va_sld hO.1 hO.2.1 hsc.1 (z_X_lt hsc.1) (fun q => absurd hsc.2.1 (Nat.not_lt.mpr q)) hS (z_vp h0 h1 (by omega)) hd ?_
  have e : Value.int ((z_scp G).2.2 (Int32.ofInt i).toNatClampNeg) = z_I (z_y (z_scp G).2.2 i) := by
    rw [z_clamp h0 (by omega)]
    unfold z_I z_y
    rw [Int32.ofInt_toInt]
  rw [e]
  exact kk hO H locs la hW hS hL
theorem z_slenle (kk : (z_scp G).2.1 ≤ 260 → z_J G Z d Q pc ls st M k n) : z_J G Z d Q pc ls st M k n := fun hO => kk hO.2.2.2.2.2.2.2.2.2.2.2.2.2.2.2.2 hO
/-- where no cell is the memory may be anything -/
theorem z_gh (hr : ∀ (a : Nat) (i : Int), a ≠ 20 → z_rg (M' a i)) (he : ∀ g k, z_dm G g k → ∀ a i, z_ow a i = (g, k) → M a i = M' a i) (kk : z_J G Z d Q pc ls st M' k n) : z_J G Z d Q pc ls st M k n := fun hO H locs la hW hS hL =>
  kk hO H locs la (z_Wd_gh hW hr he) hS hL
end ZLA
