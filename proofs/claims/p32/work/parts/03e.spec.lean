/-! ===== the books as a row of numbers: what the calls do to it ===== -/
section ZS
variable {G : z_G} {Z : z_Z} {d : z_Md} {Q : State → Prop} {pc : Nat} {ls : List (Option Value)} {st : List Value} {M M' : z_M} {k n : Nat}
theorem z_mem (e : M = M') (kk : z_J G Z d Q pc ls st M' k n) : z_J G Z d Q pc ls st M k n := e ▸ kk
theorem z_top {v v' : Int} (e : v = v') (kk : z_J G Z d Q pc ls (z_I v' :: st) M k n) : z_J G Z d Q pc ls (z_I v :: st) M k n := e ▸ kk
theorem z_sM_sR (M : z_M) (a : Nat) (b : Int → Int) (i v : Int) : z_sM (z_sR M a b) a i v = z_sR M a (z_uf b i v) := by
  rw [z_sM_R, z_sR_self, z_sR_R]
theorem z_sM_sM (M : z_M) (a : Nat) (i v w : Int) : z_sM (z_sM M a i v) a i w = z_sM M a i w := by
  rw [z_sM_R, z_sM_R, z_sM_R, z_sR_self, z_uf_uf, z_sR_R]
theorem z_sM_self (M : z_M) (a : Nat) (i v : Int) : z_sM M a i v a i = v := by unfold z_sM; rw [if_pos ⟨rfl, rfl⟩]
theorem z_sM_row (M : z_M) {a a' : Nat} (i v : Int) (h : a' ≠ a) : z_sM M a i v a' = M a' := by
  funext j; unfold z_sM; rw [if_neg (fun q => h q.1)]
theorem z_sM_ne (M : z_M) (a : Nat) {i i' : Int} (v : Int) (h : i' ≠ i) : z_sM M a i v a i' = M a i' := by
  unfold z_sM; rw [if_neg (fun q => h q.2)]
/-- n places of row r from d on become those of row s from e on -/
def z_cp (r s : Int → Int) (d e n : Int) : Int → Int := fun j => if d ≤ j ∧ j < d + n then s (j - d + e) else r j
theorem z_cp_0 (r s : Int → Int) (d e : Int) : z_cp r s d e 0 = r := by
  funext j; unfold z_cp; rw [if_neg (by omega)]
theorem z_cp_s (r s : Int → Int) (d e : Int) (n : Nat) {v i : Int} (hi : i = d + n) (hv : v = s (e + n)) : z_uf (z_cp r s d e n) i v = z_cp r s d e ((n + 1 : Nat) : Int) := by
  subst hi; subst hv
  funext j; unfold z_uf z_cp
  by_cases h : j = d + n
  · subst h
    rw [if_pos rfl, if_pos (by omega)]
    congr 1; omega
  · rw [if_neg h]
    by_cases h2 : d ≤ j ∧ j < d + n
    · rw [if_pos h2, if_pos (by omega)]
    · rw [if_neg h2, if_neg (by omega)]
def z_rows (r z : Int → Int) (s : Int) : Int → Int := if s = 6 then z_cp (z_cp r r 0 906 4530) z (906 * 5) 0 906 else z_cp r z (906 * s) 0 906
def z_rn (s : Int) : Int := if s = 6 then 6 else s + 1
/-- the reference's memory behind save() -/
def z_SV (M : z_M) : z_M := z_sM (z_sR M 24 (z_rows (M 24) (M 22) (M 21 2))) 21 2 (z_rn (M 21 2))
theorem z_SV_row {a : Nat} (h1 : a ≠ 24) (h2 : a ≠ 21) : z_SV M a = M a := by
  unfold z_SV; rw [z_sM_row _ _ _ h2, z_sR_ne _ _ h1]
theorem z_SV_21 {i : Int} (h : i ≠ 2) : z_SV M 21 i = M 21 i := by
  unfold z_SV; rw [z_sM_ne _ _ _ h, z_sR_ne _ _ (by decide)]
end ZS
