/-! ===== money that comes in ===== -/
section ZM
variable {G : z_G} {Z : z_Z} {d : z_Md} {Q : State → Prop} {pc : Nat} {ls : List (Option Value)} {st : List Value} {M : z_M} {k n : Nat}
/-- a local is forgotten -/
theorem z_fgt (j : Nat) (kk : z_J G Z d Q pc (ls.set j none) st M k n) : z_J G Z d Q pc ls st M k n := fun hO H locs la hW hS hL => by
  refine kk hO H locs la hW hS ⟨hL.1, hL.2.1, fun i v hi => hL.2.2 i v ?_⟩
  by_cases e : i = j
  · subst e
    rw [List.getElem?_set] at hi
    simp at hi
  · rwa [List.getElem?_set_ne (Ne.symm e)] at hi
end ZM
/-- the place of the greatest of r 0 .. r n, the first of several -/
def z_am (r : Int → Int) : Nat → Int
  | 0 => 0
  | n + 1 => if r (z_am r n) < r ((n + 1 : Nat) : Int) then ((n + 1 : Nat) : Int) else z_am r n
theorem z_am_le (r : Int → Int) : ∀ n : Nat, 0 ≤ z_am r n ∧ z_am r n ≤ n := by
  intro n
  induction n with
  | zero => exact ⟨Int.le_refl _, Int.le_refl _⟩
  | succ n ih => unfold z_am; split <;> omega
/-- m units more, one to each greatest remainder, which is x then -/
def z_gv (x : Int) : Nat → (Int → Int) → (Int → Int) → (Int → Int) × (Int → Int)
  | 0, s, r => (s, r)
  | m + 1, s, r => z_gv x m (z_uf s (z_am r 11) (s (z_am r 11) + 1)) (z_uf r (z_am r 11) x)
def z_s0 (b : Int → Int) (k rest : Int) : Int → Int := fun p => rest * b (426 + 12 * k + p) / z_aP b k
def z_r0m (b : Int → Int) (k rest : Int) : Int → Int := fun p => if b (426 + 12 * k + p) = 0 then -1 else rest * b (426 + 12 * k + p) % z_aP b k
def z_lf (b : Int → Int) (k rest : Int) : Int := rest - z_sm 12 (z_s0 b k rest)
theorem z_s0_rg {b : Int → Int} {k rest : Int} (hq : ∀ p, 0 ≤ p → p < 12 → 0 ≤ b (426 + 12 * k + p) ∧ b (426 + 12 * k + p) ≤ 9) (ha : 1 ≤ z_aP b k) (h0 : 0 ≤ rest) (h1 : rest ≤ 100000) {p : Int} (p0 : 0 ≤ p) (p1 : p < 12) : 0 ≤ rest * b (426 + 12 * k + p) ∧ rest * b (426 + 12 * k + p) ≤ 900000 ∧ 0 ≤ z_s0 b k rest p ∧ z_s0 b k rest p ≤ 900000 := by
  have h := hq p p0 p1
  have e1 : 0 ≤ rest * b (426 + 12 * k + p) := Int.mul_nonneg h0 h.1
  have e2 : rest * b (426 + 12 * k + p) ≤ 100000 * 9 := Int.mul_le_mul h1 h.2 h.1 (by decide)
  refine ⟨e1, by omega, Int.ediv_nonneg e1 (by omega), ?_⟩
  have := Int.ediv_le_self (z_aP b k) e1
  unfold z_s0
  omega
theorem z_aP_le {b : Int → Int} {k : Int} (hq : ∀ p, 0 ≤ p → p < 12 → 0 ≤ b (426 + 12 * k + p) ∧ b (426 + 12 * k + p) ≤ 9) : z_aP b k ≤ 108 := by
  have key : ∀ n : Nat, n ≤ 12 → z_sm n (fun p => b (426 + 12 * k + p)) ≤ 9 * n := by
    intro n
    induction n with
    | zero => intro _; exact Int.le_refl _
    | succ n ih => intro hn; rw [z_sm_s]; have := ih (by omega); have := (hq n (by omega) (by omega)).2; omega
  exact key 12 (by decide)
