/-! ===== money that comes in, of the class: sums and bounds ===== -/
abbrev z_sb (r : Int → Int) : Int := z_sm 12 (fun p => r (14 + 6 * p))
abbrev z_si (r : Int → Int) : Int := z_sm 12 (fun p => r (14 + 6 * p + 2))
section ZERN
variable {r : Int → Int} {p s : Int}
theorem z_ern_0 : z_ern r p s (14 + 6 * p) = r (14 + 6 * p) + (s - z_hl s (r (14 + 6 * p + 1))) := z_uf_self _ _ _
theorem z_ern_1 : z_ern r p s (14 + 6 * p + 1) = r (14 + 6 * p + 1) - z_hl s (r (14 + 6 * p + 1)) := by unfold z_ern; rw [z_uf_ne _ _ (by omega), z_uf_self]
theorem z_ern_2 : z_ern r p s (14 + 6 * p + 2) = r (14 + 6 * p + 2) + s := by unfold z_ern; rw [z_uf_ne _ _ (by omega), z_uf_ne _ _ (by omega), z_uf_self]
theorem z_ern_sb (p0 : 0 ≤ p) (p1 : p < 12) : z_sb (z_ern r p s) = z_sb r + (s - z_hl s (r (14 + 6 * p + 1))) := by
  have g : z_sm 12 (fun q => z_ern r p s (14 + 6 * q)) = z_sm 12 (fun q => r (14 + 6 * q)) + (z_ern r p s (14 + 6 * p) - r (14 + 6 * p)) := z_sm_uI (f := fun q => r (14 + 6 * q)) (f' := fun q => z_ern r p s (14 + 6 * q)) p0 p1 (fun i i0 i1 ne => z_ern_o (by omega))
  rw [z_ern_0] at g
  show z_sm 12 (fun q => z_ern r p s (14 + 6 * q)) = z_sm 12 (fun q => r (14 + 6 * q)) + _
  omega
theorem z_ern_si (p0 : 0 ≤ p) (p1 : p < 12) : z_si (z_ern r p s) = z_si r + s := by
  have g : z_sm 12 (fun q => z_ern r p s (14 + 6 * q + 2)) = z_sm 12 (fun q => r (14 + 6 * q + 2)) + (z_ern r p s (14 + 6 * p + 2) - r (14 + 6 * p + 2)) := z_sm_uI (f := fun q => r (14 + 6 * q + 2)) (f' := fun q => z_ern r p s (14 + 6 * q + 2)) p0 p1 (fun i i0 i1 ne => z_ern_o (by omega))
  rw [z_ern_2] at g
  show z_sm 12 (fun q => z_ern r p s (14 + 6 * q + 2)) = z_sm 12 (fun q => r (14 + 6 * q + 2)) + _
  omega
end ZERN
theorem z_eL_sb {S : Int → Int} {x : (Int → Int) × Int} : ∀ n : Nat, n ≤ 12 → z_sb (z_eL S x n).1 + (z_eL S x n).2 = z_sb x.1 + x.2 + z_sm n S ∧ z_si (z_eL S x n).1 = z_si x.1 + z_sm n S := by
  intro n
  induction n with
  | zero => intro _; exact ⟨(Int.add_zero _).symm, (Int.add_zero _).symm⟩
  | succ n ih =>
    intro hn
    have h := ih (by omega)
    rw [z_sm_s]
    constructor
    · show z_sb (z_ern (z_eL S x n).1 n (S n)) + ((z_eL S x n).2 + z_hl (S n) ((z_eL S x n).1 (14 + 6 * (n : Int) + 1))) = _
      rw [z_ern_sb (by omega) (by omega)]
      omega
    · show z_si (z_ern (z_eL S x n).1 n (S n)) = _
      rw [z_ern_si (by omega) (by omega)]
      omega
/-- what holds of the pens' rows on the way -/
def z_eI (b x : Int → Int) (n : Int) : Prop := ∀ q, 0 ≤ q → q < 12 → 0 ≤ x (14 + 6 * q) ∧ 0 ≤ x (14 + 6 * q + 1) ∧ x (14 + 6 * q + 1) ≤ b (14 + 6 * q + 1) ∧ 0 ≤ x (14 + 6 * q + 2) ∧ x (14 + 6 * q + 3) = b (14 + 6 * q + 3) ∧ x (14 + 6 * q + 4) = b (14 + 6 * q + 4) ∧ x (14 + 6 * q + 5) = b (14 + 6 * q + 5) ∧ (n ≤ q → x (14 + 6 * q) = b (14 + 6 * q) ∧ x (14 + 6 * q + 1) = b (14 + 6 * q + 1) ∧ x (14 + 6 * q + 2) = b (14 + 6 * q + 2))
theorem z_eI_ern {b x : Int → Int} {n p s : Int} (h : z_eI b x n) (p0 : 0 ≤ p) (p1 : p < 12) (pn : p < n) (s0 : 0 ≤ s) : z_eI b (z_ern x p s) n := by
  intro q q0 q1
  have hq := h q q0 q1
  have hl := z_hl_rg s0 (h p p0 p1).2.1
  by_cases e : q = p
  · subst e
    rw [z_ern_0, z_ern_1, z_ern_2, z_ern_o (j := 14 + 6 * q + 3) (by omega), z_ern_o (j := 14 + 6 * q + 4) (by omega), z_ern_o (j := 14 + 6 * q + 5) (by omega)]
    omega
  · rw [z_ern_o (j := 14 + 6 * q) (by omega), z_ern_o (j := 14 + 6 * q + 1) (by omega), z_ern_o (j := 14 + 6 * q + 2) (by omega), z_ern_o (j := 14 + 6 * q + 3) (by omega), z_ern_o (j := 14 + 6 * q + 4) (by omega), z_ern_o (j := 14 + 6 * q + 5) (by omega)]
    exact hq
theorem z_eI_eL {b S : Int → Int} {x : (Int → Int) × Int} {n : Int} (h : z_eI b x.1 n) (hS : ∀ p, 0 ≤ p → p < 12 → 0 ≤ S p) : ∀ i : Nat, i ≤ 12 → (i : Int) ≤ n → z_eI b (z_eL S x i).1 n := by
  intro i
  induction i with
  | zero => intro _ _; exact h
  | succ i ih => intro h1 h2; exact z_eI_ern (ih (by omega) (by omega)) (by omega) (by omega) (by omega) (hS i (by omega) (by omega))
theorem z_eL_tr {S : Int → Int} {b : Int → Int} {x : (Int → Int) × Int} {n : Int} (h : z_eI b x.1 n) (hS : ∀ p, 0 ≤ p → p < 12 → 0 ≤ S p) (hx : 0 ≤ x.2) : ∀ i : Nat, i ≤ 12 → (i : Int) ≤ n → 0 ≤ (z_eL S x i).2 := by
  intro i
  induction i with
  | zero => intro _ _; exact hx
  | succ i ih =>
    intro h1 h2
    have a := ih (by omega) (by omega)
    have c := z_hl_rg (hS i (by omega) (by omega)) ((z_eI_eL h hS i (by omega) (by omega)) i (by omega) (by omega)).2.1
    show 0 ≤ (z_eL S x i).2 + z_hl (S i) _
    omega
/-- the books behind an amount that comes in -/
theorem z_k_bin {b b2 B S : Int → Int} {N a oc : Int} (h : z_BI b N) (hN : N + 1 ≤ 600) (a0 : 0 ≤ a) (a1 : a ≤ 100000) (e2 : ∀ j, j < 86 → j ≠ 7 → b2 j = b j) (e7 : b2 7 = b 7 + oc) (o0 : 0 ≤ oc) (o1 : oc ≤ a) (eo : ∀ j, 906 ≤ j → b2 j = b j)
    (p10 : 0 ≤ B 10 ∧ B 10 < b 0) (p8 : 0 ≤ B 8) (p9 : 0 ≤ B 9) (p11 : 0 ≤ B 11) (hS : ∀ p, 0 ≤ p → p < 12 → 0 ≤ S p) (hSz : ∀ p, b 0 ≤ p → p < 12 → S p = 0) (hT : B 8 + B 9 + B 11 + z_sm 12 S = a)
    (hK : ∀ c k, (∀ j, 86 ≤ j → c j = b2 j) → c 0 = b 0 → c 1 = b 1 → c 4 = b 4 + a → 0 ≤ k → k < 20 → z_KI c (N + 1) k)
    (hQ : ∀ c k p, (∀ j, 86 ≤ j → c j = b2 j) → c 0 = b 0 → c 1 = b 1 → 0 ≤ k → k < 20 → 0 ≤ p → p < 12 → z_QI c k p) : z_BI (z_bin b2 B S a) (N + 1) := by
  have hh := z_BI_h h
  have hs := z_BI_s h
  have x0I : z_eI b b2 (b 0) := fun q q0 q1 => by
    have hq := z_BI_P h q q0 q1
    unfold z_PI at hq
    rw [e2 _ (by omega) (by omega), e2 _ (by omega) (by omega), e2 _ (by omega) (by omega), e2 _ (by omega) (by omega), e2 _ (by omega) (by omega), e2 _ (by omega) (by omega)]
    omega
  have x1I : z_eI b (z_e0 b2 B).1 (b 0) := z_eI_ern x0I p10.1 (by omega) p10.2 p11
  have hl := z_hl_rg p11 (x0I (B 10) p10.1 (by omega)).2.1
  have e20 : b2 0 = b 0 := e2 0 (by decide) (by decide)
  have x1t : 0 ≤ (z_e0 b2 B).2 := by show 0 ≤ B 8 + B 9 + z_hl (B 11) _; omega
  obtain ⟨n, hn⟩ : ∃ n : Nat, (n : Int) = b 0 := ⟨(b 0).toNat, Int.toNat_of_nonneg hh.2.1.1⟩
  have hA : z_eA b2 B S = z_eL S (z_e0 b2 B) n := by unfold z_eA; rw [e20, ← hn]; rfl
  have I := z_eI_eL x1I hS n (by omega) (by omega)
  have T := z_eL_tr x1I hS x1t n (by omega) (by omega)
  have SB := z_eL_sb (S := S) (x := z_e0 b2 B) n (by omega)
  have s1 : z_sb (z_e0 b2 B).1 + (z_e0 b2 B).2 = z_sb b2 + B 8 + B 9 + B 11 := by
    show z_sb (z_ern b2 (B 10) (B 11)) + (B 8 + B 9 + z_hl (B 11) (b2 (14 + 6 * B 10 + 1))) = _
    rw [z_ern_sb p10.1 (by omega)]
    omega
  have s2 : z_si (z_e0 b2 B).1 = z_si b2 + B 11 := z_ern_si p10.1 (by omega)
  have s3 : z_sm 12 S = z_sm n S := z_sm_tail (by omega) (fun i i0 i1 => hSz i (by omega) (by omega))
  have s4 : z_sb b2 = z_sb b := z_sm_eq (fun i hi => e2 _ (by omega) (by omega))
  have s5 : z_si b2 = z_si b := z_sm_eq (fun i hi => e2 _ (by omega) (by omega))
  rw [← hA] at I T SB
  have xo : ∀ j, j < 14 ∨ 86 ≤ j → (z_eA b2 B S).1 j = b2 j := fun j hj => by
    rw [hA]
    exact (z_eL_o hj n (by omega)).trans (z_ern_o (by omega))
  obtain ⟨X, hX⟩ : ∃ X, z_eA b2 B S = X := ⟨_, rfl⟩
  obtain ⟨c, hc⟩ : ∃ c, z_bin b2 B S a = c := ⟨_, rfl⟩
  rw [hX] at I T SB xo
  have c3 : c 3 = b 3 + X.2 := by rw [← hc]; unfold z_bin; rw [hX, z_uf_ne _ _ (by decide), z_uf_self, xo 3 (by decide), e2 3 (by decide) (by decide)]
  have c4 : c 4 = b 4 + a := by rw [← hc]; unfold z_bin; rw [hX, z_uf_self, xo 4 (by decide), e2 4 (by decide) (by decide)]
  have cn : ∀ j, j ≠ 3 → j ≠ 4 → c j = X.1 j := fun j h3 h4 => by rw [← hc]; unfold z_bin; rw [hX, z_uf_ne _ _ h4, z_uf_ne _ _ h3]
  rw [hc]
  have d : ∀ j, j < 14 → j ≠ 3 → j ≠ 4 → j ≠ 7 → c j = b j := fun j j1 j3 j4 j7 => by rw [cn j j3 j4, xo j (by omega), e2 j (by omega) j7]
  have dh : ∀ j, 86 ≤ j → c j = b2 j := fun j hj => by rw [cn j (by omega) (by omega), xo j (by omega)]
  have c0 := d 0 (by decide) (by decide) (by decide) (by decide)
  have c1 := d 1 (by decide) (by decide) (by decide) (by decide)
  have c7 : c 7 = b 7 + oc := by rw [cn 7 (by decide) (by decide), xo 7 (by decide), e7]
  have hm : 100000 * N + 100000 = 100000 * (N + 1) := by omega
  refine ⟨by omega, by omega, by omega, by rw [d 2 (by decide) (by decide) (by decide) (by decide)]; omega, by omega, by omega, by rw [d 5 (by decide) (by decide) (by decide) (by decide)]; omega, by rw [d 6 (by decide) (by decide) (by decide) (by decide)]; omega, by omega, by rw [d 8 (by decide) (by decide) (by decide) (by decide)]; omega, by rw [d 9 (by decide) (by decide) (by decide) (by decide)]; omega, by rw [d 10 (by decide) (by decide) (by decide) (by decide)]; omega, by rw [d 11 (by decide) (by decide) (by decide) (by decide)]; omega, by rw [d 12 (by decide) (by decide) (by decide) (by decide)]; omega, by rw [d 13 (by decide) (by decide) (by decide) (by decide)]; omega, fun p p0 p1 => ?_, fun k k0 k1 => hK c k dh c0 c1 c4 k0 k1, fun k p k0 k1 p0 p1 => hQ c k p dh c0 c1 k0 k1 p0 p1, ?_, ?_, ?_, fun i hi => ?_⟩
  · have hp := z_BI_P h p p0 p1
    have i := I p p0 p1
    unfold z_PI at hp ⊢
    rw [cn (14 + 6 * p) (by omega) (by omega), cn (14 + 6 * p + 1) (by omega) (by omega), cn (14 + 6 * p + 2) (by omega) (by omega), cn (14 + 6 * p + 3) (by omega) (by omega), cn (14 + 6 * p + 4) (by omega) (by omega), cn (14 + 6 * p + 5) (by omega) (by omega), c0, c4]
    omega
  · rw [z_sm_eq (g := fun p => X.1 (14 + 6 * p)) (fun i hi => cn _ (by omega) (by omega)), c3, c4, d 5 (by decide) (by decide) (by decide) (by decide)]
    have q := hs.1
    have SB1 := SB.1
    show z_sb X.1 + _ + _ = _
    have q2 : z_sb b + b 3 + b 5 = b 4 := q
    omega
  · rw [z_sm_eq (g := fun p => X.1 (14 + 6 * p + 2)) (fun i hi => cn _ (by omega) (by omega)), c4]
    have q : z_si b ≤ b 4 := hs.2.1
    have SB2 := SB.2
    show z_si X.1 ≤ _
    omega
  · rw [z_sm_eq (g := fun p => b (14 + 6 * p + 5)) (fun i hi => by show c _ = b _; rw [cn _ (by omega) (by omega)]; exact (I i (by omega) (by omega)).2.2.2.2.2.2.1), d 5 (by decide) (by decide) (by decide) (by decide)]
    exact hs.2.2.1
  · rcases hi with hi | hi
    · rw [d i (by omega) (by omega) (by omega) (by omega)]; exact hs.2.2.2 i (Or.inl hi)
    · rw [dh i (by omega), eo i hi]; exact hs.2.2.2 i (Or.inr hi)
