/-! ===== the best pieces and the digests are the same ===== -/
theorem z_eL_o6 {S : Int → Int} {x : (Int → Int) × Int} {p j : Int} (hj : 14 + 6 * p ≤ j ∧ j < 14 + 6 * p + 6) : ∀ n : Nat, (n : Int) ≤ p → (z_eL S x n).1 j = x.1 j := by
  intro n
  induction n with
  | zero => intro _; rfl
  | succ n ih => intro hn; exact (z_ern_o (by omega)).trans (ih (by omega))
theorem z_eL_k {S : Int → Int} {x : (Int → Int) × Int} {p : Nat} {j : Int} (hj : 14 + 6 * (p : Int) ≤ j ∧ j < 14 + 6 * (p : Int) + 6) : ∀ d : Nat, (z_eL S x (p + 1 + d)).1 j = (z_eL S x (p + 1)).1 j := by
  intro d
  induction d with
  | zero => rfl
  | succ d ih => exact (z_ern_o (b := (z_eL S x (p + 1 + d)).1) (p := ((p + 1 + d : Nat) : Int)) (a := S ((p + 1 + d : Nat) : Int)) (by omega)).trans ih
theorem z_eL_gain {b B S : Int → Int} {p n : Nat} (hp : p < n) (hw : 0 ≤ b (14 + 6 * (p : Int) + 1)) : (z_eL S (z_e0 b B) n).1 (14 + 6 * (p : Int)) = b (14 + 6 * (p : Int)) + z_gain b B S p := by
  have e1 := z_eL_k (S := S) (x := z_e0 b B) (p := p) (j := 14 + 6 * (p : Int)) (by omega) (n - (p + 1))
  rw [show p + 1 + (n - (p + 1)) = n by omega] at e1
  rw [e1]
  show z_ern (z_eL S (z_e0 b B) p).1 p (S p) (14 + 6 * (p : Int)) = _
  rw [z_ern_0, z_eL_o6 (p := (p : Int)) (by omega) p (by omega), z_eL_o6 (p := (p : Int)) (by omega) p (by omega)]
  show z_ern b (B 10) (B 11) (14 + 6 * (p : Int)) + (S p - z_hl (S p) (z_ern b (B 10) (B 11) (14 + 6 * (p : Int) + 1))) = _
  unfold z_gain
  by_cases e : (p : Int) = B 10
  · rw [if_pos e, ← e, z_ern_0, z_ern_1]
    omega
  · rw [if_neg e, z_ern_o (by omega), z_ern_o (by omega), z_hl_0 hw, Int.sub_zero, Int.sub_zero]
    omega
theorem z_gain_o {b b' B S : Int → Int} {p : Int} (h : b' (14 + 6 * p + 1) = b (14 + 6 * p + 1)) : z_gain b' B S p = z_gain b B S p := by unfold z_gain; rw [h]
theorem z_gain_paid {M : z_M} {g : Nat} {N k a p : Int} (h : z_BI (M g) N) (k0 : 0 ≤ k) (k1 : k < M g 1) (p0 : 0 ≤ p) (p1 : p < M g 0) : z_gain (M g) (z_dRM M g k a 7) (z_dRM M g k a 10) p = z_paid (M g) k a p := by
  have hh := z_BI_h h
  have k2 : k < 20 := by omega
  have hP := z_BI_P h p p0 (by omega)
  unfold z_PI at hP
  have e := z_roy_eq (a := a) (r7 := M 7) (s := M 10) (r := M 11) (s0 := fun _ => 0) (r0 := fun _ => 0) k0 k2 (z_BI_cF h k0 k1) (z_BI_p4c h k0 k2) (z_BI_pz h k0 k2)
  obtain ⟨Sp, hSp⟩ : ∃ Sp, (z_sp (M g) k (z_rs (M g) a 1) (M 10) (M 11)).1 = Sp := ⟨_, rfl⟩
  have e7 : z_dRM M g k a 7 = z_uf (z_uf (z_dv0 (M 7) (M g) k a) 11 (z_ow2 (M g) a 1)) 9 (z_oca (M g) k Sp) := by rw [← hSp]; rfl
  have e10 : z_dRM M g k a 10 = z_cu (M g) k Sp := by rw [← hSp]; rfl
  rw [hSp] at e
  rw [← e7, ← e10] at e
  unfold z_paid z_cm
  rw [e]
  obtain ⟨b2, hb2⟩ : ∃ b2, z_rob (M g) k a (z_oca (M g) k Sp) (z_dRM M g k a 10) = b2 := ⟨_, rfl⟩
  have b2o : ∀ j, j < 86 → j ≠ 7 → b2 j = M g j := fun j h1 h2 => by rw [← hb2]; exact z_rob_o k0 h1 h2
  rw [hb2]
  show _ = z_bin b2 _ _ a (14 + 6 * p) - _
  unfold z_bin
  rw [z_uf_ne _ _ (by omega), z_uf_ne _ _ (by omega)]
  unfold z_eA
  have q := z_eL_gain (b := b2) (B := z_dRM M g k a 7) (S := z_dRM M g k a 10) (p := p.toNat) (n := (b2 0).toNat) (by rw [b2o 0 (by decide) (by decide)]; omega) (by rw [Int.toNat_of_nonneg p0, b2o _ (by omega) (by omega)]; omega)
  rw [Int.toNat_of_nonneg p0] at q
  rw [q, b2o _ (by omega) (by omega), z_gain_o (b := M g) (b2o _ (by omega) (by omega))]
  omega
theorem z_pfb_at {b B S : Int → Int} {k : Int} {x : (Int → Int) × (Int → Int)} {p : Nat} : ∀ n : Nat, (z_pfb b B S k x n).1 p = (if p < n ∧ (x.1 p = -1 ∨ x.2 p < z_gain b B S p) then k else x.1 p) ∧ (z_pfb b B S k x n).2 p = (if p < n ∧ (x.1 p = -1 ∨ x.2 p < z_gain b B S p) then z_gain b B S p else x.2 p) := by
  intro n
  induction n with
  | zero => rw [if_neg (fun q => Nat.not_lt_zero p q.1), if_neg (fun q => Nat.not_lt_zero p q.1)]; exact ⟨rfl, rfl⟩
  | succ n ih =>
    obtain ⟨i1, i2⟩ := ih
    have e : z_pfb b B S k x (n + 1) = if (z_pfb b B S k x n).1 n = -1 ∨ (z_pfb b B S k x n).2 n < z_gain b B S n then (z_uf (z_pfb b B S k x n).1 n k, z_uf (z_pfb b B S k x n).2 n (z_gain b B S n)) else z_pfb b B S k x n := rfl
    rw [e]
    by_cases c : p = n
    · subst c
      rw [if_neg (fun q => Nat.lt_irrefl p q.1)] at i1 i2
      rw [i1, i2]
      by_cases d : x.1 p = -1 ∨ x.2 p < z_gain b B S p
      · rw [if_pos d, if_pos ⟨by omega, d⟩, if_pos ⟨by omega, d⟩]
        exact ⟨z_uf_self _ _ _, z_uf_self _ _ _⟩
      · rw [if_neg d, if_neg (fun q => d q.2), if_neg (fun q => d q.2)]
        exact ⟨i1, i2⟩
    · have hx : (p < n + 1 ∧ (x.1 p = -1 ∨ x.2 p < z_gain b B S p)) ↔ (p < n ∧ (x.1 p = -1 ∨ x.2 p < z_gain b B S p)) := ⟨fun q => ⟨by omega, q.2⟩, fun q => ⟨by omega, q.2⟩⟩
      rw [z_ifc hx, z_ifc hx, ← i1, ← i2]
      split
      · exact ⟨z_uf_ne _ _ (by omega), z_uf_ne _ _ (by omega)⟩
      · exact ⟨rfl, rfl⟩
theorem z_best_eq {M : z_M} {g : Nat} {N a : Int} (hg : g < 7) (h : z_BI (M g) N) (a0 : 1 ≤ a) (a1 : a ≤ 100000) {p : Nat} (p1 : (p : Int) < M g 0) : ∀ k : Nat, (k : Int) ≤ M g 1 → z_fbM M g a k 16 p = (z_bst (M g) p a k).1 ∧ (z_fbM M g a k 16 p ≠ -1 → z_fbM M g a k 17 p = (z_bst (M g) p a k).2) ∧ (z_fbM M g a k 16 p = -1 → (z_bst (M g) p a k).2 = -1) ∧ -1 ≤ (z_bst (M g) p a k).2 := by
  have hh := z_BI_h h
  intro k
  induction k with
  | zero =>
    intro _
    have e : z_fbM M g a 0 16 p = -1 := by
      show z_sR M 16 (z_cp (M 16) (fun _ => -1) 0 0 12) 16 p = -1
      rw [z_sR_self]
      unfold z_cp
      rw [if_pos (by omega)]
    rw [e]
    exact ⟨rfl, fun q => absurd rfl q, fun _ => rfl, Int.le_refl _⟩
  | succ k ih =>
    intro hk
    obtain ⟨i1, i2, i3, i4⟩ := ih (by omega)
    have eS : z_bst (M g) p a (k + 1) = if (z_bst (M g) p a k).2 < (if M g (86 + 5 * (k : Int) + 2) = 3 then z_paid (M g) k a p else -1) then ((k : Int), if M g (86 + 5 * (k : Int) + 2) = 3 then z_paid (M g) k a p else -1) else z_bst (M g) p a k := rfl
    have eM : z_fbM M g a (k + 1) = if M g (86 + 5 * (k : Int) + 2) = 3 then z_pfM (z_dRM (z_fbM M g a k) g k a) g k else z_fbM M g a k := rfl
    rw [eS, eM]
    have hb : z_fbM M g a k g = M g := z_fbM_row M g a (by omega) k
    obtain ⟨A, hA⟩ : ∃ A, z_fbM M g a k = A := ⟨_, rfl⟩
    obtain ⟨s, hs⟩ : ∃ s, z_bst (M g) p a k = s := ⟨_, rfl⟩
    rw [hA, hs] at i1 i2 i3
    rw [hs] at i4
    rw [hA] at hb
    rw [hA, hs]
    by_cases c : M g (86 + 5 * (k : Int) + 2) = 3
    · rw [if_pos c, if_pos c]
      have hD : z_dRM A g k a g = M g := (z_dRM_row (by omega)).trans hb
      have hgp := z_gain_paid (M := A) (g := g) (N := N) (k := k) (a := a) (p := p) (by rw [hb]; exact h) (by omega) (by rw [hb]; omega) (by omega) (by rw [hb]; exact p1)
      rw [hb] at hgp
      have hrg := z_gain_rg (b := M g) (B := z_dRM A g k a 7) (S := z_dRM A g k a 10) (p := (p : Int)) (Bd := 100000000) (by omega) (by omega) (z_BI_ebd h) (by decide) (z_dRM_bd (M := A) (g := g) (k := k) (by omega) a1 (by rw [hb]; exact z_BI_cF h (by omega) (by omega)) (by rw [hb]; exact z_BI_p4c h (by omega) (by omega))).2.2.2.1 ((z_dRM_bd (M := A) (g := g) (k := k) (by omega) a1 (by rw [hb]; exact z_BI_cF h (by omega) (by omega)) (by rw [hb]; exact z_BI_p4c h (by omega) (by omega))).2.2.2.2 p (by omega) (by omega))
      rw [hgp] at hrg
      have at_ := z_pfb_at (b := M g) (B := z_dRM A g k a 7) (S := z_dRM A g k a 10) (k := (k : Int)) (x := (A 16, A 17)) (p := p) (M g 0).toNat
      rw [hgp] at at_
      have e16 : z_pfM (z_dRM A g k a) g k 16 = (z_pfb (M g) (z_dRM A g k a 7) (z_dRM A g k a 10) k (A 16, A 17) (M g 0).toNat).1 := by rw [← hD]; rfl
      have e17 : z_pfM (z_dRM A g k a) g k 17 = (z_pfb (M g) (z_dRM A g k a 7) (z_dRM A g k a 10) k (A 16, A 17) (M g 0).toNat).2 := by rw [← hD]; rfl
      rw [e16, e17, at_.1, at_.2]
      show (if p < (M g 0).toNat ∧ (A 16 p = -1 ∨ A 17 p < z_paid (M g) k a p) then (k : Int) else A 16 p) = _ ∧ _
      have pn : p < (M g 0).toNat := by omega
      by_cases d : s.2 < z_paid (M g) k a p
      · have d' : A 16 p = -1 ∨ A 17 p < z_paid (M g) k a p := by
          by_cases e : A 16 p = -1
          · exact Or.inl e
          · exact Or.inr (by rw [i2 e]; exact d)
        rw [if_pos d, if_pos ⟨pn, d'⟩, if_pos ⟨pn, d'⟩]
        exact ⟨rfl, fun _ => rfl, fun q => by omega, by show -1 ≤ z_paid (M g) k a p; omega⟩
      · have d' : ¬ (A 16 p = -1 ∨ A 17 p < z_paid (M g) k a p) := by
          rintro (e | e)
          · have := i3 e; omega
          · by_cases e2 : A 16 p = -1
            · have := i3 e2; omega
            · rw [i2 e2] at e; exact d e
        rw [if_neg d, if_neg (fun q => d' q.2), if_neg (fun q => d' q.2)]
        exact ⟨i1, i2, i3, i4⟩
    · rw [if_neg c, if_neg c, if_neg (by omega)]
      exact ⟨i1, i2, i3, i4⟩
theorem z_best_N {M : z_M} {g : Nat} {N a p : Int} (hg : g < 7) (h : z_BI (M g) N) (a0 : 1 ≤ a) (a1 : a ≤ 100000) (p0 : 0 ≤ p) (p1 : p < M g 0) : z_fbM M g a (M g 1).toNat 16 p = z_bestN (M g) p a := by
  have hh := z_BI_h h
  have q := (z_best_eq hg h a0 a1 (p := p.toNat) (by omega) (M g 1).toNat (by omega)).1
  rw [Int.toNat_of_nonneg p0] at q
  exact q
