/-! ===== the relation of the class and the reference ===== -/
def z_at (g sv s : Nat) : Nat := (g + 7 - sv + s) % 7
def z_Rg (M : z_M) (g : Nat) (N : Int) : Prop := g < 7 ∧ M 7 2 = (g : Int) ∧ M 7 0 = (g : Int) ∧ M 7 1 = M 21 2 ∧ (0 ≤ M 21 2 ∧ M 21 2 ≤ 6) ∧ z_W7 M ∧ z_BI (M g) N ∧ M 22 = M g ∧ (M 21 3 = M 7 3 ∧ 0 ≤ M 7 3 ∧ M 7 3 ≤ 60) ∧ (∀ i, 0 ≤ i → i < M 7 3 → M 8 i = M 25 i ∧ 33 ≤ M 8 i ∧ M 8 i ≤ 126) ∧ ∀ s : Nat, (s : Int) < M 21 2 → z_BI (M (z_at g (M 21 2).toNat s)) N ∧ ∀ i, 0 ≤ i → i < 906 → M 24 (906 * s + i) = M (z_at g (M 21 2).toNat s) i
def z_Rel (M : z_M) (N : Int) : Prop := ∃ g, z_Rg M g N
theorem z_Rg_keep {M M2 : z_M} {g : Nat} {N : Int} (h : z_Rg M g N) (hN : N + 1 ≤ 600) (e : ∀ r, r < 7 ∨ r = 22 ∨ r = 24 → M2 r = M r) (e7 : ∀ i, 0 ≤ i → i ≤ 2 → M2 7 i = M 7 i) (e21 : M2 21 2 = M 21 2) (et : M2 21 3 = M2 7 3 ∧ 0 ≤ M2 7 3 ∧ M2 7 3 ≤ 60) (ex : ∀ i, 0 ≤ i → i < M2 7 3 → M2 8 i = M2 25 i ∧ 33 ≤ M2 8 i ∧ M2 8 i ≤ 126) : z_Rg M2 g (N + 1) := by
  obtain ⟨h1, h2, h3, h4, h5, h6, h7, h8, h9, h10, h11⟩ := h
  refine ⟨h1, by rw [e7 2 (by decide) (by decide)]; exact h2, by rw [e7 0 (by decide) (by decide)]; exact h3, by rw [e7 1 (by decide) (by decide), e21]; exact h4, by rw [e21]; exact h5, fun a ha i hi => by rw [e a (Or.inl ha)]; exact h6 a ha i hi, by rw [e g (Or.inl h1)]; exact z_BI_mono h7 hN, by rw [e 22 (Or.inr (Or.inl rfl)), e g (Or.inl h1)]; exact h8, et, ex, fun s hs => ?_⟩
  rw [e21] at hs ⊢
  have hq := h11 s hs
  have lt : z_at g (M 21 2).toNat s < 7 := Nat.mod_lt _ (by decide)
  rw [e _ (Or.inl lt), e 24 (Or.inr (Or.inr rfl))]
  exact ⟨z_BI_mono hq.1 hN, hq.2⟩
theorem z_Rg_same {M M2 : z_M} {g : Nat} {N : Int} (h : z_Rg M g N) (hN : N + 1 ≤ 600) (e : ∀ r, r < 7 ∨ r = 8 ∨ r = 22 ∨ r = 24 ∨ r = 25 → M2 r = M r) (e7 : ∀ i, 0 ≤ i → i ≤ 3 → M2 7 i = M 7 i) (e21 : ∀ i, i = 2 ∨ i = 3 → M2 21 i = M 21 i) : z_Rg M2 g (N + 1) := by
  have hh := h
  obtain ⟨h1, h2, h3, h4, h5, h6, h7, h8, h9, h10, h11⟩ := hh
  refine z_Rg_keep h hN (fun r hr => e r (by omega)) (fun i i0 i1 => e7 i i0 (by omega)) (e21 2 (Or.inl rfl)) ?_ ?_
  · rw [e21 3 (Or.inr rfl), e7 3 (by decide) (by decide)]; exact h9
  · rw [e7 3 (by decide) (by decide), e 8 (by decide), e 25 (by decide)]; exact h10
/-- what is saved then -/
theorem z_rows_at {M : z_M} {g : Nat} {N : Int} (h : z_Rg M g N) : ∀ s : Nat, (s : Int) < z_rn (M 21 2) → z_at (z_sg g) (z_rn (M 21 2)).toNat s ≠ z_sg g ∧ (∃ a, a < 7 ∧ z_at (z_sg g) (z_rn (M 21 2)).toNat s = a ∧ z_BI (M a) N ∧ ∀ i, 0 ≤ i → i < 906 → z_rows (M 24) (M 22) (M 21 2) (906 * s + i) = M a i) := by
  obtain ⟨h1, h2, h3, h4, h5, h6, h7, h8, h9, h10, h11⟩ := h
  intro s hs
  unfold z_rn at hs ⊢
  unfold z_rows
  obtain ⟨v, hv⟩ : ∃ v : Nat, M 21 2 = (v : Int) := ⟨(M 21 2).toNat, (Int.toNat_of_nonneg h5.1).symm⟩
  rw [hv] at hs h11 h5 ⊢
  rw [Int.toNat_natCast] at h11
  by_cases c : (v : Int) = 6
  · have c6 : v = 6 := by omega
    subst c6
    rw [if_pos c] at hs
    rw [if_pos c, if_pos c]
    show z_at (z_sg g) 6 s ≠ z_sg g ∧ _
    refine ⟨by unfold z_at z_sg; omega, ?_⟩
    by_cases s5 : s = 5
    · subst s5
      refine ⟨g, h1, by show z_at (z_sg g) 6 5 = g; unfold z_at z_sg; omega, h7, fun i i0 i1 => ?_⟩
      rw [← h8]
      show z_cp (z_cp _ _ _ _ _) (M 22) (906 * 5) 0 906 (906 * 5 + i) = _
      unfold z_cp
      rw [if_pos (by omega)]
      congr 1
      omega
    · have q := h11 (s + 1) (by omega)
      refine ⟨z_at g 6 (s + 1), Nat.mod_lt _ (by decide), by show z_at (z_sg g) 6 s = _; unfold z_at z_sg; omega, q.1, fun i i0 i1 => ?_⟩
      rw [← q.2 i i0 i1]
      unfold z_cp
      rw [if_neg (by omega), if_pos (by omega)]
      congr 1
      show 906 * (s : Int) + i - 0 + 906 = 906 * ((s + 1 : Nat) : Int) + i
      omega
  · rw [if_neg c] at hs
    rw [if_neg c, if_neg c, show ((v : Int) + 1).toNat = v + 1 by omega]
    refine ⟨by unfold z_at z_sg; omega, ?_⟩
    by_cases sv : s = v
    · subst sv
      refine ⟨g, h1, by unfold z_at z_sg; omega, h7, fun i i0 i1 => ?_⟩
      rw [← h8]
      unfold z_cp
      rw [if_pos (by omega)]
      congr 1
      omega
    · have q := h11 s (by omega)
      refine ⟨z_at g v s, Nat.mod_lt _ (by decide), by unfold z_at z_sg; omega, q.1, fun i i0 i1 => ?_⟩
      rw [← q.2 i i0 i1]
      unfold z_cp
      rw [if_neg (by omega)]
theorem z_Rg_save {M M2 : z_M} {g : Nat} {N : Int} {c : Int → Int} (h : z_Rg M g N) (hN : N + 1 ≤ 600) (hc : z_BI c (N + 1)) (e : ∀ r, r < 7 → r ≠ z_sg g → M2 r = M r) (eq : M2 (z_sg g) = c) (e22 : M2 22 = c) (e0 : M2 7 0 = (z_sg g : Nat)) (e2 : M2 7 2 = (z_sg g : Nat)) (e1 : M2 7 1 = z_mn (M 7 1 + 1) 6) (s2 : M2 21 2 = z_rn (M 21 2)) (e24 : M2 24 = z_rows (M 24) (M 22) (M 21 2))
    (et : M2 21 3 = M2 7 3 ∧ 0 ≤ M2 7 3 ∧ M2 7 3 ≤ 60) (ex : ∀ i, 0 ≤ i → i < M2 7 3 → M2 8 i = M2 25 i ∧ 33 ≤ M2 8 i ∧ M2 8 i ≤ 126) : z_Rg M2 (z_sg g) (N + 1) := by
  have hr := z_rows_at h
  obtain ⟨h1, h2, h3, h4, h5, h6, h7, h8, h9, h10, h11⟩ := h
  refine ⟨z_sg_lt g, e2, e0, ?_, ?_, fun a ha i hi => ?_, by rw [eq]; exact hc, by rw [e22, eq], et, ex, fun s hs => ?_⟩
  · rw [e1, s2, h4]; unfold z_mn z_rn; split <;> split <;> omega
  · rw [s2]; unfold z_rn; split <;> omega
  · by_cases q : a = z_sg g
    · subst q; rw [eq]; exact (z_BI_s hc).2.2.2 i hi
    · rw [e a ha q]; exact h6 a ha i hi
  · rw [s2] at hs ⊢
    obtain ⟨n1, a, a7, ea, hb, hw⟩ := hr s hs
    rw [ea] at n1 ⊢
    rw [e a a7 n1, e24]
    exact ⟨z_BI_mono hb hN, hw⟩
theorem z_Rg_undo {M M2 : z_M} {g : Nat} {N : Int} (h : z_Rg M g N) (hN : N + 1 ≤ 600) (hs : M 21 2 ≠ 0) (e : ∀ r, r < 7 ∨ r = 24 ∨ r = 25 ∨ r = 8 → M2 r = M r) (e0 : M2 7 0 = (z_ug6 g : Nat)) (e2 : M2 7 2 = (z_ug6 g : Nat)) (e1 : M2 7 1 = M 7 1 - 1) (e3 : M2 7 3 = M 7 3) (s2 : M2 21 2 = M 21 2 - 1) (s3 : M2 21 3 = M 21 3) (e22 : M2 22 = z_cp (M 22) (M 24) 0 (906 * (M 21 2 - 1)) 906) : z_Rg M2 (z_ug6 g) (N + 1) := by
  obtain ⟨h1, h2, h3, h4, h5, h6, h7, h8, h9, h10, h11⟩ := h
  have lt : z_ug6 g < 7 := Nat.mod_lt _ (by decide)
  obtain ⟨v, hv⟩ : ∃ v : Nat, M 21 2 = ((v + 1 : Nat) : Int) := ⟨(M 21 2).toNat - 1, by omega⟩
  rw [hv] at hs h11 h5 s2 e22
  rw [Int.toNat_natCast] at h11
  have s2' : M2 21 2 = (v : Int) := by rw [s2]; omega
  have hl := h11 v (by omega)
  have ea : z_at g (v + 1) v = z_ug6 g := by unfold z_at z_ug6; omega
  rw [ea] at hl
  refine ⟨lt, e2, e0, by rw [e1, s2', h4, hv]; omega, by omega, fun a ha i hi => by rw [e a (Or.inl ha)]; exact h6 a ha i hi, by rw [e _ (Or.inl lt)]; exact z_BI_mono hl.1 hN, ?_, by rw [s3, e3]; exact h9, by rw [e3, e 8 (by decide), e 25 (by decide)]; exact h10, fun s hs2 => ?_⟩
  · rw [e22, e _ (Or.inl lt)]
    funext j
    unfold z_cp
    by_cases c : 0 ≤ j ∧ j < 0 + 906
    · rw [if_pos c, ← hl.2 j c.1 (by omega)]
      congr 1
      show j - 0 + 906 * (((v + 1 : Nat) : Int) - 1) = 906 * (v : Int) + j
      omega
    · rw [if_neg c, h8, h6 g h1 j (by omega), h6 _ lt j (by omega)]
  · rw [s2'] at hs2 ⊢
    rw [Int.toNat_natCast]
    have q := h11 s (by omega)
    have ea2 : z_at g (v + 1) s = z_at (z_ug6 g) v s := by unfold z_at z_ug6; omega
    rw [ea2] at q
    have lt2 : z_at (z_ug6 g) v s < 7 := Nat.mod_lt _ (by decide)
    rw [e _ (Or.inl lt2), e 24 (by decide)]
    exact ⟨z_BI_mono q.1 hN, q.2⟩
