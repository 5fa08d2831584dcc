/-! ===== the books stay in their bounds: pieces ===== -/
theorem z_BI_pcs {b c : Int → Int} {N : Int} (h : z_BI b N) (hN : N + 1 ≤ 600) (e0 : c 0 = b 0) (e1 : 0 ≤ c 1 ∧ c 1 ≤ 20) (e2 : 0 ≤ c 2 ∧ c 2 ≤ N + 1) (e6 : 0 ≤ c 6 ∧ c 6 ≤ N + 1) (hs : ∀ j, 3 ≤ j → j < 86 → j ≠ 6 → c j = b j)
    (hK : ∀ k, 0 ≤ k → k < 20 → z_KI c (N + 1) k) (hQ : ∀ k p, 0 ≤ k → k < 20 → 0 ≤ p → p < 12 → z_QI c k p) (ho : ∀ j, j < 0 ∨ 906 ≤ j → c j = b j) : z_BI c (N + 1) := by
  have hh := z_BI_h h
  have hS := z_BI_s h
  have d : ∀ j, 3 ≤ j → j < 14 → j ≠ 6 → c j = b j := fun j j0 j1 j2 => hs j j0 (by omega) j2
  refine ⟨by omega, by omega, e1, e2, by rw [d 3 (by decide) (by decide) (by decide)]; omega, by rw [d 4 (by decide) (by decide) (by decide)]; omega, by rw [d 5 (by decide) (by decide) (by decide)]; omega, e6, by rw [d 7 (by decide) (by decide) (by decide), d 4 (by decide) (by decide) (by decide)]; omega, by rw [d 8 (by decide) (by decide) (by decide)]; omega, by rw [d 9 (by decide) (by decide) (by decide)]; omega, by rw [d 10 (by decide) (by decide) (by decide)]; omega, by rw [d 11 (by decide) (by decide) (by decide)]; omega, by rw [d 12 (by decide) (by decide) (by decide)]; omega, by rw [d 13 (by decide) (by decide) (by decide)]; omega, fun p p0 p1 => z_PI_o (z_BI_P h p p0 p1) (fun j j0 j1 => hs j (by omega) (by omega) (by omega)) e0 (by rw [d 4 (by decide) (by decide) (by decide)]; omega), hK, hQ, ?_, ?_, ?_, fun i hi => by rw [ho i hi]; exact hS.2.2.2 i hi⟩
  · rw [z_sm_eq (g := fun p => b (14 + 6 * p)) (fun i hi => hs _ (by omega) (by omega) (by omega)), d 3 (by decide) (by decide) (by decide), d 4 (by decide) (by decide) (by decide), d 5 (by decide) (by decide) (by decide)]; exact hS.1
  · rw [z_sm_eq (g := fun p => b (14 + 6 * p + 2)) (fun i hi => hs _ (by omega) (by omega) (by omega)), d 4 (by decide) (by decide) (by decide)]; exact hS.2.1
  · rw [z_sm_eq (g := fun p => b (14 + 6 * p + 5)) (fun i hi => hs _ (by omega) (by omega) (by omega)), d 5 (by decide) (by decide) (by decide)]; exact hS.2.2.1
theorem z_k_nextYear {b : Int → Int} {N : Int} (h : z_BI b N) (hN : N + 1 ≤ 600) : z_BI (z_o_nextYear b) (N + 1) := by
  have hh := z_BI_h h
  obtain ⟨c, ec⟩ : ∃ c, z_o_nextYear b = c := ⟨_, rfl⟩
  have cg : ∀ j, 666 ≤ j → j < 906 → c j = 0 := fun j j0 j1 => by rw [← ec]; unfold z_o_nextYear z_cp; rw [if_pos (by omega)]
  have c2 : c 2 = b 2 + 1 := by rw [← ec]; unfold z_o_nextYear z_cp; rw [if_neg (by omega), z_uf_self]
  have cn : ∀ j, j ≠ 2 → j < 666 ∨ 906 ≤ j → c j = b j := fun j h1 h2 => by rw [← ec]; unfold z_o_nextYear z_cp; rw [if_neg (by omega), z_uf_ne _ _ h1]
  rw [ec]
  refine z_BI_pcs h hN (cn 0 (by decide) (by decide)) (by rw [cn 1 (by decide) (by decide)]; omega) (by omega) (by rw [cn 6 (by decide) (by decide)]; omega) (fun j j0 j1 j2 => cn j (by omega) (by omega)) (fun k k0 k1 => ?_) (fun k p k0 k1 p0 p1 => ?_) (fun j hj => cn j (by omega) (by omega))
  · exact z_KI_o (z_BI_K h k k0 k1) (fun w w0 w1 => cn _ (by omega) (by omega)) (fun p p0 p1 => cn _ (by omega) (by omega)) (fun p p0 p1 => cn _ (by omega) (by omega)) (cn 0 (by decide) (by decide)) (cn 1 (by decide) (by decide)) (by rw [cn 4 (by decide) (by decide)]; omega)
  · have hq := z_BI_Q h k p k0 k1 p0 p1
    unfold z_QI at hq ⊢
    rw [cn (186 + 12 * k + p) (by omega) (by omega), cn (426 + 12 * k + p) (by omega) (by omega), cg (666 + 12 * k + p) (by omega) (by omega), cn (86 + 5 * k + 4) (by omega) (by omega), cn 0 (by decide) (by decide), cn 1 (by decide) (by decide)]
    omega
theorem z_sm_z {f : Int → Int} {n : Nat} (h : ∀ i : Nat, i < n → f i = 0) : z_sm n f = 0 := (z_sm_eq (g := fun _ => 0) (fun i hi => h i hi)).trans (z_sm_0 n)
theorem z_k_order {b : Int → Int} {N x f : Int} (h : z_BI b N) (hN : N + 1 ≤ 600) (hc : z_c_order b x f = 0) : z_BI (z_o_order b x f) (N + 1) := by
  have hh := z_BI_h h
  unfold z_c_order at hc
  (repeat' split at hc) <;> first | (exfalso; omega; done) | skip
  obtain ⟨c, ec⟩ : ∃ c, z_o_order b x f = c := ⟨_, rfl⟩
  obtain ⟨m, em⟩ : ∃ m, b 1 = m := ⟨_, rfl⟩
  have c1 : c 1 = m + 1 := by rw [← ec]; unfold z_o_order; rw [z_uf_self, em]
  have cx : c (426 + 12 * m + x) = 1 := by rw [← ec]; unfold z_o_order; rw [em, z_uf_ne _ _ (by omega), z_uf_self]
  have c4 : c (86 + 5 * m + 4) = 0 := by rw [← ec]; unfold z_o_order; rw [em, z_uf_ne _ _ (by omega), z_uf_ne _ _ (by omega), z_uf_self]
  have c3 : c (86 + 5 * m + 3) = 1 := by rw [← ec]; unfold z_o_order; rw [em, z_uf_ne _ _ (by omega), z_uf_ne _ _ (by omega), z_uf_ne _ _ (by omega), z_uf_self]
  have c2 : c (86 + 5 * m + 2) = 0 := by rw [← ec]; unfold z_o_order; rw [em, z_uf_ne _ _ (by omega), z_uf_ne _ _ (by omega), z_uf_ne _ _ (by omega), z_uf_ne _ _ (by omega), z_uf_self]
  have cf : c (86 + 5 * m + 1) = f := by rw [← ec]; unfold z_o_order; rw [em, z_uf_ne _ _ (by omega), z_uf_ne _ _ (by omega), z_uf_ne _ _ (by omega), z_uf_ne _ _ (by omega), z_uf_ne _ _ (by omega), z_uf_self]
  have cb : c (86 + 5 * m) = x := by rw [← ec]; unfold z_o_order; rw [em, z_uf_ne _ _ (by omega), z_uf_ne _ _ (by omega), z_uf_ne _ _ (by omega), z_uf_ne _ _ (by omega), z_uf_ne _ _ (by omega), z_uf_ne _ _ (by omega), z_uf_self]
  have cn : ∀ j, j ≠ 1 → j ≠ 426 + 12 * m + x → ¬ (86 + 5 * m ≤ j ∧ j ≤ 86 + 5 * m + 4) → c j = b j := fun j h1 h2 h3 => by
    rw [← ec]; unfold z_o_order; rw [em, z_uf_ne _ _ h1, z_uf_ne _ _ h2, z_uf_ne _ _ (by omega), z_uf_ne _ _ (by omega), z_uf_ne _ _ (by omega), z_uf_ne _ _ (by omega), z_uf_ne _ _ (by omega)]
  rw [ec]
  rw [em] at hh
  have e0 : c 0 = b 0 := cn 0 (by omega) (by omega) (by omega)
  refine z_BI_pcs h hN e0 (by omega) (by rw [cn 2 (by omega) (by omega) (by omega)]; omega) (by rw [cn 6 (by omega) (by omega) (by omega)]; omega) (fun j j0 j1 j2 => cn j (by omega) (by omega) (by omega)) (fun k k0 k1 => ?_) (fun k p k0 k1 p0 p1 => ?_) (fun j hj => cn j (by omega) (by omega) (by omega))
  · have hk := z_BI_K h k k0 k1
    have a1 : z_aD c k = z_aD b k := z_sm_eq (fun i hi => cn _ (by omega) (by omega) (by omega))
    by_cases e : k = m
    · subst e
      have q0 : ∀ p, 0 ≤ p → p < 12 → b (426 + 12 * k + p) = 0 := fun p p0 p1 => by
        have hq := z_BI_Q h k p k0 k1 p0 p1
        unfold z_QI at hq
        exact (hq.2.2.2.2.2.2 (Or.inr (by omega))).2.1
      have qc : ∀ p, 0 ≤ p → p < 12 → c (426 + 12 * k + p) = if p = x then 1 else 0 := fun p p0 p1 => by
        by_cases e : p = x
        · subst e; rw [if_pos rfl]; exact cx
        · rw [if_neg e, cn _ (by omega) (by omega) (by omega)]; exact q0 p p0 p1
      have a2 : z_aP c k = 1 := by
        have g := z_sm_uI (f := fun _ => 0) (f' := fun p => c (426 + 12 * k + p)) (q := x) (by omega) (by omega) (fun i i0 i1 ne => by show c _ = 0; rw [qc i i0 i1, if_neg ne])
        rw [z_sm_0, cx] at g
        exact g
      have a3 : z_sm 12 (fun p => if 0 < c (426 + 12 * k + p) then (1 : Int) else 0) = 1 := by
        have g := z_sm_uI (f := fun _ => 0) (f' := fun p => if 0 < c (426 + 12 * k + p) then (1 : Int) else 0) (q := x) (by omega) (by omega) (fun i i0 i1 ne => by show (if 0 < c _ then (1 : Int) else 0) = 0; rw [qc i i0 i1, if_neg ne]; rfl)
        rw [z_sm_0, cx] at g
        exact g
      unfold z_KI at hk ⊢
      rw [a1, a2, a3, cb, cf, c2, c3, c4, c1, e0, cn 4 (by omega) (by omega) (by omega)]
      omega
    · have hk' := z_KI_o (c := fun j => if j = 1 then b 1 else c j) hk (fun w w0 w1 => by show (if _ = 1 then b 1 else c _) = _; rw [if_neg (by omega)]; exact cn _ (by omega) (by omega) (by omega)) (fun p p0 p1 => by show (if _ = 1 then b 1 else c _) = _; rw [if_neg (by omega)]; exact cn _ (by omega) (by omega) (by omega)) (fun p p0 p1 => by show (if _ = 1 then b 1 else c _) = _; rw [if_neg (by omega)]; exact cn _ (by omega) (by omega) (by omega)) (by show (if (0 : Int) = 1 then b 1 else c 0) = _; rw [if_neg (by decide)]; exact e0) (if_pos rfl) (by show _ ≤ (if (4 : Int) = 1 then b 1 else c 4); rw [if_neg (by decide), cn 4 (by omega) (by omega) (by omega)]; omega)
      have a2 : z_aP c k = z_aP b k := z_sm_eq (fun i hi => cn _ (by omega) (by omega) (by omega))
      have a3 : z_sm 12 (fun p => if 0 < c (426 + 12 * k + p) then (1 : Int) else 0) = z_sm 12 (fun p => if 0 < b (426 + 12 * k + p) then 1 else 0) := z_sm_eq (fun i hi => by show (if 0 < c _ then (1 : Int) else 0) = _; rw [cn _ (by omega) (by omega) (by omega)])
      unfold z_KI at hk ⊢
      rw [a1, a2, a3, cn (86 + 5 * k) (by omega) (by omega) (by omega), cn (86 + 5 * k + 1) (by omega) (by omega) (by omega), cn (86 + 5 * k + 2) (by omega) (by omega) (by omega), cn (86 + 5 * k + 3) (by omega) (by omega) (by omega), cn (86 + 5 * k + 4) (by omega) (by omega) (by omega), e0, c1, cn 4 (by omega) (by omega) (by omega)]
      omega
  · have hq := z_BI_Q h k p k0 k1 p0 p1
    unfold z_QI at hq ⊢
    rw [e0, c1, cn (186 + 12 * k + p) (by omega) (by omega) (by omega), cn (666 + 12 * k + p) (by omega) (by omega) (by omega)]
    by_cases e : k = m
    · subst e
      rw [c4]
      by_cases e2 : p = x
      · subst e2; rw [cx]; omega
      · rw [cn (426 + 12 * k + p) (by omega) (by omega) (by omega)]; omega
    · rw [cn (426 + 12 * k + p) (by omega) (by omega) (by omega), cn (86 + 5 * k + 4) (by omega) (by omega) (by omega)]
      omega
theorem z_k_draft {b : Int → Int} {N k p : Int} (h : z_BI b N) (hN : N + 1 ≤ 600) (hc : z_c_draft b k p = 0) : z_BI (z_o_draft b k p) (N + 1) := by
  have hh := z_BI_h h
  unfold z_c_draft at hc
  (repeat' split at hc) <;> first | (exfalso; omega; done) | skip
  have k0 : 0 ≤ k := by omega
  have k1 : k < 20 := by omega
  have hkk := z_BI_K h k k0 k1
  unfold z_KI at hkk
  have hD : ∀ i : Nat, i < 12 → 0 ≤ b (186 + 12 * k + i) := fun i hi => by
    have hq := z_BI_Q h k i k0 k1 (by omega) (by omega)
    unfold z_QI at hq
    exact hq.1
  have h1 := z_sm_1 (f := fun p => b (186 + 12 * k + p)) hD (i := p.toNat) (by omega)
  rw [Int.toNat_of_nonneg (by omega)] at h1
  have h1' : b (186 + 12 * k + p) ≤ z_aD b k := h1
  obtain ⟨c, ec⟩ : ∃ c, z_o_draft b k p = c := ⟨_, rfl⟩
  have cp : c (186 + 12 * k + p) = b (186 + 12 * k + p) + 1 := by rw [← ec]; unfold z_o_draft; rw [z_uf_ne _ _ (by omega), z_uf_self]
  have cs : c (86 + 5 * k + 2) = z_dst b k := by rw [← ec]; unfold z_o_draft; rw [z_uf_self]
  have ds : z_dst b k = 1 ∨ z_dst b k = 2 := by unfold z_dst; split <;> omega
  have cn : ∀ j, j ≠ 186 + 12 * k + p → j ≠ 86 + 5 * k + 2 → c j = b j := fun j a1 a2 => by rw [← ec]; unfold z_o_draft; rw [z_uf_ne _ _ a2, z_uf_ne _ _ a1]
  rw [ec]
  have d : ∀ j, j < 86 → c j = b j := fun j hj => cn j (by omega) (by omega)
  refine z_BI_pcs h hN (d 0 (by decide)) (by rw [d 1 (by decide)]; omega) (by rw [d 2 (by decide)]; omega) (by rw [d 6 (by decide)]; omega) (fun j j0 j1 j2 => d j j1) (fun l l0 l1 => ?_) (fun l q l0 l1 q0 q1 => ?_) (fun j hj => cn j (by omega) (by omega))
  · have hl := z_BI_K h l l0 l1
    by_cases e : l = k
    · subst e
      have a1 : z_aD c l = z_aD b l + 1 := by
        have g := z_sm_uI (f := fun q => b (186 + 12 * l + q)) (f' := fun q => c (186 + 12 * l + q)) (q := p) (by omega) (by omega) (fun i i0 i1 ne => cn _ (by omega) (by omega))
        rw [cp] at g
        unfold z_aD
        omega
      have a2 : z_aP c l = z_aP b l := z_sm_eq (fun i hi => cn _ (by omega) (by omega))
      have a3 : z_sm 12 (fun p => if 0 < c (426 + 12 * l + p) then (1 : Int) else 0) = z_sm 12 (fun p => if 0 < b (426 + 12 * l + p) then 1 else 0) := z_sm_eq (fun i hi => by show (if 0 < c _ then (1 : Int) else 0) = _; rw [cn _ (by omega) (by omega)])
      unfold z_KI at hl ⊢
      rw [a1, a2, a3, cs, cn (86 + 5 * l) (by omega) (by omega), cn (86 + 5 * l + 1) (by omega) (by omega), cn (86 + 5 * l + 3) (by omega) (by omega), cn (86 + 5 * l + 4) (by omega) (by omega), d 0 (by decide), d 1 (by decide), d 4 (by decide)]
      omega
    · exact z_KI_o hl (fun w w0 w1 => cn _ (by omega) (by omega)) (fun q q0 q1 => cn _ (by omega) (by omega)) (fun q q0 q1 => cn _ (by omega) (by omega)) (d 0 (by decide)) (d 1 (by decide)) (by rw [d 4 (by decide)]; omega)
  · have hq := z_BI_Q h l q l0 l1 q0 q1
    unfold z_QI at hq ⊢
    rw [cn (426 + 12 * l + q) (by omega) (by omega), cn (666 + 12 * l + q) (by omega) (by omega), cn (86 + 5 * l + 4) (by omega) (by omega), d 0 (by decide), d 1 (by decide)]
    by_cases e : l = k ∧ q = p
    · obtain ⟨e1, e2⟩ := e
      subst e1; subst e2
      rw [cp]
      omega
    · rw [cn (186 + 12 * l + q) (by omega) (by omega)]
      exact hq
theorem z_k_revise {b : Int → Int} {N k f : Int} (h : z_BI b N) (hN : N + 1 ≤ 600) (hc : z_c_revise b k f = 0) : z_BI (z_o_revise b k f) (N + 1) := by
  have hh := z_BI_h h
  unfold z_c_revise at hc
  (repeat' split at hc) <;> first | (exfalso; omega; done) | skip
  obtain ⟨c, ec⟩ : ∃ c, z_o_revise b k f = c := ⟨_, rfl⟩
  have c1 : c (86 + 5 * k + 1) = f := by rw [← ec]; unfold z_o_revise; rw [z_uf_ne _ _ (by omega), z_uf_self]
  have c3 : c (86 + 5 * k + 3) = b (86 + 5 * k + 3) + 1 := by rw [← ec]; unfold z_o_revise; rw [z_uf_self]
  have cn : ∀ j, j ≠ 86 + 5 * k + 1 → j ≠ 86 + 5 * k + 3 → c j = b j := fun j a1 a2 => by rw [← ec]; unfold z_o_revise; rw [z_uf_ne _ _ a2, z_uf_ne _ _ a1]
  rw [ec]
  have d : ∀ j, j < 86 → c j = b j := fun j hj => cn j (by omega) (by omega)
  refine z_BI_pcs h hN (d 0 (by decide)) (by rw [d 1 (by decide)]; omega) (by rw [d 2 (by decide)]; omega) (by rw [d 6 (by decide)]; omega) (fun j j0 j1 j2 => d j j1) (fun l l0 l1 => ?_) (fun l q l0 l1 q0 q1 => z_QI_o (z_BI_Q h l q l0 l1 q0 q1) (cn _ (by omega) (by omega)) (cn _ (by omega) (by omega)) (cn _ (by omega) (by omega)) (cn _ (by omega) (by omega)) (d 0 (by decide)) (d 1 (by decide))) (fun j hj => cn j (by omega) (by omega))
  have hl := z_BI_K h l l0 l1
  by_cases e : l = k
  · subst e
    have a1 : z_aD c l = z_aD b l := z_sm_eq (fun i hi => cn _ (by omega) (by omega))
    have a2 : z_aP c l = z_aP b l := z_sm_eq (fun i hi => cn _ (by omega) (by omega))
    have a3 : z_sm 12 (fun p => if 0 < c (426 + 12 * l + p) then (1 : Int) else 0) = z_sm 12 (fun p => if 0 < b (426 + 12 * l + p) then 1 else 0) := z_sm_eq (fun i hi => by show (if 0 < c _ then (1 : Int) else 0) = _; rw [cn _ (by omega) (by omega)])
    unfold z_KI at hl ⊢
    rw [a1, a2, a3, c1, c3, cn (86 + 5 * l) (by omega) (by omega), cn (86 + 5 * l + 2) (by omega) (by omega), cn (86 + 5 * l + 4) (by omega) (by omega), d 0 (by decide), d 1 (by decide), d 4 (by decide)]
    omega
  · exact z_KI_o hl (fun w w0 w1 => cn _ (by omega) (by omega)) (fun q q0 q1 => cn _ (by omega) (by omega)) (fun q q0 q1 => cn _ (by omega) (by omega)) (d 0 (by decide)) (d 1 (by decide)) (by rw [d 4 (by decide)]; omega)
/-- new parts for a piece, and a new contract -/
theorem z_k_parts {b c : Int → Int} {N k : Int} {r : Int → Int} (h : z_BI b N) (hN : N + 1 ≤ 600) (k0 : 0 ≤ k) (k1 : k < b 1) (hr : ∀ p, 0 ≤ p → p < 12 → 0 ≤ r p ∧ r p ≤ 9) (hz : ∀ p, b 0 ≤ p → p < 12 → r p = 0) (h4 : z_sm 12 (fun p => if 0 < r p then 1 else 0) ≤ 4) (h1 : 1 ≤ z_sm 12 r)
    (c6 : c 6 = b 6 ∨ c 6 = b 6 + 1) (cp : ∀ p, 0 ≤ p → p < 12 → c (426 + 12 * k + p) = r p) (c3 : c (86 + 5 * k + 3) = b (86 + 5 * k + 3) + 1) (cn : ∀ j, j ≠ 6 → j ≠ 86 + 5 * k + 3 → ¬ (426 + 12 * k ≤ j ∧ j < 426 + 12 * k + 12) → c j = b j) : z_BI c (N + 1) := by
  have hh := z_BI_h h
  have d : ∀ j, j < 86 → j ≠ 6 → c j = b j := fun j hj h6 => cn j h6 (by omega) (by omega)
  refine z_BI_pcs h hN (d 0 (by decide) (by decide)) (by rw [d 1 (by decide) (by decide)]; omega) (by rw [d 2 (by decide) (by decide)]; omega) (by omega) (fun j j0 j1 j2 => d j j1 j2) (fun l l0 l1 => ?_) (fun l q l0 l1 q0 q1 => ?_) (fun j hj => cn j (by omega) (by omega) (by omega))
  · have hl := z_BI_K h l l0 l1
    by_cases e : l = k
    · subst e
      have a1 : z_aD c l = z_aD b l := z_sm_eq (fun i hi => cn _ (by omega) (by omega) (by omega))
      have a2 : z_aP c l = z_sm 12 r := z_sm_eq (fun i hi => cp i (by omega) (by omega))
      have a3 : z_sm 12 (fun p => if 0 < c (426 + 12 * l + p) then (1 : Int) else 0) = z_sm 12 (fun p => if 0 < r p then 1 else 0) := z_sm_eq (fun i hi => by show (if 0 < c _ then (1 : Int) else 0) = _; rw [cp i (by omega) (by omega)])
      unfold z_KI at hl ⊢
      rw [a1, a2, a3, c3, cn (86 + 5 * l) (by omega) (by omega) (by omega), cn (86 + 5 * l + 1) (by omega) (by omega) (by omega), cn (86 + 5 * l + 2) (by omega) (by omega) (by omega), cn (86 + 5 * l + 4) (by omega) (by omega) (by omega), d 0 (by decide) (by decide), d 1 (by decide) (by decide), d 4 (by decide) (by decide)]
      omega
    · exact z_KI_o hl (fun w w0 w1 => cn _ (by omega) (by omega) (by omega)) (fun q q0 q1 => cn _ (by omega) (by omega) (by omega)) (fun q q0 q1 => cn _ (by omega) (by omega) (by omega)) (d 0 (by decide) (by decide)) (d 1 (by decide) (by decide)) (by rw [d 4 (by decide) (by decide)]; omega)
  · have hq := z_BI_Q h l q l0 l1 q0 q1
    by_cases e : l = k
    · subst e
      have h5 := hr q q0 q1
      have h6 := hz q
      unfold z_QI at hq ⊢
      rw [cp q q0 q1, cn (186 + 12 * l + q) (by omega) (by omega) (by omega), cn (666 + 12 * l + q) (by omega) (by omega) (by omega), cn (86 + 5 * l + 4) (by omega) (by omega) (by omega), d 0 (by decide) (by decide), d 1 (by decide) (by decide)]
      omega
    · exact z_QI_o hq (cn _ (by omega) (by omega) (by omega)) (cn _ (by omega) (by omega) (by omega)) (cn _ (by omega) (by omega) (by omega)) (cn _ (by omega) (by omega) (by omega)) (d 0 (by decide) (by decide)) (d 1 (by decide) (by decide))
