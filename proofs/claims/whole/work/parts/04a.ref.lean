/-! ===== the reference: small methods ===== -/
theorem tX7_thrown {G : z_G} {M : z_M} : KX7_thrown G [.ref (z_ad G 0 40)] M (.inl (some (z_I (M 21 4)))) M := by
  refine z_con (ls := [some (.ref (z_ad G 0 40))]) (by decide +kernel) (Nat.le_of_ble_eq_true rfl) rfl ?_
  intro Z htb
  refine z_rng fun hr => ?_
  refine z_aloadn dX7_thrown_0 rfl ?_
  refine gX7_40 rfl dX7_thrown_1 ?_
  exact z_iret dX7_thrown_4 (by first | rfl | omega) rfl
theorem tX7_fails {G : z_G} {M : z_M} {x : Int} (hx : z_rg x) : KX7_fails G [.ref (z_ad G 0 40), z_I x] M (.inl (some (z_I 0))) (z_sM M 21 4 x) := by
  refine z_con (ls := [some (.ref (z_ad G 0 40)), some (z_I x)]) (by decide +kernel) (Nat.le_of_ble_eq_true rfl) rfl ?_
  intro Z htb
  refine z_rng fun hr => ?_
  refine z_aloadn dX7_fails_0 rfl ?_
  refine z_iloadn dX7_fails_1 rfl ?_
  refine pX7_40 (by first | (exact hr _ _ (by decide)) | omega) rfl dX7_fails_2 ?_
  refine z_rng fun hr => ?_
  refine z_iconst dX7_fails_5 ?_
  exact z_iret dX7_fails_6 (by first | rfl | omega) rfl
theorem tX7_within {G : z_G} {M : z_M} {v lo hi : Int} (hv : z_rg v) (hl : z_rg lo) (hh : z_rg hi) : KX7_within G [z_I v, z_I lo, z_I hi] M (.inl (some (z_I (if lo ≤ v ∧ v ≤ hi then 1 else 0)))) M := by
  refine z_con (ls := [some (z_I v), some (z_I lo), some (z_I hi)]) (by decide +kernel) (Nat.le_of_ble_eq_true rfl) rfl ?_
  intro Z htb
  refine z_rng fun hr => ?_
  refine z_iloadn dX7_within_0 rfl ?_
  refine z_iloadn dX7_within_1 rfl ?_
  refine z_icmp_lt (tgt := 14) (by first | (exact hr _ _ (by decide)) | omega) (by first | (exact hr _ _ (by decide)) | omega) dX7_within_2 (by decide) (fun h2 => ?_) (fun h2 => ?_)
  · refine z_iconst dX7_within_14 ?_
    exact z_zret dX7_within_15 (by first | rfl | omega | (split <;> omega)) rfl (by first | decide | (split <;> simp))
  · refine z_iloadn dX7_within_5 rfl ?_
    refine z_iloadn dX7_within_6 rfl ?_
    refine z_icmp_gt (tgt := 14) (by first | (exact hr _ _ (by decide)) | omega) (by first | (exact hr _ _ (by decide)) | omega) dX7_within_7 (by decide) (fun h7 => ?_) (fun h7 => ?_)
    · refine z_iconst dX7_within_14 ?_
      exact z_zret dX7_within_15 (by first | rfl | omega | (split <;> omega)) rfl (by first | decide | (split <;> simp))
    · refine z_iconst dX7_within_10 ?_
      refine z_goto (tgt := 15) dX7_within_11 (by decide) ?_
      exact z_zret dX7_within_15 (by first | rfl | omega | (split <;> omega)) rfl (by first | decide | (split <;> simp))
theorem tX7_isPen {G : z_G} {M : z_M} {v : Int} (hv : z_rg v) (h0 : 0 ≤ M 22 0) : KX7_isPen G [.ref (z_ad G 0 40), z_I v] M (.inl (some (z_I (if 0 ≤ v ∧ v < M 22 0 then 1 else 0)))) M := by
  refine z_con (ls := [some (.ref (z_ad G 0 40)), some (z_I v)]) (by decide +kernel) (Nat.le_of_ble_eq_true rfl) rfl ?_
  intro Z htb
  refine z_rng fun hr => ?_
  have := hr 22 0 (by decide)
  refine z_iloadn dX7_isPen_0 rfl ?_
  refine z_iconst dX7_isPen_1 ?_
  refine z_aloadn dX7_isPen_2 rfl ?_
  refine gX7_7 rfl dX7_isPen_3 ?_
  refine z_iconst dX7_isPen_6 ?_
  refine z_iald (by rfl) (by first | decide | exact Or.inl ⟨by decide, hg⟩) (by omega) (by omega) (by decide) dX7_isPen_7 ?_
  refine z_iconst dX7_isPen_8 ?_
  refine z_isub dX7_isPen_9 ?_
  refine kX7_44 (tX7_within (by first | (exact hr _ _ (by decide)) | omega) (by first | (exact hr _ _ (by decide)) | omega) (by first | (exact hr _ _ (by decide)) | omega)) rfl ⟨(Nat.le_of_ble_eq_true rfl), (Nat.le_of_ble_eq_true rfl)⟩ (Nat.le_of_ble_eq_true rfl) dX7_isPen_10 ?_
  exact z_zret dX7_isPen_13 (by split <;> split <;> omega) rfl (by first | decide | (split <;> simp))
theorem tX7_isPiece {G : z_G} {M : z_M} {v : Int} (hv : z_rg v) (h0 : 0 ≤ M 22 1) : KX7_isPiece G [.ref (z_ad G 0 40), z_I v] M (.inl (some (z_I (if 0 ≤ v ∧ v < M 22 1 then 1 else 0)))) M := by
  refine z_con (ls := [some (.ref (z_ad G 0 40)), some (z_I v)]) (by decide +kernel) (Nat.le_of_ble_eq_true rfl) rfl ?_
  intro Z htb
  refine z_rng fun hr => ?_
  have := hr 22 1 (by decide)
  refine z_iloadn dX7_isPiece_0 rfl ?_
  refine z_iconst dX7_isPiece_1 ?_
  refine z_aloadn dX7_isPiece_2 rfl ?_
  refine gX7_7 rfl dX7_isPiece_3 ?_
  refine z_iconst dX7_isPiece_6 ?_
  refine z_iald (by rfl) (by first | decide | exact Or.inl ⟨by decide, hg⟩) (by omega) (by omega) (by decide) dX7_isPiece_7 ?_
  refine z_iconst dX7_isPiece_8 ?_
  refine z_isub dX7_isPiece_9 ?_
  refine kX7_44 (tX7_within (by first | (exact hr _ _ (by decide)) | omega) (by first | (exact hr _ _ (by decide)) | omega) (by first | (exact hr _ _ (by decide)) | omega)) rfl ⟨(Nat.le_of_ble_eq_true rfl), (Nat.le_of_ble_eq_true rfl)⟩ (Nat.le_of_ble_eq_true rfl) dX7_isPiece_10 ?_
  exact z_zret dX7_isPiece_13 (by split <;> split <;> omega) rfl (by first | decide | (split <;> simp))
theorem tX7_of {G : z_G} {M : z_M} {p w : Int} (h0 : 0 ≤ 14 + 6 * p + w) (h1 : 14 + 6 * p + w < 906) : KX7_of G [.ref (z_ad G 0 40), z_I p, z_I w] M (.inl (some (z_I (M 22 (14 + 6 * p + w))))) M := by
  refine z_con (ls := [some (.ref (z_ad G 0 40)), some (z_I p), some (z_I w)]) (by decide +kernel) (Nat.le_of_ble_eq_true rfl) rfl ?_
  intro Z htb
  refine z_rng fun hr => ?_
  refine z_aloadn dX7_of_0 rfl ?_
  refine gX7_7 rfl dX7_of_1 ?_
  refine z_bipush dX7_of_4 (by decide) ?_
  refine z_bipush dX7_of_6 (by decide) ?_
  refine z_iloadn dX7_of_8 rfl ?_
  refine z_imul dX7_of_9 ?_
  refine z_iadd dX7_of_10 ?_
  refine z_iloadn dX7_of_11 rfl ?_
  refine z_iadd dX7_of_12 ?_
  refine z_iald (by rfl) (by first | decide | exact Or.inl ⟨by decide, hg⟩) (by omega) (by omega) (by decide) dX7_of_13 ?_
  exact z_iret dX7_of_14 (by first | rfl | omega) rfl
theorem tX7_in {G : z_G} {M : z_M} {p w : Int} (h0 : 0 ≤ 86 + 5 * p + w) (h1 : 86 + 5 * p + w < 906) : KX7_in G [.ref (z_ad G 0 40), z_I p, z_I w] M (.inl (some (z_I (M 22 (86 + 5 * p + w))))) M := by
  refine z_con (ls := [some (.ref (z_ad G 0 40)), some (z_I p), some (z_I w)]) (by decide +kernel) (Nat.le_of_ble_eq_true rfl) rfl ?_
  intro Z htb
  refine z_rng fun hr => ?_
  refine z_aloadn dX7_in_0 rfl ?_
  refine gX7_7 rfl dX7_in_1 ?_
  refine z_bipush dX7_in_4 (by decide) ?_
  refine z_iconst dX7_in_6 ?_
  refine z_iloadn dX7_in_7 rfl ?_
  refine z_imul dX7_in_8 ?_
  refine z_iadd dX7_in_9 ?_
  refine z_iloadn dX7_in_10 rfl ?_
  refine z_iadd dX7_in_11 ?_
  refine z_iald (by rfl) (by first | decide | exact Or.inl ⟨by decide, hg⟩) (by omega) (by omega) (by decide) dX7_in_12 ?_
  exact z_iret dX7_in_13 (by first | rfl | omega) rfl
theorem tX7_drafts {G : z_G} {M : z_M} {k p : Int} (h0 : 0 ≤ 186 + 12 * k + p) (h1 : 186 + 12 * k + p < 906) : KX7_drafts G [.ref (z_ad G 0 40), z_I k, z_I p] M (.inl (some (z_I (M 22 (186 + 12 * k + p))))) M := by
  refine z_con (ls := [some (.ref (z_ad G 0 40)), some (z_I k), some (z_I p)]) (by decide +kernel) (Nat.le_of_ble_eq_true rfl) rfl ?_
  intro Z htb
  refine z_rng fun hr => ?_
  refine z_aloadn dX7_drafts_0 rfl ?_
  refine gX7_7 rfl dX7_drafts_1 ?_
  refine z_sipush dX7_drafts_4 (by decide) ?_
  refine z_bipush dX7_drafts_7 (by decide) ?_
  refine z_iloadn dX7_drafts_9 rfl ?_
  refine z_imul dX7_drafts_10 ?_
  refine z_iadd dX7_drafts_11 ?_
  refine z_iloadn dX7_drafts_12 rfl ?_
  refine z_iadd dX7_drafts_13 ?_
  refine z_iald (by rfl) (by first | decide | exact Or.inl ⟨by decide, hg⟩) (by omega) (by omega) (by decide) dX7_drafts_14 ?_
  exact z_iret dX7_drafts_15 (by first | rfl | omega) rfl
theorem tX7_partsOf {G : z_G} {M : z_M} {k p : Int} (h0 : 0 ≤ 426 + 12 * k + p) (h1 : 426 + 12 * k + p < 906) : KX7_partsOf G [.ref (z_ad G 0 40), z_I k, z_I p] M (.inl (some (z_I (M 22 (426 + 12 * k + p))))) M := by
  refine z_con (ls := [some (.ref (z_ad G 0 40)), some (z_I k), some (z_I p)]) (by decide +kernel) (Nat.le_of_ble_eq_true rfl) rfl ?_
  intro Z htb
  refine z_rng fun hr => ?_
  refine z_aloadn dX7_partsOf_0 rfl ?_
  refine gX7_7 rfl dX7_partsOf_1 ?_
  refine z_sipush dX7_partsOf_4 (by decide) ?_
  refine z_bipush dX7_partsOf_7 (by decide) ?_
  refine z_iloadn dX7_partsOf_9 rfl ?_
  refine z_imul dX7_partsOf_10 ?_
  refine z_iadd dX7_partsOf_11 ?_
  refine z_iloadn dX7_partsOf_12 rfl ?_
  refine z_iadd dX7_partsOf_13 ?_
  refine z_iald (by rfl) (by first | decide | exact Or.inl ⟨by decide, hg⟩) (by omega) (by omega) (by decide) dX7_partsOf_14 ?_
  exact z_iret dX7_partsOf_15 (by first | rfl | omega) rfl
theorem tX7_rowSum {G : z_G} {M : z_M} {f : Int} (h0 : 0 ≤ f) (h1 : f + 12 ≤ 906) : KX7_rowSum G [.ref (z_ad G 0 40), z_I f] M (.inl (some (z_I (z_sm 12 (fun p => M 22 (f + p)))))) M := by
  refine z_con (ls := [some (.ref (z_ad G 0 40)), some (z_I f), none, none]) (by decide +kernel) (Nat.le_of_ble_eq_true rfl) rfl ?_
  intro Z htb
  refine z_rng fun hr => ?_
  refine z_iconst dX7_rowSum_0 ?_
  refine z_istoren_2 dX7_rowSum_1 (Nat.le_of_ble_eq_true rfl) rfl ?_
  refine z_iconst dX7_rowSum_2 ?_
  refine z_istoren_3 dX7_rowSum_3 (Nat.le_of_ble_eq_true rfl) rfl ?_
  refine z_upn (P := fun i : Nat => z_J G Z _ _ 4 [some (.ref (z_ad G 0 40)), some (z_I f), some (z_I (z_sm i (fun p => M 22 (f + p)))), some (z_I i)] [] M 0 0) 12 ?_ ?_
  · refine z_rng fun hr => ?_
    refine z_iloadn dX7_rowSum_4 rfl ?_
    refine z_bipush dX7_rowSum_5 (by decide) ?_
    refine z_icmp_ge (tgt := 27) (by first | (exact hr _ _ (by decide)) | omega) (by first | (exact hr _ _ (by decide)) | omega) dX7_rowSum_7 (by decide) (fun h7 => ?_) (fun h7 => ?_)
    · refine z_iloadn dX7_rowSum_27 rfl ?_
      exact z_iret dX7_rowSum_28 (by first | rfl | omega) rfl
    · exfalso; omega
  · intro i hi y_ih
    refine z_rng fun hr => ?_
    refine z_iloadn dX7_rowSum_4 rfl ?_
    refine z_bipush dX7_rowSum_5 (by decide) ?_
    refine z_icmp_ge (tgt := 27) (by first | (exact hr _ _ (by decide)) | omega) (by first | (exact hr _ _ (by decide)) | omega) dX7_rowSum_7 (by decide) (fun h7 => ?_) (fun h7 => ?_)
    · exfalso; omega
    · refine z_iloadn dX7_rowSum_10 rfl ?_
      refine z_aloadn dX7_rowSum_11 rfl ?_
      refine gX7_7 rfl dX7_rowSum_12 ?_
      refine z_iloadn dX7_rowSum_15 rfl ?_
      refine z_iloadn dX7_rowSum_16 rfl ?_
      refine z_iadd dX7_rowSum_17 ?_
      refine z_iald (by rfl) (by first | decide | exact Or.inl ⟨by decide, hg⟩) (by omega) (by omega) (by decide) dX7_rowSum_18 ?_
      refine z_iadd dX7_rowSum_19 ?_
      refine z_istoren_2 dX7_rowSum_20 (Nat.le_of_ble_eq_true rfl) rfl ?_
      refine z_iinc_3 dX7_rowSum_21 (Nat.le_of_ble_eq_true rfl) rfl ?_
      refine z_goto (tgt := 4) dX7_rowSum_24 (by decide) ?_
      exact y_ih
theorem tX7_allDrafts {G : z_G} {M : z_M} {k : Int} (h0 : 0 ≤ k) (h1 : k < 20) : KX7_allDrafts G [.ref (z_ad G 0 40), z_I k] M (.inl (some (z_I (z_sm 12 (fun p => M 22 (186 + 12 * k + p)))))) M := by
  refine z_con (ls := [some (.ref (z_ad G 0 40)), some (z_I k)]) (by decide +kernel) (Nat.le_of_ble_eq_true rfl) rfl ?_
  intro Z htb
  refine z_rng fun hr => ?_
  refine z_aloadn dX7_allDrafts_0 rfl ?_
  refine z_sipush dX7_allDrafts_1 (by decide) ?_
  refine z_bipush dX7_allDrafts_4 (by decide) ?_
  refine z_iloadn dX7_allDrafts_6 rfl ?_
  refine z_imul dX7_allDrafts_7 ?_
  refine z_iadd dX7_allDrafts_8 ?_
  refine kX7_51 (tX7_rowSum (by omega) (by omega)) rfl ⟨(Nat.le_of_ble_eq_true rfl), (Nat.le_of_ble_eq_true rfl)⟩ (Nat.le_of_ble_eq_true rfl) dX7_allDrafts_9 ?_
  exact z_iret dX7_allDrafts_12 (by first | rfl | omega) rfl
theorem tX7_allParts {G : z_G} {M : z_M} {k : Int} (h0 : 0 ≤ k) (h1 : k < 20) : KX7_allParts G [.ref (z_ad G 0 40), z_I k] M (.inl (some (z_I (z_sm 12 (fun p => M 22 (426 + 12 * k + p)))))) M := by
  refine z_con (ls := [some (.ref (z_ad G 0 40)), some (z_I k)]) (by decide +kernel) (Nat.le_of_ble_eq_true rfl) rfl ?_
  intro Z htb
  refine z_rng fun hr => ?_
  refine z_aloadn dX7_allParts_0 rfl ?_
  refine z_sipush dX7_allParts_1 (by decide) ?_
  refine z_bipush dX7_allParts_4 (by decide) ?_
  refine z_iloadn dX7_allParts_6 rfl ?_
  refine z_imul dX7_allParts_7 ?_
  refine z_iadd dX7_allParts_8 ?_
  refine kX7_51 (tX7_rowSum (by omega) (by omega)) rfl ⟨(Nat.le_of_ble_eq_true rfl), (Nat.le_of_ble_eq_true rfl)⟩ (Nat.le_of_ble_eq_true rfl) dX7_allParts_9 ?_
  exact z_iret dX7_allParts_12 (by first | rfl | omega) rfl
theorem tX7_keep {G : z_G} {M : z_M} : KX7_keep G [.ref (z_ad G 0 40)] M (.inl none) (z_sR M 23 (z_cp (M 23) (M 22) 0 0 906)) := by
  refine z_con (ls := [some (.ref (z_ad G 0 40)), none]) (by decide +kernel) (Nat.le_of_ble_eq_true rfl) rfl ?_
  intro Z htb
  refine z_rng fun hr => ?_
  refine z_iconst dX7_keep_0 ?_
  refine z_istoren_1 dX7_keep_1 (Nat.le_of_ble_eq_true rfl) rfl ?_
  refine z_mem (M' := z_sR M 23 (z_cp (M 23) (M 22) 0 0 ((0 : Nat) : Int))) (by rw [show ((0 : Nat) : Int) = 0 from rfl, z_cp_0, z_sR_id]) ?_
  refine z_upn (P := fun i : Nat => z_J G Z _ _ 2 [some (.ref (z_ad G 0 40)), some (z_I i)] [] (z_sR M 23 (z_cp (M 23) (M 22) 0 0 i)) 0 0) 906 ?_ ?_
  · refine z_rng fun hr => ?_
    refine z_iloadn dX7_keep_2 rfl ?_
    refine z_sipush dX7_keep_3 (by decide) ?_
    refine z_icmp_ge (tgt := 27) (by first | (exact hr _ _ (by decide)) | omega) (by first | (exact hr _ _ (by decide)) | omega) dX7_keep_6 (by decide) (fun h6 => ?_) (fun h6 => ?_)
    · exact z_vret dX7_keep_27 rfl
    · exfalso; omega
  · intro i hi y_ih
    refine z_rng fun hr => ?_
    refine z_iloadn dX7_keep_2 rfl ?_
    refine z_sipush dX7_keep_3 (by decide) ?_
    refine z_icmp_ge (tgt := 27) (by first | (exact hr _ _ (by decide)) | omega) (by first | (exact hr _ _ (by decide)) | omega) dX7_keep_6 (by decide) (fun h6 => ?_) (fun h6 => ?_)
    · exfalso; omega
    · refine z_aloadn dX7_keep_9 rfl ?_
      refine gX7_13 rfl dX7_keep_10 ?_
      refine z_iloadn dX7_keep_13 rfl ?_
      refine z_aloadn dX7_keep_14 rfl ?_
      refine gX7_7 rfl dX7_keep_15 ?_
      refine z_iloadn dX7_keep_18 rfl ?_
      refine z_iald (by rfl) (by first | decide | exact Or.inl ⟨by decide, hg⟩) (by omega) (by omega) (by decide) dX7_keep_19 ?_
      refine z_iast (by rfl) (by first | decide | exact Or.inl ⟨by decide, hg⟩) (by omega) (by omega) (by decide) (by first | (exact hr _ _ (by decide)) | omega) dX7_keep_20 ?_
      refine z_rng fun hr => ?_
      refine z_iinc_1 dX7_keep_21 (Nat.le_of_ble_eq_true rfl) rfl ?_
      refine z_goto (tgt := 2) dX7_keep_24 (by decide) ?_
      refine z_mem ?_ y_ih
      rw [z_sM_sR]
      congr 1
      refine z_cp_s _ _ _ _ i (by omega) ?_
      rw [z_sR_ne _ _ (by decide)]; congr 1; omega
theorem tX7_bring {G : z_G} {M : z_M} : KX7_bring G [.ref (z_ad G 0 40)] M (.inl none) (z_sR M 22 (z_cp (M 22) (M 23) 0 0 906)) := by
  refine z_con (ls := [some (.ref (z_ad G 0 40)), none]) (by decide +kernel) (Nat.le_of_ble_eq_true rfl) rfl ?_
  intro Z htb
  refine z_rng fun hr => ?_
  refine z_iconst dX7_bring_0 ?_
  refine z_istoren_1 dX7_bring_1 (Nat.le_of_ble_eq_true rfl) rfl ?_
  refine z_mem (M' := z_sR M 22 (z_cp (M 22) (M 23) 0 0 ((0 : Nat) : Int))) (by rw [show ((0 : Nat) : Int) = 0 from rfl, z_cp_0, z_sR_id]) ?_
  refine z_upn (P := fun i : Nat => z_J G Z _ _ 2 [some (.ref (z_ad G 0 40)), some (z_I i)] [] (z_sR M 22 (z_cp (M 22) (M 23) 0 0 i)) 0 0) 906 ?_ ?_
  · refine z_rng fun hr => ?_
    refine z_iloadn dX7_bring_2 rfl ?_
    refine z_sipush dX7_bring_3 (by decide) ?_
    refine z_icmp_ge (tgt := 27) (by first | (exact hr _ _ (by decide)) | omega) (by first | (exact hr _ _ (by decide)) | omega) dX7_bring_6 (by decide) (fun h6 => ?_) (fun h6 => ?_)
    · exact z_vret dX7_bring_27 rfl
    · exfalso; omega
  · intro i hi y_ih
    refine z_rng fun hr => ?_
    refine z_iloadn dX7_bring_2 rfl ?_
    refine z_sipush dX7_bring_3 (by decide) ?_
    refine z_icmp_ge (tgt := 27) (by first | (exact hr _ _ (by decide)) | omega) (by first | (exact hr _ _ (by decide)) | omega) dX7_bring_6 (by decide) (fun h6 => ?_) (fun h6 => ?_)
    · exfalso; omega
    · refine z_aloadn dX7_bring_9 rfl ?_
      refine gX7_7 rfl dX7_bring_10 ?_
      refine z_iloadn dX7_bring_13 rfl ?_
      refine z_aloadn dX7_bring_14 rfl ?_
      refine gX7_13 rfl dX7_bring_15 ?_
      refine z_iloadn dX7_bring_18 rfl ?_
      refine z_iald (by rfl) (by first | decide | exact Or.inl ⟨by decide, hg⟩) (by omega) (by omega) (by decide) dX7_bring_19 ?_
      refine z_iast (by rfl) (by first | decide | exact Or.inl ⟨by decide, hg⟩) (by omega) (by omega) (by decide) (by first | (exact hr _ _ (by decide)) | omega) dX7_bring_20 ?_
      refine z_rng fun hr => ?_
      refine z_iinc_1 dX7_bring_21 (Nat.le_of_ble_eq_true rfl) rfl ?_
      refine z_goto (tgt := 2) dX7_bring_24 (by decide) ?_
      refine z_mem ?_ y_ih
      rw [z_sM_sR]
      congr 1
      refine z_cp_s _ _ _ _ i (by omega) ?_
      rw [z_sR_ne _ _ (by decide)]; congr 1; omega
theorem tX7_of0 {G : z_G} {M : z_M} {p : Int} (h0 : 0 ≤ 14 + 6 * p) (h1 : 14 + 6 * p < 906) : KX7_of G [.ref (z_ad G 0 40), z_I p, z_I 0] M (.inl (some (z_I (M 22 (14 + 6 * p))))) M := by
  have h := tX7_of (G := G) (M := M) (p := p) (w := 0) (by omega) (by omega)
  rwa [Int.add_zero] at h
theorem tX7_in0 {G : z_G} {M : z_M} {p : Int} (h0 : 0 ≤ 86 + 5 * p) (h1 : 86 + 5 * p < 906) : KX7_in G [.ref (z_ad G 0 40), z_I p, z_I 0] M (.inl (some (z_I (M 22 (86 + 5 * p))))) M := by
  have h := tX7_in (G := G) (M := M) (p := p) (w := 0) (by omega) (by omega)
  rwa [Int.add_zero] at h
