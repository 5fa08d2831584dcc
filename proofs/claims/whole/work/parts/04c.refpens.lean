/-! ===== the reference: save, pens, orders ===== -/
theorem z_sR_sM (M : z_M) {a a' : Nat} (b : Int → Int) (i v : Int) (h : a ≠ a') : z_sR (z_sM M a' i v) a b = z_sM (z_sR M a b) a' i v := by
  rw [z_sM_R, z_sM_R, z_sR_ne _ _ (Ne.symm h), z_sR_comm _ _ _ h]
theorem tX7_save_l {G : z_G} {M : z_M} (h0 : 0 ≤ M 21 2) (h1 : M 21 2 < 6) : KX7_save G [.ref (z_ad G 0 40)] M (.inl none) (z_SV M) := by
  refine z_con (ls := [some (.ref (z_ad G 0 40)), none]) (by decide +kernel) (Nat.le_of_ble_eq_true rfl) rfl ?_
  intro Z htb
  refine z_rng fun hr => ?_
  have := hr 21 2 (by decide)
  refine z_aloadn dX7_save_0 rfl ?_
  refine gX7_48 rfl dX7_save_1 ?_
  refine z_bipush dX7_save_4 (by decide) ?_
  refine z_icmp_ne (tgt := 50) (by first | (exact hr _ _ (by decide)) | omega) (by first | (exact hr _ _ (by decide)) | omega) dX7_save_6 (by decide) (fun h6 => ?_) (fun h6 => ?_)
  · refine z_iconst dX7_save_50 ?_
    refine z_istoren_1 dX7_save_51 (Nat.le_of_ble_eq_true rfl) rfl ?_
    refine z_mem (M' := z_sR M 24 (z_cp (M 24) (M 22) (906 * M 21 2) 0 ((0 : Nat) : Int))) (by rw [show ((0 : Nat) : Int) = 0 from rfl, z_cp_0, z_sR_id]) ?_
    refine z_upn (P := fun i : Nat => z_J G Z _ _ 52 [some (.ref (z_ad G 0 40)), some (z_I i)] [] (z_sR M 24 (z_cp (M 24) (M 22) (906 * M 21 2) 0 i)) 0 0) 906 ?_ ?_
    · refine z_rng fun hr => ?_
      have y_21 : z_sR M 24 (z_cp (M 24) (M 22) (906 * M 21 2) 0 ((906 : Nat) : Int)) 21 = M 21 := z_sR_ne _ _ (by decide)
      refine z_iloadn dX7_save_52 rfl ?_
      refine z_sipush dX7_save_53 (by decide) ?_
      refine z_icmp_ge (tgt := 86) (by first | (exact hr _ _ (by decide)) | omega) (by first | (exact hr _ _ (by decide)) | omega) dX7_save_56 (by decide) (fun h56 => ?_) (fun h56 => ?_)
      · refine z_aloadn dX7_save_86 rfl ?_
        refine z_dup dX7_save_87 rfl ?_
        refine gX7_48 rfl dX7_save_88 ?_
        refine z_iconst dX7_save_91 ?_
        refine z_iadd dX7_save_92 ?_
        refine pX7_48 (by rw [y_21]; omega) rfl dX7_save_93 ?_
        refine z_rng fun hr => ?_
        exact z_vret dX7_save_96 (by unfold z_SV z_rows z_rn; rw [if_neg (by omega), if_neg (by omega), y_21]; rfl)
      · exfalso; omega
    · intro i hi y_ih
      refine z_rng fun hr => ?_
      have y_21 : z_sR M 24 (z_cp (M 24) (M 22) (906 * M 21 2) 0 i) 21 = M 21 := z_sR_ne _ _ (by decide)
      refine z_iloadn dX7_save_52 rfl ?_
      refine z_sipush dX7_save_53 (by decide) ?_
      refine z_icmp_ge (tgt := 86) (by first | (exact hr _ _ (by decide)) | omega) (by first | (exact hr _ _ (by decide)) | omega) dX7_save_56 (by decide) (fun h56 => ?_) (fun h56 => ?_)
      · exfalso; omega
      · refine z_aloadn dX7_save_59 rfl ?_
        refine gX7_16 rfl dX7_save_60 ?_
        refine z_sipush dX7_save_63 (by decide) ?_
        refine z_aloadn dX7_save_66 rfl ?_
        refine gX7_48 rfl dX7_save_67 ?_
        refine z_imul dX7_save_70 ?_
        refine z_iloadn dX7_save_71 rfl ?_
        refine z_iadd dX7_save_72 ?_
        refine z_aloadn dX7_save_73 rfl ?_
        refine gX7_7 rfl dX7_save_74 ?_
        refine z_iloadn dX7_save_77 rfl ?_
        refine z_iald (by rfl) (by first | decide | exact Or.inl ⟨by decide, hg⟩) (by omega) (by omega) (by decide) dX7_save_78 ?_
        refine z_iast (by rfl) (by first | decide | exact Or.inl ⟨by decide, hg⟩) (by rw [y_21]; omega) (by rw [y_21]; omega) (by decide) (by first | (exact hr _ _ (by decide)) | omega) dX7_save_79 ?_
        refine z_rng fun hr => ?_
        refine z_iinc_1 dX7_save_80 (Nat.le_of_ble_eq_true rfl) rfl ?_
        refine z_goto (tgt := 52) dX7_save_83 (by decide) ?_
        refine z_mem ?_ y_ih
        rw [z_sM_sR]
        congr 1
        refine z_cp_s _ _ _ _ i (by rw [y_21]) ?_
        rw [z_sR_ne _ _ (by decide)]; congr 1; omega
  · exfalso; omega
theorem tX7_save_6 {G : z_G} {M : z_M} (h1 : M 21 2 = 6) : KX7_save G [.ref (z_ad G 0 40)] M (.inl none) (z_SV M) := by
  refine z_con (ls := [some (.ref (z_ad G 0 40)), none]) (by decide +kernel) (Nat.le_of_ble_eq_true rfl) rfl ?_
  intro Z htb
  refine z_rng fun hr => ?_
  have := hr 21 2 (by decide)
  refine z_aloadn dX7_save_0 rfl ?_
  refine gX7_48 rfl dX7_save_1 ?_
  refine z_bipush dX7_save_4 (by decide) ?_
  refine z_icmp_ne (tgt := 50) (by first | (exact hr _ _ (by decide)) | omega) (by first | (exact hr _ _ (by decide)) | omega) dX7_save_6 (by decide) (fun h6 => ?_) (fun h6 => ?_)
  · exfalso; omega
  · refine z_iconst dX7_save_9 ?_
    refine z_istoren_1 dX7_save_10 (Nat.le_of_ble_eq_true rfl) rfl ?_
    refine z_mem (M' := z_sR M 24 (z_cp (M 24) (M 24) 0 906 ((0 : Nat) : Int))) (by rw [show ((0 : Nat) : Int) = 0 from rfl, z_cp_0, z_sR_id]) ?_
    refine z_upn (P := fun i : Nat => z_J G Z _ _ 11 [some (.ref (z_ad G 0 40)), some (z_I i)] [] (z_sR M 24 (z_cp (M 24) (M 24) 0 906 i)) 0 0) 4530 ?_ ?_
    · refine z_rng fun hr => ?_
      have y_21 : z_sR M 24 (z_cp (M 24) (M 24) 0 906 ((4530 : Nat) : Int)) 21 = M 21 := z_sR_ne _ _ (by decide)
      refine z_iloadn dX7_save_11 rfl ?_
      refine z_sipush dX7_save_12 (by decide) ?_
      refine z_icmp_ge (tgt := 40) (by first | (exact hr _ _ (by decide)) | omega) (by first | (exact hr _ _ (by decide)) | omega) dX7_save_15 (by decide) (fun h15 => ?_) (fun h15 => ?_)
      · refine z_aloadn dX7_save_40 rfl ?_
        refine z_dup dX7_save_41 rfl ?_
        refine gX7_48 rfl dX7_save_42 ?_
        refine z_iconst dX7_save_45 ?_
        refine z_isub dX7_save_46 ?_
        refine pX7_48 (by rw [y_21]; omega) rfl dX7_save_47 ?_
        refine z_rng fun hr => ?_
        generalize hM2 : z_sM (z_sR M 24 (z_cp (M 24) (M 24) 0 906 ((4530 : Nat) : Int))) 21 2 (z_sR M 24 (z_cp (M 24) (M 24) 0 906 ((4530 : Nat) : Int)) 21 2 - 1) = M2
        have y_1 : M2 21 2 = 5 := by rw [← hM2, z_sM_self, y_21]; omega
        have y_2 : M2 22 = M 22 := by rw [← hM2, z_sM_row _ _ _ (by decide), z_sR_ne _ _ (by decide)]
        have y_3 : M2 24 = z_cp (M 24) (M 24) 0 906 ((4530 : Nat) : Int) := by rw [← hM2, z_sM_row _ _ _ (by decide), z_sR_self]
        refine z_iconst dX7_save_50 ?_
        refine z_istoren_1 dX7_save_51 (Nat.le_of_ble_eq_true rfl) rfl ?_
        refine z_mem (M' := z_sR M2 24 (z_cp (M2 24) (M2 22) (906 * 5) 0 ((0 : Nat) : Int))) (by rw [show ((0 : Nat) : Int) = 0 from rfl, z_cp_0, z_sR_id]) ?_
        refine z_upn (P := fun i : Nat => z_J G Z _ _ 52 [some (.ref (z_ad G 0 40)), some (z_I i)] [] (z_sR M2 24 (z_cp (M2 24) (M2 22) (906 * 5) 0 i)) 0 0) 906 ?_ ?_
        · refine z_rng fun hr => ?_
          have y_22 : z_sR M2 24 (z_cp (M2 24) (M2 22) (906 * 5) 0 ((906 : Nat) : Int)) 21 2 = 5 := by rw [z_sR_ne _ _ (by decide)]; exact y_1
          refine z_iloadn dX7_save_52 rfl ?_
          refine z_sipush dX7_save_53 (by decide) ?_
          refine z_icmp_ge (tgt := 86) (by first | (exact hr _ _ (by decide)) | omega) (by first | (exact hr _ _ (by decide)) | omega) dX7_save_56 (by decide) (fun h56 => ?_) (fun h56 => ?_)
          · refine z_aloadn dX7_save_86 rfl ?_
            refine z_dup dX7_save_87 rfl ?_
            refine gX7_48 rfl dX7_save_88 ?_
            refine z_iconst dX7_save_91 ?_
            refine z_iadd dX7_save_92 ?_
            refine pX7_48 (by rw [y_22]; omega) rfl dX7_save_93 ?_
            refine z_rng fun hr => ?_
            exact z_vret dX7_save_96 (by unfold z_SV z_rows z_rn; rw [if_pos h1, if_pos h1, y_22, y_2, y_3, ← hM2, z_sR_sM _ _ _ _ (by decide), z_sM_sM, z_sR_R]; rfl)
          · exfalso; omega
        · intro i hi y_ih
          refine z_rng fun hr => ?_
          have y_22 : z_sR M2 24 (z_cp (M2 24) (M2 22) (906 * 5) 0 i) 21 2 = 5 := by rw [z_sR_ne _ _ (by decide)]; exact y_1
          refine z_iloadn dX7_save_52 rfl ?_
          refine z_sipush dX7_save_53 (by decide) ?_
          refine z_icmp_ge (tgt := 86) (by first | (exact hr _ _ (by decide)) | omega) (by first | (exact hr _ _ (by decide)) | omega) dX7_save_56 (by decide) (fun h56 => ?_) (fun h56 => ?_)
          · exfalso; omega
          · refine z_aloadn dX7_save_59 rfl ?_
            refine gX7_16 rfl dX7_save_60 ?_
            refine z_sipush dX7_save_63 (by decide) ?_
            refine z_aloadn dX7_save_66 rfl ?_
            refine gX7_48 rfl dX7_save_67 ?_
            refine z_imul dX7_save_70 ?_
            refine z_iloadn dX7_save_71 rfl ?_
            refine z_iadd dX7_save_72 ?_
            refine z_aloadn dX7_save_73 rfl ?_
            refine gX7_7 rfl dX7_save_74 ?_
            refine z_iloadn dX7_save_77 rfl ?_
            refine z_iald (by rfl) (by first | decide | exact Or.inl ⟨by decide, hg⟩) (by omega) (by omega) (by decide) dX7_save_78 ?_
            refine z_iast (by rfl) (by first | decide | exact Or.inl ⟨by decide, hg⟩) (by rw [y_22]; omega) (by rw [y_22]; omega) (by decide) (by first | (exact hr _ _ (by decide)) | omega) dX7_save_79 ?_
            refine z_rng fun hr => ?_
            refine z_iinc_1 dX7_save_80 (Nat.le_of_ble_eq_true rfl) rfl ?_
            refine z_goto (tgt := 52) dX7_save_83 (by decide) ?_
            refine z_mem ?_ y_ih
            rw [z_sM_sR]
            congr 1
            refine z_cp_s _ _ _ _ i (by rw [y_22]) ?_
            rw [z_sR_ne _ _ (by decide)]; congr 1; omega
      · exfalso; omega
    · intro i hi y_ih
      refine z_rng fun hr => ?_
      refine z_iloadn dX7_save_11 rfl ?_
      refine z_sipush dX7_save_12 (by decide) ?_
      refine z_icmp_ge (tgt := 40) (by first | (exact hr _ _ (by decide)) | omega) (by first | (exact hr _ _ (by decide)) | omega) dX7_save_15 (by decide) (fun h15 => ?_) (fun h15 => ?_)
      · exfalso; omega
      · refine z_aloadn dX7_save_18 rfl ?_
        refine gX7_16 rfl dX7_save_19 ?_
        refine z_iloadn dX7_save_22 rfl ?_
        refine z_aloadn dX7_save_23 rfl ?_
        refine gX7_16 rfl dX7_save_24 ?_
        refine z_sipush dX7_save_27 (by decide) ?_
        refine z_iloadn dX7_save_30 rfl ?_
        refine z_iadd dX7_save_31 ?_
        refine z_iald (by rfl) (by first | decide | exact Or.inl ⟨by decide, hg⟩) (by omega) (by omega) (by decide) dX7_save_32 ?_
        refine z_iast (by rfl) (by first | decide | exact Or.inl ⟨by decide, hg⟩) (by omega) (by omega) (by decide) (by first | (exact hr _ _ (by decide)) | omega) dX7_save_33 ?_
        refine z_rng fun hr => ?_
        refine z_iinc_1 dX7_save_34 (Nat.le_of_ble_eq_true rfl) rfl ?_
        refine z_goto (tgt := 11) dX7_save_37 (by decide) ?_
        refine z_mem ?_ y_ih
        rw [z_sM_sR]
        congr 1
        refine z_cp_s _ _ _ _ i (by omega) ?_
        rw [z_sR_self]
        unfold z_cp
        rw [if_neg (by omega)]
theorem tX7_save {G : z_G} {M : z_M} (h0 : 0 ≤ M 21 2) (h1 : M 21 2 ≤ 6) : KX7_save G [.ref (z_ad G 0 40)] M (.inl none) (z_SV M) := by
  by_cases h : M 21 2 = 6
  · exact tX7_save_6 h
  · exact tX7_save_l h0 (by omega)
theorem tX7_addPen {G : z_G} {M : z_M} {N c : Int} (hb : z_BI (M 22) N) (hs0 : 0 ≤ M 21 2) (hs1 : M 21 2 ≤ 6) (hc : z_c_addPen (M 22) = c) : KX7_addPen G [.ref (z_ad G 0 40)] M (.inl (some (z_I (if c = 0 then M 22 0 else 0)))) (if c = 0 then z_sR (z_SV (z_sM M 21 4 0)) 22 (z_o_addPen (M 22)) else z_sM M 21 4 c) := by
  refine z_con (ls := [some (.ref (z_ad G 0 40))]) (by decide +kernel) (Nat.le_of_ble_eq_true rfl) rfl ?_
  intro Z htb
  refine z_rng fun hr => ?_
  refine z_aloadn dX7_addPen_0 rfl ?_
  refine z_iconst dX7_addPen_1 ?_
  refine pX7_40 (by first | (exact hr _ _ (by decide)) | omega) rfl dX7_addPen_2 ?_
  refine z_rng fun hr => ?_
  generalize hM0 : z_sM M 21 4 0 = M0
  have hz : M0 22 = M 22 := by rw [← hM0]; exact z_sM_row _ _ _ (by decide)
  have hz2 : M0 21 2 = M 21 2 := by rw [← hM0]; exact z_sM_ne _ _ _ (by decide)
  rw [hM0] at hr
  rw [← hz] at hb hc
  rw [← hz2] at hs0 hs1
  have hh := z_BI_h hb
  refine z_aloadn dX7_addPen_5 rfl ?_
  refine gX7_7 rfl dX7_addPen_6 ?_
  refine z_iconst dX7_addPen_9 ?_
  refine z_iald (by rfl) (by first | decide | exact Or.inl ⟨by decide, hg⟩) (by omega) (by omega) (by decide) dX7_addPen_10 ?_
  refine z_bipush dX7_addPen_11 (by decide) ?_
  refine z_icmp_ne (tgt := 22) (by first | (exact hr _ _ (by decide)) | omega) (by first | (exact hr _ _ (by decide)) | omega) dX7_addPen_13 (by decide) (fun h13 => ?_) (fun h13 => ?_)
  · refine z_aloadn dX7_addPen_22 rfl ?_
    refine kX7_58 (tX7_save hs0 hs1) rfl ⟨(Nat.le_of_ble_eq_true rfl), (Nat.le_of_ble_eq_true rfl)⟩ (Nat.le_of_ble_eq_true rfl) dX7_addPen_23 ?_
    refine z_rng fun hr => ?_
    generalize hM1 : z_SV M0 = M1
    have hz1 : M1 22 = M0 22 := by rw [← hM1]; exact z_SV_row (by decide) (by decide)
    obtain rfl : c = 0 := by rw [← hc]; unfold z_c_addPen; (repeat' split) <;> omega
    have hq := hz1.trans hz
    rw [hM1] at hr
    rw [← hz1] at hb hc
    have hh := z_BI_h hb
    try rw [← hz1] at h13
    refine z_aloadn dX7_addPen_26 rfl ?_
    refine gX7_7 rfl dX7_addPen_27 ?_
    refine z_bipush dX7_addPen_30 (by decide) ?_
    refine z_bipush dX7_addPen_32 (by decide) ?_
    refine z_aloadn dX7_addPen_34 rfl ?_
    refine gX7_7 rfl dX7_addPen_35 ?_
    refine z_iconst dX7_addPen_38 ?_
    refine z_iald (by rfl) (by first | decide | exact Or.inl ⟨by decide, hg⟩) (by omega) (by omega) (by decide) dX7_addPen_39 ?_
    refine z_imul dX7_addPen_40 ?_
    refine z_iadd dX7_addPen_41 ?_
    refine z_iconst dX7_addPen_42 ?_
    refine z_iadd dX7_addPen_43 ?_
    refine z_aloadn dX7_addPen_44 rfl ?_
    refine gX7_7 rfl dX7_addPen_45 ?_
    refine z_iconst dX7_addPen_48 ?_
    refine z_iald (by rfl) (by first | decide | exact Or.inl ⟨by decide, hg⟩) (by omega) (by omega) (by decide) dX7_addPen_49 ?_
    refine z_iast (by rfl) (by first | decide | exact Or.inl ⟨by decide, hg⟩) (by omega) (by omega) (by decide) (by first | (exact hr _ _ (by decide)) | omega) dX7_addPen_50 ?_
    refine z_rng fun hr => ?_
    refine z_aloadn dX7_addPen_51 rfl ?_
    refine gX7_7 rfl dX7_addPen_52 ?_
    refine z_iconst dX7_addPen_55 ?_
    refine z_dup2 dX7_addPen_56 rfl rfl ?_
    refine z_iald (by rfl) (by first | decide | exact Or.inl ⟨by decide, hg⟩) (by omega) (by omega) (by decide) dX7_addPen_57 ?_
    refine z_top (v' := M1 22 0) (z_sM_ne _ _ _ (by omega)) ?_
    refine z_iconst dX7_addPen_58 ?_
    refine z_iadd dX7_addPen_59 ?_
    refine z_iast (by rfl) (by first | decide | exact Or.inl ⟨by decide, hg⟩) (by omega) (by omega) (by decide) (by first | (exact hr _ _ (by decide)) | omega) dX7_addPen_60 ?_
    refine z_rng fun hr => ?_
    refine z_aloadn dX7_addPen_61 rfl ?_
    refine gX7_7 rfl dX7_addPen_62 ?_
    refine z_iconst dX7_addPen_65 ?_
    refine z_iald (by rfl) (by first | decide | exact Or.inl ⟨by decide, hg⟩) (by omega) (by omega) (by decide) dX7_addPen_66 ?_
    refine z_top (v' := M1 22 0 + 1) (z_sM_self _ _ _ _) ?_
    refine z_iconst dX7_addPen_67 ?_
    refine z_isub dX7_addPen_68 ?_
    exact z_iret dX7_addPen_69 (by rw [if_pos rfl, ← hq]; omega) (by rw [if_pos rfl, ← hq]; simp only [z_sM_R, z_sR_R, z_sR_self]; first | rfl | (congr 1; unfold z_o_addPen; funext j; simp only [z_uf]; (repeat' split) <;> first | rfl | omega))
  · refine z_aloadn dX7_addPen_16 rfl ?_
    refine z_iconst dX7_addPen_17 ?_
    refine kX7_55 (tX7_fails (by first | decide | omega)) rfl ⟨(Nat.le_of_ble_eq_true rfl), (Nat.le_of_ble_eq_true rfl)⟩ (Nat.le_of_ble_eq_true rfl) dX7_addPen_18 ?_
    refine z_rng fun hr => ?_
    obtain rfl : c = 1 := by rw [← hc]; unfold z_c_addPen; (repeat' split) <;> omega
    exact z_iret dX7_addPen_21 (if_neg (by decide)).symm (by rw [if_neg (by decide), ← hM0, z_sM_sM])
theorem tX7_sold {G : z_G} {M : z_M} {x t p : Int} (x0 : 0 ≤ x) (x1 : x < 12) (t0 : 0 ≤ t) (t1 : t < 12) (o0 : 0 ≤ M 22 (14 + 6 * x + 3)) (o1 : M 22 (14 + 6 * x + 3) < 12) (ne : M 22 (14 + 6 * x + 3) ≠ t) (rp : z_rg p) (g1 : z_rg (M 22 (14 + 6 * t) - p)) (g2 : z_rg (M 22 (14 + 6 * M 22 (14 + 6 * x + 3)) + p)) : KX7_sold G [.ref (z_ad G 0 40), z_I x, z_I t, z_I p] M (.inl (some (z_I (M 22 (14 + 6 * x + 3))))) (z_sR M 22 (z_sold (M 22) x t p)) := by
  refine z_con (ls := [some (.ref (z_ad G 0 40)), some (z_I x), some (z_I t), some (z_I p), none]) (by decide +kernel) (Nat.le_of_ble_eq_true rfl) rfl ?_
  intro Z htb
  refine z_rng fun hr => ?_
  refine z_aloadn dX7_sold_0 rfl ?_
  refine z_iloadn dX7_sold_1 rfl ?_
  refine z_iconst dX7_sold_2 ?_
  refine kX7_61 (tX7_of (by omega) (by omega)) rfl ⟨(Nat.le_of_ble_eq_true rfl), (Nat.le_of_ble_eq_true rfl)⟩ (Nat.le_of_ble_eq_true rfl) dX7_sold_3 ?_
  refine z_istore_4 dX7_sold_6 (Nat.le_of_ble_eq_true rfl) rfl ?_
  refine z_aloadn dX7_sold_8 rfl ?_
  refine gX7_7 rfl dX7_sold_9 ?_
  refine z_bipush dX7_sold_12 (by decide) ?_
  refine z_bipush dX7_sold_14 (by decide) ?_
  refine z_iloadn dX7_sold_16 rfl ?_
  refine z_imul dX7_sold_17 ?_
  refine z_iadd dX7_sold_18 ?_
  refine z_dup2 dX7_sold_19 rfl rfl ?_
  refine z_iald (by rfl) (by first | decide | exact Or.inl ⟨by decide, hg⟩) (by omega) (by omega) (by decide) dX7_sold_20 ?_
  refine z_iloadn dX7_sold_21 rfl ?_
  refine z_isub dX7_sold_22 ?_
  refine z_iast (by rfl) (by first | decide | exact Or.inl ⟨by decide, hg⟩) (by omega) (by omega) (by decide) (by first | (exact hr _ _ (by decide)) | omega) dX7_sold_23 ?_
  refine z_rng fun hr => ?_
  refine z_aloadn dX7_sold_24 rfl ?_
  refine gX7_7 rfl dX7_sold_25 ?_
  refine z_bipush dX7_sold_28 (by decide) ?_
  refine z_bipush dX7_sold_30 (by decide) ?_
  refine z_iload dX7_sold_32 rfl ?_
  refine z_imul dX7_sold_34 ?_
  refine z_iadd dX7_sold_35 ?_
  refine z_dup2 dX7_sold_36 rfl rfl ?_
  refine z_iald (by rfl) (by first | decide | exact Or.inl ⟨by decide, hg⟩) (by omega) (by omega) (by decide) dX7_sold_37 ?_
  refine z_top (v' := M 22 (14 + 6 * M 22 (14 + 6 * x + 3))) (z_sM_ne _ _ _ (by omega)) ?_
  refine z_iloadn dX7_sold_38 rfl ?_
  refine z_iadd dX7_sold_39 ?_
  refine z_iast (by rfl) (by first | decide | exact Or.inl ⟨by decide, hg⟩) (by omega) (by omega) (by decide) (by first | (exact hr _ _ (by decide)) | omega) dX7_sold_40 ?_
  refine z_rng fun hr => ?_
  refine z_aloadn dX7_sold_41 rfl ?_
  refine gX7_7 rfl dX7_sold_42 ?_
  refine z_bipush dX7_sold_45 (by decide) ?_
  refine z_bipush dX7_sold_47 (by decide) ?_
  refine z_iloadn dX7_sold_49 rfl ?_
  refine z_imul dX7_sold_50 ?_
  refine z_iadd dX7_sold_51 ?_
  refine z_iconst dX7_sold_52 ?_
  refine z_iadd dX7_sold_53 ?_
  refine z_iloadn dX7_sold_54 rfl ?_
  refine z_iast (by rfl) (by first | decide | exact Or.inl ⟨by decide, hg⟩) (by omega) (by omega) (by decide) (by first | (exact hr _ _ (by decide)) | omega) dX7_sold_55 ?_
  refine z_rng fun hr => ?_
  refine z_aloadn dX7_sold_56 rfl ?_
  refine gX7_7 rfl dX7_sold_57 ?_
  refine z_bipush dX7_sold_60 (by decide) ?_
  refine z_bipush dX7_sold_62 (by decide) ?_
  refine z_iloadn dX7_sold_64 rfl ?_
  refine z_imul dX7_sold_65 ?_
  refine z_iadd dX7_sold_66 ?_
  refine z_iconst dX7_sold_67 ?_
  refine z_iadd dX7_sold_68 ?_
  refine z_iloadn dX7_sold_69 rfl ?_
  refine z_iast (by rfl) (by first | decide | exact Or.inl ⟨by decide, hg⟩) (by omega) (by omega) (by decide) (by first | (exact hr _ _ (by decide)) | omega) dX7_sold_70 ?_
  refine z_rng fun hr => ?_
  refine z_iload dX7_sold_71 rfl ?_
  exact z_iret dX7_sold_73 (by first | rfl | omega) (by simp only [z_sM_R, z_sR_R, z_sR_self]; congr 1; unfold z_sold; funext j; simp only [z_uf]; (repeat' split) <;> first | rfl | omega)
theorem tX7_sell {G : z_G} {M : z_M} {N c x t p : Int} (hb : z_BI (M 22) N) (hs0 : 0 ≤ M 21 2) (hs1 : M 21 2 ≤ 6) (rx : z_rg x) (rt : z_rg t) (rp : z_rg p) (hc : z_c_sell (M 22) x t p = c) : KX7_sell G [.ref (z_ad G 0 40), z_I x, z_I t, z_I p] M (.inl (some (z_I (if c = 0 then M 22 (14 + 6 * x + 3) else 0)))) (if c = 0 then z_sR (z_SV (z_sM M 21 4 0)) 22 (z_sold (M 22) x t p) else z_sM M 21 4 c) := by
  refine z_con (ls := [some (.ref (z_ad G 0 40)), some (z_I x), some (z_I t), some (z_I p)]) (by decide +kernel) (Nat.le_of_ble_eq_true rfl) rfl ?_
  intro Z htb
  refine z_rng fun hr => ?_
  refine z_aloadn dX7_sell_0 rfl ?_
  refine z_iconst dX7_sell_1 ?_
  refine pX7_40 (by first | (exact hr _ _ (by decide)) | omega) rfl dX7_sell_2 ?_
  refine z_rng fun hr => ?_
  generalize hM0 : z_sM M 21 4 0 = M0
  have hz : M0 22 = M 22 := by rw [← hM0]; exact z_sM_row _ _ _ (by decide)
  have hz2 : M0 21 2 = M 21 2 := by rw [← hM0]; exact z_sM_ne _ _ _ (by decide)
  rw [hM0] at hr
  rw [← hz] at hb hc
  rw [← hz2] at hs0 hs1
  have hh := z_BI_h hb
  refine z_aloadn dX7_sell_5 rfl ?_
  refine z_iloadn dX7_sell_6 rfl ?_
  refine kX7_65 (tX7_isPen (by first | (exact hr _ _ (by decide)) | omega) (by first | assumption | omega)) rfl ⟨(Nat.le_of_ble_eq_true rfl), (Nat.le_of_ble_eq_true rfl)⟩ (Nat.le_of_ble_eq_true rfl) dX7_sell_7 ?_
  refine z_ifb_eq (tgt := 21) dX7_sell_10 (by decide) (fun h10 => ?_) (fun h10 => ?_)
  · refine z_aloadn dX7_sell_21 rfl ?_
    refine z_iconst dX7_sell_22 ?_
    refine kX7_55 (tX7_fails (by first | decide | omega)) rfl ⟨(Nat.le_of_ble_eq_true rfl), (Nat.le_of_ble_eq_true rfl)⟩ (Nat.le_of_ble_eq_true rfl) dX7_sell_23 ?_
    refine z_rng fun hr => ?_
    obtain rfl : c = 1 := by rw [← hc]; unfold z_c_sell; (repeat' split) <;> omega
    exact z_iret dX7_sell_26 (if_neg (by decide)).symm (by rw [if_neg (by decide), ← hM0, z_sM_sM])
  · refine z_aloadn dX7_sell_13 rfl ?_
    refine z_iloadn dX7_sell_14 rfl ?_
    refine kX7_65 (tX7_isPen (by first | (exact hr _ _ (by decide)) | omega) (by first | assumption | omega)) rfl ⟨(Nat.le_of_ble_eq_true rfl), (Nat.le_of_ble_eq_true rfl)⟩ (Nat.le_of_ble_eq_true rfl) dX7_sell_15 ?_
    refine z_ifb_ne (tgt := 27) dX7_sell_18 (by decide) (fun h18 => ?_) (fun h18 => ?_)
    · refine z_iloadn dX7_sell_27 rfl ?_
      refine z_iconst dX7_sell_28 ?_
      refine z_ldc (i := 100000) wk_X7_69 dX7_sell_29 ?_
      refine kX7_44 (tX7_within (by first | (exact hr _ _ (by decide)) | omega) (by first | (exact hr _ _ (by decide)) | omega) (by first | (exact hr _ _ (by decide)) | omega)) rfl ⟨(Nat.le_of_ble_eq_true rfl), (Nat.le_of_ble_eq_true rfl)⟩ (Nat.le_of_ble_eq_true rfl) dX7_sell_31 ?_
      refine z_ifb_eq (tgt := 47) dX7_sell_34 (by decide) (fun h34 => ?_) (fun h34 => ?_)
      · refine z_aloadn dX7_sell_47 rfl ?_
        refine z_iconst dX7_sell_48 ?_
        refine kX7_55 (tX7_fails (by first | decide | omega)) rfl ⟨(Nat.le_of_ble_eq_true rfl), (Nat.le_of_ble_eq_true rfl)⟩ (Nat.le_of_ble_eq_true rfl) dX7_sell_49 ?_
        refine z_rng fun hr => ?_
        obtain rfl : c = 2 := by rw [← hc]; unfold z_c_sell; (repeat' split) <;> omega
        exact z_iret dX7_sell_52 (if_neg (by decide)).symm (by rw [if_neg (by decide), ← hM0, z_sM_sM])
      · have y_x := z_BI_P hb x (by omega) (by omega)
        unfold z_PI at y_x
        refine z_aloadn dX7_sell_37 rfl ?_
        refine z_iloadn dX7_sell_38 rfl ?_
        refine z_iconst dX7_sell_39 ?_
        refine kX7_61 (tX7_of (by omega) (by omega)) rfl ⟨(Nat.le_of_ble_eq_true rfl), (Nat.le_of_ble_eq_true rfl)⟩ (Nat.le_of_ble_eq_true rfl) dX7_sell_40 ?_
        refine z_iloadn dX7_sell_43 rfl ?_
        refine z_icmp_ne (tgt := 53) (by first | (exact hr _ _ (by decide)) | omega) (by first | (exact hr _ _ (by decide)) | omega) dX7_sell_44 (by decide) (fun h44 => ?_) (fun h44 => ?_)
        · refine z_aloadn dX7_sell_53 rfl ?_
          refine z_iloadn dX7_sell_54 rfl ?_
          refine z_iconst dX7_sell_55 ?_
          refine kX7_61 (tX7_of0 (by omega) (by omega)) rfl ⟨(Nat.le_of_ble_eq_true rfl), (Nat.le_of_ble_eq_true rfl)⟩ (Nat.le_of_ble_eq_true rfl) dX7_sell_56 ?_
          refine z_iloadn dX7_sell_59 rfl ?_
          refine z_icmp_ge (tgt := 69) (by first | (exact hr _ _ (by decide)) | omega) (by first | (exact hr _ _ (by decide)) | omega) dX7_sell_60 (by decide) (fun h60 => ?_) (fun h60 => ?_)
          · refine z_aloadn dX7_sell_69 rfl ?_
            refine kX7_58 (tX7_save hs0 hs1) rfl ⟨(Nat.le_of_ble_eq_true rfl), (Nat.le_of_ble_eq_true rfl)⟩ (Nat.le_of_ble_eq_true rfl) dX7_sell_70 ?_
            refine z_rng fun hr => ?_
            generalize hM1 : z_SV M0 = M1
            have hz1 : M1 22 = M0 22 := by rw [← hM1]; exact z_SV_row (by decide) (by decide)
            obtain rfl : c = 0 := by rw [← hc]; unfold z_c_sell; (repeat' split) <;> omega
            have hq := hz1.trans hz
            rw [hM1] at hr
            rw [← hz1] at hb hc
            have hh := z_BI_h hb
            try rw [← hz1] at h10
            try rw [← hz1] at h18
            try rw [← hz1] at h34
            try rw [← hz1] at h44
            try rw [← hz1] at h60
            have y_x := z_BI_P hb x (by omega) (by omega)
            have y_t := z_BI_bal hb (p := t) (by omega) (by omega)
            unfold z_PI at y_x
            have y_2 := z_BI_bal2 hb (p := M1 22 (14 + 6 * x + 3)) (q := t) (by omega) (by omega) (by omega) (by omega) (by omega)
            have y_3 := z_BI_bal hb (p := M1 22 (14 + 6 * x + 3)) (by omega) (by omega)
            refine z_aloadn dX7_sell_73 rfl ?_
            refine z_iloadn dX7_sell_74 rfl ?_
            refine z_iloadn dX7_sell_75 rfl ?_
            refine z_iloadn dX7_sell_76 rfl ?_
            refine kX7_70 (tX7_sold (by omega) (by omega) (by omega) (by omega) (by omega) (by omega) (by omega) (by omega) (by omega) (by omega)) rfl ⟨(Nat.le_of_ble_eq_true rfl), (Nat.le_of_ble_eq_true rfl)⟩ (Nat.le_of_ble_eq_true rfl) dX7_sell_77 ?_
            refine z_rng fun hr => ?_
            exact z_iret dX7_sell_80 (by rw [if_pos rfl, ← hq]) (by rw [if_pos rfl, ← hq])
          · refine z_aloadn dX7_sell_63 rfl ?_
            refine z_iconst dX7_sell_64 ?_
            refine kX7_55 (tX7_fails (by first | decide | omega)) rfl ⟨(Nat.le_of_ble_eq_true rfl), (Nat.le_of_ble_eq_true rfl)⟩ (Nat.le_of_ble_eq_true rfl) dX7_sell_65 ?_
            refine z_rng fun hr => ?_
            obtain rfl : c = 3 := by rw [← hc]; unfold z_c_sell; (repeat' split) <;> omega
            exact z_iret dX7_sell_68 (if_neg (by decide)).symm (by rw [if_neg (by decide), ← hM0, z_sM_sM])
        · refine z_aloadn dX7_sell_47 rfl ?_
          refine z_iconst dX7_sell_48 ?_
          refine kX7_55 (tX7_fails (by first | decide | omega)) rfl ⟨(Nat.le_of_ble_eq_true rfl), (Nat.le_of_ble_eq_true rfl)⟩ (Nat.le_of_ble_eq_true rfl) dX7_sell_49 ?_
          refine z_rng fun hr => ?_
          obtain rfl : c = 2 := by rw [← hc]; unfold z_c_sell; (repeat' split) <;> omega
          exact z_iret dX7_sell_52 (if_neg (by decide)).symm (by rw [if_neg (by decide), ← hM0, z_sM_sM])
    · refine z_aloadn dX7_sell_21 rfl ?_
      refine z_iconst dX7_sell_22 ?_
      refine kX7_55 (tX7_fails (by first | decide | omega)) rfl ⟨(Nat.le_of_ble_eq_true rfl), (Nat.le_of_ble_eq_true rfl)⟩ (Nat.le_of_ble_eq_true rfl) dX7_sell_23 ?_
      refine z_rng fun hr => ?_
      obtain rfl : c = 1 := by rw [← hc]; unfold z_c_sell; (repeat' split) <;> omega
      exact z_iret dX7_sell_26 (if_neg (by decide)).symm (by rw [if_neg (by decide), ← hM0, z_sM_sM])
