/-! ===== the reference: nextYear, order, draft, revise ===== -/
theorem tX7_nextYear {G : z_G} {M : z_M} {N : Int} (hb : z_BI (M 22) N) (hs0 : 0 ≤ M 21 2) (hs1 : M 21 2 ≤ 6) : KX7_nextYear G [.ref (z_ad G 0 40)] M (.inl (some (z_I (M 22 2 + 1)))) (z_sR (z_SV (z_sM M 21 4 0)) 22 (z_o_nextYear (M 22))) := by
  refine z_con (ls := [some (.ref (z_ad G 0 40)), none]) (by decide +kernel) (Nat.le_of_ble_eq_true rfl) rfl ?_
  intro Z htb
  refine z_rng fun hr => ?_
  refine z_aloadn dX7_nextYear_0 rfl ?_
  refine z_iconst dX7_nextYear_1 ?_
  refine pX7_40 (by first | (exact hr _ _ (by decide)) | omega) rfl dX7_nextYear_2 ?_
  refine z_rng fun hr => ?_
  generalize hM0 : z_sM M 21 4 0 = M0
  have hz : M0 22 = M 22 := by rw [← hM0]; exact z_sM_row _ _ _ (by decide)
  have hz2 : M0 21 2 = M 21 2 := by rw [← hM0]; exact z_sM_ne _ _ _ (by decide)
  rw [hM0] at hr
  rw [← hz] at hb
  rw [← hz2] at hs0 hs1
  have hh := z_BI_h hb
  refine z_aloadn dX7_nextYear_5 rfl ?_
  refine kX7_58 (tX7_save hs0 hs1) rfl ⟨(Nat.le_of_ble_eq_true rfl), (Nat.le_of_ble_eq_true rfl)⟩ (Nat.le_of_ble_eq_true rfl) dX7_nextYear_6 ?_
  refine z_rng fun hr => ?_
  generalize hM1 : z_SV M0 = M1
  have hz1 : M1 22 = M0 22 := by rw [← hM1]; exact z_SV_row (by decide) (by decide)
  have hq := hz1.trans hz
  rw [hM1] at hr
  rw [← hz1] at hb
  have hh := z_BI_h hb
  refine z_aloadn dX7_nextYear_9 rfl ?_
  refine gX7_7 rfl dX7_nextYear_10 ?_
  refine z_iconst dX7_nextYear_13 ?_
  refine z_dup2 dX7_nextYear_14 rfl rfl ?_
  refine z_iald (by rfl) (by first | decide | exact Or.inl ⟨by decide, hg⟩) (by omega) (by omega) (by decide) dX7_nextYear_15 ?_
  refine z_iconst dX7_nextYear_16 ?_
  refine z_iadd dX7_nextYear_17 ?_
  refine z_iast (by rfl) (by first | decide | exact Or.inl ⟨by decide, hg⟩) (by omega) (by omega) (by decide) (by first | (exact hr _ _ (by decide)) | omega) dX7_nextYear_18 ?_
  refine z_rng fun hr => ?_
  refine z_mem (M' := z_sR M1 22 (z_uf (M1 22) 2 (M1 22 2 + 1))) (z_sM_R _ _ _ _) ?_
  generalize hB : z_uf (M1 22) 2 (M1 22 2 + 1) = B
  refine z_sipush dX7_nextYear_19 (by decide) ?_
  refine z_istoren_1 dX7_nextYear_22 (Nat.le_of_ble_eq_true rfl) rfl ?_
  refine z_mem (M' := z_sR M1 22 (z_cp B (fun _ => 0) 666 0 ((0 : Nat) : Int))) (by rw [show ((0 : Nat) : Int) = 0 from rfl, z_cp_0]) ?_
  refine z_upn (P := fun i : Nat => z_J G Z _ _ 23 [some (.ref (z_ad G 0 40)), some (z_I (666 + (i : Int)))] [] (z_sR M1 22 (z_cp B (fun _ => 0) 666 0 i)) 0 0) 240 ?_ ?_
  · refine z_rng fun hr => ?_
    refine z_iloadn dX7_nextYear_23 rfl ?_
    refine z_sipush dX7_nextYear_24 (by decide) ?_
    refine z_icmp_ge (tgt := 43) (by first | (exact hr _ _ (by decide)) | omega) (by first | (exact hr _ _ (by decide)) | omega) dX7_nextYear_27 (by decide) (fun h27 => ?_) (fun h27 => ?_)
    · refine z_aloadn dX7_nextYear_43 rfl ?_
      refine gX7_7 rfl dX7_nextYear_44 ?_
      refine z_iconst dX7_nextYear_47 ?_
      refine z_iald (by rfl) (by first | decide | exact Or.inl ⟨by decide, hg⟩) (by omega) (by omega) (by decide) dX7_nextYear_48 ?_
      exact z_iret dX7_nextYear_49 (by rw [← hq, z_sR_self, ← hB]; unfold z_cp; rw [if_neg (by omega), z_uf_self]) (by rw [← hq]; unfold z_o_nextYear; rw [hB]; rfl)
    · exfalso; omega
  · intro i hi y_ih
    refine z_rng fun hr => ?_
    refine z_iloadn dX7_nextYear_23 rfl ?_
    refine z_sipush dX7_nextYear_24 (by decide) ?_
    refine z_icmp_ge (tgt := 43) (by first | (exact hr _ _ (by decide)) | omega) (by first | (exact hr _ _ (by decide)) | omega) dX7_nextYear_27 (by decide) (fun h27 => ?_) (fun h27 => ?_)
    · exfalso; omega
    · refine z_aloadn dX7_nextYear_30 rfl ?_
      refine gX7_7 rfl dX7_nextYear_31 ?_
      refine z_iloadn dX7_nextYear_34 rfl ?_
      refine z_iconst dX7_nextYear_35 ?_
      refine z_iast (by rfl) (by first | decide | exact Or.inl ⟨by decide, hg⟩) (by omega) (by omega) (by decide) (by first | (exact hr _ _ (by decide)) | omega) dX7_nextYear_36 ?_
      refine z_rng fun hr => ?_
      refine z_iinc_1 dX7_nextYear_37 (Nat.le_of_ble_eq_true rfl) rfl ?_
      refine z_goto (tgt := 23) dX7_nextYear_40 (by decide) ?_
      refine z_mem ?_ y_ih
      rw [z_sM_sR]
      congr 1
      exact z_cp_s _ _ _ _ i (by omega) rfl
theorem tX7_order {G : z_G} {M : z_M} {N c x f : Int} (hb : z_BI (M 22) N) (hs0 : 0 ≤ M 21 2) (hs1 : M 21 2 ≤ 6) (rx : z_rg x) (rf : z_rg f) (hc : z_c_order (M 22) x f = c) : KX7_order G [.ref (z_ad G 0 40), z_I x, z_I f] M (.inl (some (z_I (if c = 0 then M 22 1 else 0)))) (if c = 0 then z_sR (z_SV (z_sM M 21 4 0)) 22 (z_o_order (M 22) x f) else z_sM M 21 4 c) := by
  refine z_con (ls := [some (.ref (z_ad G 0 40)), some (z_I x), some (z_I f), none]) (by decide +kernel) (Nat.le_of_ble_eq_true rfl) rfl ?_
  intro Z htb
  refine z_rng fun hr => ?_
  refine z_aloadn dX7_order_0 rfl ?_
  refine z_iconst dX7_order_1 ?_
  refine pX7_40 (by first | (exact hr _ _ (by decide)) | omega) rfl dX7_order_2 ?_
  refine z_rng fun hr => ?_
  generalize hM0 : z_sM M 21 4 0 = M0
  have hz : M0 22 = M 22 := by rw [← hM0]; exact z_sM_row _ _ _ (by decide)
  have hz2 : M0 21 2 = M 21 2 := by rw [← hM0]; exact z_sM_ne _ _ _ (by decide)
  rw [hM0] at hr
  rw [← hz] at hb hc
  rw [← hz2] at hs0 hs1
  have hh := z_BI_h hb
  refine z_aloadn dX7_order_5 rfl ?_
  refine z_iloadn dX7_order_6 rfl ?_
  refine kX7_65 (tX7_isPen (by first | (exact hr _ _ (by decide)) | omega) (by first | assumption | omega)) rfl ⟨(Nat.le_of_ble_eq_true rfl), (Nat.le_of_ble_eq_true rfl)⟩ (Nat.le_of_ble_eq_true rfl) dX7_order_7 ?_
  refine z_ifb_ne (tgt := 19) dX7_order_10 (by decide) (fun h10 => ?_) (fun h10 => ?_)
  · refine z_iloadn dX7_order_19 rfl ?_
    refine z_bipush dX7_order_20 (by decide) ?_
    refine z_ldc (i := 100000) wk_X7_69 dX7_order_22 ?_
    refine kX7_44 (tX7_within (by first | (exact hr _ _ (by decide)) | omega) (by first | (exact hr _ _ (by decide)) | omega) (by first | (exact hr _ _ (by decide)) | omega)) rfl ⟨(Nat.le_of_ble_eq_true rfl), (Nat.le_of_ble_eq_true rfl)⟩ (Nat.le_of_ble_eq_true rfl) dX7_order_24 ?_
    refine z_ifb_ne (tgt := 36) dX7_order_27 (by decide) (fun h27 => ?_) (fun h27 => ?_)
    · refine z_aloadn dX7_order_36 rfl ?_
      refine gX7_7 rfl dX7_order_37 ?_
      refine z_iconst dX7_order_40 ?_
      refine z_iald (by rfl) (by first | decide | exact Or.inl ⟨by decide, hg⟩) (by omega) (by omega) (by decide) dX7_order_41 ?_
      refine z_bipush dX7_order_42 (by decide) ?_
      refine z_icmp_ne (tgt := 53) (by first | (exact hr _ _ (by decide)) | omega) (by first | (exact hr _ _ (by decide)) | omega) dX7_order_44 (by decide) (fun h44 => ?_) (fun h44 => ?_)
      · refine z_aloadn dX7_order_53 rfl ?_
        refine kX7_58 (tX7_save hs0 hs1) rfl ⟨(Nat.le_of_ble_eq_true rfl), (Nat.le_of_ble_eq_true rfl)⟩ (Nat.le_of_ble_eq_true rfl) dX7_order_54 ?_
        refine z_rng fun hr => ?_
        generalize hM1 : z_SV M0 = M1
        have hz1 : M1 22 = M0 22 := by rw [← hM1]; exact z_SV_row (by decide) (by decide)
        obtain rfl : c = 0 := by rw [← hc]; unfold z_c_order; (repeat' split) <;> omega
        have hq := hz1.trans hz
        rw [hM1] at hr
        rw [← hz1] at hb hc
        have hh := z_BI_h hb
        try rw [← hz1] at h10
        try rw [← hz1] at h27
        try rw [← hz1] at h44
        refine z_aloadn dX7_order_57 rfl ?_
        refine gX7_7 rfl dX7_order_58 ?_
        refine z_iconst dX7_order_61 ?_
        refine z_iald (by rfl) (by first | decide | exact Or.inl ⟨by decide, hg⟩) (by omega) (by omega) (by decide) dX7_order_62 ?_
        refine z_istoren_3 dX7_order_63 (Nat.le_of_ble_eq_true rfl) rfl ?_
        refine z_aloadn dX7_order_64 rfl ?_
        refine gX7_7 rfl dX7_order_65 ?_
        refine z_bipush dX7_order_68 (by decide) ?_
        refine z_iconst dX7_order_70 ?_
        refine z_iloadn dX7_order_71 rfl ?_
        refine z_imul dX7_order_72 ?_
        refine z_iadd dX7_order_73 ?_
        refine z_iloadn dX7_order_74 rfl ?_
        refine z_iast (by rfl) (by first | decide | exact Or.inl ⟨by decide, hg⟩) (by omega) (by omega) (by decide) (by first | (exact hr _ _ (by decide)) | omega) dX7_order_75 ?_
        refine z_rng fun hr => ?_
        refine z_aloadn dX7_order_76 rfl ?_
        refine gX7_7 rfl dX7_order_77 ?_
        refine z_bipush dX7_order_80 (by decide) ?_
        refine z_iconst dX7_order_82 ?_
        refine z_iloadn dX7_order_83 rfl ?_
        refine z_imul dX7_order_84 ?_
        refine z_iadd dX7_order_85 ?_
        refine z_iconst dX7_order_86 ?_
        refine z_iadd dX7_order_87 ?_
        refine z_iloadn dX7_order_88 rfl ?_
        refine z_iast (by rfl) (by first | decide | exact Or.inl ⟨by decide, hg⟩) (by omega) (by omega) (by decide) (by first | (exact hr _ _ (by decide)) | omega) dX7_order_89 ?_
        refine z_rng fun hr => ?_
        refine z_aloadn dX7_order_90 rfl ?_
        refine gX7_7 rfl dX7_order_91 ?_
        refine z_bipush dX7_order_94 (by decide) ?_
        refine z_iconst dX7_order_96 ?_
        refine z_iloadn dX7_order_97 rfl ?_
        refine z_imul dX7_order_98 ?_
        refine z_iadd dX7_order_99 ?_
        refine z_iconst dX7_order_100 ?_
        refine z_iadd dX7_order_101 ?_
        refine z_iconst dX7_order_102 ?_
        refine z_iast (by rfl) (by first | decide | exact Or.inl ⟨by decide, hg⟩) (by omega) (by omega) (by decide) (by first | (exact hr _ _ (by decide)) | omega) dX7_order_103 ?_
        refine z_rng fun hr => ?_
        refine z_aloadn dX7_order_104 rfl ?_
        refine gX7_7 rfl dX7_order_105 ?_
        refine z_bipush dX7_order_108 (by decide) ?_
        refine z_iconst dX7_order_110 ?_
        refine z_iloadn dX7_order_111 rfl ?_
        refine z_imul dX7_order_112 ?_
        refine z_iadd dX7_order_113 ?_
        refine z_iconst dX7_order_114 ?_
        refine z_iadd dX7_order_115 ?_
        refine z_iconst dX7_order_116 ?_
        refine z_iast (by rfl) (by first | decide | exact Or.inl ⟨by decide, hg⟩) (by omega) (by omega) (by decide) (by first | (exact hr _ _ (by decide)) | omega) dX7_order_117 ?_
        refine z_rng fun hr => ?_
        refine z_aloadn dX7_order_118 rfl ?_
        refine gX7_7 rfl dX7_order_119 ?_
        refine z_bipush dX7_order_122 (by decide) ?_
        refine z_iconst dX7_order_124 ?_
        refine z_iloadn dX7_order_125 rfl ?_
        refine z_imul dX7_order_126 ?_
        refine z_iadd dX7_order_127 ?_
        refine z_iconst dX7_order_128 ?_
        refine z_iadd dX7_order_129 ?_
        refine z_iconst dX7_order_130 ?_
        refine z_iast (by rfl) (by first | decide | exact Or.inl ⟨by decide, hg⟩) (by omega) (by omega) (by decide) (by first | (exact hr _ _ (by decide)) | omega) dX7_order_131 ?_
        refine z_rng fun hr => ?_
        refine z_aloadn dX7_order_132 rfl ?_
        refine gX7_7 rfl dX7_order_133 ?_
        refine z_sipush dX7_order_136 (by decide) ?_
        refine z_bipush dX7_order_139 (by decide) ?_
        refine z_iloadn dX7_order_141 rfl ?_
        refine z_imul dX7_order_142 ?_
        refine z_iadd dX7_order_143 ?_
        refine z_iloadn dX7_order_144 rfl ?_
        refine z_iadd dX7_order_145 ?_
        refine z_iconst dX7_order_146 ?_
        refine z_iast (by rfl) (by first | decide | exact Or.inl ⟨by decide, hg⟩) (by omega) (by omega) (by decide) (by first | (exact hr _ _ (by decide)) | omega) dX7_order_147 ?_
        refine z_rng fun hr => ?_
        refine z_aloadn dX7_order_148 rfl ?_
        refine gX7_7 rfl dX7_order_149 ?_
        refine z_iconst dX7_order_152 ?_
        refine z_dup2 dX7_order_153 rfl rfl ?_
        refine z_iald (by rfl) (by first | decide | exact Or.inl ⟨by decide, hg⟩) (by omega) (by omega) (by decide) dX7_order_154 ?_
        refine z_top (v' := M1 22 1) (by repeat (first | rfl | (refine (z_sM_ne _ _ _ (by omega)).trans ?_))) ?_
        refine z_iconst dX7_order_155 ?_
        refine z_iadd dX7_order_156 ?_
        refine z_iast (by rfl) (by first | decide | exact Or.inl ⟨by decide, hg⟩) (by omega) (by omega) (by decide) (by first | (exact hr _ _ (by decide)) | omega) dX7_order_157 ?_
        refine z_rng fun hr => ?_
        refine z_iloadn dX7_order_158 rfl ?_
        exact z_iret dX7_order_159 (by rw [if_pos rfl, ← hq]) (by rw [if_pos rfl, ← hq]; simp only [z_sM_R, z_sR_R, z_sR_self]; rfl)
      · refine z_aloadn dX7_order_47 rfl ?_
        refine z_iconst dX7_order_48 ?_
        refine kX7_55 (tX7_fails (by first | decide | omega)) rfl ⟨(Nat.le_of_ble_eq_true rfl), (Nat.le_of_ble_eq_true rfl)⟩ (Nat.le_of_ble_eq_true rfl) dX7_order_49 ?_
        refine z_rng fun hr => ?_
        obtain rfl : c = 3 := by rw [← hc]; unfold z_c_order; (repeat' split) <;> omega
        exact z_iret dX7_order_52 (if_neg (by decide)).symm (by rw [if_neg (by decide), ← hM0, z_sM_sM])
    · refine z_aloadn dX7_order_30 rfl ?_
      refine z_iconst dX7_order_31 ?_
      refine kX7_55 (tX7_fails (by first | decide | omega)) rfl ⟨(Nat.le_of_ble_eq_true rfl), (Nat.le_of_ble_eq_true rfl)⟩ (Nat.le_of_ble_eq_true rfl) dX7_order_32 ?_
      refine z_rng fun hr => ?_
      obtain rfl : c = 2 := by rw [← hc]; unfold z_c_order; (repeat' split) <;> omega
      exact z_iret dX7_order_35 (if_neg (by decide)).symm (by rw [if_neg (by decide), ← hM0, z_sM_sM])
  · refine z_aloadn dX7_order_13 rfl ?_
    refine z_iconst dX7_order_14 ?_
    refine kX7_55 (tX7_fails (by first | decide | omega)) rfl ⟨(Nat.le_of_ble_eq_true rfl), (Nat.le_of_ble_eq_true rfl)⟩ (Nat.le_of_ble_eq_true rfl) dX7_order_15 ?_
    refine z_rng fun hr => ?_
    obtain rfl : c = 1 := by rw [← hc]; unfold z_c_order; (repeat' split) <;> omega
    exact z_iret dX7_order_18 (if_neg (by decide)).symm (by rw [if_neg (by decide), ← hM0, z_sM_sM])
theorem tX7_draft {G : z_G} {M : z_M} {N c k p : Int} (hb : z_BI (M 22) N) (hs0 : 0 ≤ M 21 2) (hs1 : M 21 2 ≤ 6) (rk : z_rg k) (rp : z_rg p) (hc : z_c_draft (M 22) k p = c) : KX7_draft G [.ref (z_ad G 0 40), z_I k, z_I p] M (.inl (some (z_I (if c = 0 then z_dst (M 22) k else 0)))) (if c = 0 then z_sR (z_SV (z_sM M 21 4 0)) 22 (z_o_draft (M 22) k p) else z_sM M 21 4 c) := by
  refine z_con (ls := [some (.ref (z_ad G 0 40)), some (z_I k), some (z_I p), none]) (by decide +kernel) (Nat.le_of_ble_eq_true rfl) rfl ?_
  intro Z htb
  refine z_rng fun hr => ?_
  refine z_aloadn dX7_draft_0 rfl ?_
  refine z_iconst dX7_draft_1 ?_
  refine pX7_40 (by first | (exact hr _ _ (by decide)) | omega) rfl dX7_draft_2 ?_
  refine z_rng fun hr => ?_
  generalize hM0 : z_sM M 21 4 0 = M0
  have hz : M0 22 = M 22 := by rw [← hM0]; exact z_sM_row _ _ _ (by decide)
  have hz2 : M0 21 2 = M 21 2 := by rw [← hM0]; exact z_sM_ne _ _ _ (by decide)
  rw [hM0] at hr
  rw [← hz] at hb hc
  rw [← hz2] at hs0 hs1
  have hh := z_BI_h hb
  refine z_aloadn dX7_draft_5 rfl ?_
  refine z_iloadn dX7_draft_6 rfl ?_
  refine kX7_77 (tX7_isPiece (by first | (exact hr _ _ (by decide)) | omega) (by first | assumption | omega)) rfl ⟨(Nat.le_of_ble_eq_true rfl), (Nat.le_of_ble_eq_true rfl)⟩ (Nat.le_of_ble_eq_true rfl) dX7_draft_7 ?_
  refine z_ifb_eq (tgt := 21) dX7_draft_10 (by decide) (fun h10 => ?_) (fun h10 => ?_)
  · refine z_aloadn dX7_draft_21 rfl ?_
    refine z_iconst dX7_draft_22 ?_
    refine kX7_55 (tX7_fails (by first | decide | omega)) rfl ⟨(Nat.le_of_ble_eq_true rfl), (Nat.le_of_ble_eq_true rfl)⟩ (Nat.le_of_ble_eq_true rfl) dX7_draft_23 ?_
    refine z_rng fun hr => ?_
    obtain rfl : c = 1 := by rw [← hc]; unfold z_c_draft z_aD; (repeat' split) <;> omega
    exact z_iret dX7_draft_26 (if_neg (by decide)).symm (by rw [if_neg (by decide), ← hM0, z_sM_sM])
  · refine z_aloadn dX7_draft_13 rfl ?_
    refine z_iloadn dX7_draft_14 rfl ?_
    refine kX7_65 (tX7_isPen (by first | (exact hr _ _ (by decide)) | omega) (by first | assumption | omega)) rfl ⟨(Nat.le_of_ble_eq_true rfl), (Nat.le_of_ble_eq_true rfl)⟩ (Nat.le_of_ble_eq_true rfl) dX7_draft_15 ?_
    refine z_ifb_ne (tgt := 27) dX7_draft_18 (by decide) (fun h18 => ?_) (fun h18 => ?_)
    · have y_k := z_BI_K hb k (by omega) (by omega)
      unfold z_KI at y_k
      have y_ds : 0 ≤ z_aD (M0 22) k := z_sm_nn (fun i hi => (z_BI_Q hb k i (by omega) (by omega) (by omega) (by omega)).1)
      unfold z_aD at y_k y_ds
      refine z_aloadn dX7_draft_27 rfl ?_
      refine z_iloadn dX7_draft_28 rfl ?_
      refine z_iconst dX7_draft_29 ?_
      refine kX7_80 (tX7_in (by omega) (by omega)) rfl ⟨(Nat.le_of_ble_eq_true rfl), (Nat.le_of_ble_eq_true rfl)⟩ (Nat.le_of_ble_eq_true rfl) dX7_draft_30 ?_
      refine z_iconst dX7_draft_33 ?_
      refine z_icmp_ge (tgt := 47) (by first | (exact hr _ _ (by decide)) | omega) (by first | (exact hr _ _ (by decide)) | omega) dX7_draft_34 (by decide) (fun h34 => ?_) (fun h34 => ?_)
      · refine z_aloadn dX7_draft_47 rfl ?_
        refine z_iconst dX7_draft_48 ?_
        refine kX7_55 (tX7_fails (by first | decide | omega)) rfl ⟨(Nat.le_of_ble_eq_true rfl), (Nat.le_of_ble_eq_true rfl)⟩ (Nat.le_of_ble_eq_true rfl) dX7_draft_49 ?_
        refine z_rng fun hr => ?_
        obtain rfl : c = 2 := by rw [← hc]; unfold z_c_draft z_aD; (repeat' split) <;> omega
        exact z_iret dX7_draft_52 (if_neg (by decide)).symm (by rw [if_neg (by decide), ← hM0, z_sM_sM])
      · refine z_aloadn dX7_draft_37 rfl ?_
        refine z_iloadn dX7_draft_38 rfl ?_
        refine kX7_83 (tX7_allDrafts (by omega) (by omega)) rfl ⟨(Nat.le_of_ble_eq_true rfl), (Nat.le_of_ble_eq_true rfl)⟩ (Nat.le_of_ble_eq_true rfl) dX7_draft_39 ?_
        refine z_bipush dX7_draft_42 (by decide) ?_
        refine z_icmp_ne (tgt := 53) (by first | (exact hr _ _ (by decide)) | omega) (by first | (exact hr _ _ (by decide)) | omega) dX7_draft_44 (by decide) (fun h44 => ?_) (fun h44 => ?_)
        · refine z_aloadn dX7_draft_53 rfl ?_
          refine kX7_58 (tX7_save hs0 hs1) rfl ⟨(Nat.le_of_ble_eq_true rfl), (Nat.le_of_ble_eq_true rfl)⟩ (Nat.le_of_ble_eq_true rfl) dX7_draft_54 ?_
          refine z_rng fun hr => ?_
          generalize hM1 : z_SV M0 = M1
          have hz1 : M1 22 = M0 22 := by rw [← hM1]; exact z_SV_row (by decide) (by decide)
          obtain rfl : c = 0 := by rw [← hc]; unfold z_c_draft z_aD; (repeat' split) <;> omega
          have hq := hz1.trans hz
          rw [hM1] at hr
          rw [← hz1] at hb hc
          have hh := z_BI_h hb
          try rw [← hz1] at h10
          try rw [← hz1] at h18
          try rw [← hz1] at h34
          try rw [← hz1] at h44
          have y_k := z_BI_K hb k (by omega) (by omega)
          unfold z_KI at y_k
          have y_ds : 0 ≤ z_aD (M1 22) k := z_sm_nn (fun i hi => (z_BI_Q hb k i (by omega) (by omega) (by omega) (by omega)).1)
          have y_q := z_BI_Q hb k p (by omega) (by omega) (by omega) (by omega)
          unfold z_QI at y_q
          unfold z_aD at y_k y_ds
          refine z_aloadn dX7_draft_57 rfl ?_
          refine z_iloadn dX7_draft_58 rfl ?_
          refine kX7_83 (tX7_allDrafts (by omega) (by omega)) rfl ⟨(Nat.le_of_ble_eq_true rfl), (Nat.le_of_ble_eq_true rfl)⟩ (Nat.le_of_ble_eq_true rfl) dX7_draft_59 ?_
          refine z_if_ne (tgt := 69) (by first | (exact hr _ _ (by decide)) | omega) dX7_draft_62 (by decide) (fun h62 => ?_) (fun h62 => ?_)
          · refine z_iconst dX7_draft_69 ?_
            refine z_istoren_3 dX7_draft_70 (Nat.le_of_ble_eq_true rfl) rfl ?_
            refine z_aloadn dX7_draft_71 rfl ?_
            refine gX7_7 rfl dX7_draft_72 ?_
            refine z_sipush dX7_draft_75 (by decide) ?_
            refine z_bipush dX7_draft_78 (by decide) ?_
            refine z_iloadn dX7_draft_80 rfl ?_
            refine z_imul dX7_draft_81 ?_
            refine z_iadd dX7_draft_82 ?_
            refine z_iloadn dX7_draft_83 rfl ?_
            refine z_iadd dX7_draft_84 ?_
            refine z_dup2 dX7_draft_85 rfl rfl ?_
            refine z_iald (by rfl) (by first | decide | exact Or.inl ⟨by decide, hg⟩) (by omega) (by omega) (by decide) dX7_draft_86 ?_
            refine z_iconst dX7_draft_87 ?_
            refine z_iadd dX7_draft_88 ?_
            refine z_iast (by rfl) (by first | decide | exact Or.inl ⟨by decide, hg⟩) (by omega) (by omega) (by decide) (by first | (exact hr _ _ (by decide)) | omega) dX7_draft_89 ?_
            refine z_rng fun hr => ?_
            refine z_aloadn dX7_draft_90 rfl ?_
            refine gX7_7 rfl dX7_draft_91 ?_
            refine z_bipush dX7_draft_94 (by decide) ?_
            refine z_iconst dX7_draft_96 ?_
            refine z_iloadn dX7_draft_97 rfl ?_
            refine z_imul dX7_draft_98 ?_
            refine z_iadd dX7_draft_99 ?_
            refine z_iconst dX7_draft_100 ?_
            refine z_iadd dX7_draft_101 ?_
            refine z_iloadn dX7_draft_102 rfl ?_
            refine z_iast (by rfl) (by first | decide | exact Or.inl ⟨by decide, hg⟩) (by omega) (by omega) (by decide) (by first | (exact hr _ _ (by decide)) | omega) dX7_draft_103 ?_
            refine z_rng fun hr => ?_
            refine z_iloadn dX7_draft_104 rfl ?_
            exact z_iret dX7_draft_105 (by rw [if_pos rfl, ← hq]; unfold z_dst z_aD; (repeat' split) <;> omega) (by rw [if_pos rfl, ← hq]; simp only [z_sM_R, z_sR_R, z_sR_self]; congr 1; unfold z_o_draft z_dst z_aD; first | rw [if_pos (by omega)] | rw [if_neg (by omega)])
          · refine z_iconst dX7_draft_65 ?_
            refine z_goto (tgt := 70) dX7_draft_66 (by decide) ?_
            refine z_istoren_3 dX7_draft_70 (Nat.le_of_ble_eq_true rfl) rfl ?_
            refine z_aloadn dX7_draft_71 rfl ?_
            refine gX7_7 rfl dX7_draft_72 ?_
            refine z_sipush dX7_draft_75 (by decide) ?_
            refine z_bipush dX7_draft_78 (by decide) ?_
            refine z_iloadn dX7_draft_80 rfl ?_
            refine z_imul dX7_draft_81 ?_
            refine z_iadd dX7_draft_82 ?_
            refine z_iloadn dX7_draft_83 rfl ?_
            refine z_iadd dX7_draft_84 ?_
            refine z_dup2 dX7_draft_85 rfl rfl ?_
            refine z_iald (by rfl) (by first | decide | exact Or.inl ⟨by decide, hg⟩) (by omega) (by omega) (by decide) dX7_draft_86 ?_
            refine z_iconst dX7_draft_87 ?_
            refine z_iadd dX7_draft_88 ?_
            refine z_iast (by rfl) (by first | decide | exact Or.inl ⟨by decide, hg⟩) (by omega) (by omega) (by decide) (by first | (exact hr _ _ (by decide)) | omega) dX7_draft_89 ?_
            refine z_rng fun hr => ?_
            refine z_aloadn dX7_draft_90 rfl ?_
            refine gX7_7 rfl dX7_draft_91 ?_
            refine z_bipush dX7_draft_94 (by decide) ?_
            refine z_iconst dX7_draft_96 ?_
            refine z_iloadn dX7_draft_97 rfl ?_
            refine z_imul dX7_draft_98 ?_
            refine z_iadd dX7_draft_99 ?_
            refine z_iconst dX7_draft_100 ?_
            refine z_iadd dX7_draft_101 ?_
            refine z_iloadn dX7_draft_102 rfl ?_
            refine z_iast (by rfl) (by first | decide | exact Or.inl ⟨by decide, hg⟩) (by omega) (by omega) (by decide) (by first | (exact hr _ _ (by decide)) | omega) dX7_draft_103 ?_
            refine z_rng fun hr => ?_
            refine z_iloadn dX7_draft_104 rfl ?_
            exact z_iret dX7_draft_105 (by rw [if_pos rfl, ← hq]; unfold z_dst z_aD; (repeat' split) <;> omega) (by rw [if_pos rfl, ← hq]; simp only [z_sM_R, z_sR_R, z_sR_self]; congr 1; unfold z_o_draft z_dst z_aD; first | rw [if_pos (by omega)] | rw [if_neg (by omega)])
        · refine z_aloadn dX7_draft_47 rfl ?_
          refine z_iconst dX7_draft_48 ?_
          refine kX7_55 (tX7_fails (by first | decide | omega)) rfl ⟨(Nat.le_of_ble_eq_true rfl), (Nat.le_of_ble_eq_true rfl)⟩ (Nat.le_of_ble_eq_true rfl) dX7_draft_49 ?_
          refine z_rng fun hr => ?_
          obtain rfl : c = 2 := by rw [← hc]; unfold z_c_draft z_aD; (repeat' split) <;> omega
          exact z_iret dX7_draft_52 (if_neg (by decide)).symm (by rw [if_neg (by decide), ← hM0, z_sM_sM])
    · refine z_aloadn dX7_draft_21 rfl ?_
      refine z_iconst dX7_draft_22 ?_
      refine kX7_55 (tX7_fails (by first | decide | omega)) rfl ⟨(Nat.le_of_ble_eq_true rfl), (Nat.le_of_ble_eq_true rfl)⟩ (Nat.le_of_ble_eq_true rfl) dX7_draft_23 ?_
      refine z_rng fun hr => ?_
      obtain rfl : c = 1 := by rw [← hc]; unfold z_c_draft z_aD; (repeat' split) <;> omega
      exact z_iret dX7_draft_26 (if_neg (by decide)).symm (by rw [if_neg (by decide), ← hM0, z_sM_sM])
theorem tX7_revise {G : z_G} {M : z_M} {N c k f : Int} (hb : z_BI (M 22) N) (hs0 : 0 ≤ M 21 2) (hs1 : M 21 2 ≤ 6) (rk : z_rg k) (rf : z_rg f) (hc : z_c_revise (M 22) k f = c) : KX7_revise G [.ref (z_ad G 0 40), z_I k, z_I f] M (.inl (some (z_I (if c = 0 then M 22 (86 + 5 * k + 1) else 0)))) (if c = 0 then z_sR (z_SV (z_sM M 21 4 0)) 22 (z_o_revise (M 22) k f) else z_sM M 21 4 c) := by
  refine z_con (ls := [some (.ref (z_ad G 0 40)), some (z_I k), some (z_I f), none]) (by decide +kernel) (Nat.le_of_ble_eq_true rfl) rfl ?_
  intro Z htb
  refine z_rng fun hr => ?_
  refine z_aloadn dX7_revise_0 rfl ?_
  refine z_iconst dX7_revise_1 ?_
  refine pX7_40 (by first | (exact hr _ _ (by decide)) | omega) rfl dX7_revise_2 ?_
  refine z_rng fun hr => ?_
  generalize hM0 : z_sM M 21 4 0 = M0
  have hz : M0 22 = M 22 := by rw [← hM0]; exact z_sM_row _ _ _ (by decide)
  have hz2 : M0 21 2 = M 21 2 := by rw [← hM0]; exact z_sM_ne _ _ _ (by decide)
  rw [hM0] at hr
  rw [← hz] at hb hc
  rw [← hz2] at hs0 hs1
  have hh := z_BI_h hb
  refine z_aloadn dX7_revise_5 rfl ?_
  refine z_iloadn dX7_revise_6 rfl ?_
  refine kX7_77 (tX7_isPiece (by first | (exact hr _ _ (by decide)) | omega) (by first | assumption | omega)) rfl ⟨(Nat.le_of_ble_eq_true rfl), (Nat.le_of_ble_eq_true rfl)⟩ (Nat.le_of_ble_eq_true rfl) dX7_revise_7 ?_
  refine z_ifb_ne (tgt := 19) dX7_revise_10 (by decide) (fun h10 => ?_) (fun h10 => ?_)
  · refine z_iloadn dX7_revise_19 rfl ?_
    refine z_bipush dX7_revise_20 (by decide) ?_
    refine z_ldc (i := 100000) wk_X7_69 dX7_revise_22 ?_
    refine kX7_44 (tX7_within (by first | (exact hr _ _ (by decide)) | omega) (by first | (exact hr _ _ (by decide)) | omega) (by first | (exact hr _ _ (by decide)) | omega)) rfl ⟨(Nat.le_of_ble_eq_true rfl), (Nat.le_of_ble_eq_true rfl)⟩ (Nat.le_of_ble_eq_true rfl) dX7_revise_24 ?_
    refine z_ifb_ne (tgt := 36) dX7_revise_27 (by decide) (fun h27 => ?_) (fun h27 => ?_)
    · have y_k := z_BI_K hb k (by omega) (by omega)
      unfold z_KI at y_k
      refine z_aloadn dX7_revise_36 rfl ?_
      refine z_iloadn dX7_revise_37 rfl ?_
      refine z_iconst dX7_revise_38 ?_
      refine kX7_80 (tX7_in (by omega) (by omega)) rfl ⟨(Nat.le_of_ble_eq_true rfl), (Nat.le_of_ble_eq_true rfl)⟩ (Nat.le_of_ble_eq_true rfl) dX7_revise_39 ?_
      refine z_iconst dX7_revise_42 ?_
      refine z_icmp_lt (tgt := 52) (by first | (exact hr _ _ (by decide)) | omega) (by first | (exact hr _ _ (by decide)) | omega) dX7_revise_43 (by decide) (fun h43 => ?_) (fun h43 => ?_)
      · refine z_aloadn dX7_revise_52 rfl ?_
        refine kX7_58 (tX7_save hs0 hs1) rfl ⟨(Nat.le_of_ble_eq_true rfl), (Nat.le_of_ble_eq_true rfl)⟩ (Nat.le_of_ble_eq_true rfl) dX7_revise_53 ?_
        refine z_rng fun hr => ?_
        generalize hM1 : z_SV M0 = M1
        have hz1 : M1 22 = M0 22 := by rw [← hM1]; exact z_SV_row (by decide) (by decide)
        obtain rfl : c = 0 := by rw [← hc]; unfold z_c_revise; (repeat' split) <;> omega
        have hq := hz1.trans hz
        rw [hM1] at hr
        rw [← hz1] at hb hc
        have hh := z_BI_h hb
        try rw [← hz1] at h10
        try rw [← hz1] at h27
        try rw [← hz1] at h43
        have y_k := z_BI_K hb k (by omega) (by omega)
        unfold z_KI at y_k
        refine z_aloadn dX7_revise_56 rfl ?_
        refine z_iloadn dX7_revise_57 rfl ?_
        refine z_iconst dX7_revise_58 ?_
        refine kX7_80 (tX7_in (by omega) (by omega)) rfl ⟨(Nat.le_of_ble_eq_true rfl), (Nat.le_of_ble_eq_true rfl)⟩ (Nat.le_of_ble_eq_true rfl) dX7_revise_59 ?_
        refine z_istoren_3 dX7_revise_62 (Nat.le_of_ble_eq_true rfl) rfl ?_
        refine z_aloadn dX7_revise_63 rfl ?_
        refine gX7_7 rfl dX7_revise_64 ?_
        refine z_bipush dX7_revise_67 (by decide) ?_
        refine z_iconst dX7_revise_69 ?_
        refine z_iloadn dX7_revise_70 rfl ?_
        refine z_imul dX7_revise_71 ?_
        refine z_iadd dX7_revise_72 ?_
        refine z_iconst dX7_revise_73 ?_
        refine z_iadd dX7_revise_74 ?_
        refine z_iloadn dX7_revise_75 rfl ?_
        refine z_iast (by rfl) (by first | decide | exact Or.inl ⟨by decide, hg⟩) (by omega) (by omega) (by decide) (by first | (exact hr _ _ (by decide)) | omega) dX7_revise_76 ?_
        refine z_rng fun hr => ?_
        refine z_aloadn dX7_revise_77 rfl ?_
        refine gX7_7 rfl dX7_revise_78 ?_
        refine z_bipush dX7_revise_81 (by decide) ?_
        refine z_iconst dX7_revise_83 ?_
        refine z_iloadn dX7_revise_84 rfl ?_
        refine z_imul dX7_revise_85 ?_
        refine z_iadd dX7_revise_86 ?_
        refine z_iconst dX7_revise_87 ?_
        refine z_iadd dX7_revise_88 ?_
        refine z_dup2 dX7_revise_89 rfl rfl ?_
        refine z_iald (by rfl) (by first | decide | exact Or.inl ⟨by decide, hg⟩) (by omega) (by omega) (by decide) dX7_revise_90 ?_
        refine z_top (v' := M1 22 (86 + 5 * k + 3)) (z_sM_ne _ _ _ (by omega)) ?_
        refine z_iconst dX7_revise_91 ?_
        refine z_iadd dX7_revise_92 ?_
        refine z_iast (by rfl) (by first | decide | exact Or.inl ⟨by decide, hg⟩) (by omega) (by omega) (by decide) (by first | (exact hr _ _ (by decide)) | omega) dX7_revise_93 ?_
        refine z_rng fun hr => ?_
        refine z_iloadn dX7_revise_94 rfl ?_
        exact z_iret dX7_revise_95 (by rw [if_pos rfl, ← hq]) (by rw [if_pos rfl, ← hq]; simp only [z_sM_R, z_sR_R, z_sR_self]; first | rfl | (congr 1; unfold z_o_revise; funext j; simp only [z_uf]; (repeat' split) <;> first | rfl | omega))
      · refine z_aloadn dX7_revise_46 rfl ?_
        refine z_iconst dX7_revise_47 ?_
        refine kX7_55 (tX7_fails (by first | decide | omega)) rfl ⟨(Nat.le_of_ble_eq_true rfl), (Nat.le_of_ble_eq_true rfl)⟩ (Nat.le_of_ble_eq_true rfl) dX7_revise_48 ?_
        refine z_rng fun hr => ?_
        obtain rfl : c = 3 := by rw [← hc]; unfold z_c_revise; (repeat' split) <;> omega
        exact z_iret dX7_revise_51 (if_neg (by decide)).symm (by rw [if_neg (by decide), ← hM0, z_sM_sM])
    · refine z_aloadn dX7_revise_30 rfl ?_
      refine z_iconst dX7_revise_31 ?_
      refine kX7_55 (tX7_fails (by first | decide | omega)) rfl ⟨(Nat.le_of_ble_eq_true rfl), (Nat.le_of_ble_eq_true rfl)⟩ (Nat.le_of_ble_eq_true rfl) dX7_revise_32 ?_
      refine z_rng fun hr => ?_
      obtain rfl : c = 2 := by rw [← hc]; unfold z_c_revise; (repeat' split) <;> omega
      exact z_iret dX7_revise_35 (if_neg (by decide)).symm (by rw [if_neg (by decide), ← hM0, z_sM_sM])
  · refine z_aloadn dX7_revise_13 rfl ?_
    refine z_iconst dX7_revise_14 ?_
    refine kX7_55 (tX7_fails (by first | decide | omega)) rfl ⟨(Nat.le_of_ble_eq_true rfl), (Nat.le_of_ble_eq_true rfl)⟩ (Nat.le_of_ble_eq_true rfl) dX7_revise_15 ?_
    refine z_rng fun hr => ?_
    obtain rfl : c = 1 := by rw [← hc]; unfold z_c_revise; (repeat' split) <;> omega
    exact z_iret dX7_revise_18 (if_neg (by decide)).symm (by rw [if_neg (by decide), ← hM0, z_sM_sM])
