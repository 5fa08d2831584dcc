theorem tL_act_pen {G : z_G} {M : z_M} {g : Nat} {N a x y : Int} (h : z_LR M g N) (hN : N + 1 ≤ 600) (a0 : 0 ≤ a) (a1 : a ≤ 24) (ha : a = 0 ∨ M g 0 = 0) : z_ConP G yL_act cL_act 15 (some .boolean) 9 177 0 0 [.ref (z_ad G 0 20), z_I a, z_I x, z_I y, .ref (z_ad G 0 40), .ref (z_ad G 0 41), .ref (z_ad G 0 42), .ref (z_ad G 0 43), .ref (z_ad G 0 44), .ref (z_ad G 0 45), .ref (z_ad G 0 46)] M (some (z_I 1)) (z_PA M N a (M g 0)) := by
  refine z_conP (ls := [some (.ref (z_ad G 0 20)), some (z_I a), some (z_I x), some (z_I y), some (.ref (z_ad G 0 40)), some (.ref (z_ad G 0 41)), some (.ref (z_ad G 0 42)), some (.ref (z_ad G 0 43)), some (.ref (z_ad G 0 44)), some (.ref (z_ad G 0 45)), some (.ref (z_ad G 0 46)), none, none, none, none]) (by decide +kernel) (Nat.le_of_ble_eq_true rfl) rfl ?_
  intro Z
  refine z_rng fun hr => ?_
  have h0 := h
  obtain ⟨⟨hg, hn, hn0, s0, s1, ho, hb⟩, hE, h4, h5⟩ := h0
  have hh := z_BI_h hb
  have y_rb : ∀ i, z_rg (M g i) := fun i => hr g i (by omega)
  have hq7 := z_sg_lt g
  refine z_iloadn dL_act_0 rfl ?_
  refine z_if_eq (tgt := 11) (by first | exact y_rb _ | omega | (exact hr _ _ (by decide))) dL_act_1 (by decide) (fun h1 => ?_) (fun h1 => ?_)
  · refine z_aload dL_act_11 rfl ?_
    refine z_iconst dL_act_13 ?_
    refine z_lld (R := 40) (j := 0) al_c (Or.inl (by decide)) (congrFun hE _) (by omega) (by omega) (Nat.le_of_ble_eq_true rfl) (by omega) dL_act_14 ?_
    refine z_iconst dL_act_15 ?_
    refine z_icmp_ne (tgt := 21) (by first | exact y_rb _ | omega | (exact hr _ _ (by decide))) (by first | exact y_rb _ | omega | (exact hr _ _ (by decide))) dL_act_16 (by decide) (fun h16 => ?_) (fun h16 => ?_)
    · refine z_aload dL_act_21 rfl ?_
      refine z_bipush dL_act_23 (by decide) ?_
      refine z_aload dL_act_25 rfl ?_
      refine z_iconst dL_act_27 ?_
      refine z_lld (R := 40) (j := 0) al_c (Or.inl (by decide)) (congrFun hE _) (by omega) (by omega) (Nat.le_of_ble_eq_true rfl) (by omega) dL_act_28 ?_
      refine z_imul dL_act_29 ?_
      refine z_iconst dL_act_30 ?_
      refine z_iadd dL_act_31 ?_
      refine z_aload dL_act_32 rfl ?_
      refine z_iconst dL_act_34 ?_
      refine z_lld (R := 40) (j := 0) al_c (Or.inl (by decide)) (congrFun hE _) (by omega) (by omega) (Nat.le_of_ble_eq_true rfl) (by omega) dL_act_35 ?_
      refine z_lst (R := 40) (j := 14 + 6 * M g (0) + 3) al_pe (Or.inl (by decide)) (by omega) (by omega) (Nat.le_of_ble_eq_true rfl) (by omega) (by first | exact y_rb _ | omega | (exact hr _ _ (by decide))) dL_act_36 ?_
      refine z_rng fun hr => ?_
      refine z_aload dL_act_37 rfl ?_
      refine z_iconst dL_act_39 ?_
      refine z_dup2 dL_act_40 rfl rfl ?_
      refine z_lld (R := 40) (j := 0) al_c (Or.inl (by decide)) ((z_sM_ne _ _ _ (by omega)).trans (congrFun hE _)) (by omega) (by omega) (Nat.le_of_ble_eq_true rfl) (by omega) dL_act_41 ?_
      refine z_iconst dL_act_42 ?_
      refine z_iadd dL_act_43 ?_
      refine z_lst (R := 40) (j := 0) al_c (Or.inl (by decide)) (by omega) (by omega) (Nat.le_of_ble_eq_true rfl) (by omega) (by first | exact y_rb _ | omega | (exact hr _ _ (by decide))) dL_act_44 ?_
      refine z_rng fun hr => ?_
      refine z_mem (M' := z_sR M 40 (z_o_addPen (M g))) (by simp only [z_sM_R, z_sR_R, z_sR_self]; rw [hE]; first | rfl | (congr 1; unfold z_o_addPen; funext j; simp only [z_uf]; (repeat' split) <;> first | rfl | omega | (subst_vars; omega))) ?_
      have y_lc : z_LC (z_sR M 40 (z_o_addPen (M g))) g N := z_LC_sR h.1 (by decide)
      have y_g : z_sR M 40 (z_o_addPen (M g)) g = M g := z_sR_ne _ _ (by omega)
      have y_40 : z_sR M 40 (z_o_addPen (M g)) 40 = z_o_addPen (M g) := z_sR_self _ _ _
      refine z_rng fun hr => ?_
      generalize z_sR M 40 (z_o_addPen (M g)) = M2 at *
      obtain ⟨-, hn', hn0', s0', s1', ho', hb'⟩ := id y_lc
      have y_hc : z_c_addPen (M g) = 0 := by unfold z_c_addPen; rw [if_neg (by omega)]
      have y_k := z_k_addPen hb hN y_hc
      have y_o : z_o_addPen (M g) 0 = M g 0 + 1 ∧ z_o_addPen (M g) 1 = M g 1 := ⟨z_uf_self _ _ _, (z_uf_ne _ _ (by decide)).trans (z_uf_ne _ _ (by omega))⟩
      refine z_aloadn dL_act_45 rfl ?_
      refine kL_111 (tX6_addPen hg hn' hn0' s0' s1' ho' hb' (by rw [y_g]; exact y_hc)) rfl ⟨(Nat.le_of_ble_eq_true rfl), (Nat.le_of_ble_eq_true rfl)⟩ (Nat.le_of_ble_eq_true rfl) dL_act_46 ?_
      refine z_rng fun hr => ?_
      refine z_top (v' := M g 0) (by rw [y_g]) ?_
      refine z_aload dL_act_49 rfl ?_
      refine z_iconst dL_act_51 ?_
      refine z_lld (R := 40) (j := 0) al_c (Or.inl (by decide)) ((congrFun (z_sR_ne _ _ (by omega)) _).trans ((congrFun (z_SC_row (by decide) (by omega)) _).trans ((congrFun y_40 _).trans (show z_o_addPen (M g) 0 = M g 0 + 1 from z_uf_self _ _ _)))) (by omega) (by omega) (Nat.le_of_ble_eq_true rfl) (by omega) dL_act_52 ?_
      refine z_iconst dL_act_53 ?_
      refine z_isub dL_act_54 ?_
      refine z_icmp_ne (tgt := 62) (by first | exact y_rb _ | omega | (exact hr _ _ (by decide))) (by first | exact y_rb _ | omega | (exact hr _ _ (by decide))) dL_act_55 (by decide) (fun h55 => ?_) (fun h55 => ?_)
      · exfalso; omega
      · refine z_iconst dL_act_58 ?_
        refine z_goto (tgt := 63) dL_act_59 (by decide) ?_
        exact z_zretP dL_act_63 rfl (by rw [y_g]; exact z_PA_sv y_lc y_40 y_k (by omega) (by omega))
    · refine z_iconst dL_act_19 ?_
      exact z_zretP dL_act_20 rfl (z_PA_ne (by omega) (z_PS_id h hN))
  · refine z_aload dL_act_4 rfl ?_
    refine z_iconst dL_act_6 ?_
    refine z_lld (R := 40) (j := 0) al_c (Or.inl (by decide)) (congrFun hE _) (by omega) (by omega) (Nat.le_of_ble_eq_true rfl) (by omega) dL_act_7 ?_
    refine z_if_ne (tgt := 64) (by first | exact y_rb _ | omega | (exact hr _ _ (by decide))) dL_act_8 (by decide) (fun h8 => ?_) (fun h8 => ?_)
    · exfalso; omega
    · refine z_aload dL_act_11 rfl ?_
      refine z_iconst dL_act_13 ?_
      refine z_lld (R := 40) (j := 0) al_c (Or.inl (by decide)) (congrFun hE _) (by omega) (by omega) (Nat.le_of_ble_eq_true rfl) (by omega) dL_act_14 ?_
      refine z_iconst dL_act_15 ?_
      refine z_icmp_ne (tgt := 21) (by first | exact y_rb _ | omega | (exact hr _ _ (by decide))) (by first | exact y_rb _ | omega | (exact hr _ _ (by decide))) dL_act_16 (by decide) (fun h16 => ?_) (fun h16 => ?_)
      · refine z_aload dL_act_21 rfl ?_
        refine z_bipush dL_act_23 (by decide) ?_
        refine z_aload dL_act_25 rfl ?_
        refine z_iconst dL_act_27 ?_
        refine z_lld (R := 40) (j := 0) al_c (Or.inl (by decide)) (congrFun hE _) (by omega) (by omega) (Nat.le_of_ble_eq_true rfl) (by omega) dL_act_28 ?_
        refine z_imul dL_act_29 ?_
        refine z_iconst dL_act_30 ?_
        refine z_iadd dL_act_31 ?_
        refine z_aload dL_act_32 rfl ?_
        refine z_iconst dL_act_34 ?_
        refine z_lld (R := 40) (j := 0) al_c (Or.inl (by decide)) (congrFun hE _) (by omega) (by omega) (Nat.le_of_ble_eq_true rfl) (by omega) dL_act_35 ?_
        refine z_lst (R := 40) (j := 14 + 6 * M g (0) + 3) al_pe (Or.inl (by decide)) (by omega) (by omega) (Nat.le_of_ble_eq_true rfl) (by omega) (by first | exact y_rb _ | omega | (exact hr _ _ (by decide))) dL_act_36 ?_
        refine z_rng fun hr => ?_
        refine z_aload dL_act_37 rfl ?_
        refine z_iconst dL_act_39 ?_
        refine z_dup2 dL_act_40 rfl rfl ?_
        refine z_lld (R := 40) (j := 0) al_c (Or.inl (by decide)) ((z_sM_ne _ _ _ (by omega)).trans (congrFun hE _)) (by omega) (by omega) (Nat.le_of_ble_eq_true rfl) (by omega) dL_act_41 ?_
        refine z_iconst dL_act_42 ?_
        refine z_iadd dL_act_43 ?_
        refine z_lst (R := 40) (j := 0) al_c (Or.inl (by decide)) (by omega) (by omega) (Nat.le_of_ble_eq_true rfl) (by omega) (by first | exact y_rb _ | omega | (exact hr _ _ (by decide))) dL_act_44 ?_
        refine z_rng fun hr => ?_
        refine z_mem (M' := z_sR M 40 (z_o_addPen (M g))) (by simp only [z_sM_R, z_sR_R, z_sR_self]; rw [hE]; first | rfl | (congr 1; unfold z_o_addPen; funext j; simp only [z_uf]; (repeat' split) <;> first | rfl | omega | (subst_vars; omega))) ?_
        have y_lc : z_LC (z_sR M 40 (z_o_addPen (M g))) g N := z_LC_sR h.1 (by decide)
        have y_g : z_sR M 40 (z_o_addPen (M g)) g = M g := z_sR_ne _ _ (by omega)
        have y_40 : z_sR M 40 (z_o_addPen (M g)) 40 = z_o_addPen (M g) := z_sR_self _ _ _
        refine z_rng fun hr => ?_
        generalize z_sR M 40 (z_o_addPen (M g)) = M2 at *
        obtain ⟨-, hn', hn0', s0', s1', ho', hb'⟩ := id y_lc
        have y_hc : z_c_addPen (M g) = 0 := by unfold z_c_addPen; rw [if_neg (by omega)]
        have y_k := z_k_addPen hb hN y_hc
        have y_o : z_o_addPen (M g) 0 = M g 0 + 1 ∧ z_o_addPen (M g) 1 = M g 1 := ⟨z_uf_self _ _ _, (z_uf_ne _ _ (by decide)).trans (z_uf_ne _ _ (by omega))⟩
        refine z_aloadn dL_act_45 rfl ?_
        refine kL_111 (tX6_addPen hg hn' hn0' s0' s1' ho' hb' (by rw [y_g]; exact y_hc)) rfl ⟨(Nat.le_of_ble_eq_true rfl), (Nat.le_of_ble_eq_true rfl)⟩ (Nat.le_of_ble_eq_true rfl) dL_act_46 ?_
        refine z_rng fun hr => ?_
        refine z_top (v' := M g 0) (by rw [y_g]) ?_
        refine z_aload dL_act_49 rfl ?_
        refine z_iconst dL_act_51 ?_
        refine z_lld (R := 40) (j := 0) al_c (Or.inl (by decide)) ((congrFun (z_sR_ne _ _ (by omega)) _).trans ((congrFun (z_SC_row (by decide) (by omega)) _).trans ((congrFun y_40 _).trans (show z_o_addPen (M g) 0 = M g 0 + 1 from z_uf_self _ _ _)))) (by omega) (by omega) (Nat.le_of_ble_eq_true rfl) (by omega) dL_act_52 ?_
        refine z_iconst dL_act_53 ?_
        refine z_isub dL_act_54 ?_
        refine z_icmp_ne (tgt := 62) (by first | exact y_rb _ | omega | (exact hr _ _ (by decide))) (by first | exact y_rb _ | omega | (exact hr _ _ (by decide))) dL_act_55 (by decide) (fun h55 => ?_) (fun h55 => ?_)
        · exfalso; omega
        · refine z_iconst dL_act_58 ?_
          refine z_goto (tgt := 63) dL_act_59 (by decide) ?_
          exact z_zretP dL_act_63 rfl (by rw [y_g]; exact z_PA_sv y_lc y_40 y_k (by omega) (by omega))
      · refine z_iconst dL_act_19 ?_
        exact z_zretP dL_act_20 rfl (z_PA_ne (by omega) (z_PS_id h hN))
theorem tL_act_set {G : z_G} {M : z_M} {g : Nat} {N a x y : Int} (h : z_LR M g N) (hN : N + 1 ≤ 600) (a0 : 0 ≤ a) (a1 : a ≤ 24) (b0 : 0 < M g 0) (ha : a = 1) : z_ConP G yL_act cL_act 15 (some .boolean) 9 177 0 0 [.ref (z_ad G 0 20), z_I a, z_I x, z_I y, .ref (z_ad G 0 40), .ref (z_ad G 0 41), .ref (z_ad G 0 42), .ref (z_ad G 0 43), .ref (z_ad G 0 44), .ref (z_ad G 0 45), .ref (z_ad G 0 46)] M (some (z_I 1)) (z_PA M N a (M g 0)) := by
  refine z_conP (ls := [some (.ref (z_ad G 0 20)), some (z_I a), some (z_I x), some (z_I y), some (.ref (z_ad G 0 40)), some (.ref (z_ad G 0 41)), some (.ref (z_ad G 0 42)), some (.ref (z_ad G 0 43)), some (.ref (z_ad G 0 44)), some (.ref (z_ad G 0 45)), some (.ref (z_ad G 0 46)), none, none, none, none]) (by decide +kernel) (Nat.le_of_ble_eq_true rfl) rfl ?_
  intro Z
  refine z_rng fun hr => ?_
  have h0 := h
  obtain ⟨⟨hg, hn, hn0, s0, s1, ho, hb⟩, hE, h4, h5⟩ := h0
  have hh := z_BI_h hb
  have y_rb : ∀ i, z_rg (M g i) := fun i => hr g i (by omega)
  have hq7 := z_sg_lt g
  refine z_iloadn dL_act_0 rfl ?_
  refine z_if_eq (tgt := 11) (by first | exact y_rb _ | omega | (exact hr _ _ (by decide))) dL_act_1 (by decide) (fun h1 => ?_) (fun h1 => ?_)
  · exfalso; omega
  · refine z_aload dL_act_4 rfl ?_
    refine z_iconst dL_act_6 ?_
    refine z_lld (R := 40) (j := 0) al_c (Or.inl (by decide)) (congrFun hE _) (by omega) (by omega) (Nat.le_of_ble_eq_true rfl) (by omega) dL_act_7 ?_
    refine z_if_ne (tgt := 64) (by first | exact y_rb _ | omega | (exact hr _ _ (by decide))) dL_act_8 (by decide) (fun h8 => ?_) (fun h8 => ?_)
    · refine z_iloadn dL_act_64 rfl ?_
      refine z_iconst dL_act_65 ?_
      refine z_icmp_ne (tgt := 150) (by first | exact y_rb _ | omega | (exact hr _ _ (by decide))) (by first | exact y_rb _ | omega | (exact hr _ _ (by decide))) dL_act_66 (by decide) (fun h66 => ?_) (fun h66 => ?_)
      · exfalso; omega
      · refine z_iloadn dL_act_69 rfl ?_
        refine z_bipush dL_act_70 (by decide) ?_
        refine kL_65 (tL_at (by decide) (by decide)) rfl ⟨(Nat.le_of_ble_eq_true rfl), (Nat.le_of_ble_eq_true rfl)⟩ (Nat.le_of_ble_eq_true rfl) dL_act_72 ?_
        obtain ⟨k, y_kk⟩ : ∃ k, z_atv x 6 = k := ⟨_, rfl⟩
        have y_k6 := z_atv_rg (x := x) (n := 6) (by decide)
        rw [y_kk] at y_k6
        refine z_top (v' := k) y_kk ?_
        refine z_istore_11 dL_act_75 (Nat.le_of_ble_eq_true rfl) rfl ?_
        refine z_aload dL_act_77 rfl ?_
        refine z_iload dL_act_79 rfl ?_
        refine z_lld (R := 40) (j := 8 + k) al_st (Or.inl (by decide)) (congrFun hE _) (by omega) (by omega) (Nat.le_of_ble_eq_true rfl) (by omega) dL_act_81 ?_
        refine z_istore_12 dL_act_82 (Nat.le_of_ble_eq_true rfl) rfl ?_
        refine z_aload dL_act_84 rfl ?_
        refine z_iload dL_act_86 rfl ?_
        refine z_iloadn dL_act_88 rfl ?_
        refine z_iload dL_act_89 rfl ?_
        refine z_if_ne (tgt := 99) (by first | exact y_rb _ | omega | (exact hr _ _ (by decide))) dL_act_91 (by decide) (fun h91 => ?_) (fun h91 => ?_)
        · refine z_iload dL_act_99 rfl ?_
          refine z_iconst dL_act_101 ?_
          refine z_icmp_ne (tgt := 110) (by first | exact y_rb _ | omega | (exact hr _ _ (by decide))) (by first | exact y_rb _ | omega | (exact hr _ _ (by decide))) dL_act_102 (by decide) (fun h102 => ?_) (fun h102 => ?_)
          · refine z_iload dL_act_110 rfl ?_
            refine z_iconst dL_act_112 ?_
            refine z_icmp_ne (tgt := 122) (by first | exact y_rb _ | omega | (exact hr _ _ (by decide))) (by first | exact y_rb _ | omega | (exact hr _ _ (by decide))) dL_act_113 (by decide) (fun h113 => ?_) (fun h113 => ?_)
            · refine z_bipush dL_act_122 (by decide) ?_
              refine z_top (v' := z_sn k) (by unfold z_sn; (repeat' split) <;> omega) ?_
              refine kL_65 (tL_at (by have := z_sn_rg k; omega) (by have := z_sn_rg k; omega)) rfl ⟨(Nat.le_of_ble_eq_true rfl), (Nat.le_of_ble_eq_true rfl)⟩ (Nat.le_of_ble_eq_true rfl) dL_act_124 ?_
              obtain ⟨v, y_v⟩ : ∃ v, z_atv y (z_sn k) = v := ⟨_, rfl⟩
              have y_sn := z_sn_rg k
              have y_vv := z_atv_rg (x := y) (n := z_sn k) y_sn.1
              rw [y_v] at y_vv
              refine z_top (v' := v) y_v ?_
              refine z_lst (R := 40) (j := 8 + k) al_st (Or.inl (by decide)) (by omega) (by omega) (Nat.le_of_ble_eq_true rfl) (by omega) (by first | exact y_rb _ | omega | (exact hr _ _ (by decide))) dL_act_127 ?_
              refine z_rng fun hr => ?_
              refine z_mem (M' := z_sR M 40 (z_o_set (M g) k v)) (by simp only [z_sM_R, z_sR_R, z_sR_self]; rw [hE]; first | rfl | (congr 1; rfl)) ?_
              have y_lc : z_LC (z_sR M 40 (z_o_set (M g) k v)) g N := z_LC_sR h.1 (by decide)
              have y_g : z_sR M 40 (z_o_set (M g) k v) g = M g := z_sR_ne _ _ (by omega)
              have y_40 : z_sR M 40 (z_o_set (M g) k v) 40 = z_o_set (M g) k v := z_sR_self _ _ _
              refine z_rng fun hr => ?_
              generalize z_sR M 40 (z_o_set (M g) k v) = M2 at *
              obtain ⟨-, hn', hn0', s0', s1', ho', hb'⟩ := id y_lc
              have y_hc : z_c_set k v = 0 := by unfold z_c_set; rw [if_neg (by omega), if_neg (by omega)]
              have y_k := z_k_set hb hN y_hc
              have y_o : z_o_set (M g) k v 0 = M g 0 ∧ z_o_set (M g) k v 1 = M g 1 := ⟨z_uf_ne _ _ (by omega), z_uf_ne _ _ (by omega)⟩
              refine z_aloadn dL_act_128 rfl ?_
              refine z_iload dL_act_129 rfl ?_
              refine z_aload dL_act_131 rfl ?_
              refine z_iload dL_act_133 rfl ?_
              refine z_lld (R := 40) (j := 8 + k) al_st (Or.inl (by decide)) ((congrFun y_40 _).trans (z_uf_self _ _ _)) (by omega) (by omega) (Nat.le_of_ble_eq_true rfl) (by omega) dL_act_135 ?_
              refine kL_114 (tX6_set hg hn' hn0' s0' s1' ho' hb' (x := k) (v := v) (by omega) (by omega) y_hc) rfl ⟨(Nat.le_of_ble_eq_true rfl), (Nat.le_of_ble_eq_true rfl)⟩ (Nat.le_of_ble_eq_true rfl) dL_act_136 ?_
              refine z_rng fun hr => ?_
              refine z_top (v' := M g (8 + k)) (by rw [y_g]) ?_
              refine z_iload dL_act_139 rfl ?_
              refine z_icmp_ne (tgt := 148) (by first | exact y_rb _ | omega | (exact hr _ _ (by decide))) (by first | exact y_rb _ | omega | (exact hr _ _ (by decide))) dL_act_141 (by decide) (fun h141 => ?_) (fun h141 => ?_)
              · exfalso; omega
              · refine z_iconst dL_act_144 ?_
                refine z_goto (tgt := 149) dL_act_145 (by decide) ?_
                exact z_zretP dL_act_149 rfl (by rw [y_g]; exact z_PA_sv y_lc y_40 y_k (by omega) (by omega))
            · refine z_sipush dL_act_116 (by decide) ?_
              refine z_goto (tgt := 124) dL_act_119 (by decide) ?_
              refine z_top (v' := z_sn k) (by unfold z_sn; (repeat' split) <;> omega) ?_
              refine kL_65 (tL_at (by have := z_sn_rg k; omega) (by have := z_sn_rg k; omega)) rfl ⟨(Nat.le_of_ble_eq_true rfl), (Nat.le_of_ble_eq_true rfl)⟩ (Nat.le_of_ble_eq_true rfl) dL_act_124 ?_
              obtain ⟨v, y_v⟩ : ∃ v, z_atv y (z_sn k) = v := ⟨_, rfl⟩
              have y_sn := z_sn_rg k
              have y_vv := z_atv_rg (x := y) (n := z_sn k) y_sn.1
              rw [y_v] at y_vv
              refine z_top (v' := v) y_v ?_
              refine z_lst (R := 40) (j := 8 + k) al_st (Or.inl (by decide)) (by omega) (by omega) (Nat.le_of_ble_eq_true rfl) (by omega) (by first | exact y_rb _ | omega | (exact hr _ _ (by decide))) dL_act_127 ?_
              refine z_rng fun hr => ?_
              refine z_mem (M' := z_sR M 40 (z_o_set (M g) k v)) (by simp only [z_sM_R, z_sR_R, z_sR_self]; rw [hE]; first | rfl | (congr 1; rfl)) ?_
              have y_lc : z_LC (z_sR M 40 (z_o_set (M g) k v)) g N := z_LC_sR h.1 (by decide)
              have y_g : z_sR M 40 (z_o_set (M g) k v) g = M g := z_sR_ne _ _ (by omega)
              have y_40 : z_sR M 40 (z_o_set (M g) k v) 40 = z_o_set (M g) k v := z_sR_self _ _ _
              refine z_rng fun hr => ?_
              generalize z_sR M 40 (z_o_set (M g) k v) = M2 at *
              obtain ⟨-, hn', hn0', s0', s1', ho', hb'⟩ := id y_lc
              have y_hc : z_c_set k v = 0 := by unfold z_c_set; rw [if_neg (by omega), if_neg (by omega)]
              have y_k := z_k_set hb hN y_hc
              have y_o : z_o_set (M g) k v 0 = M g 0 ∧ z_o_set (M g) k v 1 = M g 1 := ⟨z_uf_ne _ _ (by omega), z_uf_ne _ _ (by omega)⟩
              refine z_aloadn dL_act_128 rfl ?_
              refine z_iload dL_act_129 rfl ?_
              refine z_aload dL_act_131 rfl ?_
              refine z_iload dL_act_133 rfl ?_
              refine z_lld (R := 40) (j := 8 + k) al_st (Or.inl (by decide)) ((congrFun y_40 _).trans (z_uf_self _ _ _)) (by omega) (by omega) (Nat.le_of_ble_eq_true rfl) (by omega) dL_act_135 ?_
              refine kL_114 (tX6_set hg hn' hn0' s0' s1' ho' hb' (x := k) (v := v) (by omega) (by omega) y_hc) rfl ⟨(Nat.le_of_ble_eq_true rfl), (Nat.le_of_ble_eq_true rfl)⟩ (Nat.le_of_ble_eq_true rfl) dL_act_136 ?_
              refine z_rng fun hr => ?_
              refine z_top (v' := M g (8 + k)) (by rw [y_g]) ?_
              refine z_iload dL_act_139 rfl ?_
              refine z_icmp_ne (tgt := 148) (by first | exact y_rb _ | omega | (exact hr _ _ (by decide))) (by first | exact y_rb _ | omega | (exact hr _ _ (by decide))) dL_act_141 (by decide) (fun h141 => ?_) (fun h141 => ?_)
              · exfalso; omega
              · refine z_iconst dL_act_144 ?_
                refine z_goto (tgt := 149) dL_act_145 (by decide) ?_
                exact z_zretP dL_act_149 rfl (by rw [y_g]; exact z_PA_sv y_lc y_40 y_k (by omega) (by omega))
          · refine z_bipush dL_act_105 (by decide) ?_
            refine z_goto (tgt := 124) dL_act_107 (by decide) ?_
            refine z_top (v' := z_sn k) (by unfold z_sn; (repeat' split) <;> omega) ?_
            refine kL_65 (tL_at (by have := z_sn_rg k; omega) (by have := z_sn_rg k; omega)) rfl ⟨(Nat.le_of_ble_eq_true rfl), (Nat.le_of_ble_eq_true rfl)⟩ (Nat.le_of_ble_eq_true rfl) dL_act_124 ?_
            obtain ⟨v, y_v⟩ : ∃ v, z_atv y (z_sn k) = v := ⟨_, rfl⟩
            have y_sn := z_sn_rg k
            have y_vv := z_atv_rg (x := y) (n := z_sn k) y_sn.1
            rw [y_v] at y_vv
            refine z_top (v' := v) y_v ?_
            refine z_lst (R := 40) (j := 8 + k) al_st (Or.inl (by decide)) (by omega) (by omega) (Nat.le_of_ble_eq_true rfl) (by omega) (by first | exact y_rb _ | omega | (exact hr _ _ (by decide))) dL_act_127 ?_
            refine z_rng fun hr => ?_
            refine z_mem (M' := z_sR M 40 (z_o_set (M g) k v)) (by simp only [z_sM_R, z_sR_R, z_sR_self]; rw [hE]; first | rfl | (congr 1; rfl)) ?_
            have y_lc : z_LC (z_sR M 40 (z_o_set (M g) k v)) g N := z_LC_sR h.1 (by decide)
            have y_g : z_sR M 40 (z_o_set (M g) k v) g = M g := z_sR_ne _ _ (by omega)
            have y_40 : z_sR M 40 (z_o_set (M g) k v) 40 = z_o_set (M g) k v := z_sR_self _ _ _
            refine z_rng fun hr => ?_
            generalize z_sR M 40 (z_o_set (M g) k v) = M2 at *
            obtain ⟨-, hn', hn0', s0', s1', ho', hb'⟩ := id y_lc
            have y_hc : z_c_set k v = 0 := by unfold z_c_set; rw [if_neg (by omega), if_neg (by omega)]
            have y_k := z_k_set hb hN y_hc
            have y_o : z_o_set (M g) k v 0 = M g 0 ∧ z_o_set (M g) k v 1 = M g 1 := ⟨z_uf_ne _ _ (by omega), z_uf_ne _ _ (by omega)⟩
            refine z_aloadn dL_act_128 rfl ?_
            refine z_iload dL_act_129 rfl ?_
            refine z_aload dL_act_131 rfl ?_
            refine z_iload dL_act_133 rfl ?_
            refine z_lld (R := 40) (j := 8 + k) al_st (Or.inl (by decide)) ((congrFun y_40 _).trans (z_uf_self _ _ _)) (by omega) (by omega) (Nat.le_of_ble_eq_true rfl) (by omega) dL_act_135 ?_
            refine kL_114 (tX6_set hg hn' hn0' s0' s1' ho' hb' (x := k) (v := v) (by omega) (by omega) y_hc) rfl ⟨(Nat.le_of_ble_eq_true rfl), (Nat.le_of_ble_eq_true rfl)⟩ (Nat.le_of_ble_eq_true rfl) dL_act_136 ?_
            refine z_rng fun hr => ?_
            refine z_top (v' := M g (8 + k)) (by rw [y_g]) ?_
            refine z_iload dL_act_139 rfl ?_
            refine z_icmp_ne (tgt := 148) (by first | exact y_rb _ | omega | (exact hr _ _ (by decide))) (by first | exact y_rb _ | omega | (exact hr _ _ (by decide))) dL_act_141 (by decide) (fun h141 => ?_) (fun h141 => ?_)
            · exfalso; omega
            · refine z_iconst dL_act_144 ?_
              refine z_goto (tgt := 149) dL_act_145 (by decide) ?_
              exact z_zretP dL_act_149 rfl (by rw [y_g]; exact z_PA_sv y_lc y_40 y_k (by omega) (by omega))
        · refine z_bipush dL_act_94 (by decide) ?_
          refine z_goto (tgt := 124) dL_act_96 (by decide) ?_
          refine z_top (v' := z_sn k) (by unfold z_sn; (repeat' split) <;> omega) ?_
          refine kL_65 (tL_at (by have := z_sn_rg k; omega) (by have := z_sn_rg k; omega)) rfl ⟨(Nat.le_of_ble_eq_true rfl), (Nat.le_of_ble_eq_true rfl)⟩ (Nat.le_of_ble_eq_true rfl) dL_act_124 ?_
          obtain ⟨v, y_v⟩ : ∃ v, z_atv y (z_sn k) = v := ⟨_, rfl⟩
          have y_sn := z_sn_rg k
          have y_vv := z_atv_rg (x := y) (n := z_sn k) y_sn.1
          rw [y_v] at y_vv
          refine z_top (v' := v) y_v ?_
          refine z_lst (R := 40) (j := 8 + k) al_st (Or.inl (by decide)) (by omega) (by omega) (Nat.le_of_ble_eq_true rfl) (by omega) (by first | exact y_rb _ | omega | (exact hr _ _ (by decide))) dL_act_127 ?_
          refine z_rng fun hr => ?_
          refine z_mem (M' := z_sR M 40 (z_o_set (M g) k v)) (by simp only [z_sM_R, z_sR_R, z_sR_self]; rw [hE]; first | rfl | (congr 1; rfl)) ?_
          have y_lc : z_LC (z_sR M 40 (z_o_set (M g) k v)) g N := z_LC_sR h.1 (by decide)
          have y_g : z_sR M 40 (z_o_set (M g) k v) g = M g := z_sR_ne _ _ (by omega)
          have y_40 : z_sR M 40 (z_o_set (M g) k v) 40 = z_o_set (M g) k v := z_sR_self _ _ _
          refine z_rng fun hr => ?_
          generalize z_sR M 40 (z_o_set (M g) k v) = M2 at *
          obtain ⟨-, hn', hn0', s0', s1', ho', hb'⟩ := id y_lc
          have y_hc : z_c_set k v = 0 := by unfold z_c_set; rw [if_neg (by omega), if_neg (by omega)]
          have y_k := z_k_set hb hN y_hc
          have y_o : z_o_set (M g) k v 0 = M g 0 ∧ z_o_set (M g) k v 1 = M g 1 := ⟨z_uf_ne _ _ (by omega), z_uf_ne _ _ (by omega)⟩
          refine z_aloadn dL_act_128 rfl ?_
          refine z_iload dL_act_129 rfl ?_
          refine z_aload dL_act_131 rfl ?_
          refine z_iload dL_act_133 rfl ?_
          refine z_lld (R := 40) (j := 8 + k) al_st (Or.inl (by decide)) ((congrFun y_40 _).trans (z_uf_self _ _ _)) (by omega) (by omega) (Nat.le_of_ble_eq_true rfl) (by omega) dL_act_135 ?_
          refine kL_114 (tX6_set hg hn' hn0' s0' s1' ho' hb' (x := k) (v := v) (by omega) (by omega) y_hc) rfl ⟨(Nat.le_of_ble_eq_true rfl), (Nat.le_of_ble_eq_true rfl)⟩ (Nat.le_of_ble_eq_true rfl) dL_act_136 ?_
          refine z_rng fun hr => ?_
          refine z_top (v' := M g (8 + k)) (by rw [y_g]) ?_
          refine z_iload dL_act_139 rfl ?_
          refine z_icmp_ne (tgt := 148) (by first | exact y_rb _ | omega | (exact hr _ _ (by decide))) (by first | exact y_rb _ | omega | (exact hr _ _ (by decide))) dL_act_141 (by decide) (fun h141 => ?_) (fun h141 => ?_)
          · exfalso; omega
          · refine z_iconst dL_act_144 ?_
            refine z_goto (tgt := 149) dL_act_145 (by decide) ?_
            exact z_zretP dL_act_149 rfl (by rw [y_g]; exact z_PA_sv y_lc y_40 y_k (by omega) (by omega))
    · exfalso; omega
theorem tL_act_year {G : z_G} {M : z_M} {g : Nat} {N a x y : Int} (h : z_LR M g N) (hN : N + 1 ≤ 600) (a0 : 0 ≤ a) (a1 : a ≤ 24) (b0 : 0 < M g 0) (ha : a = 2) : z_ConP G yL_act cL_act 15 (some .boolean) 9 177 0 0 [.ref (z_ad G 0 20), z_I a, z_I x, z_I y, .ref (z_ad G 0 40), .ref (z_ad G 0 41), .ref (z_ad G 0 42), .ref (z_ad G 0 43), .ref (z_ad G 0 44), .ref (z_ad G 0 45), .ref (z_ad G 0 46)] M (some (z_I 1)) (z_PA M N a (M g 0)) := by
  refine z_conP (ls := [some (.ref (z_ad G 0 20)), some (z_I a), some (z_I x), some (z_I y), some (.ref (z_ad G 0 40)), some (.ref (z_ad G 0 41)), some (.ref (z_ad G 0 42)), some (.ref (z_ad G 0 43)), some (.ref (z_ad G 0 44)), some (.ref (z_ad G 0 45)), some (.ref (z_ad G 0 46)), none, none, none, none]) (by decide +kernel) (Nat.le_of_ble_eq_true rfl) rfl ?_
  intro Z
  refine z_rng fun hr => ?_
  have h0 := h
  obtain ⟨⟨hg, hn, hn0, s0, s1, ho, hb⟩, hE, h4, h5⟩ := h0
  have hh := z_BI_h hb
  have y_rb : ∀ i, z_rg (M g i) := fun i => hr g i (by omega)
  have hq7 := z_sg_lt g
  refine z_iloadn dL_act_0 rfl ?_
  refine z_if_eq (tgt := 11) (by first | exact y_rb _ | omega | (exact hr _ _ (by decide))) dL_act_1 (by decide) (fun h1 => ?_) (fun h1 => ?_)
  · exfalso; omega
  · refine z_aload dL_act_4 rfl ?_
    refine z_iconst dL_act_6 ?_
    refine z_lld (R := 40) (j := 0) al_c (Or.inl (by decide)) (congrFun hE _) (by omega) (by omega) (Nat.le_of_ble_eq_true rfl) (by omega) dL_act_7 ?_
    refine z_if_ne (tgt := 64) (by first | exact y_rb _ | omega | (exact hr _ _ (by decide))) dL_act_8 (by decide) (fun h8 => ?_) (fun h8 => ?_)
    · refine z_iloadn dL_act_64 rfl ?_
      refine z_iconst dL_act_65 ?_
      refine z_icmp_ne (tgt := 150) (by first | exact y_rb _ | omega | (exact hr _ _ (by decide))) (by first | exact y_rb _ | omega | (exact hr _ _ (by decide))) dL_act_66 (by decide) (fun h66 => ?_) (fun h66 => ?_)
      · refine z_iloadn dL_act_150 rfl ?_
        refine z_iconst dL_act_151 ?_
        refine z_icmp_ne (tgt := 202) (by first | exact y_rb _ | omega | (exact hr _ _ (by decide))) (by first | exact y_rb _ | omega | (exact hr _ _ (by decide))) dL_act_152 (by decide) (fun h152 => ?_) (fun h152 => ?_)
        · exfalso; omega
        · refine z_aload dL_act_155 rfl ?_
          refine z_iconst dL_act_157 ?_
          refine z_dup2 dL_act_158 rfl rfl ?_
          refine z_lld (R := 40) (j := 2) al_c (Or.inl (by decide)) (congrFun hE _) (by omega) (by omega) (Nat.le_of_ble_eq_true rfl) (by omega) dL_act_159 ?_
          refine z_iconst dL_act_160 ?_
          refine z_iadd dL_act_161 ?_
          refine z_lst (R := 40) (j := 2) al_c (Or.inl (by decide)) (by omega) (by omega) (Nat.le_of_ble_eq_true rfl) (by omega) (by first | exact y_rb _ | omega | (exact hr _ _ (by decide))) dL_act_162 ?_
          refine z_rng fun hr => ?_
          refine z_mem (M' := z_sR M 40 (z_fl (fun p => 666 + 12 * (p / 4) + p % 4) (z_uf (M g) 2 (M g 2 + 1)) 0 ((0 : Nat) : Int).toNat)) (by rw [z_sM_R, hE]; rfl) ?_
          refine z_rng fun hr => ?_
          refine z_iconst dL_act_163 ?_
          refine z_istore_11 dL_act_164 (Nat.le_of_ble_eq_true rfl) rfl ?_
          refine z_upn (P := fun i : Nat => z_J G Z (cL_act, 15, yL_act.cls, z_rmP 9 177 0 0, some .boolean) (z_QmP G Z (some (z_I 1)) (z_PA M N a (M g 0)) 0 0) 166 [some (.ref (z_ad G 0 20)), some (z_I a), some (z_I x), some (z_I y), some (.ref (z_ad G 0 40)), some (.ref (z_ad G 0 41)), some (.ref (z_ad G 0 42)), some (.ref (z_ad G 0 43)), some (.ref (z_ad G 0 44)), some (.ref (z_ad G 0 45)), some (.ref (z_ad G 0 46)), some (z_I i), none, none, none] [] (z_sR M 40 (z_fl (fun p => 666 + 12 * (p / 4) + p % 4) (z_uf (M g) 2 (M g 2 + 1)) 0 i)) 0 0) 16 ?_ ?_
          · refine z_rng fun hr => ?_
            refine z_iload dL_act_166 rfl ?_
            refine z_bipush dL_act_168 (by decide) ?_
            refine z_icmp_ge (tgt := 185) (by first | exact y_rb _ | omega | (exact hr _ _ (by decide))) (by first | exact y_rb _ | omega | (exact hr _ _ (by decide))) dL_act_170 (by decide) (fun h170 => ?_) (fun h170 => ?_)
            · refine z_mem (M' := z_sR M 40 (z_o_nextYear (M g))) (by rw [z_ny_4 hb h4 h5]) ?_
              have y_lc : z_LC (z_sR M 40 (z_o_nextYear (M g))) g N := z_LC_sR h.1 (by decide)
              have y_g : z_sR M 40 (z_o_nextYear (M g)) g = M g := z_sR_ne _ _ (by omega)
              have y_40 : z_sR M 40 (z_o_nextYear (M g)) 40 = z_o_nextYear (M g) := z_sR_self _ _ _
              refine z_rng fun hr => ?_
              generalize z_sR M 40 (z_o_nextYear (M g)) = M2 at *
              obtain ⟨-, hn', hn0', s0', s1', ho', hb'⟩ := id y_lc
              have y_k := z_k_nextYear hb hN
              have y_o : z_o_nextYear (M g) 0 = M g 0 ∧ z_o_nextYear (M g) 1 = M g 1 ∧ z_o_nextYear (M g) 2 = M g 2 + 1 := ⟨rfl, rfl, rfl⟩
              refine z_aloadn dL_act_185 rfl ?_
              refine kL_117 (tX6_nextYear hg hn' hn0' s0' s1' ho' hb') rfl ⟨(Nat.le_of_ble_eq_true rfl), (Nat.le_of_ble_eq_true rfl)⟩ (Nat.le_of_ble_eq_true rfl) dL_act_186 ?_
              refine z_rng fun hr => ?_
              refine z_top (v' := M g 2 + 1) (by rw [y_g]) ?_
              refine z_aload dL_act_189 rfl ?_
              refine z_iconst dL_act_191 ?_
              refine z_lld (R := 40) (j := 2) al_c (Or.inl (by decide)) ((congrFun (z_sR_ne _ _ (by omega)) _).trans ((congrFun (z_SC_row (by decide) (by omega)) _).trans ((congrFun y_40 _).trans y_o.2.2))) (by omega) (by omega) (Nat.le_of_ble_eq_true rfl) (by omega) dL_act_192 ?_
              refine z_icmp_ne (tgt := 200) (by first | exact y_rb _ | omega | (exact hr _ _ (by decide))) (by first | exact y_rb _ | omega | (exact hr _ _ (by decide))) dL_act_193 (by decide) (fun h193 => ?_) (fun h193 => ?_)
              · exfalso; omega
              · refine z_iconst dL_act_196 ?_
                refine z_goto (tgt := 201) dL_act_197 (by decide) ?_
                exact z_zretP dL_act_201 rfl (by rw [y_g]; exact z_PA_sv y_lc y_40 y_k (by omega) (by omega))
            · exfalso; omega
          · intro i hi y_ih
            refine z_rng fun hr => ?_
            refine z_iload dL_act_166 rfl ?_
            refine z_bipush dL_act_168 (by decide) ?_
            refine z_icmp_ge (tgt := 185) (by first | exact y_rb _ | omega | (exact hr _ _ (by decide))) (by first | exact y_rb _ | omega | (exact hr _ _ (by decide))) dL_act_170 (by decide) (fun h170 => ?_) (fun h170 => ?_)
            · exfalso; omega
            · refine z_aload dL_act_173 rfl ?_
              refine z_iload dL_act_175 rfl ?_
              refine z_iconst dL_act_177 ?_
              refine z_lst (R := 40) (j := 666 + 12 * ((i : Int) / 4) + (i : Int) % 4) al_go (Or.inl (by decide)) (by omega) (by omega) (Nat.le_of_ble_eq_true rfl) (by omega) (by first | exact y_rb _ | omega | (exact hr _ _ (by decide))) dL_act_178 ?_
              refine z_rng fun hr => ?_
              refine z_iinc_11 dL_act_179 (Nat.le_of_ble_eq_true rfl) rfl ?_
              refine z_goto (tgt := 166) dL_act_182 (by decide) ?_
              refine z_mem ?_ y_ih
              rw [z_sM_sR]
              rfl
      · exfalso; omega
    · exfalso; omega
theorem tL_act_money {G : z_G} {M : z_M} {g : Nat} {N a x y : Int} (h : z_LR M g N) (hN : N + 1 ≤ 600) (a0 : 0 ≤ a) (a1 : a ≤ 24) (b0 : 0 < M g 0) (ha : 3 ≤ a ∧ a < 7) : z_ConP G yL_act cL_act 15 (some .boolean) 9 177 0 0 [.ref (z_ad G 0 20), z_I a, z_I x, z_I y, .ref (z_ad G 0 40), .ref (z_ad G 0 41), .ref (z_ad G 0 42), .ref (z_ad G 0 43), .ref (z_ad G 0 44), .ref (z_ad G 0 45), .ref (z_ad G 0 46)] M (some (z_I 1)) (z_PA M N a (M g 0)) := by
  refine z_conP (ls := [some (.ref (z_ad G 0 20)), some (z_I a), some (z_I x), some (z_I y), some (.ref (z_ad G 0 40)), some (.ref (z_ad G 0 41)), some (.ref (z_ad G 0 42)), some (.ref (z_ad G 0 43)), some (.ref (z_ad G 0 44)), some (.ref (z_ad G 0 45)), some (.ref (z_ad G 0 46)), none, none, none, none]) (by decide +kernel) (Nat.le_of_ble_eq_true rfl) rfl ?_
  intro Z
  refine z_rng fun hr => ?_
  have h0 := h
  obtain ⟨⟨hg, hn, hn0, s0, s1, ho, hb⟩, hE, h4, h5⟩ := h0
  have hh := z_BI_h hb
  have y_rb : ∀ i, z_rg (M g i) := fun i => hr g i (by omega)
  have hq7 := z_sg_lt g
  refine z_iloadn dL_act_0 rfl ?_
  refine z_if_eq (tgt := 11) (by first | exact y_rb _ | omega | (exact hr _ _ (by decide))) dL_act_1 (by decide) (fun h1 => ?_) (fun h1 => ?_)
  · exfalso; omega
  · refine z_aload dL_act_4 rfl ?_
    refine z_iconst dL_act_6 ?_
    refine z_lld (R := 40) (j := 0) al_c (Or.inl (by decide)) (congrFun hE _) (by omega) (by omega) (Nat.le_of_ble_eq_true rfl) (by omega) dL_act_7 ?_
    refine z_if_ne (tgt := 64) (by first | exact y_rb _ | omega | (exact hr _ _ (by decide))) dL_act_8 (by decide) (fun h8 => ?_) (fun h8 => ?_)
    · refine z_iloadn dL_act_64 rfl ?_
      refine z_iconst dL_act_65 ?_
      refine z_icmp_ne (tgt := 150) (by first | exact y_rb _ | omega | (exact hr _ _ (by decide))) (by first | exact y_rb _ | omega | (exact hr _ _ (by decide))) dL_act_66 (by decide) (fun h66 => ?_) (fun h66 => ?_)
      · refine z_iloadn dL_act_150 rfl ?_
        refine z_iconst dL_act_151 ?_
        refine z_icmp_ne (tgt := 202) (by first | exact y_rb _ | omega | (exact hr _ _ (by decide))) (by first | exact y_rb _ | omega | (exact hr _ _ (by decide))) dL_act_152 (by decide) (fun h152 => ?_) (fun h152 => ?_)
        · refine z_iloadn dL_act_202 rfl ?_
          refine z_bipush dL_act_203 (by decide) ?_
          refine z_icmp_ge (tgt := 222) (by first | exact y_rb _ | omega | (exact hr _ _ (by decide))) (by first | exact y_rb _ | omega | (exact hr _ _ (by decide))) dL_act_205 (by decide) (fun h205 => ?_) (fun h205 => ?_)
          · exfalso; omega
          · refine z_aloadn dL_act_208 rfl ?_
            refine z_iloadn dL_act_209 rfl ?_
            refine z_iconst dL_act_210 ?_
            refine z_isub dL_act_211 ?_
            refine z_iloadn dL_act_212 rfl ?_
            refine z_iloadn dL_act_213 rfl ?_
            refine z_aload dL_act_214 rfl ?_
            refine z_aload dL_act_216 rfl ?_
            refine z_callSP (idx := 120) (tL_moneyA h hN b0 (by omega) (by omega)) (by exact wmL_120) wt_L_money wc_L_money wn_L n_L_money rfl rfl ⟨(Nat.le_of_ble_eq_true rfl), (Nat.le_of_ble_eq_true rfl)⟩ ⟨Nat.le_refl _, Nat.le_refl _⟩ (Nat.le_of_ble_eq_true rfl) dL_act_218 (fun M1 hM1 => ?_)
            exact z_zretP dL_act_221 rfl (z_PA_ne (by omega) hM1)
        · exfalso; omega
      · exfalso; omega
    · exfalso; omega
theorem tL_act_order {G : z_G} {M : z_M} {g : Nat} {N a x y : Int} (h : z_LR M g N) (hN : N + 1 ≤ 600) (a0 : 0 ≤ a) (a1 : a ≤ 24) (b0 : 0 < M g 0) (ha : 7 ≤ a) (hb1 : a < 9 ∨ M g 1 = 0) : z_ConP G yL_act cL_act 15 (some .boolean) 9 177 0 0 [.ref (z_ad G 0 20), z_I a, z_I x, z_I y, .ref (z_ad G 0 40), .ref (z_ad G 0 41), .ref (z_ad G 0 42), .ref (z_ad G 0 43), .ref (z_ad G 0 44), .ref (z_ad G 0 45), .ref (z_ad G 0 46)] M (some (z_I 1)) (z_PA M N a (M g 0)) := by
  refine z_conP (ls := [some (.ref (z_ad G 0 20)), some (z_I a), some (z_I x), some (z_I y), some (.ref (z_ad G 0 40)), some (.ref (z_ad G 0 41)), some (.ref (z_ad G 0 42)), some (.ref (z_ad G 0 43)), some (.ref (z_ad G 0 44)), some (.ref (z_ad G 0 45)), some (.ref (z_ad G 0 46)), none, none, none, none]) (by decide +kernel) (Nat.le_of_ble_eq_true rfl) rfl ?_
  intro Z
  refine z_rng fun hr => ?_
  have h0 := h
  obtain ⟨⟨hg, hn, hn0, s0, s1, ho, hb⟩, hE, h4, h5⟩ := h0
  have hh := z_BI_h hb
  have y_rb : ∀ i, z_rg (M g i) := fun i => hr g i (by omega)
  have hq7 := z_sg_lt g
  refine z_iloadn dL_act_0 rfl ?_
  refine z_if_eq (tgt := 11) (by first | exact y_rb _ | omega | (exact hr _ _ (by decide))) dL_act_1 (by decide) (fun h1 => ?_) (fun h1 => ?_)
  · exfalso; omega
  · refine z_aload dL_act_4 rfl ?_
    refine z_iconst dL_act_6 ?_
    refine z_lld (R := 40) (j := 0) al_c (Or.inl (by decide)) (congrFun hE _) (by omega) (by omega) (Nat.le_of_ble_eq_true rfl) (by omega) dL_act_7 ?_
    refine z_if_ne (tgt := 64) (by first | exact y_rb _ | omega | (exact hr _ _ (by decide))) dL_act_8 (by decide) (fun h8 => ?_) (fun h8 => ?_)
    · refine z_iloadn dL_act_64 rfl ?_
      refine z_iconst dL_act_65 ?_
      refine z_icmp_ne (tgt := 150) (by first | exact y_rb _ | omega | (exact hr _ _ (by decide))) (by first | exact y_rb _ | omega | (exact hr _ _ (by decide))) dL_act_66 (by decide) (fun h66 => ?_) (fun h66 => ?_)
      · refine z_iloadn dL_act_150 rfl ?_
        refine z_iconst dL_act_151 ?_
        refine z_icmp_ne (tgt := 202) (by first | exact y_rb _ | omega | (exact hr _ _ (by decide))) (by first | exact y_rb _ | omega | (exact hr _ _ (by decide))) dL_act_152 (by decide) (fun h152 => ?_) (fun h152 => ?_)
        · refine z_iloadn dL_act_202 rfl ?_
          refine z_bipush dL_act_203 (by decide) ?_
          refine z_icmp_ge (tgt := 222) (by first | exact y_rb _ | omega | (exact hr _ _ (by decide))) (by first | exact y_rb _ | omega | (exact hr _ _ (by decide))) dL_act_205 (by decide) (fun h205 => ?_) (fun h205 => ?_)
          · refine z_iloadn dL_act_222 rfl ?_
            refine z_bipush dL_act_223 (by decide) ?_
            refine z_icmp_lt (tgt := 235) (by first | exact y_rb _ | omega | (exact hr _ _ (by decide))) (by first | exact y_rb _ | omega | (exact hr _ _ (by decide))) dL_act_225 (by decide) (fun h225 => ?_) (fun h225 => ?_)
            · refine z_aload dL_act_235 rfl ?_
              refine z_iconst dL_act_237 ?_
              refine z_lld (R := 40) (j := 1) al_c (Or.inl (by decide)) (congrFun hE _) (by omega) (by omega) (Nat.le_of_ble_eq_true rfl) (by omega) dL_act_238 ?_
              refine z_iconst dL_act_239 ?_
              refine z_icmp_ne (tgt := 245) (by first | exact y_rb _ | omega | (exact hr _ _ (by decide))) (by first | exact y_rb _ | omega | (exact hr _ _ (by decide))) dL_act_240 (by decide) (fun h240 => ?_) (fun h240 => ?_)
              · refine z_iloadn dL_act_245 rfl ?_
                refine z_aload dL_act_246 rfl ?_
                refine z_iconst dL_act_248 ?_
                refine z_lld (R := 40) (j := 0) al_c (Or.inl (by decide)) (congrFun hE _) (by omega) (by omega) (Nat.le_of_ble_eq_true rfl) (by omega) dL_act_249 ?_
                refine kL_65 (tL_at (by omega) (by omega)) rfl ⟨(Nat.le_of_ble_eq_true rfl), (Nat.le_of_ble_eq_true rfl)⟩ (Nat.le_of_ble_eq_true rfl) dL_act_250 ?_
                obtain ⟨p, y_p⟩ : ∃ p, z_atv x (M g 0) = p := ⟨_, rfl⟩
                have y_p2 := z_atv_rg (x := x) (n := M g 0) b0
                rw [y_p] at y_p2
                have y_K := z_BI_K hb (M g 1) (by omega) (by omega)
                unfold z_KI at y_K
                refine z_top (v' := p) y_p ?_
                refine z_istore_11 dL_act_253 (Nat.le_of_ble_eq_true rfl) rfl ?_
                refine z_iconst dL_act_255 ?_
                refine z_aload dL_act_256 rfl ?_
                refine z_iconst dL_act_258 ?_
                refine z_lld (R := 40) (j := 1) al_c (Or.inl (by decide)) (congrFun hE _) (by omega) (by omega) (Nat.le_of_ble_eq_true rfl) (by omega) dL_act_259 ?_
                refine z_imul dL_act_260 ?_
                refine z_istore_12 dL_act_261 (Nat.le_of_ble_eq_true rfl) rfl ?_
                refine z_aload dL_act_263 rfl ?_
                refine z_iload dL_act_265 rfl ?_
                refine z_iload dL_act_267 rfl ?_
                refine z_lst (R := 40) (j := 86 + 5 * M g 1) al_pi (Or.inl (by decide)) (by omega) (by omega) (Nat.le_of_ble_eq_true rfl) (by omega) (by first | exact y_rb _ | omega | (exact hr _ _ (by decide))) dL_act_269 ?_
                refine z_rng fun hr => ?_
                refine z_aload dL_act_270 rfl ?_
                refine z_iload dL_act_272 rfl ?_
                refine z_iconst dL_act_274 ?_
                refine z_iadd dL_act_275 ?_
                refine z_bipush dL_act_276 (by decide) ?_
                refine z_iloadn dL_act_278 rfl ?_
                refine z_sipush dL_act_279 (by decide) ?_
                refine kL_65 (tL_at (by decide) (by decide)) rfl ⟨(Nat.le_of_ble_eq_true rfl), (Nat.le_of_ble_eq_true rfl)⟩ (Nat.le_of_ble_eq_true rfl) dL_act_282 ?_
                refine z_iadd dL_act_285 ?_
                obtain ⟨f, y_f⟩ : ∃ f, 10 + z_atv y 9000 = f := ⟨_, rfl⟩
                have y_f2 := z_atv_rg (x := y) (n := 9000) (by decide)
                have y_f3 : 10 ≤ f ∧ f ≤ 9009 := by omega
                refine z_top (v' := f) y_f ?_
                refine z_lst (R := 40) (j := 86 + 5 * M g 1 + 1) al_pi (Or.inl (by decide)) (by omega) (by omega) (Nat.le_of_ble_eq_true rfl) (by omega) (by first | exact y_rb _ | omega | (exact hr _ _ (by decide))) dL_act_286 ?_
                refine z_rng fun hr => ?_
                refine z_aload dL_act_287 rfl ?_
                refine z_iload dL_act_289 rfl ?_
                refine z_iconst dL_act_291 ?_
                refine z_iadd dL_act_292 ?_
                refine z_iconst dL_act_293 ?_
                refine z_lst (R := 40) (j := 86 + 5 * M g 1 + 3) al_pi (Or.inl (by decide)) (by omega) (by omega) (Nat.le_of_ble_eq_true rfl) (by omega) (by first | exact y_rb _ | omega | (exact hr _ _ (by decide))) dL_act_294 ?_
                refine z_rng fun hr => ?_
                refine z_aload dL_act_295 rfl ?_
                refine z_iconst dL_act_297 ?_
                refine z_aload dL_act_298 rfl ?_
                refine z_iconst dL_act_300 ?_
                refine z_lld (R := 40) (j := 1) al_c (Or.inl (by decide)) ((z_sM_ne _ _ _ (by omega)).trans ((z_sM_ne _ _ _ (by omega)).trans ((z_sM_ne _ _ _ (by omega)).trans (congrFun hE _)))) (by omega) (by omega) (Nat.le_of_ble_eq_true rfl) (by omega) dL_act_301 ?_
                refine z_imul dL_act_302 ?_
                refine z_iload dL_act_303 rfl ?_
                refine z_iadd dL_act_305 ?_
                refine z_iconst dL_act_306 ?_
                refine z_lst (R := 40) (j := 426 + 12 * M g 1 + p) al_pa (Or.inl (by decide)) (by omega) (by omega) (Nat.le_of_ble_eq_true rfl) (by omega) (by first | exact y_rb _ | omega | (exact hr _ _ (by decide))) dL_act_307 ?_
                refine z_rng fun hr => ?_
                refine z_aload dL_act_308 rfl ?_
                refine z_iconst dL_act_310 ?_
                refine z_dup2 dL_act_311 rfl rfl ?_
                refine z_lld (R := 40) (j := 1) al_c (Or.inl (by decide)) ((z_sM_ne _ _ _ (by omega)).trans ((z_sM_ne _ _ _ (by omega)).trans ((z_sM_ne _ _ _ (by omega)).trans ((z_sM_ne _ _ _ (by omega)).trans (congrFun hE _))))) (by omega) (by omega) (Nat.le_of_ble_eq_true rfl) (by omega) dL_act_312 ?_
                refine z_iconst dL_act_313 ?_
                refine z_iadd dL_act_314 ?_
                refine z_lst (R := 40) (j := 1) al_c (Or.inl (by decide)) (by omega) (by omega) (Nat.le_of_ble_eq_true rfl) (by omega) (by first | exact y_rb _ | omega | (exact hr _ _ (by decide))) dL_act_315 ?_
                refine z_rng fun hr => ?_
                refine z_mem (M' := z_sR M 40 (z_o_order (M g) p f)) (by simp only [z_sM_R, z_sR_R, z_sR_self]; rw [hE]; first | rfl | (congr 1; unfold z_o_order; funext j; simp only [z_uf]; (repeat' split) <;> first | rfl | omega | (subst_vars; omega))) ?_
                have y_lc : z_LC (z_sR M 40 (z_o_order (M g) p f)) g N := z_LC_sR h.1 (by decide)
                have y_g : z_sR M 40 (z_o_order (M g) p f) g = M g := z_sR_ne _ _ (by omega)
                have y_40 : z_sR M 40 (z_o_order (M g) p f) 40 = z_o_order (M g) p f := z_sR_self _ _ _
                refine z_rng fun hr => ?_
                generalize z_sR M 40 (z_o_order (M g) p f) = M2 at *
                obtain ⟨-, hn', hn0', s0', s1', ho', hb'⟩ := id y_lc
                have y_hc : z_c_order (M g) p f = 0 := by unfold z_c_order; rw [if_neg (by omega), if_neg (by omega), if_neg (by omega)]
                have y_k := z_k_order hb hN y_hc
                have y_o : z_o_order (M g) p f 0 = M g 0 ∧ z_o_order (M g) p f 1 = M g 1 + 1 ∧ z_o_order (M g) p f (86 + 5 * M g 1 + 1) = f := by
                  unfold z_o_order
                  refine ⟨?_, z_uf_self _ _ _, ?_⟩
                  · rw [z_uf_ne _ _ (by omega), z_uf_ne _ _ (by omega), z_uf_ne _ _ (by omega), z_uf_ne _ _ (by omega), z_uf_ne _ _ (by omega), z_uf_ne _ _ (by omega), z_uf_ne _ _ (by omega)]
                  · rw [z_uf_ne _ _ (by omega), z_uf_ne _ _ (by omega), z_uf_ne _ _ (by omega), z_uf_ne _ _ (by omega), z_uf_ne _ _ (by omega), z_uf_self]
                refine z_aloadn dL_act_316 rfl ?_
                refine z_iload dL_act_317 rfl ?_
                refine z_aload dL_act_319 rfl ?_
                refine z_iload dL_act_321 rfl ?_
                refine z_iconst dL_act_323 ?_
                refine z_iadd dL_act_324 ?_
                refine z_lld (R := 40) (j := 86 + 5 * M g 1 + 1) al_pi (Or.inl (by decide)) ((congrFun y_40 _).trans y_o.2.2) (by omega) (by omega) (Nat.le_of_ble_eq_true rfl) (by omega) dL_act_325 ?_
                refine kL_124 (tX6_order hg hn' hn0' s0' s1' ho' hb' (x := p) (f := f) (by omega) (by omega) (by rw [y_g]; exact y_hc)) rfl ⟨(Nat.le_of_ble_eq_true rfl), (Nat.le_of_ble_eq_true rfl)⟩ (Nat.le_of_ble_eq_true rfl) dL_act_326 ?_
                refine z_rng fun hr => ?_
                refine z_top (v' := M g 1) (by rw [y_g]) ?_
                refine z_aload dL_act_329 rfl ?_
                refine z_iconst dL_act_331 ?_
                refine z_lld (R := 40) (j := 1) al_c (Or.inl (by decide)) ((congrFun (z_sR_ne _ _ (by omega)) _).trans ((congrFun (z_SC_row (by decide) (by omega)) _).trans ((congrFun y_40 _).trans y_o.2.1))) (by omega) (by omega) (Nat.le_of_ble_eq_true rfl) (by omega) dL_act_332 ?_
                refine z_iconst dL_act_333 ?_
                refine z_isub dL_act_334 ?_
                refine z_icmp_ne (tgt := 342) (by first | exact y_rb _ | omega | (exact hr _ _ (by decide))) (by first | exact y_rb _ | omega | (exact hr _ _ (by decide))) dL_act_335 (by decide) (fun h335 => ?_) (fun h335 => ?_)
                · exfalso; omega
                · refine z_iconst dL_act_338 ?_
                  refine z_goto (tgt := 343) dL_act_339 (by decide) ?_
                  exact z_zretP dL_act_343 rfl (by rw [y_g]; exact z_PA_sv y_lc y_40 y_k (by omega) (by omega))
              · refine z_iconst dL_act_243 ?_
                exact z_zretP dL_act_244 rfl (z_PA_ne (by omega) (z_PS_id h hN))
            · refine z_aload dL_act_228 rfl ?_
              refine z_iconst dL_act_230 ?_
              refine z_lld (R := 40) (j := 1) al_c (Or.inl (by decide)) (congrFun hE _) (by omega) (by omega) (Nat.le_of_ble_eq_true rfl) (by omega) dL_act_231 ?_
              refine z_if_ne (tgt := 344) (by first | exact y_rb _ | omega | (exact hr _ _ (by decide))) dL_act_232 (by decide) (fun h232 => ?_) (fun h232 => ?_)
              · exfalso; omega
              · refine z_aload dL_act_235 rfl ?_
                refine z_iconst dL_act_237 ?_
                refine z_lld (R := 40) (j := 1) al_c (Or.inl (by decide)) (congrFun hE _) (by omega) (by omega) (Nat.le_of_ble_eq_true rfl) (by omega) dL_act_238 ?_
                refine z_iconst dL_act_239 ?_
                refine z_icmp_ne (tgt := 245) (by first | exact y_rb _ | omega | (exact hr _ _ (by decide))) (by first | exact y_rb _ | omega | (exact hr _ _ (by decide))) dL_act_240 (by decide) (fun h240 => ?_) (fun h240 => ?_)
                · refine z_iloadn dL_act_245 rfl ?_
                  refine z_aload dL_act_246 rfl ?_
                  refine z_iconst dL_act_248 ?_
                  refine z_lld (R := 40) (j := 0) al_c (Or.inl (by decide)) (congrFun hE _) (by omega) (by omega) (Nat.le_of_ble_eq_true rfl) (by omega) dL_act_249 ?_
                  refine kL_65 (tL_at (by omega) (by omega)) rfl ⟨(Nat.le_of_ble_eq_true rfl), (Nat.le_of_ble_eq_true rfl)⟩ (Nat.le_of_ble_eq_true rfl) dL_act_250 ?_
                  obtain ⟨p, y_p⟩ : ∃ p, z_atv x (M g 0) = p := ⟨_, rfl⟩
                  have y_p2 := z_atv_rg (x := x) (n := M g 0) b0
                  rw [y_p] at y_p2
                  have y_K := z_BI_K hb (M g 1) (by omega) (by omega)
                  unfold z_KI at y_K
                  refine z_top (v' := p) y_p ?_
                  refine z_istore_11 dL_act_253 (Nat.le_of_ble_eq_true rfl) rfl ?_
                  refine z_iconst dL_act_255 ?_
                  refine z_aload dL_act_256 rfl ?_
                  refine z_iconst dL_act_258 ?_
                  refine z_lld (R := 40) (j := 1) al_c (Or.inl (by decide)) (congrFun hE _) (by omega) (by omega) (Nat.le_of_ble_eq_true rfl) (by omega) dL_act_259 ?_
                  refine z_imul dL_act_260 ?_
                  refine z_istore_12 dL_act_261 (Nat.le_of_ble_eq_true rfl) rfl ?_
                  refine z_aload dL_act_263 rfl ?_
                  refine z_iload dL_act_265 rfl ?_
                  refine z_iload dL_act_267 rfl ?_
                  refine z_lst (R := 40) (j := 86 + 5 * M g 1) al_pi (Or.inl (by decide)) (by omega) (by omega) (Nat.le_of_ble_eq_true rfl) (by omega) (by first | exact y_rb _ | omega | (exact hr _ _ (by decide))) dL_act_269 ?_
                  refine z_rng fun hr => ?_
                  refine z_aload dL_act_270 rfl ?_
                  refine z_iload dL_act_272 rfl ?_
                  refine z_iconst dL_act_274 ?_
                  refine z_iadd dL_act_275 ?_
                  refine z_bipush dL_act_276 (by decide) ?_
                  refine z_iloadn dL_act_278 rfl ?_
                  refine z_sipush dL_act_279 (by decide) ?_
                  refine kL_65 (tL_at (by decide) (by decide)) rfl ⟨(Nat.le_of_ble_eq_true rfl), (Nat.le_of_ble_eq_true rfl)⟩ (Nat.le_of_ble_eq_true rfl) dL_act_282 ?_
                  refine z_iadd dL_act_285 ?_
                  obtain ⟨f, y_f⟩ : ∃ f, 10 + z_atv y 9000 = f := ⟨_, rfl⟩
                  have y_f2 := z_atv_rg (x := y) (n := 9000) (by decide)
                  have y_f3 : 10 ≤ f ∧ f ≤ 9009 := by omega
                  refine z_top (v' := f) y_f ?_
                  refine z_lst (R := 40) (j := 86 + 5 * M g 1 + 1) al_pi (Or.inl (by decide)) (by omega) (by omega) (Nat.le_of_ble_eq_true rfl) (by omega) (by first | exact y_rb _ | omega | (exact hr _ _ (by decide))) dL_act_286 ?_
                  refine z_rng fun hr => ?_
                  refine z_aload dL_act_287 rfl ?_
                  refine z_iload dL_act_289 rfl ?_
                  refine z_iconst dL_act_291 ?_
                  refine z_iadd dL_act_292 ?_
                  refine z_iconst dL_act_293 ?_
                  refine z_lst (R := 40) (j := 86 + 5 * M g 1 + 3) al_pi (Or.inl (by decide)) (by omega) (by omega) (Nat.le_of_ble_eq_true rfl) (by omega) (by first | exact y_rb _ | omega | (exact hr _ _ (by decide))) dL_act_294 ?_
                  refine z_rng fun hr => ?_
                  refine z_aload dL_act_295 rfl ?_
                  refine z_iconst dL_act_297 ?_
                  refine z_aload dL_act_298 rfl ?_
                  refine z_iconst dL_act_300 ?_
                  refine z_lld (R := 40) (j := 1) al_c (Or.inl (by decide)) ((z_sM_ne _ _ _ (by omega)).trans ((z_sM_ne _ _ _ (by omega)).trans ((z_sM_ne _ _ _ (by omega)).trans (congrFun hE _)))) (by omega) (by omega) (Nat.le_of_ble_eq_true rfl) (by omega) dL_act_301 ?_
                  refine z_imul dL_act_302 ?_
                  refine z_iload dL_act_303 rfl ?_
                  refine z_iadd dL_act_305 ?_
                  refine z_iconst dL_act_306 ?_
                  refine z_lst (R := 40) (j := 426 + 12 * M g 1 + p) al_pa (Or.inl (by decide)) (by omega) (by omega) (Nat.le_of_ble_eq_true rfl) (by omega) (by first | exact y_rb _ | omega | (exact hr _ _ (by decide))) dL_act_307 ?_
                  refine z_rng fun hr => ?_
                  refine z_aload dL_act_308 rfl ?_
                  refine z_iconst dL_act_310 ?_
                  refine z_dup2 dL_act_311 rfl rfl ?_
                  refine z_lld (R := 40) (j := 1) al_c (Or.inl (by decide)) ((z_sM_ne _ _ _ (by omega)).trans ((z_sM_ne _ _ _ (by omega)).trans ((z_sM_ne _ _ _ (by omega)).trans ((z_sM_ne _ _ _ (by omega)).trans (congrFun hE _))))) (by omega) (by omega) (Nat.le_of_ble_eq_true rfl) (by omega) dL_act_312 ?_
                  refine z_iconst dL_act_313 ?_
                  refine z_iadd dL_act_314 ?_
                  refine z_lst (R := 40) (j := 1) al_c (Or.inl (by decide)) (by omega) (by omega) (Nat.le_of_ble_eq_true rfl) (by omega) (by first | exact y_rb _ | omega | (exact hr _ _ (by decide))) dL_act_315 ?_
                  refine z_rng fun hr => ?_
                  refine z_mem (M' := z_sR M 40 (z_o_order (M g) p f)) (by simp only [z_sM_R, z_sR_R, z_sR_self]; rw [hE]; first | rfl | (congr 1; unfold z_o_order; funext j; simp only [z_uf]; (repeat' split) <;> first | rfl | omega | (subst_vars; omega))) ?_
                  have y_lc : z_LC (z_sR M 40 (z_o_order (M g) p f)) g N := z_LC_sR h.1 (by decide)
                  have y_g : z_sR M 40 (z_o_order (M g) p f) g = M g := z_sR_ne _ _ (by omega)
                  have y_40 : z_sR M 40 (z_o_order (M g) p f) 40 = z_o_order (M g) p f := z_sR_self _ _ _
                  refine z_rng fun hr => ?_
                  generalize z_sR M 40 (z_o_order (M g) p f) = M2 at *
                  obtain ⟨-, hn', hn0', s0', s1', ho', hb'⟩ := id y_lc
                  have y_hc : z_c_order (M g) p f = 0 := by unfold z_c_order; rw [if_neg (by omega), if_neg (by omega), if_neg (by omega)]
                  have y_k := z_k_order hb hN y_hc
                  have y_o : z_o_order (M g) p f 0 = M g 0 ∧ z_o_order (M g) p f 1 = M g 1 + 1 ∧ z_o_order (M g) p f (86 + 5 * M g 1 + 1) = f := by
                    unfold z_o_order
                    refine ⟨?_, z_uf_self _ _ _, ?_⟩
                    · rw [z_uf_ne _ _ (by omega), z_uf_ne _ _ (by omega), z_uf_ne _ _ (by omega), z_uf_ne _ _ (by omega), z_uf_ne _ _ (by omega), z_uf_ne _ _ (by omega), z_uf_ne _ _ (by omega)]
                    · rw [z_uf_ne _ _ (by omega), z_uf_ne _ _ (by omega), z_uf_ne _ _ (by omega), z_uf_ne _ _ (by omega), z_uf_ne _ _ (by omega), z_uf_self]
                  refine z_aloadn dL_act_316 rfl ?_
                  refine z_iload dL_act_317 rfl ?_
                  refine z_aload dL_act_319 rfl ?_
                  refine z_iload dL_act_321 rfl ?_
                  refine z_iconst dL_act_323 ?_
                  refine z_iadd dL_act_324 ?_
                  refine z_lld (R := 40) (j := 86 + 5 * M g 1 + 1) al_pi (Or.inl (by decide)) ((congrFun y_40 _).trans y_o.2.2) (by omega) (by omega) (Nat.le_of_ble_eq_true rfl) (by omega) dL_act_325 ?_
                  refine kL_124 (tX6_order hg hn' hn0' s0' s1' ho' hb' (x := p) (f := f) (by omega) (by omega) (by rw [y_g]; exact y_hc)) rfl ⟨(Nat.le_of_ble_eq_true rfl), (Nat.le_of_ble_eq_true rfl)⟩ (Nat.le_of_ble_eq_true rfl) dL_act_326 ?_
                  refine z_rng fun hr => ?_
                  refine z_top (v' := M g 1) (by rw [y_g]) ?_
                  refine z_aload dL_act_329 rfl ?_
                  refine z_iconst dL_act_331 ?_
                  refine z_lld (R := 40) (j := 1) al_c (Or.inl (by decide)) ((congrFun (z_sR_ne _ _ (by omega)) _).trans ((congrFun (z_SC_row (by decide) (by omega)) _).trans ((congrFun y_40 _).trans y_o.2.1))) (by omega) (by omega) (Nat.le_of_ble_eq_true rfl) (by omega) dL_act_332 ?_
                  refine z_iconst dL_act_333 ?_
                  refine z_isub dL_act_334 ?_
                  refine z_icmp_ne (tgt := 342) (by first | exact y_rb _ | omega | (exact hr _ _ (by decide))) (by first | exact y_rb _ | omega | (exact hr _ _ (by decide))) dL_act_335 (by decide) (fun h335 => ?_) (fun h335 => ?_)
                  · exfalso; omega
                  · refine z_iconst dL_act_338 ?_
                    refine z_goto (tgt := 343) dL_act_339 (by decide) ?_
                    exact z_zretP dL_act_343 rfl (by rw [y_g]; exact z_PA_sv y_lc y_40 y_k (by omega) (by omega))
                · refine z_iconst dL_act_243 ?_
                  exact z_zretP dL_act_244 rfl (z_PA_ne (by omega) (z_PS_id h hN))
          · exfalso; omega
        · exfalso; omega
      · exfalso; omega
    · exfalso; omega
