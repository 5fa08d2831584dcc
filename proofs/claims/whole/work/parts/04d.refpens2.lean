/-! ===== the reference: buyBack to revise ===== -/
theorem tX7_buyBack {G : z_G} {M : z_M} {N c x : Int} (hb : z_BI (M 22) N) (hs0 : 0 ≤ M 21 2) (hs1 : M 21 2 ≤ 6) (rx : z_rg x) (hc : z_c_buyBack (M 22) x = c) : KX7_buyBack G [.ref (z_ad G 0 40), z_I x] M (.inl (some (z_I (if c = 0 then z_bbp (M 22) x else 0)))) (if c = 0 then z_sR (z_SV (z_sM M 21 4 0)) 22 (z_sold (M 22) x x (z_bbp (M 22) x)) else z_sM M 21 4 c) := by
  refine z_con (ls := [some (.ref (z_ad G 0 40)), some (z_I x), none]) (by decide +kernel) (Nat.le_of_ble_eq_true rfl) rfl ?_
  intro Z htb
  refine z_rng fun hr => ?_
  refine z_aloadn dX7_buyBack_0 rfl ?_
  refine z_iconst dX7_buyBack_1 ?_
  refine pX7_40 (by first | (exact hr _ _ (by decide)) | omega) rfl dX7_buyBack_2 ?_
  refine z_rng fun hr => ?_
  generalize hM0 : z_sM M 21 4 0 = M0
  have hz : M0 22 = M 22 := by rw [← hM0]; exact z_sM_row _ _ _ (by decide)
  have hz2 : M0 21 2 = M 21 2 := by rw [← hM0]; exact z_sM_ne _ _ _ (by decide)
  rw [hM0] at hr
  rw [← hz] at hb hc
  rw [← hz2] at hs0 hs1
  have hh := z_BI_h hb
  refine z_aloadn dX7_buyBack_5 rfl ?_
  refine z_iloadn dX7_buyBack_6 rfl ?_
  refine kX7_65 (tX7_isPen (by first | (exact hr _ _ (by decide)) | omega) (by first | assumption | omega)) rfl ⟨(Nat.le_of_ble_eq_true rfl), (Nat.le_of_ble_eq_true rfl)⟩ (Nat.le_of_ble_eq_true rfl) dX7_buyBack_7 ?_
  refine z_ifb_ne (tgt := 19) dX7_buyBack_10 (by decide) (fun h10 => ?_) (fun h10 => ?_)
  · have y_x := z_BI_P hb x (by omega) (by omega)
    have y_b := z_BI_bal hb (p := x) (by omega) (by omega)
    unfold z_PI at y_x
    refine z_aloadn dX7_buyBack_19 rfl ?_
    refine z_iloadn dX7_buyBack_20 rfl ?_
    refine z_iconst dX7_buyBack_21 ?_
    refine kX7_61 (tX7_of (by omega) (by omega)) rfl ⟨(Nat.le_of_ble_eq_true rfl), (Nat.le_of_ble_eq_true rfl)⟩ (Nat.le_of_ble_eq_true rfl) dX7_buyBack_22 ?_
    refine z_aloadn dX7_buyBack_25 rfl ?_
    refine z_iloadn dX7_buyBack_26 rfl ?_
    refine z_iconst dX7_buyBack_27 ?_
    refine kX7_61 (tX7_of (by omega) (by omega)) rfl ⟨(Nat.le_of_ble_eq_true rfl), (Nat.le_of_ble_eq_true rfl)⟩ (Nat.le_of_ble_eq_true rfl) dX7_buyBack_28 ?_
    refine z_bipush dX7_buyBack_31 (by decide) ?_
    refine z_idiv (by omega) (by omega) (by omega) (by omega) dX7_buyBack_33 ?_
    refine z_iadd dX7_buyBack_34 ?_
    refine z_istoren_2 dX7_buyBack_35 (Nat.le_of_ble_eq_true rfl) rfl ?_
    refine z_aloadn dX7_buyBack_36 rfl ?_
    refine z_iloadn dX7_buyBack_37 rfl ?_
    refine z_iconst dX7_buyBack_38 ?_
    refine kX7_61 (tX7_of (by omega) (by omega)) rfl ⟨(Nat.le_of_ble_eq_true rfl), (Nat.le_of_ble_eq_true rfl)⟩ (Nat.le_of_ble_eq_true rfl) dX7_buyBack_39 ?_
    refine z_iloadn dX7_buyBack_42 rfl ?_
    refine z_icmp_eq (tgt := 56) (by first | (exact hr _ _ (by decide)) | omega) (by first | (exact hr _ _ (by decide)) | omega) dX7_buyBack_43 (by decide) (fun h43 => ?_) (fun h43 => ?_)
    · refine z_aloadn dX7_buyBack_56 rfl ?_
      refine z_iconst dX7_buyBack_57 ?_
      refine kX7_55 (tX7_fails (by first | decide | omega)) rfl ⟨(Nat.le_of_ble_eq_true rfl), (Nat.le_of_ble_eq_true rfl)⟩ (Nat.le_of_ble_eq_true rfl) dX7_buyBack_58 ?_
      refine z_rng fun hr => ?_
      obtain rfl : c = 2 := by rw [← hc]; unfold z_c_buyBack z_bbp; (repeat' split) <;> omega
      exact z_iret dX7_buyBack_61 (if_neg (by decide)).symm (by rw [if_neg (by decide), ← hM0, z_sM_sM])
    · refine z_aloadn dX7_buyBack_46 rfl ?_
      refine z_iloadn dX7_buyBack_47 rfl ?_
      refine z_iconst dX7_buyBack_48 ?_
      refine kX7_61 (tX7_of0 (by omega) (by omega)) rfl ⟨(Nat.le_of_ble_eq_true rfl), (Nat.le_of_ble_eq_true rfl)⟩ (Nat.le_of_ble_eq_true rfl) dX7_buyBack_49 ?_
      refine z_iloadn dX7_buyBack_52 rfl ?_
      refine z_icmp_ge (tgt := 62) (by first | (exact hr _ _ (by decide)) | omega) (by first | (exact hr _ _ (by decide)) | omega) dX7_buyBack_53 (by decide) (fun h53 => ?_) (fun h53 => ?_)
      · refine z_aloadn dX7_buyBack_62 rfl ?_
        have y_cc : c = 0 := by rw [← hc]; unfold z_c_buyBack z_bbp; (repeat' split) <;> omega
        refine kX7_58 (tX7_save hs0 hs1) rfl ⟨(Nat.le_of_ble_eq_true rfl), (Nat.le_of_ble_eq_true rfl)⟩ (Nat.le_of_ble_eq_true rfl) dX7_buyBack_63 ?_
        refine z_rng fun hr => ?_
        generalize hM1 : z_SV M0 = M1
        have hz1 : M1 22 = M0 22 := by rw [← hM1]; exact z_SV_row (by decide) (by decide)
        obtain rfl : c = 0 := by rw [← hc]; unfold z_c_buyBack z_bbp; (repeat' split) <;> omega
        have hq := hz1.trans hz
        rw [hM1] at hr
        rw [← hz1] at hb hc
        have hh := z_BI_h hb
        try rw [← hz1] at h10
        try rw [← hz1] at h43
        try rw [← hz1] at h53
        have y_x := z_BI_P hb x (by omega) (by omega)
        have y_b := z_BI_bal hb (p := x) (by omega) (by omega)
        unfold z_PI at y_x
        have y_2 := z_BI_bal2 hb (p := M1 22 (14 + 6 * x + 3)) (q := x) (by omega) (by omega) (by omega) (by omega) (by omega)
        have y_3 := z_BI_bal hb (p := M1 22 (14 + 6 * x + 3)) (by omega) (by omega)
        refine z_aloadn dX7_buyBack_66 rfl ?_
        refine z_iloadn dX7_buyBack_67 rfl ?_
        refine z_iloadn dX7_buyBack_68 rfl ?_
        refine z_iloadn dX7_buyBack_69 rfl ?_
        refine kX7_70 (tX7_sold (by omega) (by omega) (by omega) (by omega) (by omega) (by omega) (by omega) (by omega) (by omega) (by omega)) rfl ⟨(Nat.le_of_ble_eq_true rfl), (Nat.le_of_ble_eq_true rfl)⟩ (Nat.le_of_ble_eq_true rfl) dX7_buyBack_70 ?_
        refine z_rng fun hr => ?_
        refine z_pop dX7_buyBack_73 rfl ?_
        refine z_iloadn dX7_buyBack_74 rfl ?_
        exact z_iret dX7_buyBack_75 (by rw [if_pos rfl, ← hq, ← hz1]; rfl) (by rw [if_pos rfl, ← hq, ← hz1]; rfl)
      · refine z_aloadn dX7_buyBack_56 rfl ?_
        refine z_iconst dX7_buyBack_57 ?_
        refine kX7_55 (tX7_fails (by first | decide | omega)) rfl ⟨(Nat.le_of_ble_eq_true rfl), (Nat.le_of_ble_eq_true rfl)⟩ (Nat.le_of_ble_eq_true rfl) dX7_buyBack_58 ?_
        refine z_rng fun hr => ?_
        obtain rfl : c = 2 := by rw [← hc]; unfold z_c_buyBack z_bbp; (repeat' split) <;> omega
        exact z_iret dX7_buyBack_61 (if_neg (by decide)).symm (by rw [if_neg (by decide), ← hM0, z_sM_sM])
  · refine z_aloadn dX7_buyBack_13 rfl ?_
    refine z_iconst dX7_buyBack_14 ?_
    refine kX7_55 (tX7_fails (by first | decide | omega)) rfl ⟨(Nat.le_of_ble_eq_true rfl), (Nat.le_of_ble_eq_true rfl)⟩ (Nat.le_of_ble_eq_true rfl) dX7_buyBack_15 ?_
    refine z_rng fun hr => ?_
    obtain rfl : c = 1 := by rw [← hc]; unfold z_c_buyBack z_bbp; (repeat' split) <;> omega
    exact z_iret dX7_buyBack_18 (if_neg (by decide)).symm (by rw [if_neg (by decide), ← hM0, z_sM_sM])
theorem tX7_advance {G : z_G} {M : z_M} {N c x a : Int} (hb : z_BI (M 22) N) (hs0 : 0 ≤ M 21 2) (hs1 : M 21 2 ≤ 6) (rx : z_rg x) (ra : z_rg a) (hc : z_c_advance (M 22) x a = c) : KX7_advance G [.ref (z_ad G 0 40), z_I x, z_I a] M (.inl (some (z_I (if c = 0 then M 22 (14 + 6 * x + 1) + a else 0)))) (if c = 0 then z_sR (z_SV (z_sM M 21 4 0)) 22 (z_o_advance (M 22) x a) else z_sM M 21 4 c) := by
  refine z_con (ls := [some (.ref (z_ad G 0 40)), some (z_I x), some (z_I a)]) (by decide +kernel) (Nat.le_of_ble_eq_true rfl) rfl ?_
  intro Z htb
  refine z_rng fun hr => ?_
  refine z_aloadn dX7_advance_0 rfl ?_
  refine z_iconst dX7_advance_1 ?_
  refine pX7_40 (by first | (exact hr _ _ (by decide)) | omega) rfl dX7_advance_2 ?_
  refine z_rng fun hr => ?_
  generalize hM0 : z_sM M 21 4 0 = M0
  have hz : M0 22 = M 22 := by rw [← hM0]; exact z_sM_row _ _ _ (by decide)
  have hz2 : M0 21 2 = M 21 2 := by rw [← hM0]; exact z_sM_ne _ _ _ (by decide)
  rw [hM0] at hr
  rw [← hz] at hb hc
  rw [← hz2] at hs0 hs1
  have hh := z_BI_h hb
  refine z_aloadn dX7_advance_5 rfl ?_
  refine z_iloadn dX7_advance_6 rfl ?_
  refine kX7_65 (tX7_isPen (by first | (exact hr _ _ (by decide)) | omega) (by first | assumption | omega)) rfl ⟨(Nat.le_of_ble_eq_true rfl), (Nat.le_of_ble_eq_true rfl)⟩ (Nat.le_of_ble_eq_true rfl) dX7_advance_7 ?_
  refine z_ifb_ne (tgt := 19) dX7_advance_10 (by decide) (fun h10 => ?_) (fun h10 => ?_)
  · refine z_iloadn dX7_advance_19 rfl ?_
    refine z_iconst dX7_advance_20 ?_
    refine z_ldc (i := 100000) wk_X7_69 dX7_advance_21 ?_
    refine kX7_44 (tX7_within (by first | (exact hr _ _ (by decide)) | omega) (by first | (exact hr _ _ (by decide)) | omega) (by first | (exact hr _ _ (by decide)) | omega)) rfl ⟨(Nat.le_of_ble_eq_true rfl), (Nat.le_of_ble_eq_true rfl)⟩ (Nat.le_of_ble_eq_true rfl) dX7_advance_23 ?_
    refine z_ifb_ne (tgt := 35) dX7_advance_26 (by decide) (fun h26 => ?_) (fun h26 => ?_)
    · have y_x := z_BI_P hb x (by omega) (by omega)
      have y_b := z_BI_bal hb (p := x) (by omega) (by omega)
      unfold z_PI at y_x
      refine z_aloadn dX7_advance_35 rfl ?_
      refine gX7_7 rfl dX7_advance_36 ?_
      refine z_iconst dX7_advance_39 ?_
      refine z_iald (by rfl) (by first | decide | exact Or.inl ⟨by decide, hg⟩) (by omega) (by omega) (by decide) dX7_advance_40 ?_
      refine z_iloadn dX7_advance_41 rfl ?_
      refine z_icmp_ge (tgt := 51) (by first | (exact hr _ _ (by decide)) | omega) (by first | (exact hr _ _ (by decide)) | omega) dX7_advance_42 (by decide) (fun h42 => ?_) (fun h42 => ?_)
      · refine z_aloadn dX7_advance_51 rfl ?_
        refine kX7_58 (tX7_save hs0 hs1) rfl ⟨(Nat.le_of_ble_eq_true rfl), (Nat.le_of_ble_eq_true rfl)⟩ (Nat.le_of_ble_eq_true rfl) dX7_advance_52 ?_
        refine z_rng fun hr => ?_
        generalize hM1 : z_SV M0 = M1
        have hz1 : M1 22 = M0 22 := by rw [← hM1]; exact z_SV_row (by decide) (by decide)
        obtain rfl : c = 0 := by rw [← hc]; unfold z_c_advance; (repeat' split) <;> omega
        have hq := hz1.trans hz
        rw [hM1] at hr
        rw [← hz1] at hb hc
        have hh := z_BI_h hb
        try rw [← hz1] at h10
        try rw [← hz1] at h26
        try rw [← hz1] at h42
        have y_x := z_BI_P hb x (by omega) (by omega)
        have y_b := z_BI_bal hb (p := x) (by omega) (by omega)
        unfold z_PI at y_x
        have y_s := (z_BI_s hb).1
        have y_r := z_BI_res hb
        refine z_aloadn dX7_advance_55 rfl ?_
        refine gX7_7 rfl dX7_advance_56 ?_
        refine z_iconst dX7_advance_59 ?_
        refine z_dup2 dX7_advance_60 rfl rfl ?_
        refine z_iald (by rfl) (by first | decide | exact Or.inl ⟨by decide, hg⟩) (by omega) (by omega) (by decide) dX7_advance_61 ?_
        refine z_iloadn dX7_advance_62 rfl ?_
        refine z_isub dX7_advance_63 ?_
        refine z_iast (by rfl) (by first | decide | exact Or.inl ⟨by decide, hg⟩) (by omega) (by omega) (by decide) (by first | (exact hr _ _ (by decide)) | omega) dX7_advance_64 ?_
        refine z_rng fun hr => ?_
        refine z_aloadn dX7_advance_65 rfl ?_
        refine gX7_7 rfl dX7_advance_66 ?_
        refine z_bipush dX7_advance_69 (by decide) ?_
        refine z_bipush dX7_advance_71 (by decide) ?_
        refine z_iloadn dX7_advance_73 rfl ?_
        refine z_imul dX7_advance_74 ?_
        refine z_iadd dX7_advance_75 ?_
        refine z_dup2 dX7_advance_76 rfl rfl ?_
        refine z_iald (by rfl) (by first | decide | exact Or.inl ⟨by decide, hg⟩) (by omega) (by omega) (by decide) dX7_advance_77 ?_
        refine z_top (v' := M1 22 (14 + 6 * x)) (z_sM_ne _ _ _ (by omega)) ?_
        refine z_iloadn dX7_advance_78 rfl ?_
        refine z_iadd dX7_advance_79 ?_
        refine z_iast (by rfl) (by first | decide | exact Or.inl ⟨by decide, hg⟩) (by omega) (by omega) (by decide) (by first | (exact hr _ _ (by decide)) | omega) dX7_advance_80 ?_
        refine z_rng fun hr => ?_
        refine z_aloadn dX7_advance_81 rfl ?_
        refine gX7_7 rfl dX7_advance_82 ?_
        refine z_bipush dX7_advance_85 (by decide) ?_
        refine z_bipush dX7_advance_87 (by decide) ?_
        refine z_iloadn dX7_advance_89 rfl ?_
        refine z_imul dX7_advance_90 ?_
        refine z_iadd dX7_advance_91 ?_
        refine z_iconst dX7_advance_92 ?_
        refine z_iadd dX7_advance_93 ?_
        refine z_dup2 dX7_advance_94 rfl rfl ?_
        refine z_iald (by rfl) (by first | decide | exact Or.inl ⟨by decide, hg⟩) (by omega) (by omega) (by decide) dX7_advance_95 ?_
        refine z_top (v' := M1 22 (14 + 6 * x + 1)) ((z_sM_ne _ _ _ (by omega)).trans (z_sM_ne _ _ _ (by omega))) ?_
        refine z_iloadn dX7_advance_96 rfl ?_
        refine z_iadd dX7_advance_97 ?_
        refine z_iast (by rfl) (by first | decide | exact Or.inl ⟨by decide, hg⟩) (by omega) (by omega) (by decide) (by first | (exact hr _ _ (by decide)) | omega) dX7_advance_98 ?_
        refine z_rng fun hr => ?_
        refine z_aloadn dX7_advance_99 rfl ?_
        refine z_iloadn dX7_advance_100 rfl ?_
        refine z_iconst dX7_advance_101 ?_
        refine kX7_61 (tX7_of (by omega) (by omega)) rfl ⟨(Nat.le_of_ble_eq_true rfl), (Nat.le_of_ble_eq_true rfl)⟩ (Nat.le_of_ble_eq_true rfl) dX7_advance_102 ?_
        refine z_top (v' := M1 22 (14 + 6 * x + 1) + a) (z_sM_self _ _ _ _) ?_
        exact z_iret dX7_advance_105 (by rw [if_pos rfl, ← hq]) (by rw [if_pos rfl, ← hq]; simp only [z_sM_R, z_sR_R, z_sR_self]; first | rfl | (congr 1; unfold z_o_advance; funext j; simp only [z_uf]; (repeat' split) <;> first | rfl | omega))
      · refine z_aloadn dX7_advance_45 rfl ?_
        refine z_iconst dX7_advance_46 ?_
        refine kX7_55 (tX7_fails (by first | decide | omega)) rfl ⟨(Nat.le_of_ble_eq_true rfl), (Nat.le_of_ble_eq_true rfl)⟩ (Nat.le_of_ble_eq_true rfl) dX7_advance_47 ?_
        refine z_rng fun hr => ?_
        obtain rfl : c = 3 := by rw [← hc]; unfold z_c_advance; (repeat' split) <;> omega
        exact z_iret dX7_advance_50 (if_neg (by decide)).symm (by rw [if_neg (by decide), ← hM0, z_sM_sM])
    · refine z_aloadn dX7_advance_29 rfl ?_
      refine z_iconst dX7_advance_30 ?_
      refine kX7_55 (tX7_fails (by first | decide | omega)) rfl ⟨(Nat.le_of_ble_eq_true rfl), (Nat.le_of_ble_eq_true rfl)⟩ (Nat.le_of_ble_eq_true rfl) dX7_advance_31 ?_
      refine z_rng fun hr => ?_
      obtain rfl : c = 2 := by rw [← hc]; unfold z_c_advance; (repeat' split) <;> omega
      exact z_iret dX7_advance_34 (if_neg (by decide)).symm (by rw [if_neg (by decide), ← hM0, z_sM_sM])
  · refine z_aloadn dX7_advance_13 rfl ?_
    refine z_iconst dX7_advance_14 ?_
    refine kX7_55 (tX7_fails (by first | decide | omega)) rfl ⟨(Nat.le_of_ble_eq_true rfl), (Nat.le_of_ble_eq_true rfl)⟩ (Nat.le_of_ble_eq_true rfl) dX7_advance_15 ?_
    refine z_rng fun hr => ?_
    obtain rfl : c = 1 := by rw [← hc]; unfold z_c_advance; (repeat' split) <;> omega
    exact z_iret dX7_advance_18 (if_neg (by decide)).symm (by rw [if_neg (by decide), ← hM0, z_sM_sM])
theorem tX7_withdraw {G : z_G} {M : z_M} {N c x a : Int} (hb : z_BI (M 22) N) (hs0 : 0 ≤ M 21 2) (hs1 : M 21 2 ≤ 6) (rx : z_rg x) (ra : z_rg a) (hc : z_c_withdraw (M 22) x a = c) : KX7_withdraw G [.ref (z_ad G 0 40), z_I x, z_I a] M (.inl (some (z_I (if c = 0 then M 22 (14 + 6 * x) - a else 0)))) (if c = 0 then z_sR (z_SV (z_sM M 21 4 0)) 22 (z_o_withdraw (M 22) x a) else z_sM M 21 4 c) := by
  refine z_con (ls := [some (.ref (z_ad G 0 40)), some (z_I x), some (z_I a)]) (by decide +kernel) (Nat.le_of_ble_eq_true rfl) rfl ?_
  intro Z htb
  refine z_rng fun hr => ?_
  refine z_aloadn dX7_withdraw_0 rfl ?_
  refine z_iconst dX7_withdraw_1 ?_
  refine pX7_40 (by first | (exact hr _ _ (by decide)) | omega) rfl dX7_withdraw_2 ?_
  refine z_rng fun hr => ?_
  generalize hM0 : z_sM M 21 4 0 = M0
  have hz : M0 22 = M 22 := by rw [← hM0]; exact z_sM_row _ _ _ (by decide)
  have hz2 : M0 21 2 = M 21 2 := by rw [← hM0]; exact z_sM_ne _ _ _ (by decide)
  rw [hM0] at hr
  rw [← hz] at hb hc
  rw [← hz2] at hs0 hs1
  have hh := z_BI_h hb
  refine z_aloadn dX7_withdraw_5 rfl ?_
  refine z_iloadn dX7_withdraw_6 rfl ?_
  refine kX7_65 (tX7_isPen (by first | (exact hr _ _ (by decide)) | omega) (by first | assumption | omega)) rfl ⟨(Nat.le_of_ble_eq_true rfl), (Nat.le_of_ble_eq_true rfl)⟩ (Nat.le_of_ble_eq_true rfl) dX7_withdraw_7 ?_
  refine z_ifb_ne (tgt := 19) dX7_withdraw_10 (by decide) (fun h10 => ?_) (fun h10 => ?_)
  · refine z_iloadn dX7_withdraw_19 rfl ?_
    refine z_iconst dX7_withdraw_20 ?_
    refine z_ldc (i := 100000) wk_X7_69 dX7_withdraw_21 ?_
    refine kX7_44 (tX7_within (by first | (exact hr _ _ (by decide)) | omega) (by first | (exact hr _ _ (by decide)) | omega) (by first | (exact hr _ _ (by decide)) | omega)) rfl ⟨(Nat.le_of_ble_eq_true rfl), (Nat.le_of_ble_eq_true rfl)⟩ (Nat.le_of_ble_eq_true rfl) dX7_withdraw_23 ?_
    refine z_ifb_ne (tgt := 35) dX7_withdraw_26 (by decide) (fun h26 => ?_) (fun h26 => ?_)
    · have y_x := z_BI_P hb x (by omega) (by omega)
      have y_b := z_BI_bal hb (p := x) (by omega) (by omega)
      unfold z_PI at y_x
      refine z_aloadn dX7_withdraw_35 rfl ?_
      refine z_iloadn dX7_withdraw_36 rfl ?_
      refine z_iconst dX7_withdraw_37 ?_
      refine kX7_61 (tX7_of0 (by omega) (by omega)) rfl ⟨(Nat.le_of_ble_eq_true rfl), (Nat.le_of_ble_eq_true rfl)⟩ (Nat.le_of_ble_eq_true rfl) dX7_withdraw_38 ?_
      refine z_iloadn dX7_withdraw_41 rfl ?_
      refine z_icmp_ge (tgt := 51) (by first | (exact hr _ _ (by decide)) | omega) (by first | (exact hr _ _ (by decide)) | omega) dX7_withdraw_42 (by decide) (fun h42 => ?_) (fun h42 => ?_)
      · refine z_aloadn dX7_withdraw_51 rfl ?_
        refine kX7_58 (tX7_save hs0 hs1) rfl ⟨(Nat.le_of_ble_eq_true rfl), (Nat.le_of_ble_eq_true rfl)⟩ (Nat.le_of_ble_eq_true rfl) dX7_withdraw_52 ?_
        refine z_rng fun hr => ?_
        generalize hM1 : z_SV M0 = M1
        have hz1 : M1 22 = M0 22 := by rw [← hM1]; exact z_SV_row (by decide) (by decide)
        obtain rfl : c = 0 := by rw [← hc]; unfold z_c_withdraw; (repeat' split) <;> omega
        have hq := hz1.trans hz
        rw [hM1] at hr
        rw [← hz1] at hb hc
        have hh := z_BI_h hb
        try rw [← hz1] at h10
        try rw [← hz1] at h26
        try rw [← hz1] at h42
        have y_x := z_BI_P hb x (by omega) (by omega)
        have y_b := z_BI_bal hb (p := x) (by omega) (by omega)
        unfold z_PI at y_x
        have y_s := z_BI_s hb
        have y_r := z_BI_res hb
        have y_5 := z_BI_one hb (Or.inr rfl) (p := x) (by omega) (by omega)
        refine z_aloadn dX7_withdraw_55 rfl ?_
        refine gX7_7 rfl dX7_withdraw_56 ?_
        refine z_bipush dX7_withdraw_59 (by decide) ?_
        refine z_bipush dX7_withdraw_61 (by decide) ?_
        refine z_iloadn dX7_withdraw_63 rfl ?_
        refine z_imul dX7_withdraw_64 ?_
        refine z_iadd dX7_withdraw_65 ?_
        refine z_dup2 dX7_withdraw_66 rfl rfl ?_
        refine z_iald (by rfl) (by first | decide | exact Or.inl ⟨by decide, hg⟩) (by omega) (by omega) (by decide) dX7_withdraw_67 ?_
        refine z_iloadn dX7_withdraw_68 rfl ?_
        refine z_isub dX7_withdraw_69 ?_
        refine z_iast (by rfl) (by first | decide | exact Or.inl ⟨by decide, hg⟩) (by omega) (by omega) (by decide) (by first | (exact hr _ _ (by decide)) | omega) dX7_withdraw_70 ?_
        refine z_rng fun hr => ?_
        refine z_aloadn dX7_withdraw_71 rfl ?_
        refine gX7_7 rfl dX7_withdraw_72 ?_
        refine z_bipush dX7_withdraw_75 (by decide) ?_
        refine z_bipush dX7_withdraw_77 (by decide) ?_
        refine z_iloadn dX7_withdraw_79 rfl ?_
        refine z_imul dX7_withdraw_80 ?_
        refine z_iadd dX7_withdraw_81 ?_
        refine z_iconst dX7_withdraw_82 ?_
        refine z_iadd dX7_withdraw_83 ?_
        refine z_dup2 dX7_withdraw_84 rfl rfl ?_
        refine z_iald (by rfl) (by first | decide | exact Or.inl ⟨by decide, hg⟩) (by omega) (by omega) (by decide) dX7_withdraw_85 ?_
        refine z_top (v' := M1 22 (14 + 6 * x + 5)) (z_sM_ne _ _ _ (by omega)) ?_
        refine z_iloadn dX7_withdraw_86 rfl ?_
        refine z_iadd dX7_withdraw_87 ?_
        refine z_iast (by rfl) (by first | decide | exact Or.inl ⟨by decide, hg⟩) (by omega) (by omega) (by decide) (by first | (exact hr _ _ (by decide)) | omega) dX7_withdraw_88 ?_
        refine z_rng fun hr => ?_
        refine z_aloadn dX7_withdraw_89 rfl ?_
        refine gX7_7 rfl dX7_withdraw_90 ?_
        refine z_iconst dX7_withdraw_93 ?_
        refine z_dup2 dX7_withdraw_94 rfl rfl ?_
        refine z_iald (by rfl) (by first | decide | exact Or.inl ⟨by decide, hg⟩) (by omega) (by omega) (by decide) dX7_withdraw_95 ?_
        refine z_top (v' := M1 22 5) ((z_sM_ne _ _ _ (by omega)).trans (z_sM_ne _ _ _ (by omega))) ?_
        refine z_iloadn dX7_withdraw_96 rfl ?_
        refine z_iadd dX7_withdraw_97 ?_
        refine z_iast (by rfl) (by first | decide | exact Or.inl ⟨by decide, hg⟩) (by omega) (by omega) (by decide) (by first | (exact hr _ _ (by decide)) | omega) dX7_withdraw_98 ?_
        refine z_rng fun hr => ?_
        refine z_aloadn dX7_withdraw_99 rfl ?_
        refine z_iloadn dX7_withdraw_100 rfl ?_
        refine z_iconst dX7_withdraw_101 ?_
        refine kX7_61 (tX7_of0 (by omega) (by omega)) rfl ⟨(Nat.le_of_ble_eq_true rfl), (Nat.le_of_ble_eq_true rfl)⟩ (Nat.le_of_ble_eq_true rfl) dX7_withdraw_102 ?_
        refine z_top (v' := M1 22 (14 + 6 * x) - a) ((z_sM_ne _ _ _ (by omega)).trans ((z_sM_ne _ _ _ (by omega)).trans (z_sM_self _ _ _ _))) ?_
        exact z_iret dX7_withdraw_105 (by rw [if_pos rfl, ← hq]) (by rw [if_pos rfl, ← hq]; simp only [z_sM_R, z_sR_R, z_sR_self]; first | rfl | (congr 1; unfold z_o_withdraw; funext j; simp only [z_uf]; (repeat' split) <;> first | rfl | omega))
      · refine z_aloadn dX7_withdraw_45 rfl ?_
        refine z_iconst dX7_withdraw_46 ?_
        refine kX7_55 (tX7_fails (by first | decide | omega)) rfl ⟨(Nat.le_of_ble_eq_true rfl), (Nat.le_of_ble_eq_true rfl)⟩ (Nat.le_of_ble_eq_true rfl) dX7_withdraw_47 ?_
        refine z_rng fun hr => ?_
        obtain rfl : c = 3 := by rw [← hc]; unfold z_c_withdraw; (repeat' split) <;> omega
        exact z_iret dX7_withdraw_50 (if_neg (by decide)).symm (by rw [if_neg (by decide), ← hM0, z_sM_sM])
    · refine z_aloadn dX7_withdraw_29 rfl ?_
      refine z_iconst dX7_withdraw_30 ?_
      refine kX7_55 (tX7_fails (by first | decide | omega)) rfl ⟨(Nat.le_of_ble_eq_true rfl), (Nat.le_of_ble_eq_true rfl)⟩ (Nat.le_of_ble_eq_true rfl) dX7_withdraw_31 ?_
      refine z_rng fun hr => ?_
      obtain rfl : c = 2 := by rw [← hc]; unfold z_c_withdraw; (repeat' split) <;> omega
      exact z_iret dX7_withdraw_34 (if_neg (by decide)).symm (by rw [if_neg (by decide), ← hM0, z_sM_sM])
  · refine z_aloadn dX7_withdraw_13 rfl ?_
    refine z_iconst dX7_withdraw_14 ?_
    refine kX7_55 (tX7_fails (by first | decide | omega)) rfl ⟨(Nat.le_of_ble_eq_true rfl), (Nat.le_of_ble_eq_true rfl)⟩ (Nat.le_of_ble_eq_true rfl) dX7_withdraw_15 ?_
    refine z_rng fun hr => ?_
    obtain rfl : c = 1 := by rw [← hc]; unfold z_c_withdraw; (repeat' split) <;> omega
    exact z_iret dX7_withdraw_18 (if_neg (by decide)).symm (by rw [if_neg (by decide), ← hM0, z_sM_sM])
theorem tX7_mostOf {G : z_G} {M : z_M} {x : Int} (hx : z_rg x) : KX7_mostOf G [z_I x] M (.inl (some (z_I (z_mo x)))) M := by
  refine z_con (ls := [some (z_I x)]) (by decide +kernel) (Nat.le_of_ble_eq_true rfl) rfl ?_
  intro Z htb
  refine z_rng fun hr => ?_
  refine z_iloadn dX7_mostOf_0 rfl ?_
  refine z_if_ne (tgt := 9) (by first | (exact hr _ _ (by decide)) | omega) dX7_mostOf_1 (by decide) (fun h1 => ?_) (fun h1 => ?_)
  · refine z_iloadn dX7_mostOf_9 rfl ?_
    refine z_iconst dX7_mostOf_10 ?_
    refine z_icmp_ne (tgt := 19) (by first | (exact hr _ _ (by decide)) | omega) (by first | (exact hr _ _ (by decide)) | omega) dX7_mostOf_11 (by decide) (fun h11 => ?_) (fun h11 => ?_)
    · refine z_iloadn dX7_mostOf_19 rfl ?_
      refine z_iconst dX7_mostOf_20 ?_
      refine z_icmp_ne (tgt := 30) (by first | (exact hr _ _ (by decide)) | omega) (by first | (exact hr _ _ (by decide)) | omega) dX7_mostOf_21 (by decide) (fun h21 => ?_) (fun h21 => ?_)
      · refine z_bipush dX7_mostOf_30 (by decide) ?_
        exact z_iret dX7_mostOf_32 (by unfold z_mo; (repeat' split) <;> omega) rfl
      · refine z_sipush dX7_mostOf_24 (by decide) ?_
        refine z_goto (tgt := 32) dX7_mostOf_27 (by decide) ?_
        exact z_iret dX7_mostOf_32 (by unfold z_mo; (repeat' split) <;> omega) rfl
    · refine z_bipush dX7_mostOf_14 (by decide) ?_
      refine z_goto (tgt := 32) dX7_mostOf_16 (by decide) ?_
      exact z_iret dX7_mostOf_32 (by unfold z_mo; (repeat' split) <;> omega) rfl
  · refine z_bipush dX7_mostOf_4 (by decide) ?_
    refine z_goto (tgt := 32) dX7_mostOf_6 (by decide) ?_
    exact z_iret dX7_mostOf_32 (by unfold z_mo; (repeat' split) <;> omega) rfl
theorem tX7_set {G : z_G} {M : z_M} {N c x v : Int} (hb : z_BI (M 22) N) (hs0 : 0 ≤ M 21 2) (hs1 : M 21 2 ≤ 6) (rx : z_rg x) (rv : z_rg v) (hc : z_c_set x v = c) : KX7_set G [.ref (z_ad G 0 40), z_I x, z_I v] M (.inl (some (z_I (if c = 0 then M 22 (8 + x) else 0)))) (if c = 0 then z_sR (z_SV (z_sM M 21 4 0)) 22 (z_o_set (M 22) x v) else z_sM M 21 4 c) := by
  refine z_con (ls := [some (.ref (z_ad G 0 40)), some (z_I x), some (z_I v), none]) (by decide +kernel) (Nat.le_of_ble_eq_true rfl) rfl ?_
  intro Z htb
  refine z_rng fun hr => ?_
  refine z_aloadn dX7_set_0 rfl ?_
  refine z_iconst dX7_set_1 ?_
  refine pX7_40 (by first | (exact hr _ _ (by decide)) | omega) rfl dX7_set_2 ?_
  refine z_rng fun hr => ?_
  generalize hM0 : z_sM M 21 4 0 = M0
  have hz : M0 22 = M 22 := by rw [← hM0]; exact z_sM_row _ _ _ (by decide)
  have hz2 : M0 21 2 = M 21 2 := by rw [← hM0]; exact z_sM_ne _ _ _ (by decide)
  rw [hM0] at hr
  rw [← hz] at hb
  rw [← hz2] at hs0 hs1
  have hh := z_BI_h hb
  refine z_iloadn dX7_set_5 rfl ?_
  refine z_iconst dX7_set_6 ?_
  refine z_iconst dX7_set_7 ?_
  refine kX7_44 (tX7_within (by first | (exact hr _ _ (by decide)) | omega) (by first | (exact hr _ _ (by decide)) | omega) (by first | (exact hr _ _ (by decide)) | omega)) rfl ⟨(Nat.le_of_ble_eq_true rfl), (Nat.le_of_ble_eq_true rfl)⟩ (Nat.le_of_ble_eq_true rfl) dX7_set_8 ?_
  refine z_ifb_ne (tgt := 20) dX7_set_11 (by decide) (fun h11 => ?_) (fun h11 => ?_)
  · refine z_iloadn dX7_set_20 rfl ?_
    refine z_iconst dX7_set_21 ?_
    refine z_iloadn dX7_set_22 rfl ?_
    have y_m : 0 ≤ z_mo x ∧ z_mo x ≤ 10000 := by unfold z_mo; (repeat' split) <;> omega
    refine kX7_74 (tX7_mostOf (by omega)) rfl ⟨(Nat.le_of_ble_eq_true rfl), (Nat.le_of_ble_eq_true rfl)⟩ (Nat.le_of_ble_eq_true rfl) dX7_set_23 ?_
    refine kX7_44 (tX7_within (by first | (exact hr _ _ (by decide)) | omega) (by first | (exact hr _ _ (by decide)) | omega) (by first | (exact hr _ _ (by decide)) | omega)) rfl ⟨(Nat.le_of_ble_eq_true rfl), (Nat.le_of_ble_eq_true rfl)⟩ (Nat.le_of_ble_eq_true rfl) dX7_set_26 ?_
    refine z_ifb_ne (tgt := 38) dX7_set_29 (by decide) (fun h29 => ?_) (fun h29 => ?_)
    · have y_m : 0 ≤ z_mo x ∧ z_mo x ≤ 10000 := by unfold z_mo; (repeat' split) <;> omega
      refine z_aloadn dX7_set_38 rfl ?_
      refine kX7_58 (tX7_save hs0 hs1) rfl ⟨(Nat.le_of_ble_eq_true rfl), (Nat.le_of_ble_eq_true rfl)⟩ (Nat.le_of_ble_eq_true rfl) dX7_set_39 ?_
      refine z_rng fun hr => ?_
      generalize hM1 : z_SV M0 = M1
      have hz1 : M1 22 = M0 22 := by rw [← hM1]; exact z_SV_row (by decide) (by decide)
      obtain rfl : c = 0 := by rw [← hc]; unfold z_c_set; (repeat' split) <;> omega
      have hq := hz1.trans hz
      rw [hM1] at hr
      rw [← hz1] at hb
      have hh := z_BI_h hb
      try rw [← hz1] at h11
      try rw [← hz1] at h29
      refine z_aloadn dX7_set_42 rfl ?_
      refine gX7_7 rfl dX7_set_43 ?_
      refine z_bipush dX7_set_46 (by decide) ?_
      refine z_iloadn dX7_set_48 rfl ?_
      refine z_iadd dX7_set_49 ?_
      refine z_iald (by rfl) (by first | decide | exact Or.inl ⟨by decide, hg⟩) (by omega) (by omega) (by decide) dX7_set_50 ?_
      refine z_istoren_3 dX7_set_51 (Nat.le_of_ble_eq_true rfl) rfl ?_
      refine z_aloadn dX7_set_52 rfl ?_
      refine gX7_7 rfl dX7_set_53 ?_
      refine z_bipush dX7_set_56 (by decide) ?_
      refine z_iloadn dX7_set_58 rfl ?_
      refine z_iadd dX7_set_59 ?_
      refine z_iloadn dX7_set_60 rfl ?_
      refine z_iast (by rfl) (by first | decide | exact Or.inl ⟨by decide, hg⟩) (by omega) (by omega) (by decide) (by first | (exact hr _ _ (by decide)) | omega) dX7_set_61 ?_
      refine z_rng fun hr => ?_
      refine z_iloadn dX7_set_62 rfl ?_
      exact z_iret dX7_set_63 (by rw [if_pos rfl, ← hq]) (by rw [if_pos rfl, ← hq]; simp only [z_sM_R, z_sR_R, z_sR_self]; first | rfl | (congr 1; unfold z_o_set; funext j; simp only [z_uf]; (repeat' split) <;> first | rfl | omega))
    · refine z_aloadn dX7_set_32 rfl ?_
      refine z_iconst dX7_set_33 ?_
      refine kX7_55 (tX7_fails (by first | decide | omega)) rfl ⟨(Nat.le_of_ble_eq_true rfl), (Nat.le_of_ble_eq_true rfl)⟩ (Nat.le_of_ble_eq_true rfl) dX7_set_34 ?_
      refine z_rng fun hr => ?_
      obtain rfl : c = 2 := by rw [← hc]; unfold z_c_set; (repeat' split) <;> omega
      exact z_iret dX7_set_37 (if_neg (by decide)).symm (by rw [if_neg (by decide), ← hM0, z_sM_sM])
  · refine z_aloadn dX7_set_14 rfl ?_
    refine z_iconst dX7_set_15 ?_
    refine kX7_55 (tX7_fails (by first | decide | omega)) rfl ⟨(Nat.le_of_ble_eq_true rfl), (Nat.le_of_ble_eq_true rfl)⟩ (Nat.le_of_ble_eq_true rfl) dX7_set_16 ?_
    refine z_rng fun hr => ?_
    obtain rfl : c = 1 := by rw [← hc]; unfold z_c_set; (repeat' split) <;> omega
    exact z_iret dX7_set_19 (if_neg (by decide)).symm (by rw [if_neg (by decide), ← hM0, z_sM_sM])
