/-! ===== the class: what it is called with ===== -/
theorem z_mo_most {x : Int} (x0 : 0 ≤ x) (x1 : x < 6) : z_most x.toNat = z_mo x := by
  rcases (by omega : x = 0 ∨ x = 1 ∨ x = 2 ∨ x = 3 ∨ x = 4 ∨ x = 5) with e | e | e | e | e | e <;> subst e <;> rfl
theorem z_mo_rg (x : Int) : 0 ≤ z_mo x ∧ z_mo x ≤ 10000 := by unfold z_mo; (repeat' split) <;> omega
theorem tX6_addPen {G : z_G} {M : z_M} {g : Nat} {N : Int} (hg : g < 7) (hn : M 7 2 = (g : Int)) (h0 : M 7 0 = (g : Int)) (s0 : 0 ≤ M 7 1) (s1 : M 7 1 ≤ 6) (ho : z_W7 M) (hb : z_BI (M g) N) (hc : z_c_addPen (M g) = 0) : KX6_addPen G [.ref (z_ad G 0 20)] M (.inl (some (z_I ((M g) 0)))) (z_sR (z_SC M g) (z_sg g) (z_o_addPen (M g))) := by
  refine z_con (ls := [some (.ref (z_ad G 0 20)), none]) (by decide +kernel) (Nat.le_of_ble_eq_true rfl) rfl ?_
  intro Z htb
  refine z_rng fun hr => ?_
  have hh := z_BI_h hb
  unfold z_c_addPen at hc
  (repeat' split at hc) <;> first | (exfalso; omega; done) | skip
  refine z_aloadn dX6_addPen_0 rfl ?_
  refine gX6_44 (by first | exact hn | exact y_An | ((repeat (first | rw [z_sM_row _ _ _ y_7q] | rw [z_sR_ne _ _ y_7q])); exact y_An)) rfl dX6_addPen_1 ?_
  refine gX6_48 (by first | exact hg | exact hq7) rfl dX6_addPen_4 ?_
  refine gX6_52 (by first | exact hg | exact hq7) rfl dX6_addPen_7 ?_
  refine z_bipush dX6_addPen_10 (by decide) ?_
  refine z_icmp_lt (tgt := 25) (by first | (exact hr _ _ (by decide)) | (exact hr _ _ (by omega)) | omega) (by first | (exact hr _ _ (by decide)) | (exact hr _ _ (by omega)) | omega) dX6_addPen_12 (by decide) (fun h12 => ?_) (fun h12 => ?_)
  · refine z_aloadn dX6_addPen_25 rfl ?_
    refine kX6_65 (tX6_save hg hn h0 s0 s1 ho) rfl ⟨(Nat.le_of_ble_eq_true rfl), (Nat.le_of_ble_eq_true rfl)⟩ (Nat.le_of_ble_eq_true rfl) dX6_addPen_26 ?_
    refine z_rng fun hr => ?_
    obtain ⟨q, y_q⟩ : ∃ q, z_sg g = q := ⟨_, rfl⟩
    have hq7 : q < 7 := by rw [← y_q]; exact z_sg_lt g
    have y_7q : 7 ≠ q := by omega
    obtain ⟨A, y_A⟩ : ∃ A, z_SC M g = A := ⟨_, rfl⟩
    have y_Aq : A q = M g := by rw [← y_A, ← y_q]; exact z_SC_new M g
    have y_An : A 7 2 = (q : Int) := by rw [← y_A, ← y_q]; exact z_SC_72 M g
    rw [y_A, y_q]
    simp only [← y_Aq] at *
    refine z_rng fun hr => ?_
    refine z_aloadn dX6_addPen_29 rfl ?_
    refine gX6_44 (by first | exact hn | exact y_An | ((repeat (first | rw [z_sM_row _ _ _ y_7q] | rw [z_sR_ne _ _ y_7q])); exact y_An)) rfl dX6_addPen_30 ?_
    refine gX6_48 (by first | exact hg | exact hq7) rfl dX6_addPen_33 ?_
    refine gX6_52 (by first | exact hg | exact hq7) rfl dX6_addPen_36 ?_
    refine z_istoren_1 dX6_addPen_39 (Nat.le_of_ble_eq_true rfl) rfl ?_
    refine z_aloadn dX6_addPen_40 rfl ?_
    refine gX6_44 (by first | exact hn | exact y_An | ((repeat (first | rw [z_sM_row _ _ _ y_7q] | rw [z_sR_ne _ _ y_7q])); exact y_An)) rfl dX6_addPen_41 ?_
    refine gX6_48 (by first | exact hg | exact hq7) rfl dX6_addPen_44 ?_
    refine gX6_68 (by first | exact hg | exact hq7) rfl dX6_addPen_47 ?_
    refine z_iloadn dX6_addPen_50 rfl ?_
    refine z_iloadn dX6_addPen_51 rfl ?_
    refine z_iast (by rfl) (by first | exact Or.inl (by decide) | exact Or.inl (Or.inl ⟨by decide, hg⟩) | exact Or.inl (Or.inl ⟨by decide, hq7⟩)) (by omega) (by omega) (by decide) (by first | (exact hr _ _ (by decide)) | (exact hr _ _ (by omega)) | omega) dX6_addPen_52 ?_
    refine z_rng fun hr => ?_
    refine z_aloadn dX6_addPen_53 rfl ?_
    refine gX6_44 (by first | exact hn | exact y_An | ((repeat (first | rw [z_sM_row _ _ _ y_7q] | rw [z_sR_ne _ _ y_7q])); exact y_An)) rfl dX6_addPen_54 ?_
    refine gX6_48 (by first | exact hg | exact hq7) rfl dX6_addPen_57 ?_
    refine z_iloadn dX6_addPen_60 rfl ?_
    refine z_iconst dX6_addPen_61 ?_
    refine z_iadd dX6_addPen_62 ?_
    refine pX6_52 (by first | exact hg | exact hq7) (by first | (exact hr _ _ (by decide)) | (exact hr _ _ (by omega)) | omega) rfl dX6_addPen_63 ?_
    refine z_rng fun hr => ?_
    refine z_iloadn dX6_addPen_66 rfl ?_
    exact z_iret dX6_addPen_67 (by first | rfl | omega) (by simp only [z_sM_R, z_sR_R, z_sR_self]; first | rfl | (congr 1; unfold z_o_addPen; funext j; simp only [z_uf]; (repeat' split) <;> first | rfl | omega))
  · exfalso; omega
theorem tX6_sell {G : z_G} {M : z_M} {g : Nat} {N : Int} (hg : g < 7) (hn : M 7 2 = (g : Int)) (h0 : M 7 0 = (g : Int)) (s0 : 0 ≤ M 7 1) (s1 : M 7 1 ≤ 6) (ho : z_W7 M) (hb : z_BI (M g) N) {x : Int} (rx : z_rg x) {t : Int} (rt : z_rg t) {p : Int} (rp : z_rg p) (hc : z_c_sell (M g) x t p = 0) : KX6_sell G [.ref (z_ad G 0 20), z_I x, z_I t, z_I p] M (.inl (some (z_I ((M g) (14 + 6 * x + 3))))) (z_sR (z_SC M g) (z_sg g) (z_sold (M g) x t p)) := by
  refine z_con (ls := [some (.ref (z_ad G 0 20)), some (z_I x), some (z_I t), some (z_I p), none]) (by decide +kernel) (Nat.le_of_ble_eq_true rfl) rfl ?_
  intro Z htb
  refine z_rng fun hr => ?_
  have hh := z_BI_h hb
  unfold z_c_sell at hc
  (repeat' split at hc) <;> first | (exfalso; omega; done) | skip
  refine z_aloadn dX6_sell_0 rfl ?_
  refine z_iloadn dX6_sell_1 rfl ?_
  by_cases e2 : 0 ≤ x ∧ x < M g 0
  · refine kX6_71 (tX6_needPen hg hn (by first | assumption | omega | exact hr _ _ (by omega)) e2) rfl ⟨(Nat.le_of_ble_eq_true rfl), (Nat.le_of_ble_eq_true rfl)⟩ (Nat.le_of_ble_eq_true rfl) dX6_sell_2 ?_
    refine z_aloadn dX6_sell_5 rfl ?_
    refine z_iloadn dX6_sell_6 rfl ?_
    by_cases e7 : 0 ≤ t ∧ t < M g 0
    · refine kX6_71 (tX6_needPen hg hn (by first | assumption | omega | exact hr _ _ (by omega)) e7) rfl ⟨(Nat.le_of_ble_eq_true rfl), (Nat.le_of_ble_eq_true rfl)⟩ (Nat.le_of_ble_eq_true rfl) dX6_sell_7 ?_
      refine z_iloadn dX6_sell_10 rfl ?_
      refine z_iconst dX6_sell_11 ?_
      refine z_ldc (i := 100000) wk_X6_75 dX6_sell_12 ?_
      by_cases e14 : 0 ≤ p ∧ p ≤ 100000
      · refine kX6_76 (tX6_needRange (by first | assumption | omega | exact hr _ _ (by omega)) (by first | assumption | omega | exact hr _ _ (by omega)) (by first | assumption | omega | exact hr _ _ (by omega)) e14) rfl ⟨(Nat.le_of_ble_eq_true rfl), (Nat.le_of_ble_eq_true rfl)⟩ (Nat.le_of_ble_eq_true rfl) dX6_sell_14 ?_
        have y_x := z_BI_P hb x (by omega) (by omega)
        have y_b := z_BI_bal hb (p := x) (by omega) (by omega)
        unfold z_PI at y_x
        have y_t := z_BI_bal hb (p := t) (by omega) (by omega)
        refine z_aloadn dX6_sell_17 rfl ?_
        refine gX6_44 (by first | exact hn | exact y_An | ((repeat (first | rw [z_sM_row _ _ _ y_7q] | rw [z_sR_ne _ _ y_7q])); exact y_An)) rfl dX6_sell_18 ?_
        refine gX6_48 (by first | exact hg | exact hq7) rfl dX6_sell_21 ?_
        refine gX6_68 (by first | exact hg | exact hq7) rfl dX6_sell_24 ?_
        refine z_iloadn dX6_sell_27 rfl ?_
        refine z_iald (by rfl) (by first | exact Or.inl (by decide) | exact Or.inl (Or.inl ⟨by decide, hg⟩) | exact Or.inl (Or.inl ⟨by decide, hq7⟩)) (by omega) (by omega) (by decide) dX6_sell_28 ?_
        refine z_istore_4 dX6_sell_29 (Nat.le_of_ble_eq_true rfl) rfl ?_
        refine z_iload dX6_sell_31 rfl ?_
        refine z_iloadn dX6_sell_33 rfl ?_
        refine z_icmp_ne (tgt := 47) (by first | (exact hr _ _ (by decide)) | (exact hr _ _ (by omega)) | omega) (by first | (exact hr _ _ (by decide)) | (exact hr _ _ (by omega)) | omega) dX6_sell_34 (by decide) (fun h34 => ?_) (fun h34 => ?_)
        · refine z_aloadn dX6_sell_47 rfl ?_
          refine gX6_44 (by first | exact hn | exact y_An | ((repeat (first | rw [z_sM_row _ _ _ y_7q] | rw [z_sR_ne _ _ y_7q])); exact y_An)) rfl dX6_sell_48 ?_
          refine gX6_48 (by first | exact hg | exact hq7) rfl dX6_sell_51 ?_
          refine gX6_85 (by first | exact hg | exact hq7) rfl dX6_sell_54 ?_
          refine z_iloadn dX6_sell_57 rfl ?_
          refine z_iald (by rfl) (by first | exact Or.inl (by decide) | exact Or.inl (Or.inl ⟨by decide, hg⟩) | exact Or.inl (Or.inl ⟨by decide, hq7⟩)) (by omega) (by omega) (by decide) dX6_sell_58 ?_
          refine z_iloadn dX6_sell_59 rfl ?_
          by_cases e60 : p ≤ M g (14 + 6 * t)
          · refine kX6_88 (tX6_needAtLeast (by first | assumption | omega | exact hr _ _ (by omega)) (by first | assumption | omega | exact hr _ _ (by omega)) e60) rfl ⟨(Nat.le_of_ble_eq_true rfl), (Nat.le_of_ble_eq_true rfl)⟩ (Nat.le_of_ble_eq_true rfl) dX6_sell_60 ?_
            refine z_aloadn dX6_sell_63 rfl ?_
            refine kX6_65 (tX6_save hg hn h0 s0 s1 ho) rfl ⟨(Nat.le_of_ble_eq_true rfl), (Nat.le_of_ble_eq_true rfl)⟩ (Nat.le_of_ble_eq_true rfl) dX6_sell_64 ?_
            refine z_rng fun hr => ?_
            obtain ⟨q, y_q⟩ : ∃ q, z_sg g = q := ⟨_, rfl⟩
            have hq7 : q < 7 := by rw [← y_q]; exact z_sg_lt g
            have y_7q : 7 ≠ q := by omega
            obtain ⟨A, y_A⟩ : ∃ A, z_SC M g = A := ⟨_, rfl⟩
            have y_Aq : A q = M g := by rw [← y_A, ← y_q]; exact z_SC_new M g
            have y_An : A 7 2 = (q : Int) := by rw [← y_A, ← y_q]; exact z_SC_72 M g
            rw [y_A, y_q]
            simp only [← y_Aq] at *
            refine z_rng fun hr => ?_
            refine z_aloadn dX6_sell_67 rfl ?_
            refine gX6_44 (by first | exact hn | exact y_An | ((repeat (first | rw [z_sM_row _ _ _ y_7q] | rw [z_sR_ne _ _ y_7q])); exact y_An)) rfl dX6_sell_68 ?_
            refine gX6_48 (by first | exact hg | exact hq7) rfl dX6_sell_71 ?_
            refine z_iloadn dX6_sell_74 rfl ?_
            refine z_iloadn dX6_sell_75 rfl ?_
            refine z_iloadn dX6_sell_76 rfl ?_
            have y_2 := z_BI_bal2 hb (p := A q (14 + 6 * x + 3)) (q := t) (by omega) (by omega) (by omega) (by omega) (by omega)
            have y_3 := z_BI_bal hb (p := A q (14 + 6 * x + 3)) (by omega) (by omega)
            refine kX6_92 (by first | exact hg | exact hq7) (tX3_passByline hq7 (by omega) (by omega) (by omega) (by omega) (by omega) (by omega) (by omega) (by omega) (by omega) (by omega)) rfl ⟨(Nat.le_of_ble_eq_true rfl), (Nat.le_of_ble_eq_true rfl)⟩ (Nat.le_of_ble_eq_true rfl) dX6_sell_77 ?_
            refine z_rng fun hr => ?_
            refine z_iload dX6_sell_80 rfl ?_
            exact z_iret dX6_sell_82 (by first | rfl | omega) rfl
          · exfalso; omega
        · exfalso; omega
      · exfalso; omega
    · exfalso; omega
  · exfalso; omega
theorem tX6_buyBack {G : z_G} {M : z_M} {g : Nat} {N : Int} (hg : g < 7) (hn : M 7 2 = (g : Int)) (h0 : M 7 0 = (g : Int)) (s0 : 0 ≤ M 7 1) (s1 : M 7 1 ≤ 6) (ho : z_W7 M) (hb : z_BI (M g) N) {x : Int} (rx : z_rg x) (hc : z_c_buyBack (M g) x = 0) : KX6_buyBack G [.ref (z_ad G 0 20), z_I x] M (.inl (some (z_I (z_bbp (M g) x)))) (z_sR (z_SC M g) (z_sg g) (z_sold (M g) x x (z_bbp (M g) x))) := by
  refine z_con (ls := [some (.ref (z_ad G 0 20)), some (z_I x), none]) (by decide +kernel) (Nat.le_of_ble_eq_true rfl) rfl ?_
  intro Z htb
  refine z_rng fun hr => ?_
  have hh := z_BI_h hb
  unfold z_c_buyBack z_bbp at hc
  (repeat' split at hc) <;> first | (exfalso; omega; done) | skip
  refine z_aloadn dX6_buyBack_0 rfl ?_
  refine z_iloadn dX6_buyBack_1 rfl ?_
  by_cases e2 : 0 ≤ x ∧ x < M g 0
  · refine kX6_71 (tX6_needPen hg hn (by first | assumption | omega | exact hr _ _ (by omega)) e2) rfl ⟨(Nat.le_of_ble_eq_true rfl), (Nat.le_of_ble_eq_true rfl)⟩ (Nat.le_of_ble_eq_true rfl) dX6_buyBack_2 ?_
    have y_x := z_BI_P hb x (by omega) (by omega)
    have y_b := z_BI_bal hb (p := x) (by omega) (by omega)
    unfold z_PI at y_x
    refine z_aloadn dX6_buyBack_5 rfl ?_
    refine gX6_44 (by first | exact hn | exact y_An | ((repeat (first | rw [z_sM_row _ _ _ y_7q] | rw [z_sR_ne _ _ y_7q])); exact y_An)) rfl dX6_buyBack_6 ?_
    refine gX6_48 (by first | exact hg | exact hq7) rfl dX6_buyBack_9 ?_
    refine gX6_68 (by first | exact hg | exact hq7) rfl dX6_buyBack_12 ?_
    refine z_iloadn dX6_buyBack_15 rfl ?_
    refine z_iald (by rfl) (by first | exact Or.inl (by decide) | exact Or.inl (Or.inl ⟨by decide, hg⟩) | exact Or.inl (Or.inl ⟨by decide, hq7⟩)) (by omega) (by omega) (by decide) dX6_buyBack_16 ?_
    refine z_iloadn dX6_buyBack_17 rfl ?_
    refine z_icmp_ne (tgt := 31) (by first | (exact hr _ _ (by decide)) | (exact hr _ _ (by omega)) | omega) (by first | (exact hr _ _ (by decide)) | (exact hr _ _ (by omega)) | omega) dX6_buyBack_18 (by decide) (fun h18 => ?_) (fun h18 => ?_)
    · refine z_aloadn dX6_buyBack_31 rfl ?_
      refine gX6_44 (by first | exact hn | exact y_An | ((repeat (first | rw [z_sM_row _ _ _ y_7q] | rw [z_sR_ne _ _ y_7q])); exact y_An)) rfl dX6_buyBack_32 ?_
      refine gX6_48 (by first | exact hg | exact hq7) rfl dX6_buyBack_35 ?_
      refine gX6_97 (by first | exact hg | exact hq7) rfl dX6_buyBack_38 ?_
      refine z_iloadn dX6_buyBack_41 rfl ?_
      refine z_iald (by rfl) (by first | exact Or.inl (by decide) | exact Or.inl (Or.inl ⟨by decide, hg⟩) | exact Or.inl (Or.inl ⟨by decide, hq7⟩)) (by omega) (by omega) (by decide) dX6_buyBack_42 ?_
      refine z_aloadn dX6_buyBack_43 rfl ?_
      refine gX6_44 (by first | exact hn | exact y_An | ((repeat (first | rw [z_sM_row _ _ _ y_7q] | rw [z_sR_ne _ _ y_7q])); exact y_An)) rfl dX6_buyBack_44 ?_
      refine gX6_48 (by first | exact hg | exact hq7) rfl dX6_buyBack_47 ?_
      refine gX6_97 (by first | exact hg | exact hq7) rfl dX6_buyBack_50 ?_
      refine z_iloadn dX6_buyBack_53 rfl ?_
      refine z_iald (by rfl) (by first | exact Or.inl (by decide) | exact Or.inl (Or.inl ⟨by decide, hg⟩) | exact Or.inl (Or.inl ⟨by decide, hq7⟩)) (by omega) (by omega) (by decide) dX6_buyBack_54 ?_
      refine z_bipush dX6_buyBack_55 (by decide) ?_
      refine z_idiv (by omega) (by omega) (by omega) (by omega) dX6_buyBack_57 ?_
      refine z_iadd dX6_buyBack_58 ?_
      refine z_istoren_2 dX6_buyBack_59 (Nat.le_of_ble_eq_true rfl) rfl ?_
      refine z_aloadn dX6_buyBack_60 rfl ?_
      refine gX6_44 (by first | exact hn | exact y_An | ((repeat (first | rw [z_sM_row _ _ _ y_7q] | rw [z_sR_ne _ _ y_7q])); exact y_An)) rfl dX6_buyBack_61 ?_
      refine gX6_48 (by first | exact hg | exact hq7) rfl dX6_buyBack_64 ?_
      refine gX6_85 (by first | exact hg | exact hq7) rfl dX6_buyBack_67 ?_
      refine z_iloadn dX6_buyBack_70 rfl ?_
      refine z_iald (by rfl) (by first | exact Or.inl (by decide) | exact Or.inl (Or.inl ⟨by decide, hg⟩) | exact Or.inl (Or.inl ⟨by decide, hq7⟩)) (by omega) (by omega) (by decide) dX6_buyBack_71 ?_
      refine z_iloadn dX6_buyBack_72 rfl ?_
      by_cases e73 : M g (14 + 6 * x + 4) + M g (14 + 6 * x + 4) / 10 ≤ M g (14 + 6 * x)
      · refine kX6_88 (tX6_needAtLeast (by first | assumption | omega | exact hr _ _ (by omega)) (by first | assumption | omega | exact hr _ _ (by omega)) e73) rfl ⟨(Nat.le_of_ble_eq_true rfl), (Nat.le_of_ble_eq_true rfl)⟩ (Nat.le_of_ble_eq_true rfl) dX6_buyBack_73 ?_
        refine z_aloadn dX6_buyBack_76 rfl ?_
        refine kX6_65 (tX6_save hg hn h0 s0 s1 ho) rfl ⟨(Nat.le_of_ble_eq_true rfl), (Nat.le_of_ble_eq_true rfl)⟩ (Nat.le_of_ble_eq_true rfl) dX6_buyBack_77 ?_
        refine z_rng fun hr => ?_
        obtain ⟨q, y_q⟩ : ∃ q, z_sg g = q := ⟨_, rfl⟩
        have hq7 : q < 7 := by rw [← y_q]; exact z_sg_lt g
        have y_7q : 7 ≠ q := by omega
        obtain ⟨A, y_A⟩ : ∃ A, z_SC M g = A := ⟨_, rfl⟩
        have y_Aq : A q = M g := by rw [← y_A, ← y_q]; exact z_SC_new M g
        have y_An : A 7 2 = (q : Int) := by rw [← y_A, ← y_q]; exact z_SC_72 M g
        rw [y_A, y_q]
        simp only [← y_Aq] at *
        refine z_rng fun hr => ?_
        refine z_aloadn dX6_buyBack_80 rfl ?_
        refine gX6_44 (by first | exact hn | exact y_An | ((repeat (first | rw [z_sM_row _ _ _ y_7q] | rw [z_sR_ne _ _ y_7q])); exact y_An)) rfl dX6_buyBack_81 ?_
        refine gX6_48 (by first | exact hg | exact hq7) rfl dX6_buyBack_84 ?_
        refine z_iloadn dX6_buyBack_87 rfl ?_
        refine z_iloadn dX6_buyBack_88 rfl ?_
        refine z_iloadn dX6_buyBack_89 rfl ?_
        have y_2 := z_BI_bal2 hb (p := A q (14 + 6 * x + 3)) (q := x) (by omega) (by omega) (by omega) (by omega) (by omega)
        have y_3 := z_BI_bal hb (p := A q (14 + 6 * x + 3)) (by omega) (by omega)
        refine kX6_92 (by first | exact hg | exact hq7) (tX3_passByline hq7 (by omega) (by omega) (by omega) (by omega) (by omega) (by omega) (by omega) (by omega) (by omega) (by omega)) rfl ⟨(Nat.le_of_ble_eq_true rfl), (Nat.le_of_ble_eq_true rfl)⟩ (Nat.le_of_ble_eq_true rfl) dX6_buyBack_90 ?_
        refine z_rng fun hr => ?_
        refine z_iloadn dX6_buyBack_93 rfl ?_
        exact z_iret dX6_buyBack_94 rfl rfl
      · exfalso; omega
    · exfalso; omega
  · exfalso; omega
theorem tX6_advance {G : z_G} {M : z_M} {g : Nat} {N : Int} (hg : g < 7) (hn : M 7 2 = (g : Int)) (h0 : M 7 0 = (g : Int)) (s0 : 0 ≤ M 7 1) (s1 : M 7 1 ≤ 6) (ho : z_W7 M) (hb : z_BI (M g) N) {x : Int} (rx : z_rg x) {a : Int} (ra : z_rg a) (hc : z_c_advance (M g) x a = 0) : KX6_advance G [.ref (z_ad G 0 20), z_I x, z_I a] M (.inl (some (z_I ((M g) (14 + 6 * x + 1) + a)))) (z_sR (z_SC M g) (z_sg g) (z_o_advance (M g) x a)) := by
  refine z_con (ls := [some (.ref (z_ad G 0 20)), some (z_I x), some (z_I a)]) (by decide +kernel) (Nat.le_of_ble_eq_true rfl) rfl ?_
  intro Z htb
  refine z_rng fun hr => ?_
  have hh := z_BI_h hb
  unfold z_c_advance at hc
  (repeat' split at hc) <;> first | (exfalso; omega; done) | skip
  refine z_aloadn dX6_advance_0 rfl ?_
  refine z_iloadn dX6_advance_1 rfl ?_
  by_cases e2 : 0 ≤ x ∧ x < M g 0
  · refine kX6_71 (tX6_needPen hg hn (by first | assumption | omega | exact hr _ _ (by omega)) e2) rfl ⟨(Nat.le_of_ble_eq_true rfl), (Nat.le_of_ble_eq_true rfl)⟩ (Nat.le_of_ble_eq_true rfl) dX6_advance_2 ?_
    refine z_iloadn dX6_advance_5 rfl ?_
    refine z_iconst dX6_advance_6 ?_
    refine z_ldc (i := 100000) wk_X6_75 dX6_advance_7 ?_
    by_cases e9 : 1 ≤ a ∧ a ≤ 100000
    · refine kX6_76 (tX6_needRange (by first | assumption | omega | exact hr _ _ (by omega)) (by first | assumption | omega | exact hr _ _ (by omega)) (by first | assumption | omega | exact hr _ _ (by omega)) e9) rfl ⟨(Nat.le_of_ble_eq_true rfl), (Nat.le_of_ble_eq_true rfl)⟩ (Nat.le_of_ble_eq_true rfl) dX6_advance_9 ?_
      refine z_aloadn dX6_advance_12 rfl ?_
      refine gX6_44 (by first | exact hn | exact y_An | ((repeat (first | rw [z_sM_row _ _ _ y_7q] | rw [z_sR_ne _ _ y_7q])); exact y_An)) rfl dX6_advance_13 ?_
      refine gX6_100 (by first | exact hg | exact hq7) rfl dX6_advance_16 ?_
      refine z_iloadn dX6_advance_19 rfl ?_
      by_cases e20 : a ≤ M g 3
      · refine kX6_88 (tX6_needAtLeast (by first | assumption | omega | exact hr _ _ (by omega)) (by first | assumption | omega | exact hr _ _ (by omega)) e20) rfl ⟨(Nat.le_of_ble_eq_true rfl), (Nat.le_of_ble_eq_true rfl)⟩ (Nat.le_of_ble_eq_true rfl) dX6_advance_20 ?_
        refine z_aloadn dX6_advance_23 rfl ?_
        refine kX6_65 (tX6_save hg hn h0 s0 s1 ho) rfl ⟨(Nat.le_of_ble_eq_true rfl), (Nat.le_of_ble_eq_true rfl)⟩ (Nat.le_of_ble_eq_true rfl) dX6_advance_24 ?_
        refine z_rng fun hr => ?_
        obtain ⟨q, y_q⟩ : ∃ q, z_sg g = q := ⟨_, rfl⟩
        have hq7 : q < 7 := by rw [← y_q]; exact z_sg_lt g
        have y_7q : 7 ≠ q := by omega
        obtain ⟨A, y_A⟩ : ∃ A, z_SC M g = A := ⟨_, rfl⟩
        have y_Aq : A q = M g := by rw [← y_A, ← y_q]; exact z_SC_new M g
        have y_An : A 7 2 = (q : Int) := by rw [← y_A, ← y_q]; exact z_SC_72 M g
        rw [y_A, y_q]
        simp only [← y_Aq] at *
        refine z_rng fun hr => ?_
        have y_x := z_BI_P hb x (by omega) (by omega)
        have y_b := z_BI_bal hb (p := x) (by omega) (by omega)
        unfold z_PI at y_x
        have y_s := (z_BI_s hb).1
        have y_r := z_BI_res hb
        refine z_aloadn dX6_advance_27 rfl ?_
        refine gX6_44 (by first | exact hn | exact y_An | ((repeat (first | rw [z_sM_row _ _ _ y_7q] | rw [z_sR_ne _ _ y_7q])); exact y_An)) rfl dX6_advance_28 ?_
        refine z_dup dX6_advance_31 rfl ?_
        refine gX6_100 (by first | exact hg | exact hq7) rfl dX6_advance_32 ?_
        refine z_iloadn dX6_advance_35 rfl ?_
        refine z_isub dX6_advance_36 ?_
        refine pX6_100 (by first | exact hg | exact hq7) (by first | (exact hr _ _ (by decide)) | (exact hr _ _ (by omega)) | omega) rfl dX6_advance_37 ?_
        refine z_rng fun hr => ?_
        refine z_aloadn dX6_advance_40 rfl ?_
        refine gX6_44 (by first | exact hn | exact y_An | ((repeat (first | rw [z_sM_row _ _ _ y_7q] | rw [z_sR_ne _ _ y_7q])); exact y_An)) rfl dX6_advance_41 ?_
        refine gX6_48 (by first | exact hg | exact hq7) rfl dX6_advance_44 ?_
        refine gX6_85 (by first | exact hg | exact hq7) rfl dX6_advance_47 ?_
        refine z_iloadn dX6_advance_50 rfl ?_
        refine z_dup2 dX6_advance_51 rfl rfl ?_
        refine z_iald (by rfl) (by first | exact Or.inl (by decide) | exact Or.inl (Or.inl ⟨by decide, hg⟩) | exact Or.inl (Or.inl ⟨by decide, hq7⟩)) (by omega) (by omega) (by decide) dX6_advance_52 ?_
        refine z_top (v' := A q (14 + 6 * x)) (z_sM_ne _ _ _ (by omega)) ?_
        refine z_iloadn dX6_advance_53 rfl ?_
        refine z_iadd dX6_advance_54 ?_
        refine z_iast (by rfl) (by first | exact Or.inl (by decide) | exact Or.inl (Or.inl ⟨by decide, hg⟩) | exact Or.inl (Or.inl ⟨by decide, hq7⟩)) (by omega) (by omega) (by decide) (by first | (exact hr _ _ (by decide)) | (exact hr _ _ (by omega)) | omega) dX6_advance_55 ?_
        refine z_rng fun hr => ?_
        refine z_aloadn dX6_advance_56 rfl ?_
        refine gX6_44 (by first | exact hn | exact y_An | ((repeat (first | rw [z_sM_row _ _ _ y_7q] | rw [z_sR_ne _ _ y_7q])); exact y_An)) rfl dX6_advance_57 ?_
        refine gX6_48 (by first | exact hg | exact hq7) rfl dX6_advance_60 ?_
        refine gX6_103 (by first | exact hg | exact hq7) rfl dX6_advance_63 ?_
        refine z_iloadn dX6_advance_66 rfl ?_
        refine z_dup2 dX6_advance_67 rfl rfl ?_
        refine z_iald (by rfl) (by first | exact Or.inl (by decide) | exact Or.inl (Or.inl ⟨by decide, hg⟩) | exact Or.inl (Or.inl ⟨by decide, hq7⟩)) (by omega) (by omega) (by decide) dX6_advance_68 ?_
        refine z_top (v' := A q (14 + 6 * x + 1)) ((z_sM_ne _ _ _ (by omega)).trans (z_sM_ne _ _ _ (by omega))) ?_
        refine z_iloadn dX6_advance_69 rfl ?_
        refine z_iadd dX6_advance_70 ?_
        refine z_iast (by rfl) (by first | exact Or.inl (by decide) | exact Or.inl (Or.inl ⟨by decide, hg⟩) | exact Or.inl (Or.inl ⟨by decide, hq7⟩)) (by omega) (by omega) (by decide) (by first | (exact hr _ _ (by decide)) | (exact hr _ _ (by omega)) | omega) dX6_advance_71 ?_
        refine z_rng fun hr => ?_
        refine z_aloadn dX6_advance_72 rfl ?_
        refine gX6_44 (by first | exact hn | exact y_An | ((repeat (first | rw [z_sM_row _ _ _ y_7q] | rw [z_sR_ne _ _ y_7q])); exact y_An)) rfl dX6_advance_73 ?_
        refine gX6_48 (by first | exact hg | exact hq7) rfl dX6_advance_76 ?_
        refine gX6_103 (by first | exact hg | exact hq7) rfl dX6_advance_79 ?_
        refine z_iloadn dX6_advance_82 rfl ?_
        refine z_iald (by rfl) (by first | exact Or.inl (by decide) | exact Or.inl (Or.inl ⟨by decide, hg⟩) | exact Or.inl (Or.inl ⟨by decide, hq7⟩)) (by omega) (by omega) (by decide) dX6_advance_83 ?_
        refine z_top (v' := A q (14 + 6 * x + 1) + a) (z_sM_self _ _ _ _) ?_
        exact z_iret dX6_advance_84 (by first | rfl | omega) (by simp only [z_sM_R, z_sR_R, z_sR_self]; first | rfl | (congr 1; unfold z_o_advance; funext j; simp only [z_uf]; (repeat' split) <;> first | rfl | omega))
      · exfalso; omega
    · exfalso; omega
  · exfalso; omega
theorem tX6_withdraw {G : z_G} {M : z_M} {g : Nat} {N : Int} (hg : g < 7) (hn : M 7 2 = (g : Int)) (h0 : M 7 0 = (g : Int)) (s0 : 0 ≤ M 7 1) (s1 : M 7 1 ≤ 6) (ho : z_W7 M) (hb : z_BI (M g) N) {x : Int} (rx : z_rg x) {a : Int} (ra : z_rg a) (hc : z_c_withdraw (M g) x a = 0) : KX6_withdraw G [.ref (z_ad G 0 20), z_I x, z_I a] M (.inl (some (z_I ((M g) (14 + 6 * x) - a)))) (z_sR (z_SC M g) (z_sg g) (z_o_withdraw (M g) x a)) := by
  refine z_con (ls := [some (.ref (z_ad G 0 20)), some (z_I x), some (z_I a)]) (by decide +kernel) (Nat.le_of_ble_eq_true rfl) rfl ?_
  intro Z htb
  refine z_rng fun hr => ?_
  have hh := z_BI_h hb
  unfold z_c_withdraw at hc
  (repeat' split at hc) <;> first | (exfalso; omega; done) | skip
  refine z_aloadn dX6_withdraw_0 rfl ?_
  refine z_iloadn dX6_withdraw_1 rfl ?_
  by_cases e2 : 0 ≤ x ∧ x < M g 0
  · refine kX6_71 (tX6_needPen hg hn (by first | assumption | omega | exact hr _ _ (by omega)) e2) rfl ⟨(Nat.le_of_ble_eq_true rfl), (Nat.le_of_ble_eq_true rfl)⟩ (Nat.le_of_ble_eq_true rfl) dX6_withdraw_2 ?_
    refine z_iloadn dX6_withdraw_5 rfl ?_
    refine z_iconst dX6_withdraw_6 ?_
    refine z_ldc (i := 100000) wk_X6_75 dX6_withdraw_7 ?_
    by_cases e9 : 1 ≤ a ∧ a ≤ 100000
    · refine kX6_76 (tX6_needRange (by first | assumption | omega | exact hr _ _ (by omega)) (by first | assumption | omega | exact hr _ _ (by omega)) (by first | assumption | omega | exact hr _ _ (by omega)) e9) rfl ⟨(Nat.le_of_ble_eq_true rfl), (Nat.le_of_ble_eq_true rfl)⟩ (Nat.le_of_ble_eq_true rfl) dX6_withdraw_9 ?_
      have y_x := z_BI_P hb x (by omega) (by omega)
      have y_b := z_BI_bal hb (p := x) (by omega) (by omega)
      unfold z_PI at y_x
      refine z_aloadn dX6_withdraw_12 rfl ?_
      refine gX6_44 (by first | exact hn | exact y_An | ((repeat (first | rw [z_sM_row _ _ _ y_7q] | rw [z_sR_ne _ _ y_7q])); exact y_An)) rfl dX6_withdraw_13 ?_
      refine gX6_48 (by first | exact hg | exact hq7) rfl dX6_withdraw_16 ?_
      refine gX6_85 (by first | exact hg | exact hq7) rfl dX6_withdraw_19 ?_
      refine z_iloadn dX6_withdraw_22 rfl ?_
      refine z_iald (by rfl) (by first | exact Or.inl (by decide) | exact Or.inl (Or.inl ⟨by decide, hg⟩) | exact Or.inl (Or.inl ⟨by decide, hq7⟩)) (by omega) (by omega) (by decide) dX6_withdraw_23 ?_
      refine z_iloadn dX6_withdraw_24 rfl ?_
      by_cases e25 : a ≤ M g (14 + 6 * x)
      · refine kX6_88 (tX6_needAtLeast (by first | assumption | omega | exact hr _ _ (by omega)) (by first | assumption | omega | exact hr _ _ (by omega)) e25) rfl ⟨(Nat.le_of_ble_eq_true rfl), (Nat.le_of_ble_eq_true rfl)⟩ (Nat.le_of_ble_eq_true rfl) dX6_withdraw_25 ?_
        refine z_aloadn dX6_withdraw_28 rfl ?_
        refine kX6_65 (tX6_save hg hn h0 s0 s1 ho) rfl ⟨(Nat.le_of_ble_eq_true rfl), (Nat.le_of_ble_eq_true rfl)⟩ (Nat.le_of_ble_eq_true rfl) dX6_withdraw_29 ?_
        refine z_rng fun hr => ?_
        obtain ⟨q, y_q⟩ : ∃ q, z_sg g = q := ⟨_, rfl⟩
        have hq7 : q < 7 := by rw [← y_q]; exact z_sg_lt g
        have y_7q : 7 ≠ q := by omega
        obtain ⟨A, y_A⟩ : ∃ A, z_SC M g = A := ⟨_, rfl⟩
        have y_Aq : A q = M g := by rw [← y_A, ← y_q]; exact z_SC_new M g
        have y_An : A 7 2 = (q : Int) := by rw [← y_A, ← y_q]; exact z_SC_72 M g
        rw [y_A, y_q]
        simp only [← y_Aq] at *
        refine z_rng fun hr => ?_
        have y_x := z_BI_P hb x (by omega) (by omega)
        have y_b := z_BI_bal hb (p := x) (by omega) (by omega)
        unfold z_PI at y_x
        have y_s := z_BI_s hb
        have y_r := z_BI_res hb
        have y_5 := z_BI_one hb (Or.inr rfl) (p := x) (by omega) (by omega)
        refine z_aloadn dX6_withdraw_32 rfl ?_
        refine gX6_44 (by first | exact hn | exact y_An | ((repeat (first | rw [z_sM_row _ _ _ y_7q] | rw [z_sR_ne _ _ y_7q])); exact y_An)) rfl dX6_withdraw_33 ?_
        refine gX6_48 (by first | exact hg | exact hq7) rfl dX6_withdraw_36 ?_
        refine gX6_85 (by first | exact hg | exact hq7) rfl dX6_withdraw_39 ?_
        refine z_iloadn dX6_withdraw_42 rfl ?_
        refine z_dup2 dX6_withdraw_43 rfl rfl ?_
        refine z_iald (by rfl) (by first | exact Or.inl (by decide) | exact Or.inl (Or.inl ⟨by decide, hg⟩) | exact Or.inl (Or.inl ⟨by decide, hq7⟩)) (by omega) (by omega) (by decide) dX6_withdraw_44 ?_
        refine z_iloadn dX6_withdraw_45 rfl ?_
        refine z_isub dX6_withdraw_46 ?_
        refine z_iast (by rfl) (by first | exact Or.inl (by decide) | exact Or.inl (Or.inl ⟨by decide, hg⟩) | exact Or.inl (Or.inl ⟨by decide, hq7⟩)) (by omega) (by omega) (by decide) (by first | (exact hr _ _ (by decide)) | (exact hr _ _ (by omega)) | omega) dX6_withdraw_47 ?_
        refine z_rng fun hr => ?_
        refine z_aloadn dX6_withdraw_48 rfl ?_
        refine gX6_44 (by first | exact hn | exact y_An | ((repeat (first | rw [z_sM_row _ _ _ y_7q] | rw [z_sR_ne _ _ y_7q])); exact y_An)) rfl dX6_withdraw_49 ?_
        refine gX6_48 (by first | exact hg | exact hq7) rfl dX6_withdraw_52 ?_
        refine gX6_106 (by first | exact hg | exact hq7) rfl dX6_withdraw_55 ?_
        refine z_iloadn dX6_withdraw_58 rfl ?_
        refine z_dup2 dX6_withdraw_59 rfl rfl ?_
        refine z_iald (by rfl) (by first | exact Or.inl (by decide) | exact Or.inl (Or.inl ⟨by decide, hg⟩) | exact Or.inl (Or.inl ⟨by decide, hq7⟩)) (by omega) (by omega) (by decide) dX6_withdraw_60 ?_
        refine z_top (v' := A q (14 + 6 * x + 5)) (z_sM_ne _ _ _ (by omega)) ?_
        refine z_iloadn dX6_withdraw_61 rfl ?_
        refine z_iadd dX6_withdraw_62 ?_
        refine z_iast (by rfl) (by first | exact Or.inl (by decide) | exact Or.inl (Or.inl ⟨by decide, hg⟩) | exact Or.inl (Or.inl ⟨by decide, hq7⟩)) (by omega) (by omega) (by decide) (by first | (exact hr _ _ (by decide)) | (exact hr _ _ (by omega)) | omega) dX6_withdraw_63 ?_
        refine z_rng fun hr => ?_
        refine z_aloadn dX6_withdraw_64 rfl ?_
        refine gX6_44 (by first | exact hn | exact y_An | ((repeat (first | rw [z_sM_row _ _ _ y_7q] | rw [z_sR_ne _ _ y_7q])); exact y_An)) rfl dX6_withdraw_65 ?_
        refine gX6_48 (by first | exact hg | exact hq7) rfl dX6_withdraw_68 ?_
        refine gX6_85 (by first | exact hg | exact hq7) rfl dX6_withdraw_71 ?_
        refine z_iloadn dX6_withdraw_74 rfl ?_
        refine z_iald (by rfl) (by first | exact Or.inl (by decide) | exact Or.inl (Or.inl ⟨by decide, hg⟩) | exact Or.inl (Or.inl ⟨by decide, hq7⟩)) (by omega) (by omega) (by decide) dX6_withdraw_75 ?_
        refine z_top (v' := A q (14 + 6 * x) - a) ((z_sM_ne _ _ _ (by omega)).trans (z_sM_self _ _ _ _)) ?_
        refine z_ghost hq7 (w := A q 5 + a) (by omega) ?_
        exact z_iret dX6_withdraw_76 (by first | rfl | omega) (by simp only [z_sM_R, z_sR_R, z_sR_self]; first | rfl | (congr 1; unfold z_o_withdraw; funext j; simp only [z_uf]; (repeat' split) <;> first | rfl | omega))
      · exfalso; omega
    · exfalso; omega
  · exfalso; omega
theorem tX6_set {G : z_G} {M : z_M} {g : Nat} {N : Int} (hg : g < 7) (hn : M 7 2 = (g : Int)) (h0 : M 7 0 = (g : Int)) (s0 : 0 ≤ M 7 1) (s1 : M 7 1 ≤ 6) (ho : z_W7 M) (hb : z_BI (M g) N) {x : Int} (rx : z_rg x) {v : Int} (rv : z_rg v) (hc : z_c_set x v = 0) : KX6_set G [.ref (z_ad G 0 20), z_I x, z_I v] M (.inl (some (z_I ((M g) (8 + x))))) (z_sR (z_SC M g) (z_sg g) (z_o_set (M g) x v)) := by
  refine z_con (ls := [some (.ref (z_ad G 0 20)), some (z_I x), some (z_I v), none]) (by decide +kernel) (Nat.le_of_ble_eq_true rfl) rfl ?_
  intro Z htb
  refine z_rng fun hr => ?_
  have hh := z_BI_h hb
  unfold z_c_set at hc
  (repeat' split at hc) <;> first | (exfalso; omega; done) | skip
  refine z_iloadn dX6_set_0 rfl ?_
  by_cases e1 : 0 ≤ x ∧ x < 6
  · refine kX6_109 (tX6_needSetting (by first | assumption | omega | exact hr _ _ (by omega)) e1) rfl ⟨(Nat.le_of_ble_eq_true rfl), (Nat.le_of_ble_eq_true rfl)⟩ (Nat.le_of_ble_eq_true rfl) dX6_set_1 ?_
    refine z_iloadn dX6_set_4 rfl ?_
    refine z_iconst dX6_set_5 ?_
    have y_m := z_mo_rg x
    refine z_greatest (i := 0) (by decide) (by decide) wfX6_112 dX6_set_6 ?_
    refine z_iloadn dX6_set_9 rfl ?_
    refine z_greatest_ld (by omega) (by omega) dX6_set_10 ?_
    refine z_top (v' := z_mo x) (z_mo_most (by omega) (by omega)) ?_
    by_cases e11 : 0 ≤ v ∧ v ≤ z_mo x
    · refine kX6_76 (tX6_needRange (by first | assumption | omega | exact hr _ _ (by omega)) (by first | assumption | omega | exact hr _ _ (by omega)) (by first | assumption | omega | exact hr _ _ (by omega)) e11) rfl ⟨(Nat.le_of_ble_eq_true rfl), (Nat.le_of_ble_eq_true rfl)⟩ (Nat.le_of_ble_eq_true rfl) dX6_set_11 ?_
      refine z_aloadn dX6_set_14 rfl ?_
      refine kX6_65 (tX6_save hg hn h0 s0 s1 ho) rfl ⟨(Nat.le_of_ble_eq_true rfl), (Nat.le_of_ble_eq_true rfl)⟩ (Nat.le_of_ble_eq_true rfl) dX6_set_15 ?_
      refine z_rng fun hr => ?_
      obtain ⟨q, y_q⟩ : ∃ q, z_sg g = q := ⟨_, rfl⟩
      have hq7 : q < 7 := by rw [← y_q]; exact z_sg_lt g
      have y_7q : 7 ≠ q := by omega
      obtain ⟨A, y_A⟩ : ∃ A, z_SC M g = A := ⟨_, rfl⟩
      have y_Aq : A q = M g := by rw [← y_A, ← y_q]; exact z_SC_new M g
      have y_An : A 7 2 = (q : Int) := by rw [← y_A, ← y_q]; exact z_SC_72 M g
      rw [y_A, y_q]
      simp only [← y_Aq] at *
      refine z_rng fun hr => ?_
      refine z_aloadn dX6_set_18 rfl ?_
      refine gX6_44 (by first | exact hn | exact y_An | ((repeat (first | rw [z_sM_row _ _ _ y_7q] | rw [z_sR_ne _ _ y_7q])); exact y_An)) rfl dX6_set_19 ?_
      refine gX6_115 (by first | exact hg | exact hq7) rfl dX6_set_22 ?_
      refine z_iloadn dX6_set_25 rfl ?_
      refine z_iald (by rfl) (by first | exact Or.inl (by decide) | exact Or.inl (Or.inl ⟨by decide, hg⟩) | exact Or.inl (Or.inl ⟨by decide, hq7⟩)) (by omega) (by omega) (by decide) dX6_set_26 ?_
      refine z_istoren_3 dX6_set_27 (Nat.le_of_ble_eq_true rfl) rfl ?_
      refine z_aloadn dX6_set_28 rfl ?_
      refine gX6_44 (by first | exact hn | exact y_An | ((repeat (first | rw [z_sM_row _ _ _ y_7q] | rw [z_sR_ne _ _ y_7q])); exact y_An)) rfl dX6_set_29 ?_
      refine gX6_115 (by first | exact hg | exact hq7) rfl dX6_set_32 ?_
      refine z_iloadn dX6_set_35 rfl ?_
      refine z_iloadn dX6_set_36 rfl ?_
      refine z_iast (by rfl) (by first | exact Or.inl (by decide) | exact Or.inl (Or.inl ⟨by decide, hg⟩) | exact Or.inl (Or.inl ⟨by decide, hq7⟩)) (by omega) (by omega) (by decide) (by first | (exact hr _ _ (by decide)) | (exact hr _ _ (by omega)) | omega) dX6_set_37 ?_
      refine z_rng fun hr => ?_
      refine z_iloadn dX6_set_38 rfl ?_
      exact z_iret dX6_set_39 (by first | rfl | omega) (by simp only [z_sM_R, z_sR_R, z_sR_self]; first | rfl | (congr 1; unfold z_o_set; funext j; simp only [z_uf]; (repeat' split) <;> first | rfl | omega))
    · exfalso; omega
  · exfalso; omega
