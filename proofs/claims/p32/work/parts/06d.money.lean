theorem z_cp_o {r s : Int → Int} {d e n j : Int} (h : ¬ (d ≤ j ∧ j < d + n)) : z_cp r s d e n j = r j := by unfold z_cp; rw [if_neg h]
theorem tX6_accept {G : z_G} {M : z_M} {g : Nat} {N : Int} (hg : g < 7) (hn : M 7 2 = (g : Int)) (h0 : M 7 0 = (g : Int)) (s0 : 0 ≤ M 7 1) (s1 : M 7 1 ≤ 6) (ho : z_W7 M) (hb : z_BI (M g) N) {k : Int} (rk : z_rg k) (hc : z_c_accept (M g) k = 0) : KX6_accept G [.ref (z_ad G 0 20), z_I k] M (.inl (some (z_I (z_acV (z_SC M g) (z_sg g) k (M g (86 + 5 * k + 1)) 3)))) (z_acM (z_SC M g) (z_sg g) k (M g (86 + 5 * k + 1)) 3) := by
  refine z_con (ls := [some (.ref (z_ad G 0 20)), some (z_I k), none, none]) (by decide +kernel) (Nat.le_of_ble_eq_true rfl) rfl ?_
  intro Z htb
  refine z_rng fun hr => ?_
  have hh := z_BI_h hb
  unfold z_c_accept at hc
  (repeat' split at hc) <;> first | (exfalso; omega; done) | skip
  refine z_aloadn dX6_accept_0 rfl ?_
  refine z_iloadn dX6_accept_1 rfl ?_
  by_cases e2 : 0 ≤ k ∧ k < M g 1
  · refine kX6_143 (tX6_needPiece hg hn (by first | assumption | omega | exact hr _ _ (by omega)) e2) rfl ⟨(Nat.le_of_ble_eq_true rfl), (Nat.le_of_ble_eq_true rfl)⟩ (Nat.le_of_ble_eq_true rfl) dX6_accept_2 ?_
    have y_kk := z_BI_K hb k (by omega) (by omega)
    unfold z_KI at y_kk
    refine z_aloadn dX6_accept_5 rfl ?_
    refine gX6_44 (by first | exact hn | exact y_An | exact y_Yn | exact y_Dn) rfl dX6_accept_6 ?_
    refine gX6_121 (by first | exact hg | exact hq7) rfl dX6_accept_9 ?_
    refine gX6_161 (by first | exact hg | exact hq7) rfl dX6_accept_12 ?_
    refine z_iloadn dX6_accept_15 rfl ?_
    refine z_iald (by rfl) (by first | exact Or.inl (by decide) | exact Or.inl (Or.inl ⟨by decide, hg⟩) | exact Or.inl (Or.inl ⟨by decide, hq7⟩)) (by omega) (by omega) (by decide) dX6_accept_16 ?_
    refine z_istoren_2 dX6_accept_17 (Nat.le_of_ble_eq_true rfl) rfl ?_
    refine z_iloadn dX6_accept_18 rfl ?_
    refine z_iconst dX6_accept_19 ?_
    refine z_icmp_eq (tgt := 38) (by first | (exact hr _ _ (by decide)) | (exact hr _ _ (by omega)) | omega) (by first | (exact hr _ _ (by decide)) | (exact hr _ _ (by omega)) | omega) dX6_accept_20 (by decide) (fun h20 => ?_) (fun h20 => ?_)
    · refine z_aloadn dX6_accept_38 rfl ?_
      refine kX6_65 (tX6_save hg hn h0 s0 s1 ho) rfl ⟨(Nat.le_of_ble_eq_true rfl), (Nat.le_of_ble_eq_true rfl)⟩ (Nat.le_of_ble_eq_true rfl) dX6_accept_39 ?_
      refine z_rng fun hr => ?_
      obtain ⟨q, y_q⟩ : ∃ q, z_sg g = q := ⟨_, rfl⟩
      have hq7 : q < 7 := by rw [← y_q]; exact z_sg_lt g
      have y_7q : 7 ≠ q := by omega
      obtain ⟨A, y_A⟩ : ∃ A, z_SC M g = A := ⟨_, rfl⟩
      have y_Aq : A q = M g := by rw [← y_A, ← y_q]; exact z_SC_new M g
      have y_An : A 7 2 = (q : Int) := by rw [← y_A, ← y_q]; exact z_SC_72 M g
      rw [y_A, y_q]
      simp only [← y_Aq] at *
      refine z_rng fun hr => ?_
      have y_k := z_BI_K hb k (by omega) (by omega)
      unfold z_KI at y_k
      have y_f := z_cF_st (v := 3) (by omega) (by omega) (z_BI_cF hb (show 0 ≤ k by omega) (by omega))
      have y_4 : z_p4c (z_uf (A q) (86 + 5 * k + 2) 3) k := z_p4c_o (z_BI_p4c hb (by omega) (by omega)) (fun p p0 p1 => z_uf_ne _ _ (by omega))
      have y_e : z_ebd (z_uf (A q) (86 + 5 * k + 2) 3) 100000000 := z_ebd_o (z_BI_ebd hb) (fun j j0 j1 => z_uf_ne _ _ (by omega))
      refine z_aloadn dX6_accept_42 rfl ?_
      refine gX6_44 (by first | exact hn | exact y_An | exact y_Yn | exact y_Dn) rfl dX6_accept_43 ?_
      refine gX6_121 (by first | exact hg | exact hq7) rfl dX6_accept_46 ?_
      refine gX6_161 (by first | exact hg | exact hq7) rfl dX6_accept_49 ?_
      refine z_iloadn dX6_accept_52 rfl ?_
      refine z_iconst dX6_accept_53 ?_
      refine z_iast (by rfl) (by first | exact Or.inl (by decide) | exact Or.inl (Or.inl ⟨by decide, hg⟩) | exact Or.inl (Or.inl ⟨by decide, hq7⟩)) (by omega) (by omega) (by decide) (by first | (exact hr _ _ (by decide)) | (exact hr _ _ (by omega)) | omega) dX6_accept_54 ?_
      refine z_rng fun hr => ?_
      obtain ⟨Y, y_Y⟩ : ∃ Z, z_acZ A q k 3 = Z := ⟨_, rfl⟩
      have y_Yq : Y q = z_uf (A q) (86 + 5 * k + 2) 3 := by rw [← y_Y]; exact z_sR_self _ _ _
      have y_Yn : Y 7 2 = (q : Int) := by rw [← y_Y]; exact (congrFun (z_sR_ne _ _ y_7q) 2).trans y_An
      rw [← y_Yq] at y_f y_4 y_e
      refine z_mem (M' := Y) (by rw [z_sM_R]; exact y_Y) ?_
      refine z_rng fun hr => ?_
      refine z_aloadn dX6_accept_55 rfl ?_
      refine gX6_44 (by first | exact hn | exact y_An | exact y_Yn | exact y_Dn) rfl dX6_accept_56 ?_
      refine gX6_121 (by first | exact hg | exact hq7) rfl dX6_accept_59 ?_
      refine gX6_164 (by first | exact hg | exact hq7) rfl dX6_accept_62 ?_
      refine z_iloadn dX6_accept_65 rfl ?_
      refine z_iald (by rfl) (by first | exact Or.inl (by decide) | exact Or.inl (Or.inl ⟨by decide, hg⟩) | exact Or.inl (Or.inl ⟨by decide, hq7⟩)) (by omega) (by omega) (by decide) dX6_accept_66 ?_
      refine z_top (v' := (A q (86 + 5 * k + 1))) (by rw [y_Yq, z_uf_ne _ _ (by omega)]) ?_
      refine z_istoren_3 dX6_accept_67 (Nat.le_of_ble_eq_true rfl) rfl ?_
      refine z_aloadn dX6_accept_68 rfl ?_
      refine gX6_25 rfl dX6_accept_69 ?_
      refine z_aloadn dX6_accept_72 rfl ?_
      refine gX6_44 (by first | exact hn | exact y_An | exact y_Yn | exact y_Dn) rfl dX6_accept_73 ?_
      refine z_iloadn dX6_accept_76 rfl ?_
      refine z_iloadn dX6_accept_77 rfl ?_
      refine z_mem (M' := z_d3 Y (Y 7) (Y 10) (Y 11)) (z_d3_id Y) ?_
      refine kX6_197 (tX0_divideFee hq7 (by omega) (by omega) (by omega) (by omega) y_f y_4) rfl ⟨(Nat.le_of_ble_eq_true rfl), (Nat.le_of_ble_eq_true rfl)⟩ (Nat.le_of_ble_eq_true rfl) dX6_accept_78 ?_
      have y_DD : z_dF Y q k (A q (86 + 5 * k + 1)) (Y 7) (Y 10) (Y 11) = z_dFM Y q k (A q (86 + 5 * k + 1)) := rfl
      rw [y_DD]
      have y_bd := z_dFM_bd (k := k) (show 0 ≤ (A q (86 + 5 * k + 1)) by omega) (by omega) y_f y_4
      have y_Dq : z_dFM Y q k (A q (86 + 5 * k + 1)) q = Y q := z_dFM_row (by omega)
      have y_Dn : z_dFM Y q k (A q (86 + 5 * k + 1)) 7 2 = (q : Int) := (z_dFM_7 (by decide)).trans y_Yn
      have y_D0 : z_dFM Y q k (A q (86 + 5 * k + 1)) q 0 = A q 0 := by rw [y_Dq, y_Yq, z_uf_ne _ _ (by omega)]
      have y_D3 : z_dFM Y q k (A q (86 + 5 * k + 1)) q 3 = A q 3 := by rw [y_Dq, y_Yq, z_uf_ne _ _ (by omega)]
      have y_D4 : z_dFM Y q k (A q (86 + 5 * k + 1)) q 4 = A q 4 := by rw [y_Dq, y_Yq, z_uf_ne _ _ (by omega)]
      have y_De : z_ebd (z_dFM Y q k (A q (86 + 5 * k + 1)) q) 100000000 := by rw [y_Dq]; exact y_e
      have y_rs := z_BI_res hb
      refine z_rng fun hr => ?_
      refine z_aloadn dX6_accept_81 rfl ?_
      refine z_iloadn dX6_accept_82 rfl ?_
      refine kX6_201 (tX6_bringIn (B := 100000000) hq7 y_Dn (by omega) (by omega) y_De (by decide) (by decide) (by rw [y_D0]; omega) (by rw [y_D3]; omega) (by rw [y_D4]; omega) y_bd.1 y_bd.2.1 y_bd.2.2.1 y_bd.2.2.2.1 y_bd.2.2.2.2) rfl ⟨(Nat.le_of_ble_eq_true rfl), (Nat.le_of_ble_eq_true rfl)⟩ (Nat.le_of_ble_eq_true rfl) dX6_accept_83 ?_
      exact z_iret dX6_accept_86 (by rw [← y_Y]; rfl) (by rw [← y_Y]; rfl)
    · refine z_iloadn dX6_accept_23 rfl ?_
      refine z_iconst dX6_accept_24 ?_
      refine z_icmp_eq (tgt := 38) (by first | (exact hr _ _ (by decide)) | (exact hr _ _ (by omega)) | omega) (by first | (exact hr _ _ (by decide)) | (exact hr _ _ (by omega)) | omega) dX6_accept_25 (by decide) (fun h25 => ?_) (fun h25 => ?_)
      · refine z_aloadn dX6_accept_38 rfl ?_
        refine kX6_65 (tX6_save hg hn h0 s0 s1 ho) rfl ⟨(Nat.le_of_ble_eq_true rfl), (Nat.le_of_ble_eq_true rfl)⟩ (Nat.le_of_ble_eq_true rfl) dX6_accept_39 ?_
        refine z_rng fun hr => ?_
        obtain ⟨q, y_q⟩ : ∃ q, z_sg g = q := ⟨_, rfl⟩
        have hq7 : q < 7 := by rw [← y_q]; exact z_sg_lt g
        have y_7q : 7 ≠ q := by omega
        obtain ⟨A, y_A⟩ : ∃ A, z_SC M g = A := ⟨_, rfl⟩
        have y_Aq : A q = M g := by rw [← y_A, ← y_q]; exact z_SC_new M g
        have y_An : A 7 2 = (q : Int) := by rw [← y_A, ← y_q]; exact z_SC_72 M g
        rw [y_A, y_q]
        simp only [← y_Aq] at *
        refine z_rng fun hr => ?_
        have y_k := z_BI_K hb k (by omega) (by omega)
        unfold z_KI at y_k
        have y_f := z_cF_st (v := 3) (by omega) (by omega) (z_BI_cF hb (show 0 ≤ k by omega) (by omega))
        have y_4 : z_p4c (z_uf (A q) (86 + 5 * k + 2) 3) k := z_p4c_o (z_BI_p4c hb (by omega) (by omega)) (fun p p0 p1 => z_uf_ne _ _ (by omega))
        have y_e : z_ebd (z_uf (A q) (86 + 5 * k + 2) 3) 100000000 := z_ebd_o (z_BI_ebd hb) (fun j j0 j1 => z_uf_ne _ _ (by omega))
        refine z_aloadn dX6_accept_42 rfl ?_
        refine gX6_44 (by first | exact hn | exact y_An | exact y_Yn | exact y_Dn) rfl dX6_accept_43 ?_
        refine gX6_121 (by first | exact hg | exact hq7) rfl dX6_accept_46 ?_
        refine gX6_161 (by first | exact hg | exact hq7) rfl dX6_accept_49 ?_
        refine z_iloadn dX6_accept_52 rfl ?_
        refine z_iconst dX6_accept_53 ?_
        refine z_iast (by rfl) (by first | exact Or.inl (by decide) | exact Or.inl (Or.inl ⟨by decide, hg⟩) | exact Or.inl (Or.inl ⟨by decide, hq7⟩)) (by omega) (by omega) (by decide) (by first | (exact hr _ _ (by decide)) | (exact hr _ _ (by omega)) | omega) dX6_accept_54 ?_
        refine z_rng fun hr => ?_
        obtain ⟨Y, y_Y⟩ : ∃ Z, z_acZ A q k 3 = Z := ⟨_, rfl⟩
        have y_Yq : Y q = z_uf (A q) (86 + 5 * k + 2) 3 := by rw [← y_Y]; exact z_sR_self _ _ _
        have y_Yn : Y 7 2 = (q : Int) := by rw [← y_Y]; exact (congrFun (z_sR_ne _ _ y_7q) 2).trans y_An
        rw [← y_Yq] at y_f y_4 y_e
        refine z_mem (M' := Y) (by rw [z_sM_R]; exact y_Y) ?_
        refine z_rng fun hr => ?_
        refine z_aloadn dX6_accept_55 rfl ?_
        refine gX6_44 (by first | exact hn | exact y_An | exact y_Yn | exact y_Dn) rfl dX6_accept_56 ?_
        refine gX6_121 (by first | exact hg | exact hq7) rfl dX6_accept_59 ?_
        refine gX6_164 (by first | exact hg | exact hq7) rfl dX6_accept_62 ?_
        refine z_iloadn dX6_accept_65 rfl ?_
        refine z_iald (by rfl) (by first | exact Or.inl (by decide) | exact Or.inl (Or.inl ⟨by decide, hg⟩) | exact Or.inl (Or.inl ⟨by decide, hq7⟩)) (by omega) (by omega) (by decide) dX6_accept_66 ?_
        refine z_top (v' := (A q (86 + 5 * k + 1))) (by rw [y_Yq, z_uf_ne _ _ (by omega)]) ?_
        refine z_istoren_3 dX6_accept_67 (Nat.le_of_ble_eq_true rfl) rfl ?_
        refine z_aloadn dX6_accept_68 rfl ?_
        refine gX6_25 rfl dX6_accept_69 ?_
        refine z_aloadn dX6_accept_72 rfl ?_
        refine gX6_44 (by first | exact hn | exact y_An | exact y_Yn | exact y_Dn) rfl dX6_accept_73 ?_
        refine z_iloadn dX6_accept_76 rfl ?_
        refine z_iloadn dX6_accept_77 rfl ?_
        refine z_mem (M' := z_d3 Y (Y 7) (Y 10) (Y 11)) (z_d3_id Y) ?_
        refine kX6_197 (tX0_divideFee hq7 (by omega) (by omega) (by omega) (by omega) y_f y_4) rfl ⟨(Nat.le_of_ble_eq_true rfl), (Nat.le_of_ble_eq_true rfl)⟩ (Nat.le_of_ble_eq_true rfl) dX6_accept_78 ?_
        have y_DD : z_dF Y q k (A q (86 + 5 * k + 1)) (Y 7) (Y 10) (Y 11) = z_dFM Y q k (A q (86 + 5 * k + 1)) := rfl
        rw [y_DD]
        have y_bd := z_dFM_bd (k := k) (show 0 ≤ (A q (86 + 5 * k + 1)) by omega) (by omega) y_f y_4
        have y_Dq : z_dFM Y q k (A q (86 + 5 * k + 1)) q = Y q := z_dFM_row (by omega)
        have y_Dn : z_dFM Y q k (A q (86 + 5 * k + 1)) 7 2 = (q : Int) := (z_dFM_7 (by decide)).trans y_Yn
        have y_D0 : z_dFM Y q k (A q (86 + 5 * k + 1)) q 0 = A q 0 := by rw [y_Dq, y_Yq, z_uf_ne _ _ (by omega)]
        have y_D3 : z_dFM Y q k (A q (86 + 5 * k + 1)) q 3 = A q 3 := by rw [y_Dq, y_Yq, z_uf_ne _ _ (by omega)]
        have y_D4 : z_dFM Y q k (A q (86 + 5 * k + 1)) q 4 = A q 4 := by rw [y_Dq, y_Yq, z_uf_ne _ _ (by omega)]
        have y_De : z_ebd (z_dFM Y q k (A q (86 + 5 * k + 1)) q) 100000000 := by rw [y_Dq]; exact y_e
        have y_rs := z_BI_res hb
        refine z_rng fun hr => ?_
        refine z_aloadn dX6_accept_81 rfl ?_
        refine z_iloadn dX6_accept_82 rfl ?_
        refine kX6_201 (tX6_bringIn (B := 100000000) hq7 y_Dn (by omega) (by omega) y_De (by decide) (by decide) (by rw [y_D0]; omega) (by rw [y_D3]; omega) (by rw [y_D4]; omega) y_bd.1 y_bd.2.1 y_bd.2.2.1 y_bd.2.2.2.1 y_bd.2.2.2.2) rfl ⟨(Nat.le_of_ble_eq_true rfl), (Nat.le_of_ble_eq_true rfl)⟩ (Nat.le_of_ble_eq_true rfl) dX6_accept_83 ?_
        exact z_iret dX6_accept_86 (by rw [← y_Y]; rfl) (by rw [← y_Y]; rfl)
      · exfalso; omega
  · exfalso; omega
theorem tX6_kill {G : z_G} {M : z_M} {g : Nat} {N : Int} (hg : g < 7) (hn : M 7 2 = (g : Int)) (h0 : M 7 0 = (g : Int)) (s0 : 0 ≤ M 7 1) (s1 : M 7 1 ≤ 6) (ho : z_W7 M) (hb : z_BI (M g) N) {k : Int} (rk : z_rg k) (hc : z_c_kill (M g) k = 0) : KX6_kill G [.ref (z_ad G 0 20), z_I k] M (.inl (some (z_I (z_kf (M g) k)))) (z_acM (z_SC M g) (z_sg g) k (z_kf (M g) k) 4) := by
  refine z_con (ls := [some (.ref (z_ad G 0 20)), some (z_I k), none]) (by decide +kernel) (Nat.le_of_ble_eq_true rfl) rfl ?_
  intro Z htb
  refine z_rng fun hr => ?_
  have hh := z_BI_h hb
  unfold z_c_kill at hc
  (repeat' split at hc) <;> first | (exfalso; omega; done) | skip
  refine z_aloadn dX6_kill_0 rfl ?_
  refine z_iloadn dX6_kill_1 rfl ?_
  by_cases e2 : 0 ≤ k ∧ k < M g 1
  · refine kX6_143 (tX6_needPiece hg hn (by first | assumption | omega | exact hr _ _ (by omega)) e2) rfl ⟨(Nat.le_of_ble_eq_true rfl), (Nat.le_of_ble_eq_true rfl)⟩ (Nat.le_of_ble_eq_true rfl) dX6_kill_2 ?_
    have y_kk := z_BI_K hb k (by omega) (by omega)
    unfold z_KI at y_kk
    refine z_aloadn dX6_kill_5 rfl ?_
    refine z_iloadn dX6_kill_6 rfl ?_
    by_cases e7 : M g (86 + 5 * k + 2) < 3
    · refine kX6_146 (tX6_needUnended hg hn (by omega) (by omega) e7) rfl ⟨(Nat.le_of_ble_eq_true rfl), (Nat.le_of_ble_eq_true rfl)⟩ (Nat.le_of_ble_eq_true rfl) dX6_kill_7 ?_
      refine z_aloadn dX6_kill_10 rfl ?_
      refine kX6_65 (tX6_save hg hn h0 s0 s1 ho) rfl ⟨(Nat.le_of_ble_eq_true rfl), (Nat.le_of_ble_eq_true rfl)⟩ (Nat.le_of_ble_eq_true rfl) dX6_kill_11 ?_
      refine z_rng fun hr => ?_
      obtain ⟨q, y_q⟩ : ∃ q, z_sg g = q := ⟨_, rfl⟩
      have hq7 : q < 7 := by rw [← y_q]; exact z_sg_lt g
      have y_7q : 7 ≠ q := by omega
      obtain ⟨A, y_A⟩ : ∃ A, z_SC M g = A := ⟨_, rfl⟩
      have y_Aq : A q = M g := by rw [← y_A, ← y_q]; exact z_SC_new M g
      have y_An : A 7 2 = (q : Int) := by rw [← y_A, ← y_q]; exact z_SC_72 M g
      rw [y_A, y_q]
      simp only [← y_Aq] at *
      refine z_rng fun hr => ?_
      have y_k := z_BI_K hb k (by omega) (by omega)
      unfold z_KI at y_k
      have y_f := z_cF_st (v := 4) (by omega) (by omega) (z_BI_cF hb (show 0 ≤ k by omega) (by omega))
      have y_4 : z_p4c (z_uf (A q) (86 + 5 * k + 2) 4) k := z_p4c_o (z_BI_p4c hb (by omega) (by omega)) (fun p p0 p1 => z_uf_ne _ _ (by omega))
      have y_e : z_ebd (z_uf (A q) (86 + 5 * k + 2) 4) 100000000 := z_ebd_o (z_BI_ebd hb) (fun j j0 j1 => z_uf_ne _ _ (by omega))
      have y_kf := z_kf_rg hb (show 0 ≤ k by omega) (by omega)
      refine z_aloadn dX6_kill_14 rfl ?_
      refine gX6_44 (by first | exact hn | exact y_An | exact y_Yn | exact y_Dn) rfl dX6_kill_15 ?_
      refine z_iloadn dX6_kill_18 rfl ?_
      refine kX6_204 (by first | exact hg | exact hq7) (tX5_killFee hq7 hb (by omega) (by omega)) rfl ⟨(Nat.le_of_ble_eq_true rfl), (Nat.le_of_ble_eq_true rfl)⟩ (Nat.le_of_ble_eq_true rfl) dX6_kill_19 ?_
      refine z_istoren_2 dX6_kill_22 (Nat.le_of_ble_eq_true rfl) rfl ?_
      refine z_aloadn dX6_kill_23 rfl ?_
      refine gX6_44 (by first | exact hn | exact y_An | exact y_Yn | exact y_Dn) rfl dX6_kill_24 ?_
      refine gX6_121 (by first | exact hg | exact hq7) rfl dX6_kill_27 ?_
      refine gX6_161 (by first | exact hg | exact hq7) rfl dX6_kill_30 ?_
      refine z_iloadn dX6_kill_33 rfl ?_
      refine z_iconst dX6_kill_34 ?_
      refine z_iast (by rfl) (by first | exact Or.inl (by decide) | exact Or.inl (Or.inl ⟨by decide, hg⟩) | exact Or.inl (Or.inl ⟨by decide, hq7⟩)) (by omega) (by omega) (by decide) (by first | (exact hr _ _ (by decide)) | (exact hr _ _ (by omega)) | omega) dX6_kill_35 ?_
      refine z_rng fun hr => ?_
      obtain ⟨Y, y_Y⟩ : ∃ Z, z_acZ A q k 4 = Z := ⟨_, rfl⟩
      have y_Yq : Y q = z_uf (A q) (86 + 5 * k + 2) 4 := by rw [← y_Y]; exact z_sR_self _ _ _
      have y_Yn : Y 7 2 = (q : Int) := by rw [← y_Y]; exact (congrFun (z_sR_ne _ _ y_7q) 2).trans y_An
      rw [← y_Yq] at y_f y_4 y_e
      refine z_mem (M' := Y) (by rw [z_sM_R]; exact y_Y) ?_
      refine z_rng fun hr => ?_
      refine z_aloadn dX6_kill_36 rfl ?_
      refine gX6_25 rfl dX6_kill_37 ?_
      refine z_aloadn dX6_kill_40 rfl ?_
      refine gX6_44 (by first | exact hn | exact y_An | exact y_Yn | exact y_Dn) rfl dX6_kill_41 ?_
      refine z_iloadn dX6_kill_44 rfl ?_
      refine z_iloadn dX6_kill_45 rfl ?_
      refine z_mem (M' := z_d3 Y (Y 7) (Y 10) (Y 11)) (z_d3_id Y) ?_
      refine kX6_197 (tX0_divideFee hq7 (by omega) (by omega) (by omega) (by omega) y_f y_4) rfl ⟨(Nat.le_of_ble_eq_true rfl), (Nat.le_of_ble_eq_true rfl)⟩ (Nat.le_of_ble_eq_true rfl) dX6_kill_46 ?_
      have y_DD : z_dF Y q k (z_kf (A q) k) (Y 7) (Y 10) (Y 11) = z_dFM Y q k (z_kf (A q) k) := rfl
      rw [y_DD]
      have y_bd := z_dFM_bd (k := k) (show 0 ≤ (z_kf (A q) k) by omega) (by omega) y_f y_4
      have y_Dq : z_dFM Y q k (z_kf (A q) k) q = Y q := z_dFM_row (by omega)
      have y_Dn : z_dFM Y q k (z_kf (A q) k) 7 2 = (q : Int) := (z_dFM_7 (by decide)).trans y_Yn
      have y_D0 : z_dFM Y q k (z_kf (A q) k) q 0 = A q 0 := by rw [y_Dq, y_Yq, z_uf_ne _ _ (by omega)]
      have y_D3 : z_dFM Y q k (z_kf (A q) k) q 3 = A q 3 := by rw [y_Dq, y_Yq, z_uf_ne _ _ (by omega)]
      have y_D4 : z_dFM Y q k (z_kf (A q) k) q 4 = A q 4 := by rw [y_Dq, y_Yq, z_uf_ne _ _ (by omega)]
      have y_De : z_ebd (z_dFM Y q k (z_kf (A q) k) q) 100000000 := by rw [y_Dq]; exact y_e
      have y_rs := z_BI_res hb
      refine z_rng fun hr => ?_
      refine z_aloadn dX6_kill_49 rfl ?_
      refine z_iloadn dX6_kill_50 rfl ?_
      refine kX6_201 (tX6_bringIn (B := 100000000) hq7 y_Dn (by omega) (by omega) y_De (by decide) (by decide) (by rw [y_D0]; omega) (by rw [y_D3]; omega) (by rw [y_D4]; omega) y_bd.1 y_bd.2.1 y_bd.2.2.1 y_bd.2.2.2.1 y_bd.2.2.2.2) rfl ⟨(Nat.le_of_ble_eq_true rfl), (Nat.le_of_ble_eq_true rfl)⟩ (Nat.le_of_ble_eq_true rfl) dX6_kill_51 ?_
      refine z_pop dX6_kill_54 rfl ?_
      refine z_iloadn dX6_kill_55 rfl ?_
      exact z_iret dX6_kill_56 rfl (by rw [← y_Y]; rfl)
    · exfalso; omega
  · exfalso; omega
theorem tX6_royalty {G : z_G} {M : z_M} {g : Nat} {N : Int} (hg : g < 7) (hn : M 7 2 = (g : Int)) (h0 : M 7 0 = (g : Int)) (s0 : 0 ≤ M 7 1) (s1 : M 7 1 ≤ 6) (ho : z_W7 M) (hb : z_BI (M g) N) {k : Int} (rk : z_rg k) {a : Int} (ra : z_rg a) (hc : z_c_royalty (M g) k a = 0) : KX6_royalty G [.ref (z_ad G 0 20), z_I k, z_I a] M (.inl (some (z_I (z_roV (z_SC M g) (z_sg g) k a)))) (z_roM (z_SC M g) (z_sg g) k a) := by
  refine z_con (ls := [some (.ref (z_ad G 0 20)), some (z_I k), some (z_I a)]) (by decide +kernel) (Nat.le_of_ble_eq_true rfl) rfl ?_
  intro Z htb
  refine z_rng fun hr => ?_
  have hh := z_BI_h hb
  unfold z_c_royalty at hc
  (repeat' split at hc) <;> first | (exfalso; omega; done) | skip
  refine z_aloadn dX6_royalty_0 rfl ?_
  refine z_iloadn dX6_royalty_1 rfl ?_
  by_cases e2 : 0 ≤ k ∧ k < M g 1
  · refine kX6_143 (tX6_needPiece hg hn (by first | assumption | omega | exact hr _ _ (by omega)) e2) rfl ⟨(Nat.le_of_ble_eq_true rfl), (Nat.le_of_ble_eq_true rfl)⟩ (Nat.le_of_ble_eq_true rfl) dX6_royalty_2 ?_
    have y_kk := z_BI_K hb k (by omega) (by omega)
    unfold z_KI at y_kk
    refine z_iloadn dX6_royalty_5 rfl ?_
    refine z_iconst dX6_royalty_6 ?_
    refine z_ldc (i := 100000) wk_X6_75 dX6_royalty_7 ?_
    by_cases e9 : 1 ≤ a ∧ a ≤ 100000
    · refine kX6_76 (tX6_needRange (by first | assumption | omega | exact hr _ _ (by omega)) (by first | assumption | omega | exact hr _ _ (by omega)) (by first | assumption | omega | exact hr _ _ (by omega)) e9) rfl ⟨(Nat.le_of_ble_eq_true rfl), (Nat.le_of_ble_eq_true rfl)⟩ (Nat.le_of_ble_eq_true rfl) dX6_royalty_9 ?_
      refine z_aloadn dX6_royalty_12 rfl ?_
      refine z_iloadn dX6_royalty_13 rfl ?_
      by_cases e14 : M g (86 + 5 * k + 2) = 3
      · refine kX6_207 (tX6_needAccepted hg hn (by omega) (by omega) e14) rfl ⟨(Nat.le_of_ble_eq_true rfl), (Nat.le_of_ble_eq_true rfl)⟩ (Nat.le_of_ble_eq_true rfl) dX6_royalty_14 ?_
        refine z_aloadn dX6_royalty_17 rfl ?_
        refine kX6_65 (tX6_save hg hn h0 s0 s1 ho) rfl ⟨(Nat.le_of_ble_eq_true rfl), (Nat.le_of_ble_eq_true rfl)⟩ (Nat.le_of_ble_eq_true rfl) dX6_royalty_18 ?_
        refine z_rng fun hr => ?_
        obtain ⟨q, y_q⟩ : ∃ q, z_sg g = q := ⟨_, rfl⟩
        have hq7 : q < 7 := by rw [← y_q]; exact z_sg_lt g
        have y_7q : 7 ≠ q := by omega
        obtain ⟨A, y_A⟩ : ∃ A, z_SC M g = A := ⟨_, rfl⟩
        have y_Aq : A q = M g := by rw [← y_A, ← y_q]; exact z_SC_new M g
        have y_An : A 7 2 = (q : Int) := by rw [← y_A, ← y_q]; exact z_SC_72 M g
        rw [y_A, y_q]
        simp only [← y_Aq] at *
        refine z_rng fun hr => ?_
        have y_k := z_BI_K hb k (by omega) (by omega)
        unfold z_KI at y_k
        have y_f := z_BI_cF hb (show 0 ≤ k by omega) (by omega)
        have y_4 := z_BI_p4c hb (show 0 ≤ k by omega) (by omega)
        refine z_aloadn dX6_royalty_21 rfl ?_
        refine gX6_25 rfl dX6_royalty_22 ?_
        refine z_aloadn dX6_royalty_25 rfl ?_
        refine gX6_44 (by first | exact hn | exact y_An | exact y_Dn | exact y_En | ((repeat (first | rw [z_sM_row _ _ _ y_7q] | rw [z_sR_ne _ _ y_7q])); exact y_Dn)) rfl dX6_royalty_26 ?_
        refine z_iloadn dX6_royalty_29 rfl ?_
        refine z_iloadn dX6_royalty_30 rfl ?_
        refine z_mem (M' := z_d3 A (A 7) (A 10) (A 11)) (z_d3_id A) ?_
        refine kX6_210 (tX0_divideRoyalty hq7 (by omega) (by omega) (by omega) (by omega) y_f y_4) rfl ⟨(Nat.le_of_ble_eq_true rfl), (Nat.le_of_ble_eq_true rfl)⟩ (Nat.le_of_ble_eq_true rfl) dX6_royalty_31 ?_
        have y_DD : z_dR A q k a (A 7) (A 10) (A 11) = z_dRM A q k a := rfl
        rw [y_DD]
        have y_bd := z_dRM_bd (k := k) (show 0 ≤ a by omega) (by omega) y_f y_4
        have y_Dq : z_dRM A q k a q = A q := z_dRM_row (by omega)
        have y_Dn : z_dRM A q k a 7 2 = (q : Int) := (z_dRM_7 (by decide)).trans y_An
        obtain ⟨D, y_D⟩ : ∃ D, z_dRM A q k a = D := ⟨_, rfl⟩
        rw [y_D] at y_bd y_Dq y_Dn ⊢
        have y_rs := z_BI_res hb
        have y_Q := fun p p0 p1 => z_BI_Q hb k p (by omega) (by omega) p0 p1
        unfold z_QI at y_Q
        refine z_rng fun hr => ?_
        refine z_aloadn dX6_royalty_34 rfl ?_
        refine gX6_44 (by first | exact hn | exact y_An | exact y_Dn | exact y_En | ((repeat (first | rw [z_sM_row _ _ _ y_7q] | rw [z_sR_ne _ _ y_7q])); exact y_Dn)) rfl dX6_royalty_35 ?_
        refine gX6_121 (by first | exact hg | exact hq7) rfl dX6_royalty_38 ?_
        refine gX6_213 (by first | exact hg | exact hq7) rfl dX6_royalty_41 ?_
        refine z_iloadn dX6_royalty_44 rfl ?_
        refine z_dup2 dX6_royalty_45 rfl rfl ?_
        refine z_iald (by rfl) (by first | exact Or.inl (by decide) | exact Or.inl (Or.inl ⟨by decide, hg⟩) | exact Or.inl (Or.inl ⟨by decide, hq7⟩)) (by omega) (by omega) (by decide) dX6_royalty_46 ?_
        refine z_top (v' := A q (86 + 5 * k + 4)) (by rw [y_Dq]) ?_
        refine z_iloadn dX6_royalty_47 rfl ?_
        refine z_iadd dX6_royalty_48 ?_
        refine z_iast (by rfl) (by first | exact Or.inl (by decide) | exact Or.inl (Or.inl ⟨by decide, hg⟩) | exact Or.inl (Or.inl ⟨by decide, hq7⟩)) (by omega) (by omega) (by decide) (by first | (exact hr _ _ (by decide)) | (exact hr _ _ (by omega)) | omega) dX6_royalty_49 ?_
        refine z_rng fun hr => ?_
        refine z_aloadn dX6_royalty_50 rfl ?_
        refine gX6_44 (by first | exact hn | exact y_An | exact y_Dn | exact y_En | ((repeat (first | rw [z_sM_row _ _ _ y_7q] | rw [z_sR_ne _ _ y_7q])); exact y_Dn)) rfl dX6_royalty_51 ?_
        refine gX6_121 (by first | exact hg | exact hq7) rfl dX6_royalty_54 ?_
        refine z_iloadn dX6_royalty_57 rfl ?_
        refine z_aloadn dX6_royalty_58 rfl ?_
        refine gX6_25 rfl dX6_royalty_59 ?_
        refine gX6_216 rfl dX6_royalty_62 ?_
        refine kX6_219 (by first | exact hg | exact hq7) (tX4_addToYear hq7 (by omega) (by omega) (by intro p p0 p1; have q1 := y_Q p p0 p1; have q2 := y_bd.2.2.2.2 p p0 p1; rw [z_sM_ne _ _ _ (by omega), z_sM_row _ _ _ (by omega), y_Dq]; omega)) rfl ⟨(Nat.le_of_ble_eq_true rfl), (Nat.le_of_ble_eq_true rfl)⟩ (Nat.le_of_ble_eq_true rfl) dX6_royalty_65 ?_
        refine z_rng fun hr => ?_
        refine z_aloadn dX6_royalty_68 rfl ?_
        refine gX6_44 (by first | exact hn | exact y_An | exact y_Dn | exact y_En | ((repeat (first | rw [z_sM_row _ _ _ y_7q] | rw [z_sR_ne _ _ y_7q])); exact y_Dn)) rfl dX6_royalty_69 ?_
        refine z_dup dX6_royalty_72 rfl ?_
        refine gX6_222 (by first | exact hg | exact hq7) rfl dX6_royalty_73 ?_
        refine z_top (v' := A q 7) (by rw [z_sR_self, z_sM_R, z_sR_self]; unfold z_ay; rw [z_cp_o (by omega), z_uf_ne _ _ (by omega), y_Dq]) ?_
        refine z_aloadn dX6_royalty_76 rfl ?_
        refine gX6_25 rfl dX6_royalty_77 ?_
        refine gX6_225 rfl dX6_royalty_80 ?_
        refine z_top (v' := D 7 9) (by rw [z_sR_ne _ _ y_7q, z_sM_row _ _ _ y_7q]) ?_
        refine z_iadd dX6_royalty_83 ?_
        refine pX6_222 (by first | exact hg | exact hq7) (by first | (exact hr _ _ (by decide)) | (exact hr _ _ (by omega)) | omega) rfl dX6_royalty_84 ?_
        refine z_rng fun hr => ?_
        obtain ⟨R, y_R⟩ : ∃ R, z_rob (A q) k a (D 7 9) (D 10) = R := ⟨_, rfl⟩
        have y_Ro : ∀ j, j < 86 → j ≠ 7 → R j = A q j := fun j h1 h2 => by rw [← y_R]; exact z_rob_o (by omega) h1 h2
        have y_R0 := y_Ro 0 (by decide) (by decide)
        have y_R3 := y_Ro 3 (by decide) (by decide)
        have y_R4 := y_Ro 4 (by decide) (by decide)
        refine z_mem (M' := z_sR D q R) (by rw [← y_R]; unfold z_rob; simp only [z_sM_R, z_sR_R, z_sR_self, z_sR_ne _ _ (show (10 : Nat) ≠ q by omega), y_Dq]) ?_
        obtain ⟨E, y_E⟩ : ∃ E, z_sR D q R = E := ⟨_, rfl⟩
        have y_Eq : E q = R := by rw [← y_E]; exact z_sR_self _ _ _
        have y_E7 : E 7 = D 7 := by rw [← y_E]; exact z_sR_ne _ _ y_7q
        have y_E10 : E 10 = D 10 := by rw [← y_E]; exact z_sR_ne _ _ (by omega)
        have y_En : E 7 2 = (q : Int) := by rw [y_E7]; exact y_Dn
        have y_Ee : z_ebd (E q) 100000000 := by rw [y_Eq]; exact z_ebd_o (z_BI_ebd hb) (fun j j0 j1 => y_Ro j (by omega) (by omega))
        rw [y_E]
        refine z_rng fun hr => ?_
        refine z_aloadn dX6_royalty_87 rfl ?_
        refine z_iloadn dX6_royalty_88 rfl ?_
        refine kX6_201 (tX6_bringIn (B := 100000000) hq7 y_En (by omega) (by omega) y_Ee (by decide) (by decide) (by rw [y_Eq, y_R0]; omega) (by rw [y_Eq, y_R3]; omega) (by rw [y_Eq, y_R4]; omega) (by rw [y_E7]; exact y_bd.1) (by rw [y_E7]; exact y_bd.2.1) (by rw [y_E7]; exact y_bd.2.2.1) (by rw [y_E7]; exact y_bd.2.2.2.1) (by rw [y_E10]; exact y_bd.2.2.2.2)) rfl ⟨(Nat.le_of_ble_eq_true rfl), (Nat.le_of_ble_eq_true rfl)⟩ (Nat.le_of_ble_eq_true rfl) dX6_royalty_89 ?_
        exact z_iret dX6_royalty_92 (by rw [y_Eq, y_E7, y_E10, ← y_R, ← y_D]; rfl) (by rw [y_Eq, y_E7, y_E10, ← y_E, z_sR_R, ← y_R, ← y_D]; rfl)
      · exfalso; omega
    · exfalso; omega
  · exfalso; omega
