/-! ===== ahead of the law ===== -/
theorem z_lfr_rg (b : Int → Int) (k p : Int) : 0 ≤ z_lfr b k p ∧ z_lfr b k p ≤ 4 := by
  unfold z_lfr
  have h := z_c4_rg (z_fl3 (z_dr b k) (z_aD b k) 256).2.2 p
  split <;> omega
theorem tL_ahead {G : z_G} {M : z_M} {g : Nat} {N x : Int} (h : z_LR M g N) (hx : z_x G = 0) : z_ConP G yL_ahead cL_ahead 19 (some .boolean) 8 159 4 68 [.ref (z_ad G 0 20), z_I x, .ref (z_ad G 0 40), .ref (z_ad G 0 41), .ref (z_ad G 0 42), .ref (z_ad G 0 43), .ref (z_ad G 0 44), .ref (z_ad G 0 45), .ref (z_ad G 0 46)] M (some (z_I 1)) (z_PH M N) := by
  refine z_conP (ls := [some (.ref (z_ad G 0 20)), some (z_I x), some (.ref (z_ad G 0 40)), some (.ref (z_ad G 0 41)), some (.ref (z_ad G 0 42)), some (.ref (z_ad G 0 43)), some (.ref (z_ad G 0 44)), some (.ref (z_ad G 0 45)), some (.ref (z_ad G 0 46)), none, none, none, none, none, none, none, none, none, none]) (by decide +kernel) (Nat.le_of_ble_eq_true rfl) rfl ?_
  intro Z
  refine z_rng fun hr => ?_
  have h0 := h
  obtain ⟨⟨hg, hn, hn0, s0, s1, ho, hb⟩, hE, h4, h5⟩ := h0
  have hh := z_BI_h hb
  have y_rb : ∀ i, z_rg (M g i) := fun i => hr g i (by omega)
  have hq7 := z_sg_lt g
  have y_40 : M 40 = M g := hE
  have ho2 := ho
  have m4 := h4
  refine z_aload dL_ahead_0 rfl ?_
  refine z_iconst dL_ahead_2 ?_
  refine z_lld (R := 40) (j := 0) al_c (Or.inl (by decide)) (congrFun y_40 _) (by omega) (by omega) (Nat.le_of_ble_eq_true rfl) (by omega) dL_ahead_3 ?_
  refine z_if_ne (tgt := 9) (by first | exact y_rb _ | omega | exact y_pr | exact y_br.1 | exact y_br.2 | (exact hr _ _ (by decide))) dL_ahead_4 (by decide) (fun h4 => ?_) (fun h4 => ?_)
  · refine z_iloadn dL_ahead_9 rfl ?_
    refine z_aload dL_ahead_10 rfl ?_
    refine z_iconst dL_ahead_12 ?_
    refine z_lld (R := 40) (j := 0) al_c (Or.inl (by decide)) (congrFun y_40 _) (by omega) (by omega) (Nat.le_of_ble_eq_true rfl) (by omega) dL_ahead_13 ?_
    refine kL_65 (tL_at (by omega) (by omega)) rfl ⟨(Nat.le_of_ble_eq_true rfl), (Nat.le_of_ble_eq_true rfl)⟩ (Nat.le_of_ble_eq_true rfl) dL_ahead_14 ?_
    obtain ⟨p, y_p⟩ : ∃ p, z_atv x (M g 0) = p := ⟨_, rfl⟩
    have y_p2 := z_atv_rg (x := x) (n := M g 0) (by omega)
    rw [y_p] at y_p2
    have p0 := y_p2.1
    refine z_top (v' := p) y_p ?_
    refine z_istore_9 dL_ahead_17 (Nat.le_of_ble_eq_true rfl) rfl ?_
    refine z_iconst dL_ahead_19 ?_
    refine z_iloadn dL_ahead_20 rfl ?_
    refine z_iconst dL_ahead_21 ?_
    refine z_ishr (z_ivE _) dL_ahead_22 ?_
    refine z_sipush dL_ahead_23 (by decide) ?_
    refine kL_65 (tL_at (by decide) (by decide)) rfl ⟨(Nat.le_of_ble_eq_true rfl), (Nat.le_of_ble_eq_true rfl)⟩ (Nat.le_of_ble_eq_true rfl) dL_ahead_26 ?_
    refine z_iadd dL_ahead_29 ?_
    obtain ⟨v, y_v⟩ : ∃ v, 1 + z_atv (z_iv (Int32.ofInt x >>> (Int32.ofInt 3 &&& 31))) 5000 = v := ⟨_, rfl⟩
    have y_v2 := z_atv_rg (x := z_iv (Int32.ofInt x >>> (Int32.ofInt 3 &&& 31))) (n := 5000) (by decide)
    have y_v3 : 1 ≤ v ∧ v ≤ 5000 := by omega
    refine z_top (v' := v) y_v ?_
    refine z_istore_10 dL_ahead_30 (Nat.le_of_ble_eq_true rfl) rfl ?_
    refine z_iconst dL_ahead_32 ?_
    refine z_istore_11 dL_ahead_33 (Nat.le_of_ble_eq_true rfl) rfl ?_
    refine z_iconst dL_ahead_35 ?_
    refine z_istore_12 dL_ahead_36 (Nat.le_of_ble_eq_true rfl) rfl ?_
    refine z_nstart (fun c => ?_)
    refine z_nbipush dL_ahead_38 (by decide) ?_
    refine z_nnew (N := 24) wk_aI (Nat.le_of_ble_eq_true rfl) ⟨(Nat.le_of_ble_eq_true rfl), (Nat.le_of_ble_eq_true rfl)⟩ dL_ahead_40 ?_
    refine z_nastore dL_ahead_42 (Nat.le_of_ble_eq_true rfl) rfl ?_
    refine z_nbipush dL_ahead_44 (by decide) ?_
    refine z_nnew (N := 20) wk_aI (Nat.le_of_ble_eq_true rfl) ⟨(Nat.le_of_ble_eq_true rfl), (Nat.le_of_ble_eq_true rfl)⟩ dL_ahead_46 ?_
    refine z_nastore dL_ahead_48 (Nat.le_of_ble_eq_true rfl) rfl ?_
    refine z_nbipush dL_ahead_50 (by decide) ?_
    refine z_nnew (N := 16) wk_aI (Nat.le_of_ble_eq_true rfl) ⟨(Nat.le_of_ble_eq_true rfl), (Nat.le_of_ble_eq_true rfl)⟩ dL_ahead_52 ?_
    refine z_nastore dL_ahead_54 (Nat.le_of_ble_eq_true rfl) rfl ?_
    refine z_nbipush dL_ahead_56 (by decide) ?_
    refine z_nnew (N := 8) wk_aI (Nat.le_of_ble_eq_true rfl) ⟨(Nat.le_of_ble_eq_true rfl), (Nat.le_of_ble_eq_true rfl)⟩ dL_ahead_58 ?_
    refine z_nastore dL_ahead_60 (Nat.le_of_ble_eq_true rfl) rfl ?_
    refine z_ndone (fun ho => ?_)
    refine z_wide (k' := 4) (n' := 68) (Nat.le_of_ble_eq_true rfl) (Nat.le_of_ble_eq_true rfl) ?_
    refine z_lsE (ls' := [some (.ref (z_ad (z_Gx G c) 0 20)), some (z_I x), some (.ref (z_ad (z_Gx G c) 0 40)), some (.ref (z_ad (z_Gx G c) 0 41)), some (.ref (z_ad (z_Gx G c) 0 42)), some (.ref (z_ad (z_Gx G c) 0 43)), some (.ref (z_ad (z_Gx G c) 0 44)), some (.ref (z_ad (z_Gx G c) 0 45)), some (.ref (z_ad (z_Gx G c) 0 46)), some (z_I p), some (z_I v), some (z_I (-1)), some (z_I (-1)), some (.ref (z_ad (z_Gx G c) 1 40)), some (.ref (z_ad (z_Gx G c) 1 41)), some (.ref (z_ad (z_Gx G c) 1 44)), some (.ref (z_ad (z_Gx G c) 1 46)), none, none]) rfl ?_
    have y_ret : ∀ (M1 : z_M) (ls : List (Option Value)), z_PH M N M1 → z_J (z_Gx G c) Z (cL_ahead, 19, yL_ahead.cls, z_rmP 8 159 4 68, some .boolean) (z_QmP G Z (some (z_I 1)) (z_PH M N) 4 68) 249 ls [z_I 1] M1 4 68 := fun M1 ls hP => z_zretX hx dL_ahead_249 rfl hP
    generalize z_Gx G c = G' at ho y_ret ⊢
    have y_q1 : z_cq G' 1 := Or.inr ⟨ho, rfl⟩
    refine z_iconst dL_ahead_62 ?_
    refine z_istore_17 dL_ahead_63 (Nat.le_of_ble_eq_true rfl) rfl ?_
    refine (z_upn (P := fun i : Nat => ∀ X : z_M, z_AI M g N X → z_J G' Z (cL_ahead, 19, yL_ahead.cls, z_rmP 8 159 4 68, some .boolean) (z_QmP G Z (some (z_I 1)) (z_PH M N) 4 68) 65 [some (.ref (z_ad G' 0 20)), some (z_I x), some (.ref (z_ad G' 0 40)), some (.ref (z_ad G' 0 41)), some (.ref (z_ad G' 0 42)), some (.ref (z_ad G' 0 43)), some (.ref (z_ad G' 0 44)), some (.ref (z_ad G' 0 45)), some (.ref (z_ad G' 0 46)), some (z_I p), some (z_I v), some (z_I (z_bst (M g) p v i).1), some (z_I (z_bst (M g) p v i).2), some (.ref (z_ad G' 1 40)), some (.ref (z_ad G' 1 41)), some (.ref (z_ad G' 1 44)), some (.ref (z_ad G' 1 46)), some (z_I i), none] [] X 4 68) (M g 1).toNat ?_ ?_) (z_sR M 41 (fun _ => 0)) ⟨z_LR_mem h (fun r hr => z_sR_ne _ _ (by omega)) (fun i _ _ => congrFun (z_sR_ne _ _ (by decide)) i), z_sR_ne _ _ (by omega), congrFun (z_sR_ne _ _ (by decide)) 1, fun i _ => congrFun (z_sR_self _ _ _) i⟩
    · intro X y_AI
      obtain ⟨⟨⟨-, hn', hn0', s0', s1', ho', hb'⟩, hE', h4', h5'⟩, y_g, y_s1, y_ng⟩ := id y_AI
      have y_40 : X 40 = M g := hE'.trans y_g
      have y_br := z_bst_rg hb (t := v) (by omega) (by omega) p0 (show p < 12 by omega) (M g 1).toNat (by omega)
      refine z_rng fun hr => ?_
      refine z_iload dL_ahead_65 rfl ?_
      refine z_aload dL_ahead_67 rfl ?_
      refine z_iconst dL_ahead_69 ?_
      refine z_lld (R := 40) (j := 1) al_c (Or.inl (by decide)) (congrFun y_40 _) (by omega) (by omega) (Nat.le_of_ble_eq_true rfl) (by omega) dL_ahead_70 ?_
      refine z_icmp_ge (tgt := 231) (by first | exact y_rb _ | omega | exact y_pr | exact y_br.1 | exact y_br.2 | (exact hr _ _ (by decide))) (by first | exact y_rb _ | omega | exact y_pr | exact y_br.1 | exact y_br.2 | (exact hr _ _ (by decide))) dL_ahead_71 (by decide) (fun h71 => ?_) (fun h71 => ?_)
      · refine z_aloadn dL_ahead_231 rfl ?_
        refine z_iload dL_ahead_232 rfl ?_
        refine z_iload dL_ahead_234 rfl ?_
        refine jL_86 (tX6_bestPiece hg hn' hb' (p := p) (t := v) (by omega) (by omega) (by rw [y_g]; unfold z_c_bestPiece; rw [if_neg (by omega), if_neg (by omega)])) rfl ⟨(Nat.le_of_ble_eq_true rfl), (Nat.le_of_ble_eq_true rfl)⟩ ⟨(Nat.le_of_ble_eq_true rfl), (Nat.le_of_ble_eq_true rfl)⟩ (Nat.le_of_ble_eq_true rfl) dL_ahead_236 ?_
        refine z_rng fun hr => ?_
        refine z_top (v' := (z_bst (M g) p v (M g 1).toNat).1) (by rw [z_best_N hg hb' (by omega) (by omega) p0 (by rw [y_g]; omega), y_g]; rfl) ?_
        refine z_iload dL_ahead_239 rfl ?_
        refine z_icmp_ne (tgt := 248) (by first | exact y_rb _ | omega | exact y_pr | exact y_br.1 | exact y_br.2 | (exact hr _ _ (by decide))) (by first | exact y_rb _ | omega | exact y_pr | exact y_br.1 | exact y_br.2 | (exact hr _ _ (by decide))) dL_ahead_241 (by decide) (fun h241 => ?_) (fun h241 => ?_)
        · exfalso; omega
        · refine z_iconst dL_ahead_244 ?_
          refine z_goto (tgt := 249) dL_ahead_245 (by decide) ?_
          exact y_ret _ _ ⟨⟨g, z_LR_mem y_AI.1 (fun r hr => z_fbM_row _ _ _ (by omega) _) (fun j j0 j1 => z_fbM_7 _ _ _ (Or.inl (by omega)) _)⟩, (z_fbM_7 _ _ _ (Or.inl (by decide)) _).trans y_s1⟩
      · exfalso; omega
    · intro i hi y_ih X y_AI
      obtain ⟨⟨⟨-, hn', hn0', s0', s1', ho', hb'⟩, hE', h4', h5'⟩, y_g, y_s1, y_ng⟩ := id y_AI
      have y_40 : X 40 = M g := hE'.trans y_g
      have y_b := z_bst_s (M g) p v i
      have y_bg := z_bst_ge (b := M g) (p := p) (t := v) i
      have y_br := z_bst_rg hb (t := v) (by omega) (by omega) p0 (show p < 12 by omega) i (by omega)
      have y_lf := z_lfr_rg (M g) i p
      have y_K := z_BI_K hb i (by omega) (by omega)
      unfold z_KI at y_K
      have f_P := z_BI_P hb (M g (86 + 5 * (i : Int))) (by omega) (by omega)
      unfold z_PI at f_P
      have y_oo : z_oo (M g) i = M g (14 + 6 * M g (86 + 5 * (i : Int)) + 3) := rfl
      have y_pr := z_paid_rg (p := p) (show 0 ≤ (i : Int) by omega) (show (i : Int) < 20 by omega) (show 0 ≤ v by omega) (show v ≤ 100000 by omega) p0 (by omega) (z_BI_cF hb (show 0 ≤ (i : Int) by omega) (by omega))
      refine z_rng fun hr => ?_
      refine z_iload dL_ahead_65 rfl ?_
      refine z_aload dL_ahead_67 rfl ?_
      refine z_iconst dL_ahead_69 ?_
      refine z_lld (R := 40) (j := 1) al_c (Or.inl (by decide)) (congrFun y_40 _) (by omega) (by omega) (Nat.le_of_ble_eq_true rfl) (by omega) dL_ahead_70 ?_
      refine z_icmp_ge (tgt := 231) (by first | exact y_rb _ | omega | exact y_pr | exact y_br.1 | exact y_br.2 | (exact hr _ _ (by decide))) (by first | exact y_rb _ | omega | exact y_pr | exact y_br.1 | exact y_br.2 | (exact hr _ _ (by decide))) dL_ahead_71 (by decide) (fun h71 => ?_) (fun h71 => ?_)
      · exfalso; omega
      · refine z_aloadn dL_ahead_74 rfl ?_
        refine z_iload dL_ahead_75 rfl ?_
        refine z_iload dL_ahead_77 rfl ?_
        refine jL_68 (tX6_fairest hg hn' hb' (k := i) (p := p) (by omega) (by omega) (by rw [y_g]; unfold z_c_fairest; rw [if_neg (by omega)])) rfl ⟨(Nat.le_of_ble_eq_true rfl), (Nat.le_of_ble_eq_true rfl)⟩ ⟨(Nat.le_of_ble_eq_true rfl), (Nat.le_of_ble_eq_true rfl)⟩ (Nat.le_of_ble_eq_true rfl) dL_ahead_79 ?_
        refine z_rng fun hr => ?_
        obtain ⟨X1, y_X1⟩ : ∃ X1, z_fiM X g i = X1 := ⟨_, rfl⟩
        have y_AI := z_AI_mem y_AI (X2 := X1) (fun r hr => by rw [← y_X1]; exact z_fiM_r (by omega)) (fun j j0 j1 => by rw [← y_X1]; exact z_fiM_7i (by omega)) (fun j hj => by rw [← y_X1]; exact (congrFun (z_fiM_r (by decide)) j).trans (y_ng j hj))
        refine z_top (v' := z_lfr (M g) i p) (by rw [z_fair_eq hb' (by omega) (by omega) p p0 (by omega), y_g]; exact (z_lfr_fX hb m4 (by omega) (by omega) p0 (by omega)).symm) ?_
        rw [y_X1] at hr ⊢
        obtain ⟨⟨⟨-, hn', hn0', s0', s1', ho', hb'⟩, hE', h4', h5'⟩, y_g, y_s1, y_ng⟩ := id y_AI
        have y_40 : X1 40 = M g := hE'.trans y_g
        refine z_iload dL_ahead_82 rfl ?_
        refine z_iload dL_ahead_84 rfl ?_
        refine z_aload dL_ahead_86 rfl ?_
        refine jL_71 (tL_fair hb m4 (by omega) (by omega) p0 (by omega) y_40) rfl ⟨(Nat.le_of_ble_eq_true rfl), (Nat.le_of_ble_eq_true rfl)⟩ ⟨(Nat.le_of_ble_eq_true rfl), (Nat.le_of_ble_eq_true rfl)⟩ (Nat.le_of_ble_eq_true rfl) dL_ahead_88 ?_
        refine z_icmp_eq (tgt := 96) (by first | exact y_rb _ | omega | exact y_pr | exact y_br.1 | exact y_br.2 | (exact hr _ _ (by decide))) (by first | exact y_rb _ | omega | exact y_pr | exact y_br.1 | exact y_br.2 | (exact hr _ _ (by decide))) dL_ahead_91 (by decide) (fun h91 => ?_) (fun h91 => ?_)
        · refine z_aloadn dL_ahead_96 rfl ?_
          refine z_iconst dL_ahead_97 ?_
          refine z_iload dL_ahead_98 rfl ?_
          refine z_imul dL_ahead_100 ?_
          refine z_iconst dL_ahead_101 ?_
          refine z_iadd dL_ahead_102 ?_
          refine z_lld (R := 40) (j := 86 + 5 * (i : Int) + 2) al_pi (Or.inl (by decide)) (congrFun y_40 _) (by omega) (by omega) (Nat.le_of_ble_eq_true rfl) (by omega) dL_ahead_103 ?_
          refine z_iconst dL_ahead_104 ?_
          refine z_icmp_eq (tgt := 111) (by first | exact y_rb _ | omega | exact y_pr | exact y_br.1 | exact y_br.2 | (exact hr _ _ (by decide))) (by first | exact y_rb _ | omega | exact y_pr | exact y_br.1 | exact y_br.2 | (exact hr _ _ (by decide))) dL_ahead_105 (by decide) (fun h105 => ?_) (fun h105 => ?_)
          · have hrX := hr
            refine z_aload dL_ahead_111 rfl ?_
            refine z_aloadn dL_ahead_113 rfl ?_
            refine jL_75 (tL_same ho (k := 40) (Or.inl rfl) al_pe (alg_pe rfl) (by decide)) rfl ⟨(Nat.le_of_ble_eq_true rfl), (Nat.le_of_ble_eq_true rfl)⟩ ⟨(Nat.le_of_ble_eq_true rfl), (Nat.le_of_ble_eq_true rfl)⟩ (Nat.le_of_ble_eq_true rfl) dL_ahead_114 ?_
            refine z_aload dL_ahead_117 rfl ?_
            refine z_aloadn dL_ahead_119 rfl ?_
            refine jL_75 (tL_same ho (k := 41) (Or.inr (Or.inl rfl)) al_pi (alg_pi rfl) (by decide)) rfl ⟨(Nat.le_of_ble_eq_true rfl), (Nat.le_of_ble_eq_true rfl)⟩ ⟨(Nat.le_of_ble_eq_true rfl), (Nat.le_of_ble_eq_true rfl)⟩ (Nat.le_of_ble_eq_true rfl) dL_ahead_120 ?_
            refine z_mem (M' := z_sR X1 41 (z_fcp (fun p => 86 + p) (X1 40) (z_fcp (fun p => 14 + p) (X1 40) (X1 41) 24) 20)) (by rw [z_sR_R, z_sR_ne _ _ (show (40 : Nat) ≠ 41 by decide), z_sR_self]) ?_
            refine z_aload dL_ahead_123 rfl ?_
            refine z_aload dL_ahead_125 rfl ?_
            refine jL_75 (tL_same ho (k := 44) (Or.inr (Or.inr (Or.inl rfl))) al_go (alg_go rfl) (by decide)) rfl ⟨(Nat.le_of_ble_eq_true rfl), (Nat.le_of_ble_eq_true rfl)⟩ ⟨(Nat.le_of_ble_eq_true rfl), (Nat.le_of_ble_eq_true rfl)⟩ (Nat.le_of_ble_eq_true rfl) dL_ahead_127 ?_
            refine z_mem (M' := z_sR X1 41 (z_fcp (fun p => 666 + 12 * (p / 4) + p % 4) (X1 40) (z_fcp (fun p => 86 + p) (X1 40) (z_fcp (fun p => 14 + p) (X1 40) (X1 41) 24) 20) 16)) (by rw [z_sR_R, z_sR_ne _ _ (show (40 : Nat) ≠ 41 by decide), z_sR_self]) ?_
            refine z_aload dL_ahead_130 rfl ?_
            refine z_aload dL_ahead_132 rfl ?_
            refine jL_75 (tL_same ho (k := 46) (Or.inr (Or.inr (Or.inr rfl))) al_c (alg_c rfl) (by decide)) rfl ⟨(Nat.le_of_ble_eq_true rfl), (Nat.le_of_ble_eq_true rfl)⟩ ⟨(Nat.le_of_ble_eq_true rfl), (Nat.le_of_ble_eq_true rfl)⟩ (Nat.le_of_ble_eq_true rfl) dL_ahead_134 ?_
            refine z_mem (M' := z_sR X1 41 (z_cps (X1 40) (X1 41))) (by rw [z_sR_R, z_sR_ne _ _ (show (40 : Nat) ≠ 41 by decide), z_sR_self]; rfl) ?_
            refine z_gh (M' := z_sR X1 41 (M g)) (fun b j hb0 => by
              unfold z_sR
              split
              · exact y_rb j
              · exact hrX b j hb0) (fun g2 k2 hd b j hw => by
              by_cases c : b = 41
              · subst c
                rw [z_sR_self, z_sR_self, ← y_40]
                exact z_cps_ow (fun q hq => by rw [y_ng q hq, y_40]; exact (ho2 g hg q (Or.inl hq)).symm) hd hw
              · rw [z_sR_ne _ _ c, z_sR_ne _ _ c]) ?_
            refine z_rng fun hr => ?_
            have y_240 : z_sR X1 41 (M g) 40 = M g := (z_sR_ne _ _ (by decide)).trans y_40
            refine z_iload dL_ahead_137 rfl ?_
            refine z_iload dL_ahead_139 rfl ?_
            refine z_iconst dL_ahead_141 ?_
            refine z_aload dL_ahead_142 rfl ?_
            refine z_aload dL_ahead_144 rfl ?_
            refine z_aload dL_ahead_146 rfl ?_
            refine z_aload dL_ahead_148 rfl ?_
            refine z_aload dL_ahead_150 rfl ?_
            refine z_aload dL_ahead_152 rfl ?_
            refine jL_79 (tL_comes1 (g := 1) (R := 41) (B := M g) rfl y_q1 (z_sR_self _ _ _) (by omega) (by omega) (by omega) (by omega) (z_BI_cF hb (by omega) (by omega)) (z_paz hb m4 (by omega) (by omega)) m4 (by omega) (by omega) (fun j _ _ => congrFun y_240 _) (fun q _ _ => congrFun y_240 _)) rfl ⟨(Nat.le_of_ble_eq_true rfl), (Nat.le_of_ble_eq_true rfl)⟩ ⟨(Nat.le_of_ble_eq_true rfl), (Nat.le_of_ble_eq_true rfl)⟩ (Nat.le_of_ble_eq_true rfl) dL_ahead_154 ?_
            refine z_mem (z_sR_R _ _ _ _) ?_
            refine z_pop dL_ahead_157 rfl ?_
            obtain ⟨X2, y_X2⟩ : ∃ X2, z_sR X1 41 (z_cm (M g) i v 1).1 = X2 := ⟨_, rfl⟩
            have y_41 : X2 41 = (z_cm (M g) i v 1).1 := by rw [← y_X2]; exact z_sR_self _ _ _
            have y_AI := z_AI_mem y_AI (X2 := X2) (fun r hr => by rw [← y_X2]; exact z_sR_ne _ _ (by omega)) (fun j j0 j1 => by rw [← y_X2]; exact congrFun (z_sR_ne _ _ (by decide)) j) (fun j hj => by
              rw [y_41]
              exact (z_com2_out (by omega) (by omega) (by omega) (by omega) (Or.inl hj)).trans (ho2 g hg j (Or.inl hj)))
            refine z_mem y_X2 ?_
            refine z_rng fun hr => ?_
            obtain ⟨⟨⟨-, hn', hn0', s0', s1', ho', hb'⟩, hE', h4', h5'⟩, y_g, y_s1, y_ng⟩ := id y_AI
            have y_40 : X2 40 = M g := hE'.trans y_g
            refine z_aload dL_ahead_158 rfl ?_
            refine z_bipush dL_ahead_160 (by decide) ?_
            refine z_iload dL_ahead_162 rfl ?_
            refine z_imul dL_ahead_164 ?_
            refine z_lld (R := 41) (j := 14 + 6 * p) (alg_pe rfl) (z_cq_dm y_q1 (by decide)) (congrFun y_41 _) (by omega) (by omega) (Nat.le_of_ble_eq_true rfl) (by omega) dL_ahead_165 ?_
            refine z_aloadn dL_ahead_166 rfl ?_
            refine z_bipush dL_ahead_167 (by decide) ?_
            refine z_iload dL_ahead_169 rfl ?_
            refine z_imul dL_ahead_171 ?_
            refine z_lld (R := 40) (j := 14 + 6 * p) al_pe (Or.inl (by decide)) (congrFun y_40 _) (by omega) (by omega) (Nat.le_of_ble_eq_true rfl) (by omega) dL_ahead_172 ?_
            refine z_isub dL_ahead_173 ?_
            refine z_top (v' := z_paid (M g) i v p) (rfl) ?_
            refine z_istore_18 dL_ahead_174 (Nat.le_of_ble_eq_true rfl) rfl ?_
            refine z_aloadn dL_ahead_176 rfl ?_
            refine z_iload dL_ahead_177 rfl ?_
            refine z_iload dL_ahead_179 rfl ?_
            refine z_iload dL_ahead_181 rfl ?_
            refine jL_83 (tX6_ifPaid hg hn' hb' (k := i) (a := v) (p := p) (by omega) (by omega) (by omega) (by rw [y_g]; unfold z_c_ifPaid; rw [if_neg (by omega), if_neg (by omega), if_pos h105])) rfl ⟨(Nat.le_of_ble_eq_true rfl), (Nat.le_of_ble_eq_true rfl)⟩ ⟨(Nat.le_of_ble_eq_true rfl), (Nat.le_of_ble_eq_true rfl)⟩ (Nat.le_of_ble_eq_true rfl) dL_ahead_183 ?_
            refine z_rng fun hr => ?_
            obtain ⟨X3, y_X3⟩ : ∃ X3, z_dRM X2 g i v = X3 := ⟨_, rfl⟩
            have y_AI := z_AI_mem y_AI (X2 := X3) (fun r hr => by rw [← y_X3]; exact z_dRM_row (by omega)) (fun j j0 j1 => by rw [← y_X3]; exact z_dRM_7 (Or.inl (by omega))) (fun j hj => by rw [← y_X3]; exact (congrFun (z_dRM_row (by decide)) j).trans (y_ng j hj))
            refine z_top (v' := z_paid (M g) i v p) (by rw [z_gain_paid hb' (by omega) (by rw [y_g]; omega) p0 (by rw [y_g]; omega), y_g]) ?_
            rw [y_X3] at hr ⊢
            obtain ⟨⟨⟨-, hn', hn0', s0', s1', ho', hb'⟩, hE', h4', h5'⟩, y_g, y_s1, y_ng⟩ := id y_AI
            have y_40 : X3 40 = M g := hE'.trans y_g
            refine z_iload dL_ahead_186 rfl ?_
            refine z_icmp_eq (tgt := 193) (by first | exact y_rb _ | omega | exact y_pr | exact y_br.1 | exact y_br.2 | (exact hr _ _ (by decide))) (by first | exact y_rb _ | omega | exact y_pr | exact y_br.1 | exact y_br.2 | (exact hr _ _ (by decide))) dL_ahead_188 (by decide) (fun h188 => ?_) (fun h188 => ?_)
            · refine z_iload dL_ahead_193 rfl ?_
              refine z_iload dL_ahead_195 rfl ?_
              refine z_icmp_le (tgt := 205) (by first | exact y_rb _ | omega | exact y_pr | exact y_br.1 | exact y_br.2 | (exact hr _ _ (by decide))) (by first | exact y_rb _ | omega | exact y_pr | exact y_br.1 | exact y_br.2 | (exact hr _ _ (by decide))) dL_ahead_197 (by decide) (fun h197 => ?_) (fun h197 => ?_)
              · refine z_iload dL_ahead_205 rfl ?_
                refine z_istore_11 dL_ahead_207 (Nat.le_of_ble_eq_true rfl) rfl ?_
                refine z_iload dL_ahead_209 rfl ?_
                refine z_iload dL_ahead_211 rfl ?_
                refine z_icmp_le (tgt := 221) (by first | exact y_rb _ | omega | exact y_pr | exact y_br.1 | exact y_br.2 | (exact hr _ _ (by decide))) (by first | exact y_rb _ | omega | exact y_pr | exact y_br.1 | exact y_br.2 | (exact hr _ _ (by decide))) dL_ahead_213 (by decide) (fun h213 => ?_) (fun h213 => ?_)
                · refine z_iload dL_ahead_221 rfl ?_
                  refine z_istore_12 dL_ahead_223 (Nat.le_of_ble_eq_true rfl) rfl ?_
                  refine z_iinc_17 dL_ahead_225 (Nat.le_of_ble_eq_true rfl) rfl ?_
                  refine z_goto (tgt := 65) dL_ahead_228 (by decide) ?_
                  refine z_fgt 18 ?_
                  rw [y_b] at y_ih
                  first
                    | (rw [if_pos h105, if_pos (by omega)] at y_ih; exact y_ih _ y_AI)
                    | (rw [if_pos h105, if_neg (by omega)] at y_ih; exact y_ih _ y_AI)
                    | (rw [if_neg h105, if_neg (by omega)] at y_ih; exact y_ih _ y_AI)
                    | (exfalso; omega)
                · refine z_iload dL_ahead_216 rfl ?_
                  refine z_goto (tgt := 223) dL_ahead_218 (by decide) ?_
                  refine z_istore_12 dL_ahead_223 (Nat.le_of_ble_eq_true rfl) rfl ?_
                  refine z_iinc_17 dL_ahead_225 (Nat.le_of_ble_eq_true rfl) rfl ?_
                  refine z_goto (tgt := 65) dL_ahead_228 (by decide) ?_
                  refine z_fgt 18 ?_
                  rw [y_b] at y_ih
                  first
                    | (rw [if_pos h105, if_pos (by omega)] at y_ih; exact y_ih _ y_AI)
                    | (rw [if_pos h105, if_neg (by omega)] at y_ih; exact y_ih _ y_AI)
                    | (rw [if_neg h105, if_neg (by omega)] at y_ih; exact y_ih _ y_AI)
                    | (exfalso; omega)
              · refine z_iload dL_ahead_200 rfl ?_
                refine z_goto (tgt := 207) dL_ahead_202 (by decide) ?_
                refine z_istore_11 dL_ahead_207 (Nat.le_of_ble_eq_true rfl) rfl ?_
                refine z_iload dL_ahead_209 rfl ?_
                refine z_iload dL_ahead_211 rfl ?_
                refine z_icmp_le (tgt := 221) (by first | exact y_rb _ | omega | exact y_pr | exact y_br.1 | exact y_br.2 | (exact hr _ _ (by decide))) (by first | exact y_rb _ | omega | exact y_pr | exact y_br.1 | exact y_br.2 | (exact hr _ _ (by decide))) dL_ahead_213 (by decide) (fun h213 => ?_) (fun h213 => ?_)
                · refine z_iload dL_ahead_221 rfl ?_
                  refine z_istore_12 dL_ahead_223 (Nat.le_of_ble_eq_true rfl) rfl ?_
                  refine z_iinc_17 dL_ahead_225 (Nat.le_of_ble_eq_true rfl) rfl ?_
                  refine z_goto (tgt := 65) dL_ahead_228 (by decide) ?_
                  refine z_fgt 18 ?_
                  rw [y_b] at y_ih
                  first
                    | (rw [if_pos h105, if_pos (by omega)] at y_ih; exact y_ih _ y_AI)
                    | (rw [if_pos h105, if_neg (by omega)] at y_ih; exact y_ih _ y_AI)
                    | (rw [if_neg h105, if_neg (by omega)] at y_ih; exact y_ih _ y_AI)
                    | (exfalso; omega)
                · refine z_iload dL_ahead_216 rfl ?_
                  refine z_goto (tgt := 223) dL_ahead_218 (by decide) ?_
                  refine z_istore_12 dL_ahead_223 (Nat.le_of_ble_eq_true rfl) rfl ?_
                  refine z_iinc_17 dL_ahead_225 (Nat.le_of_ble_eq_true rfl) rfl ?_
                  refine z_goto (tgt := 65) dL_ahead_228 (by decide) ?_
                  refine z_fgt 18 ?_
                  rw [y_b] at y_ih
                  first
                    | (rw [if_pos h105, if_pos (by omega)] at y_ih; exact y_ih _ y_AI)
                    | (rw [if_pos h105, if_neg (by omega)] at y_ih; exact y_ih _ y_AI)
                    | (rw [if_neg h105, if_neg (by omega)] at y_ih; exact y_ih _ y_AI)
                    | (exfalso; omega)
            · exfalso; omega
          · refine z_goto (tgt := 225) dL_ahead_108 (by decide) ?_
            refine z_iinc_17 dL_ahead_225 (Nat.le_of_ble_eq_true rfl) rfl ?_
            refine z_goto (tgt := 65) dL_ahead_228 (by decide) ?_
            refine z_fgt 18 ?_
            rw [y_b] at y_ih
            first
              | (rw [if_pos h105, if_pos (by omega)] at y_ih; exact y_ih _ y_AI)
              | (rw [if_pos h105, if_neg (by omega)] at y_ih; exact y_ih _ y_AI)
              | (rw [if_neg h105, if_neg (by omega)] at y_ih; exact y_ih _ y_AI)
              | (exfalso; omega)
        · exfalso; omega
  · refine z_iconst dL_ahead_7 ?_
    refine z_wide (k' := 4) (n' := 68) (Nat.le_of_ble_eq_true rfl) (Nat.le_of_ble_eq_true rfl) ?_
    exact z_zretP dL_ahead_8 rfl ⟨⟨g, h⟩, rfl⟩
