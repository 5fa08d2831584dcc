/-! ===== the class: years, pieces, disputes, texts, undo ===== -/
theorem z_begin_order {b : Int → Int} {N x f : Int} (hb : z_BI b N) (h : b 1 < 20) (x0 : 0 ≤ x) (x1 : x < 12) : z_begin b x f = z_o_order b x f := by
  have hh := z_BI_h hb
  have hk := z_BI_K hb (b 1) hh.2.2.1.1 h
  unfold z_KI at hk
  obtain ⟨-, -, -, -, -, -, -, -, -, -, -, -, -, -, -, e⟩ := hk
  have e := e (Int.le_refl _)
  funext j
  unfold z_begin z_o_order z_uf
  (repeat' split) <;> first | rfl | omega | (subst_vars; omega) | (exfalso; omega)
theorem z_wd_bit {b : Int → Int} {k : Int} : ∀ n : Nat, n ≤ 12 → ∀ p : Int, 0 ≤ p → (z_bit (z_wd b k n) p = 1 ↔ p < n ∧ z_cd b k p) := by
  intro n
  induction n with
  | zero => intro _ p p0; rw [show z_wd b k 0 = 0 from rfl, z_bit_0]; constructor <;> intro h <;> omega
  | succ n ih =>
    intro hn p p0
    have h := ih (by omega) p p0
    have r := z_wd_rg b k n (by omega)
    unfold z_wd
    by_cases c : z_cd b k n
    · rw [if_pos c, z_bit_bor (by omega) p0 r.1]
      by_cases e : p = n
      · subst e
        rw [if_pos rfl]
        exact ⟨fun _ => ⟨by omega, c⟩, fun _ => rfl⟩
      · rw [if_neg e]
        exact ⟨fun q => ⟨by have := (h.mp q).1; omega, (h.mp q).2⟩, fun q => h.mpr ⟨by omega, q.2⟩⟩
    · rw [if_neg c]
      exact ⟨fun q => ⟨by have := (h.mp q).1; omega, (h.mp q).2⟩, fun q => h.mpr ⟨by
        rcases (by omega : p < n ∨ p = n) with e | e
        · exact e
        · subst e; exact absurd q.2 c, q.2⟩⟩
def z_od (b : Int → Int) (k : Int) (G : Int → Int) : Int → Int := z_uf (z_uf (z_cp b G (426 + 12 * k) 0 12) (86 + 5 * k + 3) (b (86 + 5 * k + 3) + 1)) 6 (b 6 + 1)
theorem tX6_nextYear {G : z_G} {M : z_M} {g : Nat} {N : Int} (hg : g < 7) (hn : M 7 2 = (g : Int)) (h0 : M 7 0 = (g : Int)) (s0 : 0 ≤ M 7 1) (s1 : M 7 1 ≤ 6) (ho : z_W7 M) (hb : z_BI (M g) N) : KX6_nextYear G [.ref (z_ad G 0 20)] M (.inl (some (z_I ((M g) 2 + 1)))) (z_sR (z_SC M g) (z_sg g) (z_o_nextYear (M g))) := by
  refine z_con (ls := [some (.ref (z_ad G 0 20))]) (by decide +kernel) (Nat.le_of_ble_eq_true rfl) rfl ?_
  intro Z htb
  refine z_rng fun hr => ?_
  have hh := z_BI_h hb
  refine z_aloadn dX6_nextYear_0 rfl ?_
  refine kX6_65 (tX6_save hg hn h0 s0 s1 ho) rfl ⟨(Nat.le_of_ble_eq_true rfl), (Nat.le_of_ble_eq_true rfl)⟩ (Nat.le_of_ble_eq_true rfl) dX6_nextYear_1 ?_
  refine z_rng fun hr => ?_
  obtain ⟨q, y_q⟩ : ∃ q, z_sg g = q := ⟨_, rfl⟩
  have hq7 : q < 7 := by rw [← y_q]; exact z_sg_lt g
  have y_7q : 7 ≠ q := by omega
  obtain ⟨A, y_A⟩ : ∃ A, z_SC M g = A := ⟨_, rfl⟩
  have y_Aq : A q = M g := by rw [← y_A, ← y_q]; exact z_SC_new M g
  have y_An : A 7 2 = (q : Int) := by rw [← y_A, ← y_q]; exact z_SC_72 M g
  rw [y_A, y_q]
  simp only [← y_Aq] at *
  refine z_rng fun hr => ?_
  refine z_aloadn dX6_nextYear_4 rfl ?_
  refine gX6_44 (by first | exact hn | exact y_An | ((repeat (first | rw [z_sM_row _ _ _ y_7q] | rw [z_sR_ne _ _ y_7q])); exact y_An)) rfl dX6_nextYear_5 ?_
  refine z_dup dX6_nextYear_8 rfl ?_
  refine gX6_118 (by first | exact hg | exact hq7) rfl dX6_nextYear_9 ?_
  refine z_iconst dX6_nextYear_12 ?_
  refine z_iadd dX6_nextYear_13 ?_
  refine pX6_118 (by first | exact hg | exact hq7) (by first | (exact hr _ _ (by decide)) | (exact hr _ _ (by omega)) | omega) rfl dX6_nextYear_14 ?_
  refine z_rng fun hr => ?_
  refine z_aloadn dX6_nextYear_17 rfl ?_
  refine gX6_44 (by first | exact hn | exact y_An | ((repeat (first | rw [z_sM_row _ _ _ y_7q] | rw [z_sR_ne _ _ y_7q])); exact y_An)) rfl dX6_nextYear_18 ?_
  refine gX6_121 (by first | exact hg | exact hq7) rfl dX6_nextYear_21 ?_
  refine gX6_125 (by first | exact hg | exact hq7) rfl dX6_nextYear_24 ?_
  refine z_iconst dX6_nextYear_27 ?_
  refine kX6_130 (tJ7_fill_53178 (ix := fun p => 666 + p) (n := 240) (by rfl) (Or.inl (Or.inl ⟨by decide, hq7⟩)) (by decide) (by decide)) rfl ⟨(Nat.le_of_ble_eq_true rfl), (Nat.le_of_ble_eq_true rfl)⟩ (Nat.le_of_ble_eq_true rfl) dX6_nextYear_28 ?_
  refine z_rng fun hr => ?_
  refine z_aloadn dX6_nextYear_31 rfl ?_
  refine gX6_44 (by first | exact hn | exact y_An | ((repeat (first | rw [z_sM_row _ _ _ y_7q] | rw [z_sR_ne _ _ y_7q])); exact y_An)) rfl dX6_nextYear_32 ?_
  refine gX6_118 (by first | exact hg | exact hq7) rfl dX6_nextYear_35 ?_
  refine z_top (v' := A q 2 + 1) (by rw [z_sR_self, z_fl_cp, z_sM_R, z_sR_self]; unfold z_cp; rw [if_neg (by omega), z_uf_self]) ?_
  exact z_iret dX6_nextYear_38 (by first | rfl | omega) (by rw [z_fl_cp]; simp only [z_sM_R, z_sR_R, z_sR_self]; rfl)
theorem tX6_order {G : z_G} {M : z_M} {g : Nat} {N : Int} (hg : g < 7) (hn : M 7 2 = (g : Int)) (h0 : M 7 0 = (g : Int)) (s0 : 0 ≤ M 7 1) (s1 : M 7 1 ≤ 6) (ho : z_W7 M) (hb : z_BI (M g) N) {x : Int} (rx : z_rg x) {f : Int} (rf : z_rg f) (hc : z_c_order (M g) x f = 0) : KX6_order G [.ref (z_ad G 0 20), z_I x, z_I f] M (.inl (some (z_I ((M g) 1)))) (z_sR (z_SC M g) (z_sg g) (z_o_order (M g) x f)) := by
  refine z_con (ls := [some (.ref (z_ad G 0 20)), some (z_I x), some (z_I f)]) (by decide +kernel) (Nat.le_of_ble_eq_true rfl) rfl ?_
  intro Z htb
  refine z_rng fun hr => ?_
  have hh := z_BI_h hb
  unfold z_c_order at hc
  (repeat' split at hc) <;> first | (exfalso; omega; done) | skip
  refine z_aloadn dX6_order_0 rfl ?_
  refine z_iloadn dX6_order_1 rfl ?_
  by_cases e2 : 0 ≤ x ∧ x < M g 0
  · refine kX6_71 (tX6_needPen hg hn (by first | assumption | omega | exact hr _ _ (by omega)) e2) rfl ⟨(Nat.le_of_ble_eq_true rfl), (Nat.le_of_ble_eq_true rfl)⟩ (Nat.le_of_ble_eq_true rfl) dX6_order_2 ?_
    refine z_iloadn dX6_order_5 rfl ?_
    refine z_bipush dX6_order_6 (by decide) ?_
    refine z_ldc (i := 100000) wk_X6_75 dX6_order_8 ?_
    by_cases e10 : 10 ≤ f ∧ f ≤ 100000
    · refine kX6_76 (tX6_needRange (by first | assumption | omega | exact hr _ _ (by omega)) (by first | assumption | omega | exact hr _ _ (by omega)) (by first | assumption | omega | exact hr _ _ (by omega)) e10) rfl ⟨(Nat.le_of_ble_eq_true rfl), (Nat.le_of_ble_eq_true rfl)⟩ (Nat.le_of_ble_eq_true rfl) dX6_order_10 ?_
      refine z_aloadn dX6_order_13 rfl ?_
      refine gX6_44 (by first | exact hn | exact y_An | ((repeat (first | rw [z_sM_row _ _ _ y_7q] | rw [z_sR_ne _ _ y_7q])); exact y_An)) rfl dX6_order_14 ?_
      refine gX6_121 (by first | exact hg | exact hq7) rfl dX6_order_17 ?_
      refine gX6_136 (by first | exact hg | exact hq7) rfl dX6_order_20 ?_
      refine z_bipush dX6_order_23 (by decide) ?_
      refine z_icmp_lt (tgt := 38) (by first | (exact hr _ _ (by decide)) | (exact hr _ _ (by omega)) | omega) (by first | (exact hr _ _ (by decide)) | (exact hr _ _ (by omega)) | omega) dX6_order_25 (by decide) (fun h25 => ?_) (fun h25 => ?_)
      · refine z_aloadn dX6_order_38 rfl ?_
        refine kX6_65 (tX6_save hg hn h0 s0 s1 ho) rfl ⟨(Nat.le_of_ble_eq_true rfl), (Nat.le_of_ble_eq_true rfl)⟩ (Nat.le_of_ble_eq_true rfl) dX6_order_39 ?_
        refine z_rng fun hr => ?_
        obtain ⟨q, y_q⟩ : ∃ q, z_sg g = q := ⟨_, rfl⟩
        have hq7 : q < 7 := by rw [← y_q]; exact z_sg_lt g
        have y_7q : 7 ≠ q := by omega
        obtain ⟨A, y_A⟩ : ∃ A, z_SC M g = A := ⟨_, rfl⟩
        have y_Aq : A q = M g := by rw [← y_A, ← y_q]; exact z_SC_new M g
        have y_An : A 7 2 = (q : Int) := by rw [← y_A, ← y_q]; exact z_SC_72 M g
        rw [y_A, y_q]
        simp only [← y_Aq] at *
        refine z_rng fun hr => ?_
        refine z_aloadn dX6_order_42 rfl ?_
        refine gX6_44 (by first | exact hn | exact y_An | ((repeat (first | rw [z_sM_row _ _ _ y_7q] | rw [z_sR_ne _ _ y_7q])); exact y_An)) rfl dX6_order_43 ?_
        refine gX6_121 (by first | exact hg | exact hq7) rfl dX6_order_46 ?_
        refine z_iloadn dX6_order_49 rfl ?_
        refine z_iloadn dX6_order_50 rfl ?_
        refine kX6_139 (by first | exact hg | exact hq7) (tX4_begin hq7 (by omega) (by omega) (by omega) (by omega) (by omega)) rfl ⟨(Nat.le_of_ble_eq_true rfl), (Nat.le_of_ble_eq_true rfl)⟩ (Nat.le_of_ble_eq_true rfl) dX6_order_51 ?_
        refine z_rng fun hr => ?_
        exact z_iret dX6_order_54 (by first | rfl | omega) (by rw [z_begin_order hb (by omega) (by omega) (by omega)])
      · exfalso; omega
    · exfalso; omega
  · exfalso; omega
theorem tX6_draft {G : z_G} {M : z_M} {g : Nat} {N : Int} (hg : g < 7) (hn : M 7 2 = (g : Int)) (h0 : M 7 0 = (g : Int)) (s0 : 0 ≤ M 7 1) (s1 : M 7 1 ≤ 6) (ho : z_W7 M) (hb : z_BI (M g) N) {k : Int} (rk : z_rg k) {p : Int} (rp : z_rg p) (hc : z_c_draft (M g) k p = 0) : KX6_draft G [.ref (z_ad G 0 20), z_I k, z_I p] M (.inl (some (z_I (z_dst (M g) k)))) (z_sR (z_SC M g) (z_sg g) (z_o_draft (M g) k p)) := by
  refine z_con (ls := [some (.ref (z_ad G 0 20)), some (z_I k), some (z_I p), none]) (by decide +kernel) (Nat.le_of_ble_eq_true rfl) rfl ?_
  intro Z htb
  refine z_rng fun hr => ?_
  have hh := z_BI_h hb
  unfold z_c_draft at hc
  (repeat' split at hc) <;> first | (exfalso; omega; done) | skip
  refine z_aloadn dX6_draft_0 rfl ?_
  refine z_iloadn dX6_draft_1 rfl ?_
  by_cases e2 : 0 ≤ k ∧ k < M g 1
  · refine kX6_143 (tX6_needPiece hg hn (by first | assumption | omega | exact hr _ _ (by omega)) e2) rfl ⟨(Nat.le_of_ble_eq_true rfl), (Nat.le_of_ble_eq_true rfl)⟩ (Nat.le_of_ble_eq_true rfl) dX6_draft_2 ?_
    refine z_aloadn dX6_draft_5 rfl ?_
    refine z_iloadn dX6_draft_6 rfl ?_
    by_cases e7 : 0 ≤ p ∧ p < M g 0
    · refine kX6_71 (tX6_needPen hg hn (by first | assumption | omega | exact hr _ _ (by omega)) e7) rfl ⟨(Nat.le_of_ble_eq_true rfl), (Nat.le_of_ble_eq_true rfl)⟩ (Nat.le_of_ble_eq_true rfl) dX6_draft_7 ?_
      have y_k := z_BI_K hb k (by omega) (by omega)
      unfold z_KI at y_k
      have y_ds : 0 ≤ z_aD (M g) k := z_sm_nn (fun i hi => (z_BI_Q hb k i (by omega) (by omega) (by omega) (by omega)).1)
      refine z_aloadn dX6_draft_10 rfl ?_
      refine z_iloadn dX6_draft_11 rfl ?_
      by_cases e12 : M g (86 + 5 * k + 2) < 3
      · refine kX6_146 (tX6_needUnended hg hn (by omega) (by omega) e12) rfl ⟨(Nat.le_of_ble_eq_true rfl), (Nat.le_of_ble_eq_true rfl)⟩ (Nat.le_of_ble_eq_true rfl) dX6_draft_12 ?_
        refine z_aloadn dX6_draft_15 rfl ?_
        refine gX6_44 (by first | exact hn | exact y_An | ((repeat (first | rw [z_sM_row _ _ _ y_7q] | rw [z_sR_ne _ _ y_7q])); exact y_An)) rfl dX6_draft_16 ?_
        refine gX6_121 (by first | exact hg | exact hq7) rfl dX6_draft_19 ?_
        refine z_iloadn dX6_draft_22 rfl ?_
        refine kX6_149 (by first | exact hg | exact hq7) (tX4_allDrafts hg (by omega) (by omega)) rfl ⟨(Nat.le_of_ble_eq_true rfl), (Nat.le_of_ble_eq_true rfl)⟩ (Nat.le_of_ble_eq_true rfl) dX6_draft_23 ?_
        refine z_istoren_3 dX6_draft_26 (Nat.le_of_ble_eq_true rfl) rfl ?_
        refine z_iloadn dX6_draft_27 rfl ?_
        refine z_bipush dX6_draft_28 (by decide) ?_
        refine z_icmp_lt (tgt := 43) (by first | (exact hr _ _ (by decide)) | (exact hr _ _ (by omega)) | omega) (by first | (exact hr _ _ (by decide)) | (exact hr _ _ (by omega)) | omega) dX6_draft_30 (by decide) (fun h30 => ?_) (fun h30 => ?_)
        · refine z_aloadn dX6_draft_43 rfl ?_
          refine kX6_65 (tX6_save hg hn h0 s0 s1 ho) rfl ⟨(Nat.le_of_ble_eq_true rfl), (Nat.le_of_ble_eq_true rfl)⟩ (Nat.le_of_ble_eq_true rfl) dX6_draft_44 ?_
          refine z_rng fun hr => ?_
          obtain ⟨q, y_q⟩ : ∃ q, z_sg g = q := ⟨_, rfl⟩
          have hq7 : q < 7 := by rw [← y_q]; exact z_sg_lt g
          have y_7q : 7 ≠ q := by omega
          obtain ⟨A, y_A⟩ : ∃ A, z_SC M g = A := ⟨_, rfl⟩
          have y_Aq : A q = M g := by rw [← y_A, ← y_q]; exact z_SC_new M g
          have y_An : A 7 2 = (q : Int) := by rw [← y_A, ← y_q]; exact z_SC_72 M g
          rw [y_A, y_q]
          simp only [← y_Aq] at *
          refine z_rng fun hr => ?_
          refine z_aloadn dX6_draft_47 rfl ?_
          refine gX6_44 (by first | exact hn | exact y_An | ((repeat (first | rw [z_sM_row _ _ _ y_7q] | rw [z_sR_ne _ _ y_7q])); exact y_An)) rfl dX6_draft_48 ?_
          refine gX6_121 (by first | exact hg | exact hq7) rfl dX6_draft_51 ?_
          refine gX6_155 (by first | exact hg | exact hq7) rfl dX6_draft_54 ?_
          refine z_iloadn dX6_draft_57 rfl ?_
          refine z_iloadn dX6_draft_58 rfl ?_
          refine kX6_158 tX6_at rfl ⟨(Nat.le_of_ble_eq_true rfl), (Nat.le_of_ble_eq_true rfl)⟩ (Nat.le_of_ble_eq_true rfl) dX6_draft_59 ?_
          have y_qq := z_BI_Q hb k p (by omega) (by omega) (by omega) (by omega)
          unfold z_QI at y_qq
          have y_ix : (186 : Int) + (12 * k + p) = 186 + 12 * k + p := by omega
          refine z_dup2 dX6_draft_62 rfl rfl ?_
          refine z_iald (by rfl) (by first | exact Or.inl (by decide) | exact Or.inl (Or.inl ⟨by decide, hg⟩) | exact Or.inl (Or.inl ⟨by decide, hq7⟩)) (by omega) (by omega) (by decide) dX6_draft_63 ?_
          refine z_top (v' := A q (186 + 12 * k + p)) (by rw [y_ix]) ?_
          refine z_iconst dX6_draft_64 ?_
          refine z_iadd dX6_draft_65 ?_
          refine z_iast (by rfl) (by first | exact Or.inl (by decide) | exact Or.inl (Or.inl ⟨by decide, hg⟩) | exact Or.inl (Or.inl ⟨by decide, hq7⟩)) (by omega) (by omega) (by decide) (by first | (exact hr _ _ (by decide)) | (exact hr _ _ (by omega)) | omega) dX6_draft_66 ?_
          refine z_rng fun hr => ?_
          refine z_aloadn dX6_draft_67 rfl ?_
          refine gX6_44 (by first | exact hn | exact y_An | ((repeat (first | rw [z_sM_row _ _ _ y_7q] | rw [z_sR_ne _ _ y_7q])); exact y_An)) rfl dX6_draft_68 ?_
          refine gX6_121 (by first | exact hg | exact hq7) rfl dX6_draft_71 ?_
          refine gX6_161 (by first | exact hg | exact hq7) rfl dX6_draft_74 ?_
          refine z_iloadn dX6_draft_77 rfl ?_
          refine z_iloadn dX6_draft_78 rfl ?_
          refine z_if_ne (tgt := 86) (by first | (exact hr _ _ (by decide)) | (exact hr _ _ (by omega)) | omega) dX6_draft_79 (by decide) (fun h79 => ?_) (fun h79 => ?_)
          · refine z_iconst dX6_draft_86 ?_
            refine z_top (v' := z_dst (A q) k) (by unfold z_dst; first | rw [if_pos (by omega)] | rw [if_neg (by omega)]) ?_
            have y_dd : z_dst (A q) k = 1 ∨ z_dst (A q) k = 2 := by unfold z_dst; split <;> omega
            refine z_iast (by rfl) (by first | exact Or.inl (by decide) | exact Or.inl (Or.inl ⟨by decide, hg⟩) | exact Or.inl (Or.inl ⟨by decide, hq7⟩)) (by omega) (by omega) (by decide) (by first | (exact hr _ _ (by decide)) | (exact hr _ _ (by omega)) | omega) dX6_draft_87 ?_
            refine z_rng fun hr => ?_
            refine z_aloadn dX6_draft_88 rfl ?_
            refine gX6_44 (by first | exact hn | exact y_An | ((repeat (first | rw [z_sM_row _ _ _ y_7q] | rw [z_sR_ne _ _ y_7q])); exact y_An)) rfl dX6_draft_89 ?_
            refine gX6_121 (by first | exact hg | exact hq7) rfl dX6_draft_92 ?_
            refine gX6_161 (by first | exact hg | exact hq7) rfl dX6_draft_95 ?_
            refine z_iloadn dX6_draft_98 rfl ?_
            refine z_iald (by rfl) (by first | exact Or.inl (by decide) | exact Or.inl (Or.inl ⟨by decide, hg⟩) | exact Or.inl (Or.inl ⟨by decide, hq7⟩)) (by omega) (by omega) (by decide) dX6_draft_99 ?_
            refine z_top (v' := z_dst (A q) k) (z_sM_self _ _ _ _) ?_
            exact z_iret dX6_draft_100 (by first | rfl | omega) (by rw [y_ix]; simp only [z_sM_R, z_sR_R, z_sR_self]; rfl)
          · refine z_iconst dX6_draft_82 ?_
            refine z_goto (tgt := 87) dX6_draft_83 (by decide) ?_
            refine z_top (v' := z_dst (A q) k) (by unfold z_dst; first | rw [if_pos (by omega)] | rw [if_neg (by omega)]) ?_
            have y_dd : z_dst (A q) k = 1 ∨ z_dst (A q) k = 2 := by unfold z_dst; split <;> omega
            refine z_iast (by rfl) (by first | exact Or.inl (by decide) | exact Or.inl (Or.inl ⟨by decide, hg⟩) | exact Or.inl (Or.inl ⟨by decide, hq7⟩)) (by omega) (by omega) (by decide) (by first | (exact hr _ _ (by decide)) | (exact hr _ _ (by omega)) | omega) dX6_draft_87 ?_
            refine z_rng fun hr => ?_
            refine z_aloadn dX6_draft_88 rfl ?_
            refine gX6_44 (by first | exact hn | exact y_An | ((repeat (first | rw [z_sM_row _ _ _ y_7q] | rw [z_sR_ne _ _ y_7q])); exact y_An)) rfl dX6_draft_89 ?_
            refine gX6_121 (by first | exact hg | exact hq7) rfl dX6_draft_92 ?_
            refine gX6_161 (by first | exact hg | exact hq7) rfl dX6_draft_95 ?_
            refine z_iloadn dX6_draft_98 rfl ?_
            refine z_iald (by rfl) (by first | exact Or.inl (by decide) | exact Or.inl (Or.inl ⟨by decide, hg⟩) | exact Or.inl (Or.inl ⟨by decide, hq7⟩)) (by omega) (by omega) (by decide) dX6_draft_99 ?_
            refine z_top (v' := z_dst (A q) k) (z_sM_self _ _ _ _) ?_
            exact z_iret dX6_draft_100 (by first | rfl | omega) (by rw [y_ix]; simp only [z_sM_R, z_sR_R, z_sR_self]; rfl)
        · exfalso; omega
      · exfalso; omega
    · exfalso; omega
  · exfalso; omega
theorem tX6_revise {G : z_G} {M : z_M} {g : Nat} {N : Int} (hg : g < 7) (hn : M 7 2 = (g : Int)) (h0 : M 7 0 = (g : Int)) (s0 : 0 ≤ M 7 1) (s1 : M 7 1 ≤ 6) (ho : z_W7 M) (hb : z_BI (M g) N) {k : Int} (rk : z_rg k) {f : Int} (rf : z_rg f) (hc : z_c_revise (M g) k f = 0) : KX6_revise G [.ref (z_ad G 0 20), z_I k, z_I f] M (.inl (some (z_I ((M g) (86 + 5 * k + 1))))) (z_sR (z_SC M g) (z_sg g) (z_o_revise (M g) k f)) := by
  refine z_con (ls := [some (.ref (z_ad G 0 20)), some (z_I k), some (z_I f), none]) (by decide +kernel) (Nat.le_of_ble_eq_true rfl) rfl ?_
  intro Z htb
  refine z_rng fun hr => ?_
  have hh := z_BI_h hb
  unfold z_c_revise at hc
  (repeat' split at hc) <;> first | (exfalso; omega; done) | skip
  refine z_aloadn dX6_revise_0 rfl ?_
  refine z_iloadn dX6_revise_1 rfl ?_
  by_cases e2 : 0 ≤ k ∧ k < M g 1
  · refine kX6_143 (tX6_needPiece hg hn (by first | assumption | omega | exact hr _ _ (by omega)) e2) rfl ⟨(Nat.le_of_ble_eq_true rfl), (Nat.le_of_ble_eq_true rfl)⟩ (Nat.le_of_ble_eq_true rfl) dX6_revise_2 ?_
    refine z_iloadn dX6_revise_5 rfl ?_
    refine z_bipush dX6_revise_6 (by decide) ?_
    refine z_ldc (i := 100000) wk_X6_75 dX6_revise_8 ?_
    by_cases e10 : 10 ≤ f ∧ f ≤ 100000
    · refine kX6_76 (tX6_needRange (by first | assumption | omega | exact hr _ _ (by omega)) (by first | assumption | omega | exact hr _ _ (by omega)) (by first | assumption | omega | exact hr _ _ (by omega)) e10) rfl ⟨(Nat.le_of_ble_eq_true rfl), (Nat.le_of_ble_eq_true rfl)⟩ (Nat.le_of_ble_eq_true rfl) dX6_revise_10 ?_
      refine z_aloadn dX6_revise_13 rfl ?_
      refine z_iloadn dX6_revise_14 rfl ?_
      by_cases e15 : M g (86 + 5 * k + 2) < 3
      · refine kX6_146 (tX6_needUnended hg hn (by omega) (by omega) e15) rfl ⟨(Nat.le_of_ble_eq_true rfl), (Nat.le_of_ble_eq_true rfl)⟩ (Nat.le_of_ble_eq_true rfl) dX6_revise_15 ?_
        refine z_aloadn dX6_revise_18 rfl ?_
        refine kX6_65 (tX6_save hg hn h0 s0 s1 ho) rfl ⟨(Nat.le_of_ble_eq_true rfl), (Nat.le_of_ble_eq_true rfl)⟩ (Nat.le_of_ble_eq_true rfl) dX6_revise_19 ?_
        refine z_rng fun hr => ?_
        obtain ⟨q, y_q⟩ : ∃ q, z_sg g = q := ⟨_, rfl⟩
        have hq7 : q < 7 := by rw [← y_q]; exact z_sg_lt g
        have y_7q : 7 ≠ q := by omega
        obtain ⟨A, y_A⟩ : ∃ A, z_SC M g = A := ⟨_, rfl⟩
        have y_Aq : A q = M g := by rw [← y_A, ← y_q]; exact z_SC_new M g
        have y_An : A 7 2 = (q : Int) := by rw [← y_A, ← y_q]; exact z_SC_72 M g
        rw [y_A, y_q]
        simp only [← y_Aq] at *
        refine z_rng fun hr => ?_
        refine z_aloadn dX6_revise_22 rfl ?_
        refine gX6_44 (by first | exact hn | exact y_An | ((repeat (first | rw [z_sM_row _ _ _ y_7q] | rw [z_sR_ne _ _ y_7q])); exact y_An)) rfl dX6_revise_23 ?_
        refine gX6_121 (by first | exact hg | exact hq7) rfl dX6_revise_26 ?_
        refine gX6_164 (by first | exact hg | exact hq7) rfl dX6_revise_29 ?_
        refine z_iloadn dX6_revise_32 rfl ?_
        refine z_iald (by rfl) (by first | exact Or.inl (by decide) | exact Or.inl (Or.inl ⟨by decide, hg⟩) | exact Or.inl (Or.inl ⟨by decide, hq7⟩)) (by omega) (by omega) (by decide) dX6_revise_33 ?_
        refine z_istoren_3 dX6_revise_34 (Nat.le_of_ble_eq_true rfl) rfl ?_
        have y_k := z_BI_K hb k (by omega) (by omega)
        unfold z_KI at y_k
        refine z_aloadn dX6_revise_35 rfl ?_
        refine gX6_44 (by first | exact hn | exact y_An | ((repeat (first | rw [z_sM_row _ _ _ y_7q] | rw [z_sR_ne _ _ y_7q])); exact y_An)) rfl dX6_revise_36 ?_
        refine gX6_121 (by first | exact hg | exact hq7) rfl dX6_revise_39 ?_
        refine gX6_164 (by first | exact hg | exact hq7) rfl dX6_revise_42 ?_
        refine z_iloadn dX6_revise_45 rfl ?_
        refine z_iloadn dX6_revise_46 rfl ?_
        refine z_iast (by rfl) (by first | exact Or.inl (by decide) | exact Or.inl (Or.inl ⟨by decide, hg⟩) | exact Or.inl (Or.inl ⟨by decide, hq7⟩)) (by omega) (by omega) (by decide) (by first | (exact hr _ _ (by decide)) | (exact hr _ _ (by omega)) | omega) dX6_revise_47 ?_
        refine z_rng fun hr => ?_
        refine z_aloadn dX6_revise_48 rfl ?_
        refine gX6_44 (by first | exact hn | exact y_An | ((repeat (first | rw [z_sM_row _ _ _ y_7q] | rw [z_sR_ne _ _ y_7q])); exact y_An)) rfl dX6_revise_49 ?_
        refine gX6_121 (by first | exact hg | exact hq7) rfl dX6_revise_52 ?_
        refine gX6_167 (by first | exact hg | exact hq7) rfl dX6_revise_55 ?_
        refine z_iloadn dX6_revise_58 rfl ?_
        refine z_dup2 dX6_revise_59 rfl rfl ?_
        refine z_iald (by rfl) (by first | exact Or.inl (by decide) | exact Or.inl (Or.inl ⟨by decide, hg⟩) | exact Or.inl (Or.inl ⟨by decide, hq7⟩)) (by omega) (by omega) (by decide) dX6_revise_60 ?_
        refine z_top (v' := A q (86 + 5 * k + 3)) (z_sM_ne _ _ _ (by omega)) ?_
        refine z_iconst dX6_revise_61 ?_
        refine z_iadd dX6_revise_62 ?_
        refine z_iast (by rfl) (by first | exact Or.inl (by decide) | exact Or.inl (Or.inl ⟨by decide, hg⟩) | exact Or.inl (Or.inl ⟨by decide, hq7⟩)) (by omega) (by omega) (by decide) (by first | (exact hr _ _ (by decide)) | (exact hr _ _ (by omega)) | omega) dX6_revise_63 ?_
        refine z_rng fun hr => ?_
        refine z_iloadn dX6_revise_64 rfl ?_
        exact z_iret dX6_revise_65 (by first | rfl | omega) (by simp only [z_sM_R, z_sR_R, z_sR_self]; first | rfl | (congr 1; unfold z_o_revise; funext j; simp only [z_uf]; (repeat' split) <;> first | rfl | omega))
      · exfalso; omega
    · exfalso; omega
  · exfalso; omega
theorem tX6_dispute {G : z_G} {M : z_M} {g : Nat} {N : Int} (hg : g < 7) (hn : M 7 2 = (g : Int)) (h0 : M 7 0 = (g : Int)) (s0 : 0 ≤ M 7 1) (s1 : M 7 1 ≤ 6) (ho : z_W7 M) (hb : z_BI (M g) N) {k : Int} (rk : z_rg k) {p : Int} (rp : z_rg p) (hc : z_c_dispute (M g) k p = 0) : KX6_dispute G [.ref (z_ad G 0 20), z_I k, z_I p] M (.inl (some (z_I (z_gpb (M g) k p)))) (z_sR (z_SC M g) (z_sg g) (z_od (M g) k (z_gpb (M g) k))) := by
  refine z_con (ls := [some (.ref (z_ad G 0 20)), some (z_I k), some (z_I p)]) (by decide +kernel) (Nat.le_of_ble_eq_true rfl) rfl ?_
  intro Z htb
  refine z_rng fun hr => ?_
  have hh := z_BI_h hb
  unfold z_c_dispute at hc
  (repeat' split at hc) <;> first | (exfalso; omega; done) | skip
  refine z_aloadn dX6_dispute_0 rfl ?_
  refine z_iloadn dX6_dispute_1 rfl ?_
  by_cases e2 : 0 ≤ k ∧ k < M g 1
  · refine kX6_143 (tX6_needPiece hg hn (by first | assumption | omega | exact hr _ _ (by omega)) e2) rfl ⟨(Nat.le_of_ble_eq_true rfl), (Nat.le_of_ble_eq_true rfl)⟩ (Nat.le_of_ble_eq_true rfl) dX6_dispute_2 ?_
    refine z_aloadn dX6_dispute_5 rfl ?_
    refine z_iloadn dX6_dispute_6 rfl ?_
    by_cases e7 : 0 ≤ p ∧ p < M g 0
    · refine kX6_71 (tX6_needPen hg hn (by first | assumption | omega | exact hr _ _ (by omega)) e7) rfl ⟨(Nat.le_of_ble_eq_true rfl), (Nat.le_of_ble_eq_true rfl)⟩ (Nat.le_of_ble_eq_true rfl) dX6_dispute_7 ?_
      refine z_aloadn dX6_dispute_10 rfl ?_
      refine gX6_44 (by first | exact hn | exact y_An | ((repeat (first | rw [z_sM_row _ _ _ y_7q] | rw [z_sR_ne _ _ y_7q])); exact y_An)) rfl dX6_dispute_11 ?_
      refine gX6_121 (by first | exact hg | exact hq7) rfl dX6_dispute_14 ?_
      refine z_iloadn dX6_dispute_17 rfl ?_
      refine kX6_226 (by first | exact hg | exact hq7) (tX4_disputers hg hb (by omega) (by omega)) rfl ⟨(Nat.le_of_ble_eq_true rfl), (Nat.le_of_ble_eq_true rfl)⟩ (Nat.le_of_ble_eq_true rfl) dX6_dispute_18 ?_
      refine z_iloadn dX6_dispute_21 rfl ?_
      have y_w := z_wd_rg (M g) k 12 (by decide)
      have y_wb := z_wd_bit (b := M g) (k := k) 12 (by decide) p (by omega)
      refine kX6_229 (tX6_isIn (by omega) (by omega) (by omega) (by omega)) rfl ⟨(Nat.le_of_ble_eq_true rfl), (Nat.le_of_ble_eq_true rfl)⟩ (Nat.le_of_ble_eq_true rfl) dX6_dispute_22 ?_
      refine z_ifb_ne (tgt := 38) dX6_dispute_25 (by decide) (fun h25 => ?_) (fun h25 => ?_)
      · have y_k := z_BI_K hb k (by omega) (by omega)
        unfold z_KI at y_k
        refine z_aloadn dX6_dispute_38 rfl ?_
        refine kX6_65 (tX6_save hg hn h0 s0 s1 ho) rfl ⟨(Nat.le_of_ble_eq_true rfl), (Nat.le_of_ble_eq_true rfl)⟩ (Nat.le_of_ble_eq_true rfl) dX6_dispute_39 ?_
        refine z_rng fun hr => ?_
        obtain ⟨q, y_q⟩ : ∃ q, z_sg g = q := ⟨_, rfl⟩
        have hq7 : q < 7 := by rw [← y_q]; exact z_sg_lt g
        have y_7q : 7 ≠ q := by omega
        obtain ⟨A, y_A⟩ : ∃ A, z_SC M g = A := ⟨_, rfl⟩
        have y_Aq : A q = M g := by rw [← y_A, ← y_q]; exact z_SC_new M g
        have y_An : A 7 2 = (q : Int) := by rw [← y_A, ← y_q]; exact z_SC_72 M g
        rw [y_A, y_q]
        simp only [← y_Aq] at *
        refine z_rng fun hr => ?_
        refine z_aloadn dX6_dispute_42 rfl ?_
        refine gX6_44 (by first | exact hn | exact y_An | ((repeat (first | rw [z_sM_row _ _ _ y_7q] | rw [z_sR_ne _ _ y_7q])); exact y_An)) rfl dX6_dispute_43 ?_
        refine gX6_121 (by first | exact hg | exact hq7) rfl dX6_dispute_46 ?_
        refine z_iloadn dX6_dispute_49 rfl ?_
        refine kX6_235 (by first | exact hg | exact hq7) (tX4_takePartsFromDrafts hq7 hb (by omega) (by omega)) rfl ⟨(Nat.le_of_ble_eq_true rfl), (Nat.le_of_ble_eq_true rfl)⟩ (Nat.le_of_ble_eq_true rfl) dX6_dispute_50 ?_
        refine z_rng fun hr => ?_
        refine z_aloadn dX6_dispute_53 rfl ?_
        refine gX6_44 (by first | exact hn | exact y_An | ((repeat (first | rw [z_sM_row _ _ _ y_7q] | rw [z_sR_ne _ _ y_7q])); exact y_An)) rfl dX6_dispute_54 ?_
        refine gX6_121 (by first | exact hg | exact hq7) rfl dX6_dispute_57 ?_
        refine gX6_167 (by first | exact hg | exact hq7) rfl dX6_dispute_60 ?_
        refine z_iloadn dX6_dispute_63 rfl ?_
        refine z_dup2 dX6_dispute_64 rfl rfl ?_
        refine z_iald (by rfl) (by first | exact Or.inl (by decide) | exact Or.inl (Or.inl ⟨by decide, hg⟩) | exact Or.inl (Or.inl ⟨by decide, hq7⟩)) (by omega) (by omega) (by decide) dX6_dispute_65 ?_
        refine z_top (v' := A q (86 + 5 * k + 3)) (by rw [z_sR_self]; unfold z_cp; rw [if_neg (by omega)]) ?_
        refine z_iconst dX6_dispute_66 ?_
        refine z_iadd dX6_dispute_67 ?_
        refine z_iast (by rfl) (by first | exact Or.inl (by decide) | exact Or.inl (Or.inl ⟨by decide, hg⟩) | exact Or.inl (Or.inl ⟨by decide, hq7⟩)) (by omega) (by omega) (by decide) (by first | (exact hr _ _ (by decide)) | (exact hr _ _ (by omega)) | omega) dX6_dispute_68 ?_
        refine z_rng fun hr => ?_
        refine z_aloadn dX6_dispute_69 rfl ?_
        refine gX6_44 (by first | exact hn | exact y_An | ((repeat (first | rw [z_sM_row _ _ _ y_7q] | rw [z_sR_ne _ _ y_7q])); exact y_An)) rfl dX6_dispute_70 ?_
        refine z_dup dX6_dispute_73 rfl ?_
        refine gX6_238 (by first | exact hg | exact hq7) rfl dX6_dispute_74 ?_
        refine z_top (v' := A q 6) ((z_sM_ne _ _ _ (by omega)).trans (by rw [z_sR_self]; unfold z_cp; rw [if_neg (by omega)])) ?_
        refine z_iconst dX6_dispute_77 ?_
        refine z_iadd dX6_dispute_78 ?_
        refine pX6_238 (by first | exact hg | exact hq7) (by first | (exact hr _ _ (by decide)) | (exact hr _ _ (by omega)) | omega) rfl dX6_dispute_79 ?_
        refine z_rng fun hr => ?_
        refine z_aloadn dX6_dispute_82 rfl ?_
        refine gX6_44 (by first | exact hn | exact y_An | ((repeat (first | rw [z_sM_row _ _ _ y_7q] | rw [z_sR_ne _ _ y_7q])); exact y_An)) rfl dX6_dispute_83 ?_
        refine gX6_121 (by first | exact hg | exact hq7) rfl dX6_dispute_86 ?_
        refine gX6_241 (by first | exact hg | exact hq7) rfl dX6_dispute_89 ?_
        refine z_iloadn dX6_dispute_92 rfl ?_
        refine z_iloadn dX6_dispute_93 rfl ?_
        refine kX6_158 tX6_at rfl ⟨(Nat.le_of_ble_eq_true rfl), (Nat.le_of_ble_eq_true rfl)⟩ (Nat.le_of_ble_eq_true rfl) dX6_dispute_94 ?_
        refine z_iald (by rfl) (by first | exact Or.inl (by decide) | exact Or.inl (Or.inl ⟨by decide, hg⟩) | exact Or.inl (Or.inl ⟨by decide, hq7⟩)) (by omega) (by omega) (by decide) dX6_dispute_97 ?_
        refine z_top (v' := z_gpb (A q) k p) ((z_sM_ne _ _ _ (by omega)).trans ((z_sM_ne _ _ _ (by omega)).trans (by rw [z_sR_self]; unfold z_cp; rw [if_pos (by omega)]; congr 1; omega))) ?_
        exact z_iret dX6_dispute_98 (by first | rfl | omega) (by simp only [z_sM_R, z_sR_R, z_sR_self]; first | rfl | (congr 1; unfold z_od; funext j; simp only [z_uf]; (repeat' split) <;> first | rfl | omega))
      · have y_no : ¬ z_cd (M g) k p := fun q => h25 (y_wb.mpr ⟨by omega, q⟩)
        exfalso; omega
    · exfalso; omega
  · exfalso; omega
