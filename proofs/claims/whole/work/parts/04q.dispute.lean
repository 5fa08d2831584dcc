def z_c_dispute (b : Int → Int) (k p : Int) : Int := if ¬ (0 ≤ k ∧ k < b 1) ∨ ¬ (0 ≤ p ∧ p < b 0) then 1 else if z_cd b k p then 0 else 2
/-- the parts by the drafts of the writers -/
def z_gp (b : Int → Int) (k : Int) (w : Int → Int) (m : Int) : Int → Int := fun p => if z_cw w m p ≠ 0 then b (186 + 12 * k + p) else 0
def z_o_dispute (b : Int → Int) (k : Int) (w : Int → Int) (m : Int) : Int → Int := z_uf (z_uf (z_cp b (z_gp b k w m) (426 + 12 * k) 0 12) (86 + 5 * k + 3) (b (86 + 5 * k + 3) + 1)) 6 (b 6 + 1)
def z_c_append (l c : Int) : Int := if ¬ (33 ≤ c ∧ c ≤ 126) then 1 else if l = 60 then 2 else 0
theorem tX7_dispute {G : z_G} {M : z_M} {N c k p : Int} (hb : z_BI (M 22) N) (hs0 : 0 ≤ M 21 2) (hs1 : M 21 2 ≤ 6) (rk : z_rg k) (rp : z_rg p) (hc : z_c_dispute (M 22) k p = c) : KX7_dispute G [.ref (z_ad G 0 40), z_I k, z_I p] M (.inl (some (z_I (if c = 0 then z_gp (M 22) k (z_WS (M 22) k (M 29)) (z_WR (M 22) k (M 29)).2 p else 0)))) (if c = 0 then z_sR (z_w9 (z_SV (z_sM M 21 4 0)) (z_WS (M 22) k (M 29)) (z_WR (M 22) k (M 29)).2) 22 (z_o_dispute (M 22) k (z_WS (M 22) k (M 29)) (z_WR (M 22) k (M 29)).2) else z_sM M 21 4 c) := by
  refine z_con (ls := [some (.ref (z_ad G 0 40)), some (z_I k), some (z_I p), none]) (by decide +kernel) (Nat.le_of_ble_eq_true rfl) rfl ?_
  intro Z htb
  refine z_rng fun hr => ?_
  refine z_aloadn dX7_dispute_0 rfl ?_
  refine z_iconst dX7_dispute_1 ?_
  refine pX7_40 (by first | (exact hr _ _ (by decide)) | omega) rfl dX7_dispute_2 ?_
  refine z_rng fun hr => ?_
  generalize hM0 : z_sM M 21 4 0 = M0
  have hz : M0 22 = M 22 := by rw [← hM0]; exact z_sM_row _ _ _ (by decide)
  have hz2 : M0 21 2 = M 21 2 := by rw [← hM0]; exact z_sM_ne _ _ _ (by decide)
  rw [hM0] at hr
  rw [← hz] at hb hc
  rw [← hz2] at hs0 hs1
  have hh := z_BI_h hb
  refine z_aloadn dX7_dispute_5 rfl ?_
  refine z_iloadn dX7_dispute_6 rfl ?_
  refine kX7_77 (tX7_isPiece (by first | (exact hr _ _ (by decide)) | omega) (by first | assumption | omega)) rfl ⟨(Nat.le_of_ble_eq_true rfl), (Nat.le_of_ble_eq_true rfl)⟩ (Nat.le_of_ble_eq_true rfl) dX7_dispute_7 ?_
  refine z_ifb_eq (tgt := 21) dX7_dispute_10 (by decide) (fun h10 => ?_) (fun h10 => ?_)
  · refine z_aloadn dX7_dispute_21 rfl ?_
    refine z_iconst dX7_dispute_22 ?_
    refine kX7_55 (tX7_fails (by first | decide | omega)) rfl ⟨(Nat.le_of_ble_eq_true rfl), (Nat.le_of_ble_eq_true rfl)⟩ (Nat.le_of_ble_eq_true rfl) dX7_dispute_23 ?_
    refine z_rng fun hr => ?_
    obtain rfl : c = 1 := by rw [← hc]; unfold z_c_dispute; (repeat' split) <;> omega
    exact z_iret dX7_dispute_26 (if_neg (by decide)).symm (by rw [if_neg (by decide), ← hM0, z_sM_sM])
  · refine z_aloadn dX7_dispute_13 rfl ?_
    refine z_iloadn dX7_dispute_14 rfl ?_
    refine kX7_65 (tX7_isPen (by first | (exact hr _ _ (by decide)) | omega) (by first | assumption | omega)) rfl ⟨(Nat.le_of_ble_eq_true rfl), (Nat.le_of_ble_eq_true rfl)⟩ (Nat.le_of_ble_eq_true rfl) dX7_dispute_15 ?_
    refine z_ifb_ne (tgt := 27) dX7_dispute_18 (by decide) (fun h18 => ?_) (fun h18 => ?_)
    · refine z_aloadn dX7_dispute_27 rfl ?_
      refine z_iloadn dX7_dispute_28 rfl ?_
      refine z_iloadn dX7_dispute_29 rfl ?_
      refine kX7_172 (tX7_canDispute hb (by omega) (by omega) (by omega) (by omega)) rfl ⟨(Nat.le_of_ble_eq_true rfl), (Nat.le_of_ble_eq_true rfl)⟩ (Nat.le_of_ble_eq_true rfl) dX7_dispute_30 ?_
      refine z_ifb_ne (tgt := 42) dX7_dispute_33 (by decide) (fun h33 => ?_) (fun h33 => ?_)
      · refine z_aloadn dX7_dispute_42 rfl ?_
        refine kX7_58 (tX7_save hs0 hs1) rfl ⟨(Nat.le_of_ble_eq_true rfl), (Nat.le_of_ble_eq_true rfl)⟩ (Nat.le_of_ble_eq_true rfl) dX7_dispute_43 ?_
        refine z_rng fun hr => ?_
        generalize hM1 : z_SV M0 = M1
        have hz1 : M1 22 = M0 22 := by rw [← hM1]; exact z_SV_row (by decide) (by decide)
        obtain rfl : c = 0 := by rw [← hc]; unfold z_c_dispute; (repeat' split) <;> omega
        have hq := hz1.trans hz
        rw [hM1] at hr
        rw [← hz1] at hb hc
        have hh := z_BI_h hb
        have y_29 : M1 29 = M 29 := by rw [← hM1, z_SV_row (by decide) (by decide), ← hM0]; rfl
        try rw [← hz1] at h10
        try rw [← hz1] at h18
        try rw [← hz1] at h33
        refine z_aloadn dX7_dispute_46 rfl ?_
        refine z_iloadn dX7_dispute_47 rfl ?_
        refine kX7_176 (tX7_layWriters hb (by omega) (by omega)) rfl ⟨(Nat.le_of_ble_eq_true rfl), (Nat.le_of_ble_eq_true rfl)⟩ (Nat.le_of_ble_eq_true rfl) dX7_dispute_48 ?_
        have y_k := z_BI_K hb k (by omega) (by omega)
        unfold z_KI at y_k
        have y_Q := fun p p0 p1 => z_BI_Q hb k p (by omega) (by omega) p0 p1
        have y_m := z_wst_m (z_dr (M1 22) k) (M1 22 0).toNat (M1 29) 4
        change 0 ≤ (z_WR (M1 22) k (M1 29)).2 ∧ (z_WR (M1 22) k (M1 29)).2 ≤ (4 : Int) ∧ _ at y_m
        obtain ⟨W, y_W⟩ : ∃ W, z_WS (M1 22) k (M1 29) = W := ⟨_, rfl⟩
        obtain ⟨m, y_M⟩ : ∃ m, (z_WR (M1 22) k (M1 29)).2 = m := ⟨_, rfl⟩
        rw [y_M] at y_m
        refine z_mem (M' := z_w9 M1 W m) (by rw [y_W, y_M]) ?_
        generalize y_X : z_w9 M1 W m = X
        have y_x22 : X 22 = M1 22 := by rw [← y_X]; rfl
        have y_x29 : X 29 = W := by rw [← y_X]; rfl
        have y_x21 : X 21 0 = m := by rw [← y_X]; rfl
        refine z_rng fun hr => ?_
        refine z_iconst dX7_dispute_51 ?_
        refine z_istoren_3 dX7_dispute_52 (Nat.le_of_ble_eq_true rfl) rfl ?_
        refine z_mem (M' := z_sR X 22 (z_cp (M1 22) (z_gp (M1 22) k W m) (426 + 12 * k) 0 ((0 : Nat) : Int))) (by rw [show ((0 : Nat) : Int) = 0 from rfl, z_cp_0, ← y_x22, z_sR_id]) ?_
        refine z_upn (P := fun i : Nat => z_J G Z _ _ 53 [some (.ref (z_ad G 0 40)), some (z_I k), some (z_I p), some (z_I i)] [] (z_sR X 22 (z_cp (M1 22) (z_gp (M1 22) k W m) (426 + 12 * k) 0 i)) 0 0) 12 ?_ ?_
        · refine z_rng fun hr => ?_
          refine z_iloadn dX7_dispute_53 rfl ?_
          refine z_bipush dX7_dispute_54 (by decide) ?_
          refine z_icmp_ge (tgt := 98) (by first | (exact hr _ _ (by decide)) | omega) (by first | (exact hr _ _ (by decide)) | omega) dX7_dispute_56 (by decide) (fun h56 => ?_) (fun h56 => ?_)
          · generalize hB : z_cp (M1 22) (z_gp (M1 22) k W m) (426 + 12 * k) 0 ((12 : Nat) : Int) = B
            have y_b : B (86 + 5 * k + 3) = M1 22 (86 + 5 * k + 3) := by rw [← hB]; unfold z_cp; rw [if_neg (by omega)]
            have y_b6 : B 6 = M1 22 6 := by rw [← hB]; unfold z_cp; rw [if_neg (by omega)]
            have y_bp : B (426 + 12 * k + p) = z_gp (M1 22) k W m p := by rw [← hB]; unfold z_cp; rw [if_pos (by omega)]; congr 1; omega
            refine z_aloadn dX7_dispute_98 rfl ?_
            refine gX7_7 rfl dX7_dispute_99 ?_
            refine z_bipush dX7_dispute_102 (by decide) ?_
            refine z_iconst dX7_dispute_104 ?_
            refine z_iloadn dX7_dispute_105 rfl ?_
            refine z_imul dX7_dispute_106 ?_
            refine z_iadd dX7_dispute_107 ?_
            refine z_iconst dX7_dispute_108 ?_
            refine z_iadd dX7_dispute_109 ?_
            refine z_dup2 dX7_dispute_110 rfl rfl ?_
            refine z_iald (by rfl) (by first | decide | exact Or.inl ⟨by decide, hg⟩) (by omega) (by omega) (by decide) dX7_dispute_111 ?_
            refine z_top (v' := M1 22 (86 + 5 * k + 3)) (by rw [z_sR_self]; exact y_b) ?_
            refine z_iconst dX7_dispute_112 ?_
            refine z_iadd dX7_dispute_113 ?_
            refine z_iast (by rfl) (by first | decide | exact Or.inl ⟨by decide, hg⟩) (by omega) (by omega) (by decide) (by first | (exact hr _ _ (by decide)) | omega) dX7_dispute_114 ?_
            refine z_rng fun hr => ?_
            refine z_aloadn dX7_dispute_115 rfl ?_
            refine gX7_7 rfl dX7_dispute_116 ?_
            refine z_bipush dX7_dispute_119 (by decide) ?_
            refine z_dup2 dX7_dispute_121 rfl rfl ?_
            refine z_iald (by rfl) (by first | decide | exact Or.inl ⟨by decide, hg⟩) (by omega) (by omega) (by decide) dX7_dispute_122 ?_
            refine z_top (v' := M1 22 6) ((z_sM_ne _ _ _ (by omega)).trans (by rw [z_sR_self]; exact y_b6)) ?_
            refine z_iconst dX7_dispute_123 ?_
            refine z_iadd dX7_dispute_124 ?_
            refine z_iast (by rfl) (by first | decide | exact Or.inl ⟨by decide, hg⟩) (by omega) (by omega) (by decide) (by first | (exact hr _ _ (by decide)) | omega) dX7_dispute_125 ?_
            refine z_rng fun hr => ?_
            refine z_aloadn dX7_dispute_126 rfl ?_
            refine z_iloadn dX7_dispute_127 rfl ?_
            refine z_iloadn dX7_dispute_128 rfl ?_
            refine kX7_143 (tX7_partsOf (by omega) (by omega)) rfl ⟨(Nat.le_of_ble_eq_true rfl), (Nat.le_of_ble_eq_true rfl)⟩ (Nat.le_of_ble_eq_true rfl) dX7_dispute_129 ?_
            exact z_iret dX7_dispute_132 (by rw [if_pos rfl, ← hq, ← y_29, y_W, y_M]; refine (z_sM_ne _ _ _ (by omega)).trans ((z_sM_ne _ _ _ (by omega)).trans (by rw [z_sR_self]; exact y_bp))) (by rw [if_pos rfl, ← hq, ← y_29, y_W, y_M, y_X]; show _ = z_sR X 22 (z_uf (z_uf (z_cp (M1 22) (z_gp (M1 22) k W m) (426 + 12 * k) 0 ((12 : Nat) : Int)) _ _) _ _); rw [hB, z_sM_sR, z_sM_sR])
          · exfalso; omega
        · intro i hi y_ih
          refine z_rng fun hr => ?_
          have y_qi := y_Q i (by omega) (by omega)
          unfold z_QI at y_qi
          have y_g : z_gp (M1 22) k W m i = if z_cw W m i ≠ 0 then M1 22 (186 + 12 * k + i) else 0 := rfl
          refine z_iloadn dX7_dispute_53 rfl ?_
          refine z_bipush dX7_dispute_54 (by decide) ?_
          refine z_icmp_ge (tgt := 98) (by first | (exact hr _ _ (by decide)) | omega) (by first | (exact hr _ _ (by decide)) | omega) dX7_dispute_56 (by decide) (fun h56 => ?_) (fun h56 => ?_)
          · exfalso; omega
          · refine z_aloadn dX7_dispute_59 rfl ?_
            refine gX7_7 rfl dX7_dispute_60 ?_
            refine z_sipush dX7_dispute_63 (by decide) ?_
            refine z_bipush dX7_dispute_66 (by decide) ?_
            refine z_iloadn dX7_dispute_68 rfl ?_
            refine z_imul dX7_dispute_69 ?_
            refine z_iadd dX7_dispute_70 ?_
            refine z_iloadn dX7_dispute_71 rfl ?_
            refine z_iadd dX7_dispute_72 ?_
            refine z_aloadn dX7_dispute_73 rfl ?_
            refine z_iloadn dX7_dispute_74 rfl ?_
            refine kX7_169 (tX7_isWriter (by omega) (by show 0 ≤ X 21 0; omega) (by show X 21 0 ≤ 4; omega)) rfl ⟨(Nat.le_of_ble_eq_true rfl), (Nat.le_of_ble_eq_true rfl)⟩ (Nat.le_of_ble_eq_true rfl) dX7_dispute_75 ?_
            refine z_ifb_eq (tgt := 90) dX7_dispute_78 (by decide) (fun h78 => ?_) (fun h78 => ?_)
            · change ¬ z_cw (X 29) (X 21 0) (i : Int) ≠ 0 at h78
              rw [y_x29, y_x21] at h78
              refine z_iconst dX7_dispute_90 ?_
              refine z_iast (by rfl) (by first | decide | exact Or.inl ⟨by decide, hg⟩) (by omega) (by omega) (by decide) (by first | (exact hr _ _ (by decide)) | omega) dX7_dispute_91 ?_
              refine z_rng fun hr => ?_
              refine z_iinc_3 dX7_dispute_92 (Nat.le_of_ble_eq_true rfl) rfl ?_
              refine z_goto (tgt := 53) dX7_dispute_95 (by decide) ?_
              refine z_mem ?_ y_ih
              rw [z_sM_sR]
              congr 1
              exact z_cp_s _ _ _ _ i (by omega) (by rw [Int.zero_add, y_g]; first | rw [if_pos h78] | rw [if_neg h78])
            · change z_cw (X 29) (X 21 0) (i : Int) ≠ 0 at h78
              rw [y_x29, y_x21] at h78
              refine z_aloadn dX7_dispute_81 rfl ?_
              refine z_iloadn dX7_dispute_82 rfl ?_
              refine z_iloadn dX7_dispute_83 rfl ?_
              refine kX7_163 (tX7_drafts (by omega) (by omega)) rfl ⟨(Nat.le_of_ble_eq_true rfl), (Nat.le_of_ble_eq_true rfl)⟩ (Nat.le_of_ble_eq_true rfl) dX7_dispute_84 ?_
              refine z_top (v' := M1 22 (186 + 12 * k + i)) (by rw [z_sR_self]; unfold z_cp; rw [if_neg (by omega)]) ?_
              refine z_goto (tgt := 91) dX7_dispute_87 (by decide) ?_
              refine z_iast (by rfl) (by first | decide | exact Or.inl ⟨by decide, hg⟩) (by omega) (by omega) (by decide) (by first | (exact hr _ _ (by decide)) | omega) dX7_dispute_91 ?_
              refine z_rng fun hr => ?_
              refine z_iinc_3 dX7_dispute_92 (Nat.le_of_ble_eq_true rfl) rfl ?_
              refine z_goto (tgt := 53) dX7_dispute_95 (by decide) ?_
              refine z_mem ?_ y_ih
              rw [z_sM_sR]
              congr 1
              exact z_cp_s _ _ _ _ i (by omega) (by rw [Int.zero_add, y_g]; first | rw [if_pos h78] | rw [if_neg h78])
      · refine z_aloadn dX7_dispute_36 rfl ?_
        refine z_iconst dX7_dispute_37 ?_
        refine kX7_55 (tX7_fails (by first | decide | omega)) rfl ⟨(Nat.le_of_ble_eq_true rfl), (Nat.le_of_ble_eq_true rfl)⟩ (Nat.le_of_ble_eq_true rfl) dX7_dispute_38 ?_
        refine z_rng fun hr => ?_
        obtain rfl : c = 2 := by rw [← hc]; unfold z_c_dispute; (repeat' split) <;> omega
        exact z_iret dX7_dispute_41 (if_neg (by decide)).symm (by rw [if_neg (by decide), ← hM0, z_sM_sM])
    · refine z_aloadn dX7_dispute_21 rfl ?_
      refine z_iconst dX7_dispute_22 ?_
      refine kX7_55 (tX7_fails (by first | decide | omega)) rfl ⟨(Nat.le_of_ble_eq_true rfl), (Nat.le_of_ble_eq_true rfl)⟩ (Nat.le_of_ble_eq_true rfl) dX7_dispute_23 ?_
      refine z_rng fun hr => ?_
      obtain rfl : c = 1 := by rw [← hc]; unfold z_c_dispute; (repeat' split) <;> omega
      exact z_iret dX7_dispute_26 (if_neg (by decide)).symm (by rw [if_neg (by decide), ← hM0, z_sM_sM])
theorem tX7_append {G : z_G} {M : z_M} {l x c : Int} (rx : z_rg x) (hl : M 21 3 = l) (l0 : 0 ≤ l) (l1 : l ≤ 60) (hc : z_c_append l x = c) : KX7_append G [.ref (z_ad G 0 40), z_I x] M (.inl (some (z_I (if c = 0 then l + 1 else 0)))) (if c = 0 then z_sM (z_sM (z_sM M 21 4 0) 25 l x) 21 3 (l + 1) else z_sM M 21 4 c) := by
  refine z_con (ls := [some (.ref (z_ad G 0 40)), some (z_I x)]) (by decide +kernel) (Nat.le_of_ble_eq_true rfl) rfl ?_
  intro Z htb
  refine z_rng fun hr => ?_
  refine z_aloadn dX7_append_0 rfl ?_
  refine z_iconst dX7_append_1 ?_
  refine pX7_40 (by first | (exact hr _ _ (by decide)) | omega) rfl dX7_append_2 ?_
  refine z_rng fun hr => ?_
  generalize hM0 : z_sM M 21 4 0 = M0
  have hz : ∀ a, a ≠ 21 → M0 a = M a := fun a h => by rw [← hM0]; exact z_sM_row _ _ _ h
  have hz1 : ∀ i, i ≠ 4 → M0 21 i = M 21 i := fun i h => by rw [← hM0]; exact z_sM_ne _ _ _ h
  rw [hM0] at hr
  have y_l : M0 21 3 = l := (hz1 3 (by decide)).trans hl
  refine z_iloadn dX7_append_5 rfl ?_
  refine z_bipush dX7_append_6 (by decide) ?_
  refine z_bipush dX7_append_8 (by decide) ?_
  refine kX7_44 (tX7_within (by first | (exact hr _ _ (by decide)) | omega) (by first | (exact hr _ _ (by decide)) | omega) (by first | (exact hr _ _ (by decide)) | omega)) rfl ⟨(Nat.le_of_ble_eq_true rfl), (Nat.le_of_ble_eq_true rfl)⟩ (Nat.le_of_ble_eq_true rfl) dX7_append_10 ?_
  refine z_ifb_ne (tgt := 22) dX7_append_13 (by decide) (fun h13 => ?_) (fun h13 => ?_)
  · refine z_aloadn dX7_append_22 rfl ?_
    refine gX7_117 rfl dX7_append_23 ?_
    refine z_top (v' := l) y_l ?_
    refine z_bipush dX7_append_26 (by decide) ?_
    refine z_icmp_ne (tgt := 37) (by first | (exact hr _ _ (by decide)) | omega) (by first | (exact hr _ _ (by decide)) | omega) dX7_append_28 (by decide) (fun h28 => ?_) (fun h28 => ?_)
    · refine z_aloadn dX7_append_37 rfl ?_
      refine gX7_19 rfl dX7_append_38 ?_
      refine z_aloadn dX7_append_41 rfl ?_
      refine gX7_117 rfl dX7_append_42 ?_
      refine z_top (v' := l) y_l ?_
      obtain rfl : c = 0 := by rw [← hc]; unfold z_c_append; (repeat' split) <;> omega
      refine z_iloadn dX7_append_45 rfl ?_
      refine z_iast (by rfl) (by first | decide | exact Or.inl ⟨by decide, hg⟩) (by omega) (by omega) (by decide) (by first | (exact hr _ _ (by decide)) | omega) dX7_append_46 ?_
      refine z_rng fun hr => ?_
      refine z_aloadn dX7_append_47 rfl ?_
      refine z_dup dX7_append_48 rfl ?_
      refine gX7_117 rfl dX7_append_49 ?_
      refine z_top (v' := l) ((congrFun (z_sM_row _ _ _ (by decide)) _).trans y_l) ?_
      refine z_iconst dX7_append_52 ?_
      refine z_iadd dX7_append_53 ?_
      refine pX7_117 (by first | (exact hr _ _ (by decide)) | omega) rfl dX7_append_54 ?_
      refine z_rng fun hr => ?_
      refine z_aloadn dX7_append_57 rfl ?_
      refine gX7_117 rfl dX7_append_58 ?_
      refine z_top (v' := l + 1) (z_sM_self _ _ _ _) ?_
      exact z_iret dX7_append_61 (if_pos rfl).symm (by rw [if_pos rfl])
    · refine z_aloadn dX7_append_31 rfl ?_
      refine z_iconst dX7_append_32 ?_
      refine kX7_55 (tX7_fails (by first | decide | omega)) rfl ⟨(Nat.le_of_ble_eq_true rfl), (Nat.le_of_ble_eq_true rfl)⟩ (Nat.le_of_ble_eq_true rfl) dX7_append_33 ?_
      refine z_rng fun hr => ?_
      obtain rfl : c = 2 := by rw [← hc]; unfold z_c_append; (repeat' split) <;> omega
      exact z_iret dX7_append_36 (if_neg (by decide)).symm (by rw [if_neg (by decide), ← hM0, z_sM_sM])
  · refine z_aloadn dX7_append_16 rfl ?_
    refine z_iconst dX7_append_17 ?_
    refine kX7_55 (tX7_fails (by first | decide | omega)) rfl ⟨(Nat.le_of_ble_eq_true rfl), (Nat.le_of_ble_eq_true rfl)⟩ (Nat.le_of_ble_eq_true rfl) dX7_append_18 ?_
    refine z_rng fun hr => ?_
    obtain rfl : c = 1 := by rw [← hc]; unfold z_c_append; (repeat' split) <;> omega
    exact z_iret dX7_append_21 (if_neg (by decide)).symm (by rw [if_neg (by decide), ← hM0, z_sM_sM])
theorem tX7_clearBuffer {G : z_G} {M : z_M} : KX7_clearBuffer G [.ref (z_ad G 0 40)] M (.inl (some (z_I (M 21 3)))) (z_sM (z_sM M 21 4 0) 21 3 0) := by
  refine z_con (ls := [some (.ref (z_ad G 0 40)), none]) (by decide +kernel) (Nat.le_of_ble_eq_true rfl) rfl ?_
  intro Z htb
  refine z_rng fun hr => ?_
  refine z_aloadn dX7_clearBuffer_0 rfl ?_
  refine z_iconst dX7_clearBuffer_1 ?_
  refine pX7_40 (by first | (exact hr _ _ (by decide)) | omega) rfl dX7_clearBuffer_2 ?_
  refine z_rng fun hr => ?_
  refine z_aloadn dX7_clearBuffer_5 rfl ?_
  refine gX7_117 rfl dX7_clearBuffer_6 ?_
  refine z_istoren_1 dX7_clearBuffer_9 (Nat.le_of_ble_eq_true rfl) rfl ?_
  refine z_aloadn dX7_clearBuffer_10 rfl ?_
  refine z_iconst dX7_clearBuffer_11 ?_
  refine pX7_117 (by first | (exact hr _ _ (by decide)) | omega) rfl dX7_clearBuffer_12 ?_
  refine z_rng fun hr => ?_
  refine z_iloadn dX7_clearBuffer_15 rfl ?_
  exact z_iret dX7_clearBuffer_16 (z_sM_ne _ _ _ (by decide)) rfl
theorem tX7_firstError {G : z_G} {M : z_M} {R : Int × (Int → Int) × (Int → Int)} (l0 : 0 ≤ M 21 3) (l1 : M 21 3 ≤ 60) (tx : ∀ i, 0 ≤ i → i < M 21 3 → 33 ≤ M 25 i ∧ M 25 i ≤ 126) (hR : z_R0 (z_sM M 21 4 0) = R) : KX7_firstError G [.ref (z_ad G 0 40)] M (.inl (some (z_I R.1))) (z_t2 (z_sM M 21 4 0) R.2.1 R.2.2) := by
  refine z_con (ls := [some (.ref (z_ad G 0 40))]) (by decide +kernel) (Nat.le_of_ble_eq_true rfl) rfl ?_
  intro Z htb
  refine z_rng fun hr => ?_
  refine z_aloadn dX7_firstError_0 rfl ?_
  refine z_iconst dX7_firstError_1 ?_
  refine pX7_40 (by first | (exact hr _ _ (by decide)) | omega) rfl dX7_firstError_2 ?_
  refine z_rng fun hr => ?_
  refine z_aloadn dX7_firstError_5 rfl ?_
  refine kX7_123 (tX7_read (by rw [z_sM_ne _ _ _ (by decide)]; exact l0) (by rw [z_sM_ne _ _ _ (by decide)]; exact l1) (by rw [z_sM_ne _ _ _ (by decide), z_sM_row _ _ _ (by decide)]; exact tx) hR) rfl ⟨(Nat.le_of_ble_eq_true rfl), (Nat.le_of_ble_eq_true rfl)⟩ (Nat.le_of_ble_eq_true rfl) dX7_firstError_6 ?_
  refine z_rng fun hr => ?_
  exact z_iret dX7_firstError_9 (by first | rfl | omega) rfl
theorem tX7_undo {G : z_G} {M : z_M} {s c : Int} (hs : M 21 2 = s) (s0 : 0 ≤ s) (s1 : s ≤ 6) (hc : (if s = 0 then 1 else 0) = c) : KX7_undo G [.ref (z_ad G 0 40)] M (.inl (some (z_I (if c = 0 then s - 1 else 0)))) (if c = 0 then z_sR (z_sM (z_sM M 21 4 0) 21 2 (s - 1)) 22 (z_cp (M 22) (M 24) 0 (906 * (s - 1)) 906) else z_sM M 21 4 c) := by
  refine z_con (ls := [some (.ref (z_ad G 0 40)), none]) (by decide +kernel) (Nat.le_of_ble_eq_true rfl) rfl ?_
  intro Z htb
  refine z_rng fun hr => ?_
  refine z_aloadn dX7_undo_0 rfl ?_
  refine z_iconst dX7_undo_1 ?_
  refine pX7_40 (by first | (exact hr _ _ (by decide)) | omega) rfl dX7_undo_2 ?_
  refine z_rng fun hr => ?_
  generalize hM0 : z_sM M 21 4 0 = M0
  have hz : ∀ a, a ≠ 21 → M0 a = M a := fun a h => by rw [← hM0]; exact z_sM_row _ _ _ h
  have hz1 : ∀ i, i ≠ 4 → M0 21 i = M 21 i := fun i h => by rw [← hM0]; exact z_sM_ne _ _ _ h
  rw [hM0] at hr
  have y_s : M0 21 2 = s := (hz1 2 (by decide)).trans hs
  refine z_aloadn dX7_undo_5 rfl ?_
  refine gX7_48 rfl dX7_undo_6 ?_
  refine z_top (v' := s) y_s ?_
  refine z_if_ne (tgt := 18) (by first | (exact hr _ _ (by decide)) | omega) dX7_undo_9 (by decide) (fun h9 => ?_) (fun h9 => ?_)
  · refine z_aloadn dX7_undo_18 rfl ?_
    refine z_dup dX7_undo_19 rfl ?_
    refine gX7_48 rfl dX7_undo_20 ?_
    refine z_top (v' := s) y_s ?_
    refine z_iconst dX7_undo_23 ?_
    refine z_isub dX7_undo_24 ?_
    refine pX7_48 (by first | (exact hr _ _ (by decide)) | omega) rfl dX7_undo_25 ?_
    refine z_rng fun hr => ?_
    obtain rfl : c = 0 := by rw [← hc, if_neg (by omega)]
    generalize y_X : z_sM M0 21 2 (s - 1) = X
    have y_2 : X 21 2 = s - 1 := by rw [← y_X]; exact z_sM_self _ _ _ _
    have y_22 : X 22 = M 22 := by rw [← y_X, z_sM_row _ _ _ (by decide)]; exact hz 22 (by decide)
    have y_24 : X 24 = M 24 := by rw [← y_X, z_sM_row _ _ _ (by decide)]; exact hz 24 (by decide)
    refine z_iconst dX7_undo_28 ?_
    refine z_istoren_1 dX7_undo_29 (Nat.le_of_ble_eq_true rfl) rfl ?_
    refine z_mem (M' := z_sR X 22 (z_cp (X 22) (X 24) 0 (906 * (s - 1)) ((0 : Nat) : Int))) (by rw [show ((0 : Nat) : Int) = 0 from rfl, z_cp_0, z_sR_id]) ?_
    refine z_upn (P := fun i : Nat => z_J G Z _ _ 30 [some (.ref (z_ad G 0 40)), some (z_I i)] [] (z_sR X 22 (z_cp (X 22) (X 24) 0 (906 * (s - 1)) i)) 0 0) 906 ?_ ?_
    · refine z_rng fun hr => ?_
      refine z_iloadn dX7_undo_30 rfl ?_
      refine z_sipush dX7_undo_31 (by decide) ?_
      refine z_icmp_ge (tgt := 64) (by first | (exact hr _ _ (by decide)) | omega) (by first | (exact hr _ _ (by decide)) | omega) dX7_undo_34 (by decide) (fun h34 => ?_) (fun h34 => ?_)
      · refine z_aloadn dX7_undo_64 rfl ?_
        refine gX7_48 rfl dX7_undo_65 ?_
        refine z_top (v' := s - 1) y_2 ?_
        exact z_iret dX7_undo_68 (if_pos rfl).symm (by rw [if_pos rfl, y_22, y_24]; rfl)
      · exfalso; omega
    · intro i hi y_ih
      refine z_rng fun hr => ?_
      refine z_iloadn dX7_undo_30 rfl ?_
      refine z_sipush dX7_undo_31 (by decide) ?_
      refine z_icmp_ge (tgt := 64) (by first | (exact hr _ _ (by decide)) | omega) (by first | (exact hr _ _ (by decide)) | omega) dX7_undo_34 (by decide) (fun h34 => ?_) (fun h34 => ?_)
      · exfalso; omega
      · refine z_aloadn dX7_undo_37 rfl ?_
        refine gX7_7 rfl dX7_undo_38 ?_
        refine z_iloadn dX7_undo_41 rfl ?_
        refine z_aloadn dX7_undo_42 rfl ?_
        refine gX7_16 rfl dX7_undo_43 ?_
        refine z_sipush dX7_undo_46 (by decide) ?_
        refine z_aloadn dX7_undo_49 rfl ?_
        refine gX7_48 rfl dX7_undo_50 ?_
        refine z_top (v' := s - 1) y_2 ?_
        refine z_imul dX7_undo_53 ?_
        refine z_iloadn dX7_undo_54 rfl ?_
        refine z_iadd dX7_undo_55 ?_
        refine z_iald (by rfl) (by first | decide | exact Or.inl ⟨by decide, hg⟩) (by omega) (by omega) (by decide) dX7_undo_56 ?_
        refine z_iast (by rfl) (by first | decide | exact Or.inl ⟨by decide, hg⟩) (by omega) (by omega) (by decide) (by first | (exact hr _ _ (by decide)) | omega) dX7_undo_57 ?_
        refine z_rng fun hr => ?_
        refine z_iinc_1 dX7_undo_58 (Nat.le_of_ble_eq_true rfl) rfl ?_
        refine z_goto (tgt := 30) dX7_undo_61 (by decide) ?_
        refine z_mem ?_ y_ih
        rw [z_sM_sR]
        congr 1
        exact z_cp_s _ _ _ _ i (by omega) rfl
  · obtain rfl : c = 1 := by rw [← hc, if_pos (by omega)]
    refine z_aloadn dX7_undo_12 rfl ?_
    refine z_iconst dX7_undo_13 ?_
    refine kX7_55 (tX7_fails (by first | decide | omega)) rfl ⟨(Nat.le_of_ble_eq_true rfl), (Nat.le_of_ble_eq_true rfl)⟩ (Nat.le_of_ble_eq_true rfl) dX7_undo_14 ?_
    refine z_rng fun hr => ?_
    exact z_iret dX7_undo_17 (if_neg (by decide)).symm (by rw [if_neg (by decide), ← hM0, z_sM_sM])
