theorem z_Lf_o (M : z_M) {j : Int} (hj : j < 5 ∨ 9 < j) : z_Lf M j = M 21 j := by
  have h := z_rd_o (M 25) hj (M 21 3).toNat 0 (z_f0 (M 21)) (z_r0 (M 26))
  have h0 : z_f0 (M 21) j = M 21 j := by
    unfold z_f0
    rw [z_uf_ne _ _ (by omega), z_uf_ne _ _ (by omega), z_uf_ne _ _ (by omega)]
  unfold z_Lf
  split
  · unfold z_endf
    rw [z_uf_ne _ _ (by omega), z_uf_ne _ _ (by omega), h, h0]
  · rw [h, h0]
theorem z_Lr_rg (M : z_M) : ∀ p, 0 ≤ p → p < 12 → 0 ≤ z_Lr M p ∧ z_Lr M p ≤ 9 := by
  have h := z_rd_PF (M 25) (M 21 3).toNat 0 (z_f0 (M 21)) (z_r0 (M 26)) (z_PF_0 _ _)
  obtain ⟨h1, h2, h3, h4, h5, h6, h7, h8, h9⟩ := h
  intro p p0 p1
  unfold z_Lr
  split
  · rename_i q
    have hq : (z_R0 M).2.1 5 = 2 ∨ (z_R0 M).2.1 5 = 4 ∨ ((z_R0 M).2.1 5 = 1 ∧ ¬ z_us (z_R0 M).2.1 1) := q.2
    have q8 := (h8 (by unfold z_R0 at hq; omega)).2.2 (by unfold z_R0 at hq; omega)
    unfold z_endr z_uf
    split
    · exact ⟨by unfold z_R0; omega, by unfold z_R0; omega⟩
    · exact h9 p p0 p1
  · exact h9 p p0 p1
abbrev z_MX (M : z_M) : z_M := z_t2 (z_sM M 21 4 0) (z_Lf (z_sM M 21 4 0)) (z_Lr (z_sM M 21 4 0))
abbrev z_shok (M : z_M) : Prop := z_isL (z_sM M 21 4 0) ∧ z_sm 12 (fun p => if M 22 0 ≤ p ∧ z_Lr (z_sM M 21 4 0) p ≠ 0 then 1 else 0) = 0
def z_c_share (M : z_M) (k : Int) : Int := if ¬ (0 ≤ k ∧ k < M 22 1) then 1 else if ¬ z_shok M then 2 else if M 22 (86 + 5 * k + 2) = 4 then 3 else 0
def z_o_share (b : Int → Int) (k : Int) (r : Int → Int) : Int → Int := z_uf (z_cp b r (426 + 12 * k) 0 12) (86 + 5 * k + 3) (b (86 + 5 * k + 3) + 1)
theorem z_MX_22 (M : z_M) : z_MX M 22 = M 22 := by
  show z_t2 _ _ _ 22 = _
  rw [z_t2_ne _ _ _ (by decide) (by decide), z_sM_row _ _ _ (by decide)]
theorem z_MX_212 (M : z_M) : z_MX M 21 2 = M 21 2 := by
  show z_t2 _ _ _ 21 2 = _
  rw [z_t2_21, z_Lf_o _ (by omega), z_sM_ne _ _ _ (by decide)]
theorem z_MX_26 (M : z_M) : z_MX M 26 = z_Lr (z_sM M 21 4 0) := z_t2_26 _ _ _
theorem tX7_share {G : z_G} {M : z_M} {N k c : Int} (hb : z_BI (M 22) N) (hs0 : 0 ≤ M 21 2) (hs1 : M 21 2 ≤ 6) (l0 : 0 ≤ M 21 3) (l1 : M 21 3 ≤ 60) (tx : ∀ i, 0 ≤ i → i < M 21 3 → 33 ≤ M 25 i ∧ M 25 i ≤ 126) (rk : z_rg k) (hc : z_c_share M k = c) : KX7_share G [.ref (z_ad G 0 40), z_I k] M (.inl (some (z_I (if c = 0 then z_sm 12 (fun p => z_Lr (z_sM M 21 4 0) p) else 0)))) (if c = 1 then z_sM M 21 4 1 else if c = 0 then z_sM (z_sR (z_SV (z_MX M)) 22 (z_o_share (M 22) k (z_Lr (z_sM M 21 4 0)))) 21 3 0 else z_sM (z_MX M) 21 4 c) := by
  refine z_con (ls := [some (.ref (z_ad G 0 40)), some (z_I k), none]) (by decide +kernel) (Nat.le_of_ble_eq_true rfl) rfl ?_
  intro Z htb
  refine z_rng fun hr => ?_
  have hh := z_BI_h hb
  have y_r := z_Lr_rg (z_sM M 21 4 0)
  refine z_aloadn dX7_share_0 rfl ?_
  refine z_iconst dX7_share_1 ?_
  refine pX7_40 (by first | (exact hr _ _ (by decide)) | omega) rfl dX7_share_2 ?_
  refine z_rng fun hr => ?_
  have hz : z_sM M 21 4 0 22 = M 22 := z_sM_row _ _ _ (by decide)
  rw [← hz] at hh
  refine z_aloadn dX7_share_5 rfl ?_
  refine z_iloadn dX7_share_6 rfl ?_
  refine kX7_77 (tX7_isPiece rk (by omega)) rfl ⟨(Nat.le_of_ble_eq_true rfl), (Nat.le_of_ble_eq_true rfl)⟩ (Nat.le_of_ble_eq_true rfl) dX7_share_7 ?_
  refine z_ifb_ne (tgt := 19) dX7_share_10 (by decide) (fun h10 => ?_) (fun h10 => ?_)
  · rw [hz] at h10 hh
    refine z_aloadn dX7_share_19 rfl ?_
    refine kX7_127 (tX7_isList (by rw [z_sM_ne _ _ _ (by decide)]; exact l0) (by rw [z_sM_ne _ _ _ (by decide)]; exact l1) (by rw [z_sM_ne _ _ _ (by decide), z_sM_row _ _ _ (by decide)]; exact tx)) rfl ⟨(Nat.le_of_ble_eq_true rfl), (Nat.le_of_ble_eq_true rfl)⟩ (Nat.le_of_ble_eq_true rfl) dX7_share_20 ?_
    refine z_mem (M' := z_MX M) rfl ?_
    have y_m := z_MX_22 M
    have y_s := z_MX_212 M
    have y_q := z_MX_26 M
    generalize hX : z_MX M = MX at y_m y_s y_q ⊢
    refine z_rng fun hr => ?_
    refine z_ifb_eq (tgt := 33) dX7_share_23 (by decide) (fun h23 => ?_) (fun h23 => ?_)
    · obtain rfl : c = 2 := by rw [← hc]; unfold z_c_share; rw [if_neg (fun q => q h10), if_pos (fun q => by first | exact h23 q.1 | (rw [y_m, y_q] at h30; exact h30 q.2))]
      refine z_aloadn dX7_share_33 rfl ?_
      refine z_iconst dX7_share_34 ?_
      refine kX7_55 (tX7_fails (by first | decide | omega)) rfl ⟨(Nat.le_of_ble_eq_true rfl), (Nat.le_of_ble_eq_true rfl)⟩ (Nat.le_of_ble_eq_true rfl) dX7_share_35 ?_
      refine z_rng fun hr => ?_
      exact z_iret dX7_share_38 (if_neg (by decide)).symm (by rw [if_neg (by decide), if_neg (by decide)])
    · refine z_aloadn dX7_share_26 rfl ?_
      refine kX7_130 (tX7_areThere (by rw [y_m]; omega) (by rw [y_m]; omega)) rfl ⟨(Nat.le_of_ble_eq_true rfl), (Nat.le_of_ble_eq_true rfl)⟩ (Nat.le_of_ble_eq_true rfl) dX7_share_27 ?_
      refine z_ifb_ne (tgt := 39) dX7_share_30 (by decide) (fun h30 => ?_) (fun h30 => ?_)
      · rw [y_m, y_q] at h30
        have y_k := z_BI_K hb k (by omega) (by omega)
        unfold z_KI at y_k
        have y_ok : ¬ ¬ z_shok M := fun q => q ⟨h23, h30⟩
        refine z_aloadn dX7_share_39 rfl ?_
        refine z_iloadn dX7_share_40 rfl ?_
        refine z_iconst dX7_share_41 ?_
        refine kX7_80 (tX7_in (by omega) (by omega)) rfl ⟨(Nat.le_of_ble_eq_true rfl), (Nat.le_of_ble_eq_true rfl)⟩ (Nat.le_of_ble_eq_true rfl) dX7_share_42 ?_
        refine z_iconst dX7_share_45 ?_
        refine z_icmp_ne (tgt := 55) (by first | (exact hr _ _ (by decide)) | omega) (by first | (exact hr _ _ (by decide)) | omega) dX7_share_46 (by decide) (fun h46 => ?_) (fun h46 => ?_)
        · rw [y_m] at h46
          obtain rfl : c = 0 := by rw [← hc]; unfold z_c_share; rw [if_neg (fun q => q h10), if_neg y_ok, if_neg h46]
          refine z_aloadn dX7_share_55 rfl ?_
          refine kX7_58 (tX7_save (by rw [y_s]; exact hs0) (by rw [y_s]; exact hs1)) rfl ⟨(Nat.le_of_ble_eq_true rfl), (Nat.le_of_ble_eq_true rfl)⟩ (Nat.le_of_ble_eq_true rfl) dX7_share_56 ?_
          generalize hM1 : z_SV MX = M1
          have y_1 : M1 22 = M 22 := by rw [← hM1, z_SV_row (by decide) (by decide)]; exact y_m
          have y_2 : M1 26 = z_Lr (z_sM M 21 4 0) := by rw [← hM1, z_SV_row (by decide) (by decide)]; exact y_q
          refine z_rng fun hr => ?_
          refine z_iconst dX7_share_59 ?_
          refine z_istoren_2 dX7_share_60 (Nat.le_of_ble_eq_true rfl) rfl ?_
          refine z_mem (M' := z_sR M1 22 (z_cp (M1 22) (M1 26) (426 + 12 * k) 0 ((0 : Nat) : Int))) (by rw [show ((0 : Nat) : Int) = 0 from rfl, z_cp_0, z_sR_id]) ?_
          refine z_upn (P := fun i : Nat => z_J G Z _ _ 61 [some (.ref (z_ad G 0 40)), some (z_I k), some (z_I i)] [] (z_sR M1 22 (z_cp (M1 22) (M1 26) (426 + 12 * k) 0 i)) 0 0) 12 ?_ ?_
          · refine z_rng fun hr => ?_
            refine z_iloadn dX7_share_61 rfl ?_
            refine z_bipush dX7_share_62 (by decide) ?_
            refine z_icmp_ge (tgt := 94) (by first | (exact hr _ _ (by decide)) | omega) (by first | (exact hr _ _ (by decide)) | omega) dX7_share_64 (by decide) (fun h64 => ?_) (fun h64 => ?_)
            · generalize hB : z_cp (M1 22) (M1 26) (426 + 12 * k) 0 ((12 : Nat) : Int) = B
              have y_b : B (86 + 5 * k + 3) = M 22 (86 + 5 * k + 3) := by rw [← hB, y_1]; unfold z_cp; rw [if_neg (by omega)]
              refine z_aloadn dX7_share_94 rfl ?_
              refine gX7_7 rfl dX7_share_95 ?_
              refine z_bipush dX7_share_98 (by decide) ?_
              refine z_iconst dX7_share_100 ?_
              refine z_iloadn dX7_share_101 rfl ?_
              refine z_imul dX7_share_102 ?_
              refine z_iadd dX7_share_103 ?_
              refine z_iconst dX7_share_104 ?_
              refine z_iadd dX7_share_105 ?_
              refine z_dup2 dX7_share_106 rfl rfl ?_
              refine z_iald (by rfl) (by first | decide | exact Or.inl ⟨by decide, hg⟩) (by omega) (by omega) (by decide) dX7_share_107 ?_
              refine z_iconst dX7_share_108 ?_
              refine z_iadd dX7_share_109 ?_
              refine z_iast (by rfl) (by first | decide | exact Or.inl ⟨by decide, hg⟩) (by omega) (by omega) (by decide) (by rw [z_sR_self, y_b]; omega) dX7_share_110 ?_
              refine z_rng fun hr => ?_
              refine z_aloadn dX7_share_111 rfl ?_
              refine z_iconst dX7_share_112 ?_
              refine pX7_117 (by first | (exact hr _ _ (by decide)) | omega) rfl dX7_share_113 ?_
              refine z_rng fun hr => ?_
              refine z_aloadn dX7_share_116 rfl ?_
              refine z_iloadn dX7_share_117 rfl ?_
              refine kX7_133 (tX7_allParts (by omega) (by omega)) rfl ⟨(Nat.le_of_ble_eq_true rfl), (Nat.le_of_ble_eq_true rfl)⟩ (Nat.le_of_ble_eq_true rfl) dX7_share_118 ?_
              exact z_iret dX7_share_121 (by rw [if_pos rfl, z_sM_row _ _ _ (by decide), z_sM_sR, z_sR_self, ← hB]; refine z_sm_eq fun p hp => ?_; rw [z_uf_ne _ _ (by omega), y_2]; unfold z_cp; rw [if_pos (by omega)]; congr 1; omega) (by rw [if_neg (by decide), if_pos rfl, z_sM_sR, z_sR_self, y_b, ← hB, y_1, y_2]; rfl)
            · exfalso; omega
          · intro i hi y_ih
            refine z_rng fun hr => ?_
            refine z_iloadn dX7_share_61 rfl ?_
            refine z_bipush dX7_share_62 (by decide) ?_
            refine z_icmp_ge (tgt := 94) (by first | (exact hr _ _ (by decide)) | omega) (by first | (exact hr _ _ (by decide)) | omega) dX7_share_64 (by decide) (fun h64 => ?_) (fun h64 => ?_)
            · exfalso; omega
            · refine z_aloadn dX7_share_67 rfl ?_
              refine gX7_7 rfl dX7_share_68 ?_
              refine z_sipush dX7_share_71 (by decide) ?_
              refine z_bipush dX7_share_74 (by decide) ?_
              refine z_iloadn dX7_share_76 rfl ?_
              refine z_imul dX7_share_77 ?_
              refine z_iadd dX7_share_78 ?_
              refine z_iloadn dX7_share_79 rfl ?_
              refine z_iadd dX7_share_80 ?_
              refine z_aloadn dX7_share_81 rfl ?_
              refine gX7_22 rfl dX7_share_82 ?_
              refine z_iloadn dX7_share_85 rfl ?_
              refine z_iald (by rfl) (by first | decide | exact Or.inl ⟨by decide, hg⟩) (by omega) (by omega) (by decide) dX7_share_86 ?_
              refine z_iast (by rfl) (by first | decide | exact Or.inl ⟨by decide, hg⟩) (by omega) (by omega) (by decide) (by first | (exact hr _ _ (by decide)) | omega) dX7_share_87 ?_
              refine z_rng fun hr => ?_
              refine z_iinc_2 dX7_share_88 (Nat.le_of_ble_eq_true rfl) rfl ?_
              refine z_goto (tgt := 61) dX7_share_91 (by decide) ?_
              refine z_mem ?_ y_ih
              rw [z_sM_sR]
              congr 1
              refine z_cp_s _ _ _ _ i (by omega) ?_
              rw [z_sR_ne _ _ (by decide)]; congr 1; omega
        · rw [y_m] at h46
          obtain rfl : c = 3 := by rw [← hc]; unfold z_c_share; rw [if_neg (fun q => q h10), if_neg y_ok, if_pos h46]
          refine z_aloadn dX7_share_49 rfl ?_
          refine z_iconst dX7_share_50 ?_
          refine kX7_55 (tX7_fails (by first | decide | omega)) rfl ⟨(Nat.le_of_ble_eq_true rfl), (Nat.le_of_ble_eq_true rfl)⟩ (Nat.le_of_ble_eq_true rfl) dX7_share_51 ?_
          refine z_rng fun hr => ?_
          exact z_iret dX7_share_54 (if_neg (by decide)).symm (by rw [if_neg (by decide), if_neg (by decide)])
      · obtain rfl : c = 2 := by rw [← hc]; unfold z_c_share; rw [if_neg (fun q => q h10), if_pos (fun q => by first | exact h23 q.1 | (rw [y_m, y_q] at h30; exact h30 q.2))]
        refine z_aloadn dX7_share_33 rfl ?_
        refine z_iconst dX7_share_34 ?_
        refine kX7_55 (tX7_fails (by first | decide | omega)) rfl ⟨(Nat.le_of_ble_eq_true rfl), (Nat.le_of_ble_eq_true rfl)⟩ (Nat.le_of_ble_eq_true rfl) dX7_share_35 ?_
        refine z_rng fun hr => ?_
        exact z_iret dX7_share_38 (if_neg (by decide)).symm (by rw [if_neg (by decide), if_neg (by decide)])
  · rw [hz] at h10
    obtain rfl : c = 1 := by rw [← hc]; unfold z_c_share; rw [if_pos h10]
    refine z_wide (Nat.le_refl _) (Nat.le_refl _) ?_
    refine z_aloadn dX7_share_13 rfl ?_
    refine z_iconst dX7_share_14 ?_
    refine kX7_55 (tX7_fails (by first | decide | omega)) rfl ⟨(Nat.le_of_ble_eq_true rfl), (Nat.le_of_ble_eq_true rfl)⟩ (Nat.le_of_ble_eq_true rfl) dX7_share_15 ?_
    refine z_rng fun hr => ?_
    exact z_iret dX7_share_18 (if_neg (by decide)).symm (by rw [if_pos rfl, z_sM_sM])
