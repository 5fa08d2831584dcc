/-! ===== the reference: save, pens, orders ===== -/
theorem tX7_save_l {G : z_G} {M : z_M} (h0 : 0 ≤ M 21 2) (h1 : M 21 2 < 6) : KX7_save G [.ref (z_ad G 0 40)] M (.inl none) (z_SV M) := by
  refine z_con (ls := [some (.ref (z_ad G 0 40)), none]) (by decide +kernel) (Nat.le_of_ble_eq_true rfl) rfl ?_
  intro Z htb
  refine z_rng fun hr => ?_
  have := hr 21 2 (by decide)
  refine z_aloadn dX7_save_0 rfl ?_
  refine gX7_48 rfl dX7_save_1 ?_
  refine z_bipush dX7_save_4 (by decide) ?_
  refine z_icmp_ne (tgt := 50) (by first | (exact hr _ _ (by decide)) | omega) (by first | (exact hr _ _ (by decide)) | omega) dX7_save_6 (by decide) (fun h6 => ?_) (fun h6 => ?_)
  · refine z_iconst dX7_save_50 ?_
    refine z_istoren_1 dX7_save_51 (Nat.le_of_ble_eq_true rfl) rfl ?_
    refine z_mem (M' := z_sR M 24 (z_cp (M 24) (M 22) (906 * M 21 2) 0 ((0 : Nat) : Int))) (by rw [show ((0 : Nat) : Int) = 0 from rfl, z_cp_0, z_sR_id]) ?_
    refine z_upn (P := fun i : Nat => z_J G Z _ _ 52 [some (.ref (z_ad G 0 40)), some (z_I i)] [] (z_sR M 24 (z_cp (M 24) (M 22) (906 * M 21 2) 0 i)) 0 0) 906 ?_ ?_
    · have e21 : z_sR M 24 (z_cp (M 24) (M 22) (906 * M 21 2) 0 ((906 : Nat) : Int)) 21 = M 21 := z_sR_ne _ _ (by decide)
      refine z_iloadn dX7_save_52 rfl ?_
      refine z_sipush dX7_save_53 (by decide) ?_
      refine z_icmp_ge (tgt := 86) (by first | (exact hr _ _ (by decide)) | omega) (by first | (exact hr _ _ (by decide)) | omega) dX7_save_56 (by decide) (fun h56 => ?_) (fun h56 => ?_)
      · refine z_aloadn dX7_save_86 rfl ?_
        refine z_dup dX7_save_87 rfl ?_
        refine gX7_48 rfl dX7_save_88 ?_
        refine z_iconst dX7_save_91 ?_
        refine z_iadd dX7_save_92 ?_
        refine pX7_48 (by rw [e21]; omega) rfl dX7_save_93 ?_
        refine z_rng fun hr => ?_
        exact z_vret dX7_save_96 (by unfold z_SV z_rows z_rn; rw [if_neg (by omega), if_neg (by omega), e21]; rfl)
      · exfalso; omega
    · intro i hi ih
      have e21 : z_sR M 24 (z_cp (M 24) (M 22) (906 * M 21 2) 0 i) 21 = M 21 := z_sR_ne _ _ (by decide)
      refine z_iloadn dX7_save_52 rfl ?_
      refine z_sipush dX7_save_53 (by decide) ?_
      refine z_icmp_ge (tgt := 86) (by first | (exact hr _ _ (by decide)) | omega) (by first | (exact hr _ _ (by decide)) | omega) dX7_save_56 (by decide) (fun h56 => ?_) (fun h56 => ?_)
      · exfalso; omega
      · refine z_aloadn dX7_save_59 rfl ?_
        refine gX7_16 rfl dX7_save_60 ?_
        refine z_sipush dX7_save_63 (by decide) ?_
        refine z_aloadn dX7_save_66 rfl ?_
        refine gX7_48 rfl dX7_save_67 ?_
        refine z_imul dX7_save_70 ?_
        refine z_iloadn dX7_save_71 rfl ?_
        refine z_iadd dX7_save_72 ?_
        refine z_aloadn dX7_save_73 rfl ?_
        refine gX7_7 rfl dX7_save_74 ?_
        refine z_iloadn dX7_save_77 rfl ?_
        refine z_iald (by rfl) (by first | decide | exact Or.inl ⟨by decide, hg⟩) (by omega) (by omega) (by decide) dX7_save_78 ?_
        refine z_iast (by rfl) (by first | decide | exact Or.inl ⟨by decide, hg⟩) (by rw [e21]; omega) (by rw [e21]; omega) (by decide) (by first | (exact hr _ _ (by decide)) | omega) dX7_save_79 ?_
        refine z_rng fun hr => ?_
        refine z_iinc_1 dX7_save_80 (Nat.le_of_ble_eq_true rfl) rfl ?_
        refine z_goto (tgt := 52) dX7_save_83 (by decide) ?_
        refine z_mem ?_ ih
        rw [z_sM_sR]
        congr 1
        refine z_cp_s _ _ _ _ i (by rw [e21]) ?_
        rw [z_sR_ne _ _ (by decide)]; congr 1; omega
  · exfalso; omega
