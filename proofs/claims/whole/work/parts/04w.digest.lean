theorem tX7_mixPiece {G : z_G} {M : z_M} {N k : Int} (hb : z_BI (M 22) N) (k0 : 0 ≤ k) (k1 : k < 20) : KX7_mixPiece G [.ref (z_ad G 0 40), z_I k] M (.inl none) (z_mpM M k) := by
  refine z_con (ls := [some (.ref (z_ad G 0 40)), some (z_I k), none, none]) (by decide +kernel) (Nat.le_of_ble_eq_true rfl) rfl ?_
  intro Z htb
  refine z_rng fun hr => ?_
  have hh := z_BI_h hb
  refine z_iconst dX7_mixPiece_0 ?_
  refine z_istoren_2 dX7_mixPiece_1 (Nat.le_of_ble_eq_true rfl) rfl ?_
  refine z_mem (M' := z_sM M 20 0 (M 20 0)) (z_sM_id _ _ _).symm ?_
  refine z_upn (P := fun i : Nat => z_J G Z _ _ 2 [some (.ref (z_ad G 0 40)), some (z_I k), some (z_I i), none] [] (z_sM M 20 0 (z_hm (fun w => z_iw (z_kv (M 22) k w)) (M 20 0) i)) 0 0) 10 ?_ ?_
  · refine z_rng fun hr => ?_
    refine z_iloadn dX7_mixPiece_2 rfl ?_
    refine z_bipush dX7_mixPiece_3 (by decide) ?_
    refine z_icmp_ge (tgt := 25) (by first | (exact hr _ _ (by decide)) | omega) (by first | (exact hr _ _ (by decide)) | omega) dX7_mixPiece_5 (by decide) (fun h5 => ?_) (fun h5 => ?_)
    · obtain ⟨A, y_A⟩ : ∃ A, z_sM M 20 0 (z_hm (fun w => z_iw (z_kv (M 22) k w)) (M 20 0) ((10 : Nat) : Nat)) = A := ⟨_, rfl⟩
      have y_A22 : A 22 = M 22 := by rw [← y_A]; exact z_sM_row _ _ _ (by decide)
      have y_hb : z_BI (A 22) N := by rw [y_A22]; exact hb
      rw [y_A]
      refine z_aloadn dX7_mixPiece_25 rfl ?_
      refine z_iloadn dX7_mixPiece_26 rfl ?_
      refine kX7_233 (tX7_layFairest y_hb (by omega) (by omega)) rfl ⟨(Nat.le_of_ble_eq_true rfl), (Nat.le_of_ble_eq_true rfl)⟩ (Nat.le_of_ble_eq_true rfl) dX7_mixPiece_27 ?_
      refine z_rng fun hr => ?_
      have y_B : z_fM A k = z_mpB M k := by rw [← y_A]; rfl
      rw [y_B]
      obtain ⟨B, y_B⟩ : ∃ B, z_mpB M k = B := ⟨_, rfl⟩
      have y_B22 : B 22 = M 22 := by rw [← y_B]; exact z_mpB_row M k (by decide)
      have y_B20 : B 20 0 = z_h1 (M 22) k (M 20 0) := by rw [← y_B]; rfl
      have y_B21 : B 21 0 = (z_WR (M 22) k (M 29)).2 := by rw [← y_B]; rfl
      have y_B29 : B 29 = z_WS (M 22) k (M 29) := by rw [← y_B]; rfl
      have y_B30 : ∀ j, 0 ≤ j → j < (z_WR (M 22) k (M 29)).2 → B 30 j = z_dg (z_fm (M 22) k (M 29)) (z_fc (M 22) k (M 29)) j := fun j j0 j1 => by rw [← y_B]; exact z_fM_30 (M := z_sM M 20 0 (z_h1 (M 22) k (M 20 0))) j0 j1
      have y_e : z_sM B 20 0 (z_hq (M 22) k (M 29) (z_h1 (M 22) k (M 20 0)) (M 22 0).toNat) = z_mpM M k := by rw [← y_B]; rfl
      rw [y_B]
      refine z_iconst dX7_mixPiece_30 ?_
      refine z_istoren_2 dX7_mixPiece_31 (Nat.le_of_ble_eq_true rfl) rfl ?_
      refine z_mem (M' := z_sM B 20 0 (z_h1 (M 22) k (M 20 0))) (by rw [← y_B20]; exact (z_sM_id _ _ _).symm) ?_
      refine z_upn (P := fun p : Nat => z_J G Z _ _ 32 [some (.ref (z_ad G 0 40)), some (z_I k), some (z_I p), none] [] (z_sM B 20 0 (z_hq (M 22) k (M 29) (z_h1 (M 22) k (M 20 0)) p)) 0 0) (M 22 0).toNat ?_ ?_
      · refine z_rng fun hr => ?_
        refine z_iloadn dX7_mixPiece_32 rfl ?_
        refine z_aloadn dX7_mixPiece_33 rfl ?_
        refine gX7_7 rfl dX7_mixPiece_34 ?_
        refine z_iconst dX7_mixPiece_37 ?_
        refine z_iald (by rfl) (by first | decide | exact Or.inl ⟨by decide, hg⟩) (by omega) (by omega) (by decide) dX7_mixPiece_38 ?_
        refine z_top (v' := M 22 0) (by first | (show B 22 0 = _; rw [y_B22]) | rfl) ?_
        refine z_icmp_ge (tgt := 83) (by omega) (by omega) dX7_mixPiece_39 (by decide) (fun h39 => ?_) (fun h39 => ?_)
        · exact z_vret dX7_mixPiece_83 y_e
        · exfalso; omega
      · intro p hp y_ph
        refine z_rng fun hr => ?_
        obtain ⟨h, y_h⟩ : ∃ h, z_hq (M 22) k (M 29) (z_h1 (M 22) k (M 20 0)) p = h := ⟨_, rfl⟩
        have y_s : z_hq (M 22) k (M 29) (z_h1 (M 22) k (M 20 0)) (p + 1) = 31 * z_hm (fun w => z_iw (z_bv (M 22) k p w)) h 3 + z_iw (z_fX (M 22) k (M 29) p) := by rw [← y_h]; rfl
        rw [y_h]
        refine z_iloadn dX7_mixPiece_32 rfl ?_
        refine z_aloadn dX7_mixPiece_33 rfl ?_
        refine gX7_7 rfl dX7_mixPiece_34 ?_
        refine z_iconst dX7_mixPiece_37 ?_
        refine z_iald (by rfl) (by first | decide | exact Or.inl ⟨by decide, hg⟩) (by omega) (by omega) (by decide) dX7_mixPiece_38 ?_
        refine z_top (v' := M 22 0) (by first | (show B 22 0 = _; rw [y_B22]) | rfl) ?_
        refine z_icmp_ge (tgt := 83) (by omega) (by omega) dX7_mixPiece_39 (by decide) (fun h39 => ?_) (fun h39 => ?_)
        · exfalso; omega
        · refine z_iconst dX7_mixPiece_42 ?_
          refine z_istoren_3 dX7_mixPiece_43 (Nat.le_of_ble_eq_true rfl) rfl ?_
          refine z_upn (P := fun i : Nat => z_J G Z _ _ 44 [some (.ref (z_ad G 0 40)), some (z_I k), some (z_I p), some (z_I i)] [] (z_sM B 20 0 (z_hm (fun w => z_iw (z_bv (M 22) k p w)) h i)) 0 0) 3 ?_ ?_
          · refine z_rng fun hr => ?_
            refine z_iloadn dX7_mixPiece_44 rfl ?_
            refine z_iconst dX7_mixPiece_45 ?_
            refine z_icmp_ge (tgt := 67) (by first | (exact hr _ _ (by decide)) | omega) (by first | (exact hr _ _ (by decide)) | omega) dX7_mixPiece_46 (by decide) (fun h46 => ?_) (fun h46 => ?_)
            · obtain ⟨C, y_C⟩ : ∃ C, z_sM B 20 0 (z_hm (fun w => z_iw (z_bv (M 22) k p w)) h ((3 : Nat) : Nat)) = C := ⟨_, rfl⟩
              have y_Ch : C 20 0 = z_hm (fun w => z_iw (z_bv (M 22) k p w)) h 3 := by rw [← y_C]; exact z_sM_self _ _ _ _
              have y_Cr : ∀ a, a ≠ 20 → C a = B a := fun a h => by rw [← y_C]; exact z_sM_row _ _ _ h
              rw [y_C]
              refine z_aloadn dX7_mixPiece_67 rfl ?_
              refine z_aloadn dX7_mixPiece_68 rfl ?_
              refine z_iloadn dX7_mixPiece_69 rfl ?_
              refine kX7_236 (tX7_fairOfX hb (by omega) ((congrFun (y_Cr 21 (by decide)) 0).trans y_B21) ((y_Cr 29 (by decide)).trans y_B29) (by rw [y_Cr 30 (by decide)]; exact y_B30)) rfl ⟨(Nat.le_of_ble_eq_true rfl), (Nat.le_of_ble_eq_true rfl)⟩ (Nat.le_of_ble_eq_true rfl) dX7_mixPiece_70 ?_
              refine z_topI rfl ?_
              refine z_i2l (z_iw_rg _) dX7_mixPiece_73 ?_
              refine kX7_252 tX7_mix rfl ⟨(Nat.le_of_ble_eq_true rfl), (Nat.le_of_ble_eq_true rfl)⟩ (Nat.le_of_ble_eq_true rfl) dX7_mixPiece_74 ?_
              refine z_rng fun hr => ?_
              refine z_iinc_2 dX7_mixPiece_77 (Nat.le_of_ble_eq_true rfl) rfl ?_
              refine z_goto (tgt := 32) dX7_mixPiece_80 (by decide) ?_
              refine z_fgt 3 (z_mem ?_ y_ph)
              rw [y_s, y_Ch, ← y_C, z_sM_sM]
            · exfalso; omega
          · intro i hi y_ih
            refine z_rng fun hr => ?_
            obtain ⟨A, y_A⟩ : ∃ A, z_sM B 20 0 (z_hm (fun w => z_iw (z_bv (M 22) k p w)) h i) = A := ⟨_, rfl⟩
            have y_Ah : A 20 0 = z_hm (fun w => z_iw (z_bv (M 22) k p w)) h i := by rw [← y_A]; exact z_sM_self _ _ _ _
            have y_Ar : ∀ a, a ≠ 20 → A a = B a := fun a h => by rw [← y_A]; exact z_sM_row _ _ _ h
            rw [y_A]
            have y_A22 := (y_Ar 22 (by decide)).trans y_B22
            refine z_iloadn dX7_mixPiece_44 rfl ?_
            refine z_iconst dX7_mixPiece_45 ?_
            refine z_icmp_ge (tgt := 67) (by first | (exact hr _ _ (by decide)) | omega) (by first | (exact hr _ _ (by decide)) | omega) dX7_mixPiece_46 (by decide) (fun h46 => ?_) (fun h46 => ?_)
            · exfalso; omega
            · refine z_aloadn dX7_mixPiece_49 rfl ?_
              refine z_aloadn dX7_mixPiece_50 rfl ?_
              refine z_iloadn dX7_mixPiece_51 rfl ?_
              refine z_iloadn dX7_mixPiece_52 rfl ?_
              refine z_iloadn dX7_mixPiece_53 rfl ?_
              refine kX7_200 (tX7_betweenNow (by omega) (by omega) (by omega) (by omega) (by omega) (by omega)) rfl ⟨(Nat.le_of_ble_eq_true rfl), (Nat.le_of_ble_eq_true rfl)⟩ (Nat.le_of_ble_eq_true rfl) dX7_mixPiece_54 ?_
              refine z_topI (v' := z_bv (M 22) k p i) (by rw [y_A22]) ?_
              refine z_i2l (z_iw_rg _) dX7_mixPiece_57 ?_
              refine kX7_252 tX7_mix rfl ⟨(Nat.le_of_ble_eq_true rfl), (Nat.le_of_ble_eq_true rfl)⟩ (Nat.le_of_ble_eq_true rfl) dX7_mixPiece_58 ?_
              refine z_rng fun hr => ?_
              refine z_iinc_3 dX7_mixPiece_61 (Nat.le_of_ble_eq_true rfl) rfl ?_
              refine z_goto (tgt := 44) dX7_mixPiece_64 (by decide) ?_
              refine z_mem ?_ y_ih
              rw [y_Ah, ← y_A, z_sM_sM]
              rfl
    · exfalso; omega
  · intro i hi y_ih
    refine z_rng fun hr => ?_
    obtain ⟨A, y_A⟩ : ∃ A, z_sM M 20 0 (z_hm (fun w => z_iw (z_kv (M 22) k w)) (M 20 0) i) = A := ⟨_, rfl⟩
    have y_Ah : A 20 0 = z_hm (fun w => z_iw (z_kv (M 22) k w)) (M 20 0) i := by rw [← y_A]; exact z_sM_self _ _ _ _
    have y_Ar : ∀ a, a ≠ 20 → A a = M a := fun a h => by rw [← y_A]; exact z_sM_row _ _ _ h
    rw [y_A]
    have y_A22 := y_Ar 22 (by decide)
    have y_hb : z_BI (A 22) N := by rw [y_A22]; exact hb
    refine z_iloadn dX7_mixPiece_2 rfl ?_
    refine z_bipush dX7_mixPiece_3 (by decide) ?_
    refine z_icmp_ge (tgt := 25) (by first | (exact hr _ _ (by decide)) | omega) (by first | (exact hr _ _ (by decide)) | omega) dX7_mixPiece_5 (by decide) (fun h5 => ?_) (fun h5 => ?_)
    · exfalso; omega
    · refine z_aloadn dX7_mixPiece_8 rfl ?_
      refine z_aloadn dX7_mixPiece_9 rfl ?_
      refine z_iloadn dX7_mixPiece_10 rfl ?_
      refine z_iloadn dX7_mixPiece_11 rfl ?_
      refine kX7_197 (tX7_pieceNow y_hb (by omega) (by omega) (by omega) (by omega)) rfl ⟨(Nat.le_of_ble_eq_true rfl), (Nat.le_of_ble_eq_true rfl)⟩ (Nat.le_of_ble_eq_true rfl) dX7_mixPiece_12 ?_
      refine z_topI (v' := z_kv (M 22) k i) (by rw [y_A22]) ?_
      refine z_i2l (z_iw_rg _) dX7_mixPiece_15 ?_
      refine kX7_252 tX7_mix rfl ⟨(Nat.le_of_ble_eq_true rfl), (Nat.le_of_ble_eq_true rfl)⟩ (Nat.le_of_ble_eq_true rfl) dX7_mixPiece_16 ?_
      refine z_rng fun hr => ?_
      refine z_iinc_2 dX7_mixPiece_19 (Nat.le_of_ble_eq_true rfl) rfl ?_
      refine z_goto (tgt := 2) dX7_mixPiece_22 (by decide) ?_
      refine z_mem ?_ y_ih
      rw [y_Ah, ← y_A, z_sM_sM]
      rfl
theorem tX7_digest {G : z_G} {M : z_M} {N  : Int} (hb : z_BI (M 22) N) (l0 : 0 ≤ M 21 3) (l1 : M 21 3 ≤ 60) : KX7_digest G [.ref (z_ad G 0 40)] M (.inl (some (z_L (z_dig (M 22) (M 21 2) (M 21 3) (M 25))))) (z_dgM M) := by
  refine z_con (ls := [some (.ref (z_ad G 0 40)), none, none]) (by decide +kernel) (Nat.le_of_ble_eq_true rfl) rfl ?_
  intro Z htb
  refine z_rng fun hr => ?_
  have hh := z_BI_h hb
  refine z_aloadn dX7_digest_0 rfl ?_
  refine z_iconst dX7_digest_1 ?_
  refine pX7_40 (by first | (exact hr _ _ (by decide)) | omega) rfl dX7_digest_2 ?_
  refine z_rng fun hr => ?_
  obtain ⟨M0, y_M0⟩ : ∃ A, z_sM M 21 4 0 = A := ⟨_, rfl⟩
  have y_M022 : M0 22 = M 22 := by rw [← y_M0]; exact z_sM_row _ _ _ (by decide)
  have y_M021 : M0 21 2 = M 21 2 := by rw [← y_M0]; exact z_sM_ne _ _ _ (by decide)
  rw [y_M0]
  refine z_aloadn dX7_digest_5 rfl ?_
  refine z_ldc2 (i := 2281) wk_X7_256 dX7_digest_6 ?_
  refine pX7_248 rfl dX7_digest_9 ?_
  refine z_rng fun hr => ?_
  refine z_iconst dX7_digest_12 ?_
  refine z_istoren_1 dX7_digest_13 (Nat.le_of_ble_eq_true rfl) rfl ?_
  refine z_upn (P := fun i : Nat => z_J G Z _ _ 14 [some (.ref (z_ad G 0 40)), some (z_I i), none] [] (z_sM M0 20 0 (z_hm (fun w => z_iw (z_cv (M 22) (M 21 2) w)) 2281 i)) 0 0) 14 ?_ ?_
  · refine z_rng fun hr => ?_
    refine z_iloadn dX7_digest_14 rfl ?_
    refine z_bipush dX7_digest_15 (by decide) ?_
    refine z_icmp_ge (tgt := 36) (by first | (exact hr _ _ (by decide)) | omega) (by first | (exact hr _ _ (by decide)) | omega) dX7_digest_17 (by decide) (fun h17 => ?_) (fun h17 => ?_)
    · refine z_iconst dX7_digest_36 ?_
      refine z_istoren_1 dX7_digest_37 (Nat.le_of_ble_eq_true rfl) rfl ?_
      refine z_upn (P := fun i : Nat => z_J G Z _ _ 38 [some (.ref (z_ad G 0 40)), some (z_I i), none] [] (z_sM M0 20 0 (z_hm (fun w => z_iw (M 22 (8 + w))) (z_hm (fun w => z_iw (z_cv (M 22) (M 21 2) w)) 2281 14) i)) 0 0) 6 ?_ ?_
      · refine z_rng fun hr => ?_
        refine z_iloadn dX7_digest_38 rfl ?_
        refine z_bipush dX7_digest_39 (by decide) ?_
        refine z_icmp_ge (tgt := 64) (by first | (exact hr _ _ (by decide)) | omega) (by first | (exact hr _ _ (by decide)) | omega) dX7_digest_41 (by decide) (fun h41 => ?_) (fun h41 => ?_)
        · refine z_mem (M' := z_d1M M) (by rw [← y_M0]; rfl) ?_
          obtain ⟨D, y_D⟩ : ∃ A, z_d1M M = A := ⟨_, rfl⟩
          have y_D22 : D 22 = M 22 := by rw [← y_D]; exact z_d1M_row M (by decide)
          rw [y_D]
          refine z_iconst dX7_digest_64 ?_
          refine z_istoren_1 dX7_digest_65 (Nat.le_of_ble_eq_true rfl) rfl ?_
          refine z_upn (P := fun p : Nat => z_J G Z _ _ 66 [some (.ref (z_ad G 0 40)), some (z_I p), none] [] (z_dpM D p) 0 0) (M 22 0).toNat ?_ ?_
          · refine z_rng fun hr => ?_
            obtain ⟨E, y_E⟩ : ∃ A, z_dpM D (M 22 0).toNat = A := ⟨_, rfl⟩
            have y_E22 : E 22 = M 22 := by rw [← y_E, z_dpM_row D (by decide)]; exact y_D22
            rw [y_E]
            refine z_iloadn dX7_digest_66 rfl ?_
            refine z_aloadn dX7_digest_67 rfl ?_
            refine gX7_7 rfl dX7_digest_68 ?_
            refine z_iconst dX7_digest_71 ?_
            refine z_iald (by rfl) (by first | decide | exact Or.inl ⟨by decide, hg⟩) (by omega) (by omega) (by decide) dX7_digest_72 ?_
            refine z_top (v' := M 22 0) (by rw [y_E22]) ?_
            refine z_icmp_ge (tgt := 119) (by omega) (by omega) dX7_digest_73 (by decide) (fun h73 => ?_) (fun h73 => ?_)
            · refine z_iconst dX7_digest_119 ?_
              refine z_istoren_1 dX7_digest_120 (Nat.le_of_ble_eq_true rfl) rfl ?_
              refine z_upn (P := fun k : Nat => z_J G Z _ _ 121 [some (.ref (z_ad G 0 40)), some (z_I k), none] [] (z_dkM E k) 0 0) (M 22 1).toNat ?_ ?_
              · refine z_rng fun hr => ?_
                refine z_mem (M' := z_d2M M) (by rw [← y_E, ← y_D]; rfl) ?_
                obtain ⟨F, y_F⟩ : ∃ A, z_d2M M = A := ⟨_, rfl⟩
                have y_F22 : F 22 = M 22 := by rw [← y_F]; exact z_d2M_row M (by decide)
                have y_F25 : F 25 = M 25 := by rw [← y_F]; exact z_d2M_row M (by decide)
                have y_F21 : F 21 3 = M 21 3 := by rw [← y_F]; exact z_d2M_21 M (by decide)
                have y_F20 : F 20 0 = z_hks (M 22) (z_hps (M 22) (z_hcs (M 22) (M 21 2)) (M 22 0).toNat) (M 22 1).toNat := by rw [← y_F]; exact z_d2M_20 M
                have y_hb : z_BI (F 22) N := by rw [y_F22]; exact hb
                rw [y_F]
                refine z_iloadn dX7_digest_121 rfl ?_
                refine z_aloadn dX7_digest_122 rfl ?_
                refine gX7_7 rfl dX7_digest_123 ?_
                refine z_iconst dX7_digest_126 ?_
                refine z_iald (by rfl) (by first | decide | exact Or.inl ⟨by decide, hg⟩) (by omega) (by omega) (by decide) dX7_digest_127 ?_
                refine z_top (v' := M 22 1) (by first | rw [y_K22] | rw [y_F22]) ?_
                refine z_icmp_ge (tgt := 142) (by omega) (by omega) dX7_digest_128 (by decide) (fun h128 => ?_) (fun h128 => ?_)
                · refine z_aloadn dX7_digest_142 rfl ?_
                  refine z_aloadn dX7_digest_143 rfl ?_
                  refine kX7_242 (tX7_spreadNow y_hb) rfl ⟨(Nat.le_of_ble_eq_true rfl), (Nat.le_of_ble_eq_true rfl)⟩ (Nat.le_of_ble_eq_true rfl) dX7_digest_144 ?_
                  rw [y_F22]
                  refine kX7_261 (tJxe99ae_doubleToLongBits_ccdee (z_spd_c hb)) rfl ⟨(Nat.le_of_ble_eq_true rfl), (Nat.le_of_ble_eq_true rfl)⟩ (Nat.le_of_ble_eq_true rfl) dX7_digest_147 ?_
                  refine kX7_252 tX7_mix rfl ⟨(Nat.le_of_ble_eq_true rfl), (Nat.le_of_ble_eq_true rfl)⟩ (Nat.le_of_ble_eq_true rfl) dX7_digest_150 ?_
                  refine z_rng fun hr => ?_
                  refine z_aloadn dX7_digest_153 rfl ?_
                  refine z_aloadn dX7_digest_154 rfl ?_
                  refine gX7_117 rfl dX7_digest_155 ?_
                  refine z_topI (v' := M 21 3) ((congrFun (z_sM_row _ _ _ (by decide)) 3).trans y_F21) ?_
                  refine z_i2l (z_iw_rg _) dX7_digest_158 ?_
                  refine kX7_252 tX7_mix rfl ⟨(Nat.le_of_ble_eq_true rfl), (Nat.le_of_ble_eq_true rfl)⟩ (Nat.le_of_ble_eq_true rfl) dX7_digest_159 ?_
                  refine z_rng fun hr => ?_
                  refine z_mem (M' := z_sM F 20 0 (31 * z_hall (M 22) (M 21 2) + z_iw (M 21 3))) (by rw [z_sM_sM, z_sM_self, y_F20]; rfl) ?_
                  refine z_iconst dX7_digest_162 ?_
                  refine z_istoren_1 dX7_digest_163 (Nat.le_of_ble_eq_true rfl) rfl ?_
                  refine z_upn (P := fun i : Nat => z_J G Z _ _ 164 [some (.ref (z_ad G 0 40)), some (z_I i), none] [] (z_sM F 20 0 (z_hm (fun i => z_iw (M 25 i)) (31 * z_hall (M 22) (M 21 2) + z_iw (M 21 3)) i)) 0 0) (M 21 3).toNat ?_ ?_
                  · refine z_rng fun hr => ?_
                    refine z_iloadn dX7_digest_164 rfl ?_
                    refine z_aloadn dX7_digest_165 rfl ?_
                    refine gX7_117 rfl dX7_digest_166 ?_
                    refine z_top (v' := M 21 3) (by first | exact y_A21 | exact (congrFun (z_sM_row _ _ _ (by decide)) 3).trans y_F21) ?_
                    refine z_icmp_ge (tgt := 189) (by omega) (by omega) dX7_digest_169 (by decide) (fun h169 => ?_) (fun h169 => ?_)
                    · refine z_aloadn dX7_digest_189 rfl ?_
                      refine gX7_248 rfl dX7_digest_190 ?_
                      exact z_lret dX7_digest_193 (z_sM_self _ _ _ _) (by rw [← y_F]; rfl)
                    · exfalso; omega
                  · intro i hi y_ih
                    refine z_rng fun hr => ?_
                    obtain ⟨A, y_A⟩ : ∃ A, z_sM F 20 0 (z_hm (fun i => z_iw (M 25 i)) (31 * z_hall (M 22) (M 21 2) + z_iw (M 21 3)) i) = A := ⟨_, rfl⟩
                    have y_Ah : A 20 0 = z_hm (fun i => z_iw (M 25 i)) (31 * z_hall (M 22) (M 21 2) + z_iw (M 21 3)) i := by rw [← y_A]; exact z_sM_self _ _ _ _
                    have y_Ar : ∀ a, a ≠ 20 → A a = F a := fun a h => by rw [← y_A]; exact z_sM_row _ _ _ h
                    rw [y_A]
                    have y_A25 := (y_Ar 25 (by decide)).trans y_F25
                    have y_A21 := (congrFun (y_Ar 21 (by decide)) 3).trans y_F21
                    refine z_iloadn dX7_digest_164 rfl ?_
                    refine z_aloadn dX7_digest_165 rfl ?_
                    refine gX7_117 rfl dX7_digest_166 ?_
                    refine z_top (v' := M 21 3) (by first | exact y_A21 | exact (congrFun (z_sM_row _ _ _ (by decide)) 3).trans y_F21) ?_
                    refine z_icmp_ge (tgt := 189) (by omega) (by omega) dX7_digest_169 (by decide) (fun h169 => ?_) (fun h169 => ?_)
                    · exfalso; omega
                    · refine z_aloadn dX7_digest_172 rfl ?_
                      refine z_aloadn dX7_digest_173 rfl ?_
                      refine gX7_19 rfl dX7_digest_174 ?_
                      refine z_iloadn dX7_digest_177 rfl ?_
                      refine z_iald (by rfl) (by first | decide | exact Or.inl ⟨by decide, hg⟩) (by omega) (by omega) (by decide) dX7_digest_178 ?_
                      refine z_topI (v' := M 25 i) (by rw [y_A25]) ?_
                      refine z_i2l (z_iw_rg _) dX7_digest_179 ?_
                      refine kX7_252 tX7_mix rfl ⟨(Nat.le_of_ble_eq_true rfl), (Nat.le_of_ble_eq_true rfl)⟩ (Nat.le_of_ble_eq_true rfl) dX7_digest_180 ?_
                      refine z_rng fun hr => ?_
                      refine z_iinc_1 dX7_digest_183 (Nat.le_of_ble_eq_true rfl) rfl ?_
                      refine z_goto (tgt := 164) dX7_digest_186 (by decide) ?_
                      refine z_mem ?_ y_ih
                      rw [y_Ah, ← y_A, z_sM_sM]
                      rfl
                · exfalso; omega
              · intro k hk y_kh
                refine z_rng fun hr => ?_
                obtain ⟨K, y_K⟩ : ∃ A, z_dkM E k = A := ⟨_, rfl⟩
                have y_K22 : K 22 = M 22 := by rw [← y_K, z_dkM_row E (by decide)]; exact y_E22
                have y_hb : z_BI (K 22) N := by rw [y_K22]; exact hb
                have y_s : z_dkM E (k + 1) = z_mpM K k := by rw [← y_K]; rfl
                rw [y_K]
                refine z_iloadn dX7_digest_121 rfl ?_
                refine z_aloadn dX7_digest_122 rfl ?_
                refine gX7_7 rfl dX7_digest_123 ?_
                refine z_iconst dX7_digest_126 ?_
                refine z_iald (by rfl) (by first | decide | exact Or.inl ⟨by decide, hg⟩) (by omega) (by omega) (by decide) dX7_digest_127 ?_
                refine z_top (v' := M 22 1) (by first | rw [y_K22] | rw [y_F22]) ?_
                refine z_icmp_ge (tgt := 142) (by omega) (by omega) dX7_digest_128 (by decide) (fun h128 => ?_) (fun h128 => ?_)
                · exfalso; omega
                · refine z_aloadn dX7_digest_131 rfl ?_
                  refine z_iloadn dX7_digest_132 rfl ?_
                  refine kX7_258 (tX7_mixPiece y_hb (by omega) (by omega)) rfl ⟨(Nat.le_of_ble_eq_true rfl), (Nat.le_of_ble_eq_true rfl)⟩ (Nat.le_of_ble_eq_true rfl) dX7_digest_133 ?_
                  refine z_rng fun hr => ?_
                  refine z_iinc_1 dX7_digest_136 (Nat.le_of_ble_eq_true rfl) rfl ?_
                  refine z_goto (tgt := 121) dX7_digest_139 (by decide) ?_
                  rw [y_s] at y_kh
                  exact y_kh
            · exfalso; omega
          · intro p hp y_ph
            refine z_rng fun hr => ?_
            obtain ⟨E, y_E⟩ : ∃ A, z_dpM D p = A := ⟨_, rfl⟩
            have y_E22 : E 22 = M 22 := by rw [← y_E, z_dpM_row D (by decide)]; exact y_D22
            have y_s : z_dpM D (p + 1) = z_dnM E p := by rw [← y_E]; rfl
            rw [y_E]
            refine z_iloadn dX7_digest_66 rfl ?_
            refine z_aloadn dX7_digest_67 rfl ?_
            refine gX7_7 rfl dX7_digest_68 ?_
            refine z_iconst dX7_digest_71 ?_
            refine z_iald (by rfl) (by first | decide | exact Or.inl ⟨by decide, hg⟩) (by omega) (by omega) (by decide) dX7_digest_72 ?_
            refine z_top (v' := M 22 0) (by rw [y_E22]) ?_
            refine z_icmp_ge (tgt := 119) (by omega) (by omega) dX7_digest_73 (by decide) (fun h73 => ?_) (fun h73 => ?_)
            · exfalso; omega
            · refine z_iconst dX7_digest_76 ?_
              refine z_istoren_2 dX7_digest_77 (Nat.le_of_ble_eq_true rfl) rfl ?_
              refine z_mem (M' := z_sM E 20 0 (E 20 0)) (z_sM_id _ _ _).symm ?_
              refine z_upn (P := fun i : Nat => z_J G Z _ _ 78 [some (.ref (z_ad G 0 40)), some (z_I p), some (z_I i)] [] (z_sM E 20 0 (z_hm (fun w => z_iw (z_pnv (M 22) p w)) (E 20 0) i)) 0 0) 9 ?_ ?_
              · refine z_rng fun hr => ?_
                refine z_iloadn dX7_digest_78 rfl ?_
                refine z_bipush dX7_digest_79 (by decide) ?_
                refine z_icmp_ge (tgt := 101) (by first | (exact hr _ _ (by decide)) | omega) (by first | (exact hr _ _ (by decide)) | omega) dX7_digest_81 (by decide) (fun h81 => ?_) (fun h81 => ?_)
                · obtain ⟨C, y_C⟩ : ∃ A, z_sM E 20 0 (z_hm (fun w => z_iw (z_pnv (M 22) p w)) (E 20 0) 9) = A := ⟨_, rfl⟩
                  have y_C22 : C 22 = M 22 := by rw [← y_C]; exact (z_sM_row _ _ _ (by decide)).trans y_E22
                  have y_C20 : C 20 0 = z_hm (fun w => z_iw (z_pnv (M 22) p w)) (E 20 0) 9 := by rw [← y_C]; exact z_sM_self _ _ _ _
                  have y_hb : z_BI (C 22) N := by rw [y_C22]; exact hb
                  rw [y_C]
                  refine z_aloadn dX7_digest_101 rfl ?_
                  refine z_aloadn dX7_digest_102 rfl ?_
                  refine z_iloadn dX7_digest_103 rfl ?_
                  refine z_bipush dX7_digest_104 (by decide) ?_
                  refine kX7_239 (tX7_bestNow y_hb (by omega) (by omega) (by omega) (by omega)) rfl ⟨(Nat.le_of_ble_eq_true rfl), (Nat.le_of_ble_eq_true rfl)⟩ (Nat.le_of_ble_eq_true rfl) dX7_digest_106 ?_
                  refine z_rng fun hr => ?_
                  refine z_topI (v' := z_bestN (M 22) p 100) (by rw [y_C22]) ?_
                  refine z_i2l (z_iw_rg _) dX7_digest_109 ?_
                  refine kX7_252 tX7_mix rfl ⟨(Nat.le_of_ble_eq_true rfl), (Nat.le_of_ble_eq_true rfl)⟩ (Nat.le_of_ble_eq_true rfl) dX7_digest_110 ?_
                  refine z_rng fun hr => ?_
                  refine z_iinc_1 dX7_digest_113 (Nat.le_of_ble_eq_true rfl) rfl ?_
                  refine z_goto (tgt := 66) dX7_digest_116 (by decide) ?_
                  refine z_fgt 2 (z_mem ?_ y_ph)
                  rw [y_s]
                  unfold z_dnM
                  rw [z_bsM_row C 100 (r := 20) (by decide), y_C20, y_C22, ← y_C, y_E22]
                  rfl
                · exfalso; omega
              · intro i hi y_ih
                refine z_rng fun hr => ?_
                obtain ⟨A, y_A⟩ : ∃ A, z_sM E 20 0 (z_hm (fun w => z_iw (z_pnv (M 22) p w)) (E 20 0) i) = A := ⟨_, rfl⟩
                have y_Ah : A 20 0 = z_hm (fun w => z_iw (z_pnv (M 22) p w)) (E 20 0) i := by rw [← y_A]; exact z_sM_self _ _ _ _
                have y_Ar : ∀ a, a ≠ 20 → A a = E a := fun a h => by rw [← y_A]; exact z_sM_row _ _ _ h
                rw [y_A]
                have y_A22 := (y_Ar 22 (by decide)).trans y_E22
                have y_hb : z_BI (A 22) N := by rw [y_A22]; exact hb
                refine z_iloadn dX7_digest_78 rfl ?_
                refine z_bipush dX7_digest_79 (by decide) ?_
                refine z_icmp_ge (tgt := 101) (by first | (exact hr _ _ (by decide)) | omega) (by first | (exact hr _ _ (by decide)) | omega) dX7_digest_81 (by decide) (fun h81 => ?_) (fun h81 => ?_)
                · exfalso; omega
                · refine z_aloadn dX7_digest_84 rfl ?_
                  refine z_aloadn dX7_digest_85 rfl ?_
                  refine z_iloadn dX7_digest_86 rfl ?_
                  refine z_iloadn dX7_digest_87 rfl ?_
                  refine kX7_188 (tX7_penNow y_hb (by omega) (by omega) (by omega) (by omega)) rfl ⟨(Nat.le_of_ble_eq_true rfl), (Nat.le_of_ble_eq_true rfl)⟩ (Nat.le_of_ble_eq_true rfl) dX7_digest_88 ?_
                  refine z_topI (v' := z_pnv (M 22) p i) (by rw [y_A22]) ?_
                  refine z_i2l (z_iw_rg _) dX7_digest_91 ?_
                  refine kX7_252 tX7_mix rfl ⟨(Nat.le_of_ble_eq_true rfl), (Nat.le_of_ble_eq_true rfl)⟩ (Nat.le_of_ble_eq_true rfl) dX7_digest_92 ?_
                  refine z_rng fun hr => ?_
                  refine z_iinc_2 dX7_digest_95 (Nat.le_of_ble_eq_true rfl) rfl ?_
                  refine z_goto (tgt := 78) dX7_digest_98 (by decide) ?_
                  refine z_mem ?_ y_ih
                  rw [y_Ah, ← y_A, z_sM_sM]
                  rfl
        · exfalso; omega
      · intro i hi y_ih
        refine z_rng fun hr => ?_
        obtain ⟨A, y_A⟩ : ∃ A, z_sM M0 20 0 (z_hm (fun w => z_iw (M 22 (8 + w))) (z_hm (fun w => z_iw (z_cv (M 22) (M 21 2) w)) 2281 14) i) = A := ⟨_, rfl⟩
        have y_Ah : A 20 0 = z_hm (fun w => z_iw (M 22 (8 + w))) (z_hm (fun w => z_iw (z_cv (M 22) (M 21 2) w)) 2281 14) i := by rw [← y_A]; exact z_sM_self _ _ _ _
        have y_Ar : ∀ a, a ≠ 20 → A a = M0 a := fun a h => by rw [← y_A]; exact z_sM_row _ _ _ h
        rw [y_A]
        have y_A22 := (y_Ar 22 (by decide)).trans y_M022
        refine z_iloadn dX7_digest_38 rfl ?_
        refine z_bipush dX7_digest_39 (by decide) ?_
        refine z_icmp_ge (tgt := 64) (by first | (exact hr _ _ (by decide)) | omega) (by first | (exact hr _ _ (by decide)) | omega) dX7_digest_41 (by decide) (fun h41 => ?_) (fun h41 => ?_)
        · exfalso; omega
        · refine z_aloadn dX7_digest_44 rfl ?_
          refine z_aloadn dX7_digest_45 rfl ?_
          refine gX7_7 rfl dX7_digest_46 ?_
          refine z_bipush dX7_digest_49 (by decide) ?_
          refine z_iloadn dX7_digest_51 rfl ?_
          refine z_iadd dX7_digest_52 ?_
          refine z_iald (by rfl) (by first | decide | exact Or.inl ⟨by decide, hg⟩) (by omega) (by omega) (by decide) dX7_digest_53 ?_
          refine z_topI (v' := M 22 (8 + i)) (by rw [y_A22]) ?_
          refine z_i2l (z_iw_rg _) dX7_digest_54 ?_
          refine kX7_252 tX7_mix rfl ⟨(Nat.le_of_ble_eq_true rfl), (Nat.le_of_ble_eq_true rfl)⟩ (Nat.le_of_ble_eq_true rfl) dX7_digest_55 ?_
          refine z_rng fun hr => ?_
          refine z_iinc_1 dX7_digest_58 (Nat.le_of_ble_eq_true rfl) rfl ?_
          refine z_goto (tgt := 38) dX7_digest_61 (by decide) ?_
          refine z_mem ?_ y_ih
          rw [y_Ah, ← y_A, z_sM_sM]
          rfl
    · exfalso; omega
  · intro i hi y_ih
    refine z_rng fun hr => ?_
    obtain ⟨A, y_A⟩ : ∃ A, z_sM M0 20 0 (z_hm (fun w => z_iw (z_cv (M 22) (M 21 2) w)) 2281 i) = A := ⟨_, rfl⟩
    have y_Ah : A 20 0 = z_hm (fun w => z_iw (z_cv (M 22) (M 21 2) w)) 2281 i := by rw [← y_A]; exact z_sM_self _ _ _ _
    have y_Ar : ∀ a, a ≠ 20 → A a = M0 a := fun a h => by rw [← y_A]; exact z_sM_row _ _ _ h
    rw [y_A]
    have y_A22 := (y_Ar 22 (by decide)).trans y_M022
    have y_A21 := (congrFun (y_Ar 21 (by decide)) 2).trans y_M021
    have y_hb : z_BI (A 22) N := by rw [y_A22]; exact hb
    refine z_iloadn dX7_digest_14 rfl ?_
    refine z_bipush dX7_digest_15 (by decide) ?_
    refine z_icmp_ge (tgt := 36) (by first | (exact hr _ _ (by decide)) | omega) (by first | (exact hr _ _ (by decide)) | omega) dX7_digest_17 (by decide) (fun h17 => ?_) (fun h17 => ?_)
    · exfalso; omega
    · refine z_aloadn dX7_digest_20 rfl ?_
      refine z_aloadn dX7_digest_21 rfl ?_
      refine z_iloadn dX7_digest_22 rfl ?_
      refine kX7_212 (tX7_counted y_hb (by omega) (by omega)) rfl ⟨(Nat.le_of_ble_eq_true rfl), (Nat.le_of_ble_eq_true rfl)⟩ (Nat.le_of_ble_eq_true rfl) dX7_digest_23 ?_
      refine z_topI (v' := z_cv (M 22) (M 21 2) i) (by rw [y_A22, y_A21]) ?_
      refine z_i2l (z_iw_rg _) dX7_digest_26 ?_
      refine kX7_252 tX7_mix rfl ⟨(Nat.le_of_ble_eq_true rfl), (Nat.le_of_ble_eq_true rfl)⟩ (Nat.le_of_ble_eq_true rfl) dX7_digest_27 ?_
      refine z_rng fun hr => ?_
      refine z_iinc_1 dX7_digest_30 (Nat.le_of_ble_eq_true rfl) rfl ?_
      refine z_goto (tgt := 14) dX7_digest_33 (by decide) ?_
      refine z_mem ?_ y_ih
      rw [y_Ah, ← y_A, z_sM_sM]
      rfl
