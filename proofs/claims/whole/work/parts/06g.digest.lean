theorem tX6_bitsOf_0 {G : z_G} {M : z_M} {x : UInt64} (hx : x = FP.dconst0) : KX6_bitsOf G [.double x] M (.inl (some (z_L x.toInt64.toInt))) M := by
  refine z_con (ls := [some (.double x), none, none, none, none, none, none]) (by decide +kernel) (Nat.le_of_ble_eq_true rfl) rfl ?_
  intro Z htb
  refine z_rng fun hr => ?_
  subst hx
  refine z_dloadn dX6_bitsOf_0 rfl ?_
  refine z_dconst0 dX6_bitsOf_1 ?_
  refine z_dcmp z_f0_self dX6_bitsOf_2 ?_
  refine z_if_gt (tgt := 8) (by first | (exact hr _ _ (by decide)) | (exact hr _ _ (by omega)) | omega) dX6_bitsOf_3 (by decide) (fun h3 => ?_) (fun h3 => ?_)
  · exfalso; omega
  · refine z_lconst0 dX6_bitsOf_6 ?_
    exact z_lret dX6_bitsOf_7 (by decide +kernel) rfl
theorem tX6_bitsOf {G : z_G} {M : z_M} {x : UInt64} {e : Nat} {m : Int} (hx : z_bok x e m) : KX6_bitsOf G [.double x] M (.inl (some (z_L x.toInt64.toInt))) M := by
  refine z_con (ls := [some (.double x), none, none, none, none, none, none]) (by decide +kernel) (Nat.le_of_ble_eq_true rfl) rfl ?_
  intro Z htb
  refine z_rng fun hr => ?_
  obtain ⟨b1, b2, b3, ⟨r, r0, r1, b4⟩, b5, b6, b7, b8⟩ := hx
  refine z_dloadn dX6_bitsOf_0 rfl ?_
  refine z_dconst0 dX6_bitsOf_1 ?_
  refine z_dcmp b2 dX6_bitsOf_2 ?_
  refine z_if_gt (tgt := 8) (by first | (exact hr _ _ (by decide)) | (exact hr _ _ (by omega)) | omega) dX6_bitsOf_3 (by decide) (fun h3 => ?_) (fun h3 => ?_)
  · refine z_dloadn dX6_bitsOf_8 rfl ?_
    refine z_dstoren_2 dX6_bitsOf_9 (Nat.le_of_ble_eq_true rfl) rfl ?_
    refine z_ldc2 (i := 1023) wk_X6_383 dX6_bitsOf_10 ?_
    refine z_lstore_4 dX6_bitsOf_13 (Nat.le_of_ble_eq_true rfl) rfl ?_
    refine z_iconst dX6_bitsOf_15 ?_
    refine z_istore_6 dX6_bitsOf_16 (Nat.le_of_ble_eq_true rfl) rfl ?_
    refine z_upn (P := fun i : Nat => z_J G Z _ _ 18 [some (.double x), none, some (.double (z_sc x i)), none, some (z_L (1023 - i)), none, some (z_I i)] [] M 0 0) e ?_ ?_
    · refine z_rng fun hr => ?_
      refine z_iload dX6_bitsOf_18 rfl ?_
      refine z_sipush dX6_bitsOf_20 (by decide) ?_
      refine z_icmp_ge (tgt := 50) (by first | (exact hr _ _ (by decide)) | (exact hr _ _ (by omega)) | omega) (by first | (exact hr _ _ (by decide)) | (exact hr _ _ (by omega)) | omega) dX6_bitsOf_23 (by decide) (fun h23 => ?_) (fun h23 => ?_)
      · exfalso; omega
      · refine z_dloadn dX6_bitsOf_26 rfl ?_
        refine z_dconst1 dX6_bitsOf_27 ?_
        first
          | (refine z_dcmp (r := r) b4 dX6_bitsOf_28 ?_
             refine z_if_ge (tgt := 50) (by omega) dX6_bitsOf_29 (by decide) (fun h29 => ?_) (fun h29 => ?_)
             · refine z_lload dX6_bitsOf_50 rfl ?_
               refine z_bipush dX6_bitsOf_52 (by decide) ?_
               refine z_lshl (z_bsl2 (by omega) (by omega)) dX6_bitsOf_54 ?_
               refine z_dloadn dX6_bitsOf_55 rfl ?_
               refine z_dconst1 dX6_bitsOf_56 ?_
               refine z_dsub b5 dX6_bitsOf_57 ?_
               refine z_ldc2d wk_X6_387 dX6_bitsOf_58 ?_
               refine z_dmul b6 dX6_bitsOf_61 ?_
               refine z_d2l dX6_bitsOf_62 ?_
               refine z_topL b7 ?_
               refine z_ladd dX6_bitsOf_63 ?_
               exact z_lret dX6_bitsOf_64 b8 rfl
             · exfalso; omega)
          | (refine z_dcmp (r := -1) (b3 i hi).1 dX6_bitsOf_28 ?_
             refine z_if_ge (tgt := 50) (by decide) dX6_bitsOf_29 (by decide) (fun h29 => ?_) (fun h29 => ?_)
             · exact absurd h29 (by decide)
             · refine z_dloadn dX6_bitsOf_32 rfl ?_
               refine z_ldc2d wk_X6_385 dX6_bitsOf_33 ?_
               refine z_dmul (b3 i hi).2 dX6_bitsOf_36 ?_
               refine z_dstoren_2 dX6_bitsOf_37 (Nat.le_of_ble_eq_true rfl) rfl ?_
               refine z_lload dX6_bitsOf_38 rfl ?_
               refine z_lconst1 dX6_bitsOf_40 ?_
               refine z_lsub dX6_bitsOf_41 ?_
               refine z_lstore_4 dX6_bitsOf_42 (Nat.le_of_ble_eq_true rfl) rfl ?_
               refine z_iinc_6 dX6_bitsOf_44 (Nat.le_of_ble_eq_true rfl) rfl ?_
               refine z_goto (tgt := 18) dX6_bitsOf_47 (by decide) ?_
               rw [show (1023 : Int) - ((i + 1 : Nat) : Int) = 1023 - i - 1 by omega] at y_ih
               exact y_ih)
    · intro i hi y_ih
      refine z_rng fun hr => ?_
      refine z_iload dX6_bitsOf_18 rfl ?_
      refine z_sipush dX6_bitsOf_20 (by decide) ?_
      refine z_icmp_ge (tgt := 50) (by first | (exact hr _ _ (by decide)) | (exact hr _ _ (by omega)) | omega) (by first | (exact hr _ _ (by decide)) | (exact hr _ _ (by omega)) | omega) dX6_bitsOf_23 (by decide) (fun h23 => ?_) (fun h23 => ?_)
      · exfalso; omega
      · refine z_dloadn dX6_bitsOf_26 rfl ?_
        refine z_dconst1 dX6_bitsOf_27 ?_
        first
          | (refine z_dcmp (r := r) b4 dX6_bitsOf_28 ?_
             refine z_if_ge (tgt := 50) (by omega) dX6_bitsOf_29 (by decide) (fun h29 => ?_) (fun h29 => ?_)
             · refine z_lload dX6_bitsOf_50 rfl ?_
               refine z_bipush dX6_bitsOf_52 (by decide) ?_
               refine z_lshl (z_bsl2 (by omega) (by omega)) dX6_bitsOf_54 ?_
               refine z_dloadn dX6_bitsOf_55 rfl ?_
               refine z_dconst1 dX6_bitsOf_56 ?_
               refine z_dsub b5 dX6_bitsOf_57 ?_
               refine z_ldc2d wk_X6_387 dX6_bitsOf_58 ?_
               refine z_dmul b6 dX6_bitsOf_61 ?_
               refine z_d2l dX6_bitsOf_62 ?_
               refine z_topL b7 ?_
               refine z_ladd dX6_bitsOf_63 ?_
               exact z_lret dX6_bitsOf_64 b8 rfl
             · exfalso; omega)
          | (refine z_dcmp (r := -1) (b3 i hi).1 dX6_bitsOf_28 ?_
             refine z_if_ge (tgt := 50) (by decide) dX6_bitsOf_29 (by decide) (fun h29 => ?_) (fun h29 => ?_)
             · exact absurd h29 (by decide)
             · refine z_dloadn dX6_bitsOf_32 rfl ?_
               refine z_ldc2d wk_X6_385 dX6_bitsOf_33 ?_
               refine z_dmul (b3 i hi).2 dX6_bitsOf_36 ?_
               refine z_dstoren_2 dX6_bitsOf_37 (Nat.le_of_ble_eq_true rfl) rfl ?_
               refine z_lload dX6_bitsOf_38 rfl ?_
               refine z_lconst1 dX6_bitsOf_40 ?_
               refine z_lsub dX6_bitsOf_41 ?_
               refine z_lstore_4 dX6_bitsOf_42 (Nat.le_of_ble_eq_true rfl) rfl ?_
               refine z_iinc_6 dX6_bitsOf_44 (Nat.le_of_ble_eq_true rfl) rfl ?_
               refine z_goto (tgt := 18) dX6_bitsOf_47 (by decide) ?_
               rw [show (1023 : Int) - ((i + 1 : Nat) : Int) = 1023 - i - 1 by omega] at y_ih
               exact y_ih)
  · exfalso; omega
theorem tX6_bitsOfS {G : z_G} {M : z_M} {b : Int → Int} {N : Int} (hb : z_BI b N) : KX6_bitsOf G [.double (z_spd b)] M (.inl (some (z_L (z_spd b).toInt64.toInt))) M := by
  rcases z_spd_bok hb with h | ⟨e, m, h⟩
  · exact tX6_bitsOf_0 h
  · exact tX6_bitsOf h
theorem tX6_digest {G : z_G} {M : z_M} {g : Nat} {N : Int} (hg : g < 7) (hn : M 7 2 = (g : Int)) (hb : z_BI (M g) N) (l0 : 0 ≤ M 7 3) (l1 : M 7 3 ≤ 60) : KX6_digest G [.ref (z_ad G 0 20)] M (.inl (some (z_L (z_dcV M g)))) (z_dcM M g) := by
  refine z_con (ls := [some (.ref (z_ad G 0 20)), none, none, none]) (by decide +kernel) (Nat.le_of_ble_eq_true rfl) rfl ?_
  intro Z htb
  refine z_rng fun hr => ?_
  have hh := z_BI_h hb
  refine z_ldc2 (i := 2281) wk_X6_303 dX6_digest_0 ?_
  refine z_lstoren_1 dX6_digest_3 (Nat.le_of_ble_eq_true rfl) rfl ?_
  refine z_iconst dX6_digest_4 ?_
  refine z_istoren_3 dX6_digest_5 (Nat.le_of_ble_eq_true rfl) rfl ?_
  refine z_upn (P := fun i : Nat => z_J G Z _ _ 6 [some (.ref (z_ad G 0 20)), some (z_L (z_hm (fun w => z_iw (z_cv (M g) (M 7 1) w)) 2281 i)), none, some (z_I i)] [] M 0 0) 14 ?_ ?_
  · refine z_rng fun hr => ?_
    refine z_iloadn dX6_digest_6 rfl ?_
    refine z_bipush dX6_digest_7 (by decide) ?_
    refine z_icmp_ge (tgt := 29) (by first | (exact hr _ _ (by decide)) | (exact hr _ _ (by omega)) | omega) (by first | (exact hr _ _ (by decide)) | (exact hr _ _ (by omega)) | omega) dX6_digest_9 (by decide) (fun h9 => ?_) (fun h9 => ?_)
    · refine z_iconst dX6_digest_29 ?_
      refine z_istoren_3 dX6_digest_30 (Nat.le_of_ble_eq_true rfl) rfl ?_
      refine z_upn (P := fun i : Nat => z_J G Z _ _ 31 [some (.ref (z_ad G 0 20)), some (z_L (z_hm (fun w => z_iw (M g (8 + w))) (z_hm (fun w => z_iw (z_cv (M g) (M 7 1) w)) 2281 14) i)), none, some (z_I i)] [] M 0 0) 6 ?_ ?_
      · refine z_rng fun hr => ?_
        refine z_iloadn dX6_digest_31 rfl ?_
        refine z_bipush dX6_digest_32 (by decide) ?_
        refine z_icmp_ge (tgt := 58) (by first | (exact hr _ _ (by decide)) | (exact hr _ _ (by omega)) | omega) (by first | (exact hr _ _ (by decide)) | (exact hr _ _ (by omega)) | omega) dX6_digest_34 (by decide) (fun h34 => ?_) (fun h34 => ?_)
        · refine z_aloadn dX6_digest_58 rfl ?_
          refine z_bipush dX6_digest_59 (by decide) ?_
          refine kX6_297 (tX6_findBest hg hn hb (by decide) (by decide)) rfl ⟨(Nat.le_of_ble_eq_true rfl), (Nat.le_of_ble_eq_true rfl)⟩ (Nat.le_of_ble_eq_true rfl) dX6_digest_61 ?_
          have y_Ag : z_dcA M g g = M g := z_dcA_row M g (by omega)
          have y_An : z_dcA M g 7 2 = (g : Int) := (z_dcA_7 M g (by decide)).trans hn
          refine z_lsq (ls' := [some (.ref (z_ad G 0 20)), some (z_L (z_hcs (M g) (M 7 1))), none, some (z_I ((6 : Nat) : Int))]) rfl ?_
          refine z_mem (M' := z_dcA M g) rfl ?_
          obtain ⟨A, y_A⟩ : ∃ A, z_dcA M g = A := ⟨_, rfl⟩
          obtain ⟨h, y_h⟩ : ∃ h, (z_hcs (M g) (M 7 1)) = h := ⟨_, rfl⟩
          have y_V : z_dch M g = z_hksR A g (z_hpsR (M g) (A 16) h (M g 0).toNat) (M g 1).toNat := by rw [← y_A, ← y_h]; rfl
          rw [y_A] at y_Ag y_An ⊢
          rw [y_h]
          have y_hb : z_BI (A g) N := by rw [y_Ag]; exact hb
          refine z_rng fun hr => ?_
          refine z_iconst dX6_digest_64 ?_
          refine z_istoren_3 dX6_digest_65 (Nat.le_of_ble_eq_true rfl) rfl ?_
          refine z_upn (P := fun p : Nat => z_J G Z _ _ 66 [some (.ref (z_ad G 0 20)), some (z_L (z_hpsR (M g) (A 16) h p)), none, some (z_I p)] [] A 0 0) (M g 0).toNat ?_ ?_
          · refine z_rng fun hr => ?_
            refine z_iloadn dX6_digest_66 rfl ?_
            refine z_aloadn dX6_digest_67 rfl ?_
            refine gX6_44 (by first | exact hn | exact y_An | exact y_En) rfl dX6_digest_68 ?_
            refine gX6_48 hg rfl dX6_digest_71 ?_
            refine gX6_52 hg rfl dX6_digest_74 ?_
            refine z_top (v' := M g 0) (by rw [y_Ag]) ?_
            refine z_icmp_ge (tgt := 93) (by omega) (by omega) dX6_digest_77 (by decide) (fun h77 => ?_) (fun h77 => ?_)
            · refine z_iconst dX6_digest_93 ?_
              refine z_istoren_3 dX6_digest_94 (Nat.le_of_ble_eq_true rfl) rfl ?_
              refine z_upn (P := fun k : Nat => z_J G Z _ _ 95 [some (.ref (z_ad G 0 20)), some (z_L (z_hksR A g (z_hpsR (M g) (A 16) h (M g 0).toNat) k)), none, some (z_I k)] [] (z_fis A g k) 0 0) (M g 1).toNat ?_ ?_
              · refine z_rng fun hr => ?_
                have y_Eg : z_fis A g (M g 1).toNat g = M g := (z_fis_row A g (by omega) _).trans y_Ag
                have y_En : z_fis A g (M g 1).toNat 7 2 = (g : Int) := (z_fis_7 A g (by decide) _).trans y_An
                have y_Eb : z_BI (z_fis A g (M g 1).toNat g) N := by rw [y_Eg]; exact hb
                have y_E3 : z_fis A g (M g 1).toNat 7 3 = M 7 3 := (z_fis_7 A g (by decide) _).trans (by rw [← y_A]; exact z_dcA_7 M g (by decide))
                have y_E8 : z_fis A g (M g 1).toNat 8 = M 8 := (z_fis_row A g (by decide) _).trans (by rw [← y_A]; exact z_dcA_row M g (by decide))
                have y_end : z_fis A g (M g 1).toNat = z_dcM M g := by rw [← y_A]; rfl
                obtain ⟨E, y_E⟩ : ∃ E, z_fis A g (M g 1).toNat = E := ⟨_, rfl⟩
                rw [y_E] at y_Eg y_En y_Eb y_E3 y_E8 y_end ⊢
                rw [← y_V]
                refine z_rng fun hr => ?_
                refine z_iloadn dX6_digest_95 rfl ?_
                refine z_aloadn dX6_digest_96 rfl ?_
                refine gX6_44 (by first | exact hn | exact y_An | exact y_En) rfl dX6_digest_97 ?_
                refine gX6_121 hg rfl dX6_digest_100 ?_
                refine gX6_136 hg rfl dX6_digest_103 ?_
                refine z_top (v' := M g 1) (by rw [y_Eg]) ?_
                refine z_icmp_ge (tgt := 122) (by omega) (by omega) dX6_digest_106 (by decide) (fun h106 => ?_) (fun h106 => ?_)
                · refine z_lloadn dX6_digest_122 rfl ?_
                  refine z_aloadn dX6_digest_123 rfl ?_
                  refine kX6_319 (tX6_spread hg y_En y_Eb) rfl ⟨(Nat.le_of_ble_eq_true rfl), (Nat.le_of_ble_eq_true rfl)⟩ (Nat.le_of_ble_eq_true rfl) dX6_digest_124 ?_
                  rw [y_Eg]
                  refine kX6_323 (tX6_bitsOfS hb) rfl ⟨(Nat.le_of_ble_eq_true rfl), (Nat.le_of_ble_eq_true rfl)⟩ (Nat.le_of_ble_eq_true rfl) dX6_digest_127 ?_
                  refine kX6_308 tX6_mix rfl ⟨(Nat.le_of_ble_eq_true rfl), (Nat.le_of_ble_eq_true rfl)⟩ (Nat.le_of_ble_eq_true rfl) dX6_digest_130 ?_
                  refine z_lstoren_1 dX6_digest_133 (Nat.le_of_ble_eq_true rfl) rfl ?_
                  refine z_lloadn dX6_digest_134 rfl ?_
                  refine z_aloadn dX6_digest_135 rfl ?_
                  refine gX6_18 rfl dX6_digest_136 ?_
                  refine gX6_189 rfl dX6_digest_139 ?_
                  refine z_topI (v' := M 7 3) y_E3 ?_
                  refine z_i2l (z_iw_rg _) dX6_digest_142 ?_
                  refine kX6_308 tX6_mix rfl ⟨(Nat.le_of_ble_eq_true rfl), (Nat.le_of_ble_eq_true rfl)⟩ (Nat.le_of_ble_eq_true rfl) dX6_digest_143 ?_
                  refine z_lstoren_1 dX6_digest_146 (Nat.le_of_ble_eq_true rfl) rfl ?_
                  refine z_iconst dX6_digest_147 ?_
                  refine z_istoren_3 dX6_digest_148 (Nat.le_of_ble_eq_true rfl) rfl ?_
                  refine z_upn (P := fun i : Nat => z_J G Z _ _ 149 [some (.ref (z_ad G 0 20)), some (z_L (z_hm (fun i => z_iw (M 8 i)) (31 * z_dcall M g + z_iw (M 7 3)) i)), none, some (z_I i)] [] E 0 0) (M 7 3).toNat ?_ ?_
                  · refine z_rng fun hr => ?_
                    refine z_iloadn dX6_digest_149 rfl ?_
                    refine z_aloadn dX6_digest_150 rfl ?_
                    refine gX6_18 rfl dX6_digest_151 ?_
                    refine gX6_189 rfl dX6_digest_154 ?_
                    refine z_top (v' := M 7 3) y_E3 ?_
                    refine z_icmp_ge (tgt := 181) (by omega) (by omega) dX6_digest_157 (by decide) (fun h157 => ?_) (fun h157 => ?_)
                    · refine z_lloadn dX6_digest_181 rfl ?_
                      exact z_lret dX6_digest_182 rfl y_end
                    · exfalso; omega
                  · intro i hi y_ih
                    refine z_rng fun hr => ?_
                    refine z_iloadn dX6_digest_149 rfl ?_
                    refine z_aloadn dX6_digest_150 rfl ?_
                    refine gX6_18 rfl dX6_digest_151 ?_
                    refine gX6_189 rfl dX6_digest_154 ?_
                    refine z_top (v' := M 7 3) y_E3 ?_
                    refine z_icmp_ge (tgt := 181) (by omega) (by omega) dX6_digest_157 (by decide) (fun h157 => ?_) (fun h157 => ?_)
                    · exfalso; omega
                    · refine z_lloadn dX6_digest_160 rfl ?_
                      refine z_aloadn dX6_digest_161 rfl ?_
                      refine gX6_18 rfl dX6_digest_162 ?_
                      refine gX6_244 rfl dX6_digest_165 ?_
                      refine z_iloadn dX6_digest_168 rfl ?_
                      refine z_iald (by rfl) (by first | decide | exact Or.inl ⟨by decide, hg⟩) (by omega) (by omega) (by decide) dX6_digest_169 ?_
                      refine z_topI (v' := M 8 i) (by rw [y_E8]) ?_
                      refine z_i2l (z_iw_rg _) dX6_digest_170 ?_
                      refine kX6_308 tX6_mix rfl ⟨(Nat.le_of_ble_eq_true rfl), (Nat.le_of_ble_eq_true rfl)⟩ (Nat.le_of_ble_eq_true rfl) dX6_digest_171 ?_
                      refine z_lstoren_1 dX6_digest_174 (Nat.le_of_ble_eq_true rfl) rfl ?_
                      refine z_iinc_3 dX6_digest_175 (Nat.le_of_ble_eq_true rfl) rfl ?_
                      refine z_goto (tgt := 149) dX6_digest_178 (by decide) ?_
                      exact y_ih
                · exfalso; omega
              · intro k hk y_kh
                refine z_rng fun hr => ?_
                have y_s : z_hksR A g (z_hpsR (M g) (A 16) h (M g 0).toNat) (k + 1) = z_hmp (z_fis A g k) g k (z_hksR A g (z_hpsR (M g) (A 16) h (M g 0).toNat) k) := rfl
                have y_t : z_fis A g (k + 1) = z_fiM (z_fis A g k) g k := rfl
                have y_Eg : z_fis A g k g = M g := (z_fis_row A g (by omega) k).trans y_Ag
                have y_En : z_fis A g k 7 2 = (g : Int) := (z_fis_7 A g (by decide) k).trans y_An
                have y_Eb : z_BI (z_fis A g k g) N := by rw [y_Eg]; exact hb
                obtain ⟨E, y_E⟩ : ∃ E, z_fis A g k = E := ⟨_, rfl⟩
                rw [y_E] at y_s y_t y_Eg y_En y_Eb ⊢
                refine z_rng fun hr => ?_
                refine z_iloadn dX6_digest_95 rfl ?_
                refine z_aloadn dX6_digest_96 rfl ?_
                refine gX6_44 (by first | exact hn | exact y_An | exact y_En) rfl dX6_digest_97 ?_
                refine gX6_121 hg rfl dX6_digest_100 ?_
                refine gX6_136 hg rfl dX6_digest_103 ?_
                refine z_top (v' := M g 1) (by rw [y_Eg]) ?_
                refine z_icmp_ge (tgt := 122) (by omega) (by omega) dX6_digest_106 (by decide) (fun h106 => ?_) (fun h106 => ?_)
                · exfalso; omega
                · refine z_aloadn dX6_digest_109 rfl ?_
                  refine z_lloadn dX6_digest_110 rfl ?_
                  refine z_iloadn dX6_digest_111 rfl ?_
                  refine kX6_316 (tX6_mixPiece hg y_En y_Eb (by omega) (by rw [y_Eg]; omega)) rfl ⟨(Nat.le_of_ble_eq_true rfl), (Nat.le_of_ble_eq_true rfl)⟩ (Nat.le_of_ble_eq_true rfl) dX6_digest_112 ?_
                  refine z_lstoren_1 dX6_digest_115 (Nat.le_of_ble_eq_true rfl) rfl ?_
                  refine z_iinc_3 dX6_digest_116 (Nat.le_of_ble_eq_true rfl) rfl ?_
                  refine z_goto (tgt := 95) dX6_digest_119 (by decide) ?_
                  rw [y_s, y_t] at y_kh
                  exact y_kh
            · exfalso; omega
          · intro p hp y_ph
            refine z_rng fun hr => ?_
            have y_s : z_hpsR (M g) (A 16) h (p + 1) = z_hpR (M g) (A 16) p (z_hpsR (M g) (A 16) h p) := rfl
            refine z_iloadn dX6_digest_66 rfl ?_
            refine z_aloadn dX6_digest_67 rfl ?_
            refine gX6_44 (by first | exact hn | exact y_An | exact y_En) rfl dX6_digest_68 ?_
            refine gX6_48 hg rfl dX6_digest_71 ?_
            refine gX6_52 hg rfl dX6_digest_74 ?_
            refine z_top (v' := M g 0) (by rw [y_Ag]) ?_
            refine z_icmp_ge (tgt := 93) (by omega) (by omega) dX6_digest_77 (by decide) (fun h77 => ?_) (fun h77 => ?_)
            · exfalso; omega
            · refine z_aloadn dX6_digest_80 rfl ?_
              refine z_lloadn dX6_digest_81 rfl ?_
              refine z_iloadn dX6_digest_82 rfl ?_
              refine kX6_312 (tX6_mixPen hg y_An y_hb (by omega) (by rw [y_Ag]; omega)) rfl ⟨(Nat.le_of_ble_eq_true rfl), (Nat.le_of_ble_eq_true rfl)⟩ (Nat.le_of_ble_eq_true rfl) dX6_digest_83 ?_
              refine z_topLL (v' := z_hpR (M g) (A 16) p (z_hpsR (M g) (A 16) h p)) (by rw [y_Ag]) ?_
              refine z_lstoren_1 dX6_digest_86 (Nat.le_of_ble_eq_true rfl) rfl ?_
              refine z_iinc_3 dX6_digest_87 (Nat.le_of_ble_eq_true rfl) rfl ?_
              refine z_goto (tgt := 66) dX6_digest_90 (by decide) ?_
              rw [y_s] at y_ph
              exact y_ph
        · exfalso; omega
      · intro i hi y_ih
        refine z_rng fun hr => ?_
        refine z_iloadn dX6_digest_31 rfl ?_
        refine z_bipush dX6_digest_32 (by decide) ?_
        refine z_icmp_ge (tgt := 58) (by first | (exact hr _ _ (by decide)) | (exact hr _ _ (by omega)) | omega) (by first | (exact hr _ _ (by decide)) | (exact hr _ _ (by omega)) | omega) dX6_digest_34 (by decide) (fun h34 => ?_) (fun h34 => ?_)
        · exfalso; omega
        · refine z_lloadn dX6_digest_37 rfl ?_
          refine z_aloadn dX6_digest_38 rfl ?_
          refine gX6_44 (by first | exact hn | exact y_An | exact y_En) rfl dX6_digest_39 ?_
          refine gX6_115 hg rfl dX6_digest_42 ?_
          refine z_iloadn dX6_digest_45 rfl ?_
          refine z_iald (by rfl) (by first | decide | exact Or.inl ⟨by decide, hg⟩) (by omega) (by omega) (by decide) dX6_digest_46 ?_
          refine z_topI rfl ?_
          refine z_i2l (z_iw_rg _) dX6_digest_47 ?_
          refine kX6_308 tX6_mix rfl ⟨(Nat.le_of_ble_eq_true rfl), (Nat.le_of_ble_eq_true rfl)⟩ (Nat.le_of_ble_eq_true rfl) dX6_digest_48 ?_
          refine z_lstoren_1 dX6_digest_51 (Nat.le_of_ble_eq_true rfl) rfl ?_
          refine z_iinc_3 dX6_digest_52 (Nat.le_of_ble_eq_true rfl) rfl ?_
          refine z_goto (tgt := 31) dX6_digest_55 (by decide) ?_
          exact y_ih
    · exfalso; omega
  · intro i hi y_ih
    refine z_rng fun hr => ?_
    refine z_iloadn dX6_digest_6 rfl ?_
    refine z_bipush dX6_digest_7 (by decide) ?_
    refine z_icmp_ge (tgt := 29) (by first | (exact hr _ _ (by decide)) | (exact hr _ _ (by omega)) | omega) (by first | (exact hr _ _ (by decide)) | (exact hr _ _ (by omega)) | omega) dX6_digest_9 (by decide) (fun h9 => ?_) (fun h9 => ?_)
    · exfalso; omega
    · refine z_lloadn dX6_digest_12 rfl ?_
      refine z_aloadn dX6_digest_13 rfl ?_
      refine z_iloadn dX6_digest_14 rfl ?_
      refine kX6_305 (tX6_count hg hn hb (by omega) (by unfold z_c_count; (repeat' split) <;> first | rfl | (exfalso; omega))) rfl ⟨(Nat.le_of_ble_eq_true rfl), (Nat.le_of_ble_eq_true rfl)⟩ (Nat.le_of_ble_eq_true rfl) dX6_digest_15 ?_
      refine z_topI rfl ?_
      refine z_i2l (z_iw_rg _) dX6_digest_18 ?_
      refine kX6_308 tX6_mix rfl ⟨(Nat.le_of_ble_eq_true rfl), (Nat.le_of_ble_eq_true rfl)⟩ (Nat.le_of_ble_eq_true rfl) dX6_digest_19 ?_
      refine z_lstoren_1 dX6_digest_22 (Nat.le_of_ble_eq_true rfl) rfl ?_
      refine z_iinc_3 dX6_digest_23 (Nat.le_of_ble_eq_true rfl) rfl ?_
      refine z_goto (tgt := 6) dX6_digest_26 (by decide) ?_
      exact y_ih
