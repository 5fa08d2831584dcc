theorem tL_act_draft {G : z_G} {M : z_M} {g : Nat} {N a x y : Int} (h : z_LR M g N) (hN : N + 1 ≤ 600) (a0 : 0 ≤ a) (a1 : a ≤ 24) (b0 : 0 < M g 0) (ha : 9 ≤ a ∧ a < 14) (hb1 : 0 < M g 1) : z_ConP G yL_act cL_act 15 (some .boolean) 9 177 0 0 [.ref (z_ad G 0 20), z_I a, z_I x, z_I y, .ref (z_ad G 0 40), .ref (z_ad G 0 41), .ref (z_ad G 0 42), .ref (z_ad G 0 43), .ref (z_ad G 0 44), .ref (z_ad G 0 45), .ref (z_ad G 0 46)] M (some (z_I 1)) (z_PA M N a (M g 0)) := by
  refine z_conP (ls := [some (.ref (z_ad G 0 20)), some (z_I a), some (z_I x), some (z_I y), some (.ref (z_ad G 0 40)), some (.ref (z_ad G 0 41)), some (.ref (z_ad G 0 42)), some (.ref (z_ad G 0 43)), some (.ref (z_ad G 0 44)), some (.ref (z_ad G 0 45)), some (.ref (z_ad G 0 46)), none, none, none, none]) (by decide +kernel) (Nat.le_of_ble_eq_true rfl) rfl ?_
  intro Z
  refine z_rng fun hr => ?_
  have h0 := h
  obtain ⟨⟨hg, hn, hn0, s0, s1, ho, hb⟩, hE, h4, h5⟩ := h0
  have hh := z_BI_h hb
  have y_rb : ∀ i, z_rg (M g i) := fun i => hr g i (by omega)
  have hq7 := z_sg_lt g
  refine z_iloadn dL_act_0 rfl ?_
  refine z_if_eq (tgt := 11) (by first | exact y_rb _ | omega | (exact hr _ _ (by decide))) dL_act_1 (by decide) (fun h1 => ?_) (fun h1 => ?_)
  · exfalso; omega
  · refine z_aload dL_act_4 rfl ?_
    refine z_iconst dL_act_6 ?_
    refine z_lld (R := 40) (j := 0) al_c (Or.inl (by decide)) (congrFun hE _) (by omega) (by omega) (Nat.le_of_ble_eq_true rfl) (by omega) dL_act_7 ?_
    refine z_if_ne (tgt := 64) (by first | exact y_rb _ | omega | (exact hr _ _ (by decide))) dL_act_8 (by decide) (fun h8 => ?_) (fun h8 => ?_)
    · refine z_iloadn dL_act_64 rfl ?_
      refine z_iconst dL_act_65 ?_
      refine z_icmp_ne (tgt := 150) (by first | exact y_rb _ | omega | (exact hr _ _ (by decide))) (by first | exact y_rb _ | omega | (exact hr _ _ (by decide))) dL_act_66 (by decide) (fun h66 => ?_) (fun h66 => ?_)
      · refine z_iloadn dL_act_150 rfl ?_
        refine z_iconst dL_act_151 ?_
        refine z_icmp_ne (tgt := 202) (by first | exact y_rb _ | omega | (exact hr _ _ (by decide))) (by first | exact y_rb _ | omega | (exact hr _ _ (by decide))) dL_act_152 (by decide) (fun h152 => ?_) (fun h152 => ?_)
        · refine z_iloadn dL_act_202 rfl ?_
          refine z_bipush dL_act_203 (by decide) ?_
          refine z_icmp_ge (tgt := 222) (by first | exact y_rb _ | omega | (exact hr _ _ (by decide))) (by first | exact y_rb _ | omega | (exact hr _ _ (by decide))) dL_act_205 (by decide) (fun h205 => ?_) (fun h205 => ?_)
          · refine z_iloadn dL_act_222 rfl ?_
            refine z_bipush dL_act_223 (by decide) ?_
            refine z_icmp_lt (tgt := 235) (by first | exact y_rb _ | omega | (exact hr _ _ (by decide))) (by first | exact y_rb _ | omega | (exact hr _ _ (by decide))) dL_act_225 (by decide) (fun h225 => ?_) (fun h225 => ?_)
            · exfalso; omega
            · refine z_aload dL_act_228 rfl ?_
              refine z_iconst dL_act_230 ?_
              refine z_lld (R := 40) (j := 1) al_c (Or.inl (by decide)) (congrFun hE _) (by omega) (by omega) (Nat.le_of_ble_eq_true rfl) (by omega) dL_act_231 ?_
              refine z_if_ne (tgt := 344) (by first | exact y_rb _ | omega | (exact hr _ _ (by decide))) dL_act_232 (by decide) (fun h232 => ?_) (fun h232 => ?_)
              · refine z_iloadn dL_act_344 rfl ?_
                refine z_iconst dL_act_345 ?_
                refine z_ishr (z_ivE _) dL_act_346 ?_
                refine z_aload dL_act_347 rfl ?_
                refine z_iconst dL_act_349 ?_
                refine z_lld (R := 40) (j := 1) al_c (Or.inl (by decide)) (congrFun hE _) (by omega) (by omega) (Nat.le_of_ble_eq_true rfl) (by omega) dL_act_350 ?_
                refine kL_65 (tL_at (by omega) (by omega)) rfl ⟨(Nat.le_of_ble_eq_true rfl), (Nat.le_of_ble_eq_true rfl)⟩ (Nat.le_of_ble_eq_true rfl) dL_act_351 ?_
                obtain ⟨k, y_kk⟩ : ∃ k, z_atv (z_iv (Int32.ofInt x >>> (Int32.ofInt 2 &&& 31))) (M g 1) = k := ⟨_, rfl⟩
                have y_k2 := z_atv_rg (x := z_iv (Int32.ofInt x >>> (Int32.ofInt 2 &&& 31))) (n := M g 1) (by omega)
                rw [y_kk] at y_k2
                have y_K := z_BI_K hb k y_k2.1 (by omega)
                unfold z_KI at y_K
                have y_aD := z_aD_0 hb y_k2.1 (show k < 20 by omega)
                have k0 := y_k2.1
                have k1 := y_k2.2
                refine z_top (v' := k) y_kk ?_
                refine z_istore_11 dL_act_354 (Nat.le_of_ble_eq_true rfl) rfl ?_
                refine z_iloadn dL_act_356 rfl ?_
                refine z_iconst dL_act_357 ?_
                refine z_ishr (z_ivE _) dL_act_358 ?_
                refine z_aload dL_act_359 rfl ?_
                refine z_iconst dL_act_361 ?_
                refine z_lld (R := 40) (j := 0) al_c (Or.inl (by decide)) (congrFun hE _) (by omega) (by omega) (Nat.le_of_ble_eq_true rfl) (by omega) dL_act_362 ?_
                refine kL_65 (tL_at (by omega) (by omega)) rfl ⟨(Nat.le_of_ble_eq_true rfl), (Nat.le_of_ble_eq_true rfl)⟩ (Nat.le_of_ble_eq_true rfl) dL_act_363 ?_
                obtain ⟨p, y_p⟩ : ∃ p, z_atv (z_iv (Int32.ofInt y >>> (Int32.ofInt 5 &&& 31))) (M g 0) = p := ⟨_, rfl⟩
                have y_p2 := z_atv_rg (x := z_iv (Int32.ofInt y >>> (Int32.ofInt 5 &&& 31))) (n := M g 0) b0
                rw [y_p] at y_p2
                have p0 := y_p2.1
                have p1 := y_p2.2
                have y_q := z_BI_Q hb k p k0 (by omega) p0 (by omega)
                unfold z_QI at y_q
                refine z_top (v' := p) y_p ?_
                refine z_istore_12 dL_act_366 (Nat.le_of_ble_eq_true rfl) rfl ?_
                refine z_aload dL_act_368 rfl ?_
                refine z_iconst dL_act_370 ?_
                refine z_iload dL_act_371 rfl ?_
                refine z_imul dL_act_373 ?_
                refine z_iconst dL_act_374 ?_
                refine z_iadd dL_act_375 ?_
                refine z_lld (R := 40) (j := 86 + 5 * k + 2) al_pi (Or.inl (by decide)) (congrFun hE _) (by omega) (by omega) (Nat.le_of_ble_eq_true rfl) (by omega) dL_act_376 ?_
                refine z_istore_13 dL_act_377 (Nat.le_of_ble_eq_true rfl) rfl ?_
                refine z_iloadn dL_act_379 rfl ?_
                refine z_bipush dL_act_380 (by decide) ?_
                refine z_icmp_ge (tgt := 469) (by first | exact y_rb _ | omega | (exact hr _ _ (by decide))) (by first | exact y_rb _ | omega | (exact hr _ _ (by decide))) dL_act_382 (by decide) (fun h382 => ?_) (fun h382 => ?_)
                · exfalso; omega
                · refine z_iload dL_act_385 rfl ?_
                  refine z_iconst dL_act_387 ?_
                  refine z_icmp_gt (tgt := 403) (by first | exact y_rb _ | omega | (exact hr _ _ (by decide))) (by first | exact y_rb _ | omega | (exact hr _ _ (by decide))) dL_act_388 (by decide) (fun h388 => ?_) (fun h388 => ?_)
                  · refine z_iconst dL_act_403 ?_
                    exact z_zretP dL_act_404 rfl (z_PA_ne (by omega) (z_PS_id h hN))
                  · refine z_aload dL_act_391 rfl ?_
                    refine z_iload dL_act_393 rfl ?_
                    refine kL_8 (tL_four_dr k0 (by omega) (z_drz hb h4 k0 (by omega)) (fun q _ _ => congrFun hE _)) rfl ⟨(Nat.le_of_ble_eq_true rfl), (Nat.le_of_ble_eq_true rfl)⟩ (Nat.le_of_ble_eq_true rfl) dL_act_395 ?_
                    refine z_bipush dL_act_398 (by decide) ?_
                    refine z_icmp_ne (tgt := 405) (by first | exact y_rb _ | omega | (exact hr _ _ (by decide))) (by first | exact y_rb _ | omega | (exact hr _ _ (by decide))) dL_act_400 (by decide) (fun h400 => ?_) (fun h400 => ?_)
                    · refine z_aload dL_act_405 rfl ?_
                      refine z_iconst dL_act_407 ?_
                      refine z_iload dL_act_408 rfl ?_
                      refine z_imul dL_act_410 ?_
                      refine z_iconst dL_act_411 ?_
                      refine z_iadd dL_act_412 ?_
                      refine z_aload dL_act_413 rfl ?_
                      refine z_iload dL_act_415 rfl ?_
                      refine kL_8 (tL_four_dr k0 (by omega) (z_drz hb h4 k0 (by omega)) (fun q _ _ => congrFun hE _)) rfl ⟨(Nat.le_of_ble_eq_true rfl), (Nat.le_of_ble_eq_true rfl)⟩ (Nat.le_of_ble_eq_true rfl) dL_act_417 ?_
                      refine z_if_ne (tgt := 427) (by first | exact y_rb _ | omega | (exact hr _ _ (by decide))) dL_act_420 (by decide) (fun h420 => ?_) (fun h420 => ?_)
                      · refine z_iconst dL_act_427 ?_
                        have y_dst := z_dst_rg (M g) k
                        refine z_top (v' := z_dst (M g) k) (by unfold z_dst; first | rw [if_pos (by omega)] | rw [if_neg (by omega)]) ?_
                        refine z_lst (R := 40) (j := 86 + 5 * k + 2) al_pi (Or.inl (by decide)) (by omega) (by omega) (Nat.le_of_ble_eq_true rfl) (by omega) (by first | exact y_rb _ | omega | (exact hr _ _ (by decide))) dL_act_428 ?_
                        refine z_rng fun hr => ?_
                        refine z_aload dL_act_429 rfl ?_
                        refine z_iconst dL_act_431 ?_
                        refine z_iload dL_act_432 rfl ?_
                        refine z_imul dL_act_434 ?_
                        refine z_iload dL_act_435 rfl ?_
                        refine z_iadd dL_act_437 ?_
                        refine z_dup2 dL_act_438 rfl rfl ?_
                        refine z_lld (R := 40) (j := 186 + 12 * k + p) al_dr (Or.inl (by decide)) ((z_sM_ne _ _ _ (by omega)).trans (congrFun hE _)) (by omega) (by omega) (Nat.le_of_ble_eq_true rfl) (by omega) dL_act_439 ?_
                        refine z_iconst dL_act_440 ?_
                        refine z_iadd dL_act_441 ?_
                        refine z_lst (R := 40) (j := 186 + 12 * k + p) al_dr (Or.inl (by decide)) (by omega) (by omega) (Nat.le_of_ble_eq_true rfl) (by omega) (by first | exact y_rb _ | omega | (exact hr _ _ (by decide))) dL_act_442 ?_
                        refine z_rng fun hr => ?_
                        refine z_mem (M' := z_sR M 40 (z_o_draft (M g) k p)) (by simp only [z_sM_R, z_sR_R, z_sR_self]; first | (rw [hE]; done) | (rw [hE]; first | rfl | (congr 1; unfold z_o_draft; funext j; simp only [z_uf]; (repeat' split) <;> first | rfl | omega | (subst_vars; omega)))) ?_
                        have y_lc : z_LC (z_sR M 40 (z_o_draft (M g) k p)) g N := z_LC_sR h.1 (by decide)
                        have y_g : z_sR M 40 (z_o_draft (M g) k p) g = M g := z_sR_ne _ _ (by omega)
                        have y_40 : z_sR M 40 (z_o_draft (M g) k p) 40 = z_o_draft (M g) k p := z_sR_self _ _ _
                        refine z_rng fun hr => ?_
                        generalize z_sR M 40 (z_o_draft (M g) k p) = M2 at *
                        obtain ⟨-, hn', hn0', s0', s1', ho', hb'⟩ := id y_lc
                        have y_hc : z_c_draft (M g) k p = 0 := by unfold z_c_draft; rw [if_neg (by omega), if_neg (by omega)]
                        have y_k := z_k_draft hb hN y_hc
                        have y_o : z_o_draft (M g) k p 0 = M g 0 ∧ z_o_draft (M g) k p 1 = M g 1 := ⟨(z_uf_ne _ _ (by omega)).trans (z_uf_ne _ _ (by omega)), (z_uf_ne _ _ (by omega)).trans (z_uf_ne _ _ (by omega))⟩
                        have y_dst := z_dst_rg (M g) k
                        refine z_aloadn dL_act_443 rfl ?_
                        refine z_iload dL_act_444 rfl ?_
                        refine z_iload dL_act_446 rfl ?_
                        refine kL_127 (tX6_draft hg hn' hn0' s0' s1' ho' hb' (k := k) (p := p) (by omega) (by omega) (by rw [y_g]; exact y_hc)) rfl ⟨(Nat.le_of_ble_eq_true rfl), (Nat.le_of_ble_eq_true rfl)⟩ (Nat.le_of_ble_eq_true rfl) dL_act_448 ?_
                        refine z_rng fun hr => ?_
                        refine z_top (v' := z_dst (M g) k) (by rw [y_g]) ?_
                        refine z_aload dL_act_451 rfl ?_
                        refine z_iconst dL_act_453 ?_
                        refine z_iload dL_act_454 rfl ?_
                        refine z_imul dL_act_456 ?_
                        refine z_iconst dL_act_457 ?_
                        refine z_iadd dL_act_458 ?_
                        refine z_lld (R := 40) (j := 86 + 5 * k + 2) al_pi (Or.inl (by decide)) ((congrFun (z_sR_ne _ _ (by omega)) _).trans ((congrFun (z_SC_row (by decide) (by omega)) _).trans ((congrFun y_40 _).trans (z_uf_self _ _ _)))) (by omega) (by omega) (Nat.le_of_ble_eq_true rfl) (by omega) dL_act_459 ?_
                        refine z_icmp_ne (tgt := 467) (by first | exact y_rb _ | omega | (exact hr _ _ (by decide))) (by first | exact y_rb _ | omega | (exact hr _ _ (by decide))) dL_act_460 (by decide) (fun h460 => ?_) (fun h460 => ?_)
                        · exfalso; omega
                        · refine z_iconst dL_act_463 ?_
                          refine z_goto (tgt := 468) dL_act_464 (by decide) ?_
                          exact z_zretP dL_act_468 rfl (by rw [y_g]; exact z_PA_sv y_lc y_40 y_k (by omega) (by omega))
                      · refine z_iconst dL_act_423 ?_
                        refine z_goto (tgt := 428) dL_act_424 (by decide) ?_
                        have y_dst := z_dst_rg (M g) k
                        refine z_top (v' := z_dst (M g) k) (by unfold z_dst; first | rw [if_pos (by omega)] | rw [if_neg (by omega)]) ?_
                        refine z_lst (R := 40) (j := 86 + 5 * k + 2) al_pi (Or.inl (by decide)) (by omega) (by omega) (Nat.le_of_ble_eq_true rfl) (by omega) (by first | exact y_rb _ | omega | (exact hr _ _ (by decide))) dL_act_428 ?_
                        refine z_rng fun hr => ?_
                        refine z_aload dL_act_429 rfl ?_
                        refine z_iconst dL_act_431 ?_
                        refine z_iload dL_act_432 rfl ?_
                        refine z_imul dL_act_434 ?_
                        refine z_iload dL_act_435 rfl ?_
                        refine z_iadd dL_act_437 ?_
                        refine z_dup2 dL_act_438 rfl rfl ?_
                        refine z_lld (R := 40) (j := 186 + 12 * k + p) al_dr (Or.inl (by decide)) ((z_sM_ne _ _ _ (by omega)).trans (congrFun hE _)) (by omega) (by omega) (Nat.le_of_ble_eq_true rfl) (by omega) dL_act_439 ?_
                        refine z_iconst dL_act_440 ?_
                        refine z_iadd dL_act_441 ?_
                        refine z_lst (R := 40) (j := 186 + 12 * k + p) al_dr (Or.inl (by decide)) (by omega) (by omega) (Nat.le_of_ble_eq_true rfl) (by omega) (by first | exact y_rb _ | omega | (exact hr _ _ (by decide))) dL_act_442 ?_
                        refine z_rng fun hr => ?_
                        refine z_mem (M' := z_sR M 40 (z_o_draft (M g) k p)) (by simp only [z_sM_R, z_sR_R, z_sR_self]; first | (rw [hE]; done) | (rw [hE]; first | rfl | (congr 1; unfold z_o_draft; funext j; simp only [z_uf]; (repeat' split) <;> first | rfl | omega | (subst_vars; omega)))) ?_
                        have y_lc : z_LC (z_sR M 40 (z_o_draft (M g) k p)) g N := z_LC_sR h.1 (by decide)
                        have y_g : z_sR M 40 (z_o_draft (M g) k p) g = M g := z_sR_ne _ _ (by omega)
                        have y_40 : z_sR M 40 (z_o_draft (M g) k p) 40 = z_o_draft (M g) k p := z_sR_self _ _ _
                        refine z_rng fun hr => ?_
                        generalize z_sR M 40 (z_o_draft (M g) k p) = M2 at *
                        obtain ⟨-, hn', hn0', s0', s1', ho', hb'⟩ := id y_lc
                        have y_hc : z_c_draft (M g) k p = 0 := by unfold z_c_draft; rw [if_neg (by omega), if_neg (by omega)]
                        have y_k := z_k_draft hb hN y_hc
                        have y_o : z_o_draft (M g) k p 0 = M g 0 ∧ z_o_draft (M g) k p 1 = M g 1 := ⟨(z_uf_ne _ _ (by omega)).trans (z_uf_ne _ _ (by omega)), (z_uf_ne _ _ (by omega)).trans (z_uf_ne _ _ (by omega))⟩
                        have y_dst := z_dst_rg (M g) k
                        refine z_aloadn dL_act_443 rfl ?_
                        refine z_iload dL_act_444 rfl ?_
                        refine z_iload dL_act_446 rfl ?_
                        refine kL_127 (tX6_draft hg hn' hn0' s0' s1' ho' hb' (k := k) (p := p) (by omega) (by omega) (by rw [y_g]; exact y_hc)) rfl ⟨(Nat.le_of_ble_eq_true rfl), (Nat.le_of_ble_eq_true rfl)⟩ (Nat.le_of_ble_eq_true rfl) dL_act_448 ?_
                        refine z_rng fun hr => ?_
                        refine z_top (v' := z_dst (M g) k) (by rw [y_g]) ?_
                        refine z_aload dL_act_451 rfl ?_
                        refine z_iconst dL_act_453 ?_
                        refine z_iload dL_act_454 rfl ?_
                        refine z_imul dL_act_456 ?_
                        refine z_iconst dL_act_457 ?_
                        refine z_iadd dL_act_458 ?_
                        refine z_lld (R := 40) (j := 86 + 5 * k + 2) al_pi (Or.inl (by decide)) ((congrFun (z_sR_ne _ _ (by omega)) _).trans ((congrFun (z_SC_row (by decide) (by omega)) _).trans ((congrFun y_40 _).trans (z_uf_self _ _ _)))) (by omega) (by omega) (Nat.le_of_ble_eq_true rfl) (by omega) dL_act_459 ?_
                        refine z_icmp_ne (tgt := 467) (by first | exact y_rb _ | omega | (exact hr _ _ (by decide))) (by first | exact y_rb _ | omega | (exact hr _ _ (by decide))) dL_act_460 (by decide) (fun h460 => ?_) (fun h460 => ?_)
                        · exfalso; omega
                        · refine z_iconst dL_act_463 ?_
                          refine z_goto (tgt := 468) dL_act_464 (by decide) ?_
                          exact z_zretP dL_act_468 rfl (by rw [y_g]; exact z_PA_sv y_lc y_40 y_k (by omega) (by omega))
                    · refine z_iconst dL_act_403 ?_
                      exact z_zretP dL_act_404 rfl (z_PA_ne (by omega) (z_PS_id h hN))
              · exfalso; omega
          · exfalso; omega
        · exfalso; omega
      · exfalso; omega
    · exfalso; omega
theorem tL_act_revise {G : z_G} {M : z_M} {g : Nat} {N a x y : Int} (h : z_LR M g N) (hN : N + 1 ≤ 600) (a0 : 0 ≤ a) (a1 : a ≤ 24) (b0 : 0 < M g 0) (ha : a = 14) (hb1 : 0 < M g 1) : z_ConP G yL_act cL_act 15 (some .boolean) 9 177 0 0 [.ref (z_ad G 0 20), z_I a, z_I x, z_I y, .ref (z_ad G 0 40), .ref (z_ad G 0 41), .ref (z_ad G 0 42), .ref (z_ad G 0 43), .ref (z_ad G 0 44), .ref (z_ad G 0 45), .ref (z_ad G 0 46)] M (some (z_I 1)) (z_PA M N a (M g 0)) := by
  refine z_conP (ls := [some (.ref (z_ad G 0 20)), some (z_I a), some (z_I x), some (z_I y), some (.ref (z_ad G 0 40)), some (.ref (z_ad G 0 41)), some (.ref (z_ad G 0 42)), some (.ref (z_ad G 0 43)), some (.ref (z_ad G 0 44)), some (.ref (z_ad G 0 45)), some (.ref (z_ad G 0 46)), none, none, none, none]) (by decide +kernel) (Nat.le_of_ble_eq_true rfl) rfl ?_
  intro Z
  refine z_rng fun hr => ?_
  have h0 := h
  obtain ⟨⟨hg, hn, hn0, s0, s1, ho, hb⟩, hE, h4, h5⟩ := h0
  have hh := z_BI_h hb
  have y_rb : ∀ i, z_rg (M g i) := fun i => hr g i (by omega)
  have hq7 := z_sg_lt g
  refine z_iloadn dL_act_0 rfl ?_
  refine z_if_eq (tgt := 11) (by first | exact y_rb _ | omega | (exact hr _ _ (by decide))) dL_act_1 (by decide) (fun h1 => ?_) (fun h1 => ?_)
  · exfalso; omega
  · refine z_aload dL_act_4 rfl ?_
    refine z_iconst dL_act_6 ?_
    refine z_lld (R := 40) (j := 0) al_c (Or.inl (by decide)) (congrFun hE _) (by omega) (by omega) (Nat.le_of_ble_eq_true rfl) (by omega) dL_act_7 ?_
    refine z_if_ne (tgt := 64) (by first | exact y_rb _ | omega | (exact hr _ _ (by decide))) dL_act_8 (by decide) (fun h8 => ?_) (fun h8 => ?_)
    · refine z_iloadn dL_act_64 rfl ?_
      refine z_iconst dL_act_65 ?_
      refine z_icmp_ne (tgt := 150) (by first | exact y_rb _ | omega | (exact hr _ _ (by decide))) (by first | exact y_rb _ | omega | (exact hr _ _ (by decide))) dL_act_66 (by decide) (fun h66 => ?_) (fun h66 => ?_)
      · refine z_iloadn dL_act_150 rfl ?_
        refine z_iconst dL_act_151 ?_
        refine z_icmp_ne (tgt := 202) (by first | exact y_rb _ | omega | (exact hr _ _ (by decide))) (by first | exact y_rb _ | omega | (exact hr _ _ (by decide))) dL_act_152 (by decide) (fun h152 => ?_) (fun h152 => ?_)
        · refine z_iloadn dL_act_202 rfl ?_
          refine z_bipush dL_act_203 (by decide) ?_
          refine z_icmp_ge (tgt := 222) (by first | exact y_rb _ | omega | (exact hr _ _ (by decide))) (by first | exact y_rb _ | omega | (exact hr _ _ (by decide))) dL_act_205 (by decide) (fun h205 => ?_) (fun h205 => ?_)
          · refine z_iloadn dL_act_222 rfl ?_
            refine z_bipush dL_act_223 (by decide) ?_
            refine z_icmp_lt (tgt := 235) (by first | exact y_rb _ | omega | (exact hr _ _ (by decide))) (by first | exact y_rb _ | omega | (exact hr _ _ (by decide))) dL_act_225 (by decide) (fun h225 => ?_) (fun h225 => ?_)
            · exfalso; omega
            · refine z_aload dL_act_228 rfl ?_
              refine z_iconst dL_act_230 ?_
              refine z_lld (R := 40) (j := 1) al_c (Or.inl (by decide)) (congrFun hE _) (by omega) (by omega) (Nat.le_of_ble_eq_true rfl) (by omega) dL_act_231 ?_
              refine z_if_ne (tgt := 344) (by first | exact y_rb _ | omega | (exact hr _ _ (by decide))) dL_act_232 (by decide) (fun h232 => ?_) (fun h232 => ?_)
              · refine z_iloadn dL_act_344 rfl ?_
                refine z_iconst dL_act_345 ?_
                refine z_ishr (z_ivE _) dL_act_346 ?_
                refine z_aload dL_act_347 rfl ?_
                refine z_iconst dL_act_349 ?_
                refine z_lld (R := 40) (j := 1) al_c (Or.inl (by decide)) (congrFun hE _) (by omega) (by omega) (Nat.le_of_ble_eq_true rfl) (by omega) dL_act_350 ?_
                refine kL_65 (tL_at (by omega) (by omega)) rfl ⟨(Nat.le_of_ble_eq_true rfl), (Nat.le_of_ble_eq_true rfl)⟩ (Nat.le_of_ble_eq_true rfl) dL_act_351 ?_
                obtain ⟨k, y_kk⟩ : ∃ k, z_atv (z_iv (Int32.ofInt x >>> (Int32.ofInt 2 &&& 31))) (M g 1) = k := ⟨_, rfl⟩
                have y_k2 := z_atv_rg (x := z_iv (Int32.ofInt x >>> (Int32.ofInt 2 &&& 31))) (n := M g 1) (by omega)
                rw [y_kk] at y_k2
                have y_K := z_BI_K hb k y_k2.1 (by omega)
                unfold z_KI at y_K
                have y_aD := z_aD_0 hb y_k2.1 (show k < 20 by omega)
                have k0 := y_k2.1
                have k1 := y_k2.2
                refine z_top (v' := k) y_kk ?_
                refine z_istore_11 dL_act_354 (Nat.le_of_ble_eq_true rfl) rfl ?_
                refine z_iloadn dL_act_356 rfl ?_
                refine z_iconst dL_act_357 ?_
                refine z_ishr (z_ivE _) dL_act_358 ?_
                refine z_aload dL_act_359 rfl ?_
                refine z_iconst dL_act_361 ?_
                refine z_lld (R := 40) (j := 0) al_c (Or.inl (by decide)) (congrFun hE _) (by omega) (by omega) (Nat.le_of_ble_eq_true rfl) (by omega) dL_act_362 ?_
                refine kL_65 (tL_at (by omega) (by omega)) rfl ⟨(Nat.le_of_ble_eq_true rfl), (Nat.le_of_ble_eq_true rfl)⟩ (Nat.le_of_ble_eq_true rfl) dL_act_363 ?_
                obtain ⟨p, y_p⟩ : ∃ p, z_atv (z_iv (Int32.ofInt y >>> (Int32.ofInt 5 &&& 31))) (M g 0) = p := ⟨_, rfl⟩
                have y_p2 := z_atv_rg (x := z_iv (Int32.ofInt y >>> (Int32.ofInt 5 &&& 31))) (n := M g 0) b0
                rw [y_p] at y_p2
                have p0 := y_p2.1
                have p1 := y_p2.2
                have y_q := z_BI_Q hb k p k0 (by omega) p0 (by omega)
                unfold z_QI at y_q
                refine z_top (v' := p) y_p ?_
                refine z_istore_12 dL_act_366 (Nat.le_of_ble_eq_true rfl) rfl ?_
                refine z_aload dL_act_368 rfl ?_
                refine z_iconst dL_act_370 ?_
                refine z_iload dL_act_371 rfl ?_
                refine z_imul dL_act_373 ?_
                refine z_iconst dL_act_374 ?_
                refine z_iadd dL_act_375 ?_
                refine z_lld (R := 40) (j := 86 + 5 * k + 2) al_pi (Or.inl (by decide)) (congrFun hE _) (by omega) (by omega) (Nat.le_of_ble_eq_true rfl) (by omega) dL_act_376 ?_
                refine z_istore_13 dL_act_377 (Nat.le_of_ble_eq_true rfl) rfl ?_
                refine z_iloadn dL_act_379 rfl ?_
                refine z_bipush dL_act_380 (by decide) ?_
                refine z_icmp_ge (tgt := 469) (by first | exact y_rb _ | omega | (exact hr _ _ (by decide))) (by first | exact y_rb _ | omega | (exact hr _ _ (by decide))) dL_act_382 (by decide) (fun h382 => ?_) (fun h382 => ?_)
                · refine z_iloadn dL_act_469 rfl ?_
                  refine z_bipush dL_act_470 (by decide) ?_
                  refine z_icmp_ne (tgt := 552) (by first | exact y_rb _ | omega | (exact hr _ _ (by decide))) (by first | exact y_rb _ | omega | (exact hr _ _ (by decide))) dL_act_472 (by decide) (fun h472 => ?_) (fun h472 => ?_)
                  · exfalso; omega
                  · refine z_iload dL_act_475 rfl ?_
                    refine z_iconst dL_act_477 ?_
                    refine z_icmp_le (tgt := 483) (by first | exact y_rb _ | omega | (exact hr _ _ (by decide))) (by first | exact y_rb _ | omega | (exact hr _ _ (by decide))) dL_act_478 (by decide) (fun h478 => ?_) (fun h478 => ?_)
                    · refine z_aload dL_act_483 rfl ?_
                      refine z_iconst dL_act_485 ?_
                      refine z_iload dL_act_486 rfl ?_
                      refine z_imul dL_act_488 ?_
                      refine z_iconst dL_act_489 ?_
                      refine z_iadd dL_act_490 ?_
                      refine z_lld (R := 40) (j := 86 + 5 * k + 1) al_pi (Or.inl (by decide)) (congrFun hE _) (by omega) (by omega) (Nat.le_of_ble_eq_true rfl) (by omega) dL_act_491 ?_
                      refine z_istore_14 dL_act_492 (Nat.le_of_ble_eq_true rfl) rfl ?_
                      refine z_aload dL_act_494 rfl ?_
                      refine z_iconst dL_act_496 ?_
                      refine z_iload dL_act_497 rfl ?_
                      refine z_imul dL_act_499 ?_
                      refine z_iconst dL_act_500 ?_
                      refine z_iadd dL_act_501 ?_
                      refine z_bipush dL_act_502 (by decide) ?_
                      refine z_iloadn dL_act_504 rfl ?_
                      refine z_sipush dL_act_505 (by decide) ?_
                      refine kL_65 (tL_at (by decide) (by decide)) rfl ⟨(Nat.le_of_ble_eq_true rfl), (Nat.le_of_ble_eq_true rfl)⟩ (Nat.le_of_ble_eq_true rfl) dL_act_508 ?_
                      refine z_iadd dL_act_511 ?_
                      obtain ⟨f, y_f⟩ : ∃ f, 10 + z_atv y 9000 = f := ⟨_, rfl⟩
                      have y_f2 := z_atv_rg (x := y) (n := 9000) (by decide)
                      have y_f3 : 10 ≤ f ∧ f ≤ 9009 := by omega
                      refine z_top (v' := f) y_f ?_
                      refine z_lst (R := 40) (j := 86 + 5 * k + 1) al_pi (Or.inl (by decide)) (by omega) (by omega) (Nat.le_of_ble_eq_true rfl) (by omega) (by first | exact y_rb _ | omega | (exact hr _ _ (by decide))) dL_act_512 ?_
                      refine z_rng fun hr => ?_
                      refine z_aload dL_act_513 rfl ?_
                      refine z_iconst dL_act_515 ?_
                      refine z_iload dL_act_516 rfl ?_
                      refine z_imul dL_act_518 ?_
                      refine z_iconst dL_act_519 ?_
                      refine z_iadd dL_act_520 ?_
                      refine z_dup2 dL_act_521 rfl rfl ?_
                      refine z_lld (R := 40) (j := 86 + 5 * k + 3) al_pi (Or.inl (by decide)) ((z_sM_ne _ _ _ (by omega)).trans (congrFun hE _)) (by omega) (by omega) (Nat.le_of_ble_eq_true rfl) (by omega) dL_act_522 ?_
                      refine z_iconst dL_act_523 ?_
                      refine z_iadd dL_act_524 ?_
                      refine z_lst (R := 40) (j := 86 + 5 * k + 3) al_pi (Or.inl (by decide)) (by omega) (by omega) (Nat.le_of_ble_eq_true rfl) (by omega) (by first | exact y_rb _ | omega | (exact hr _ _ (by decide))) dL_act_525 ?_
                      refine z_rng fun hr => ?_
                      refine z_mem (M' := z_sR M 40 (z_o_revise (M g) k f)) (by simp only [z_sM_R, z_sR_R, z_sR_self]; first | (rw [hE]; done) | (rw [hE]; first | rfl | (congr 1; unfold z_o_revise; funext j; simp only [z_uf]; (repeat' split) <;> first | rfl | omega | (subst_vars; omega)))) ?_
                      have y_lc : z_LC (z_sR M 40 (z_o_revise (M g) k f)) g N := z_LC_sR h.1 (by decide)
                      have y_g : z_sR M 40 (z_o_revise (M g) k f) g = M g := z_sR_ne _ _ (by omega)
                      have y_40 : z_sR M 40 (z_o_revise (M g) k f) 40 = z_o_revise (M g) k f := z_sR_self _ _ _
                      refine z_rng fun hr => ?_
                      generalize z_sR M 40 (z_o_revise (M g) k f) = M2 at *
                      obtain ⟨-, hn', hn0', s0', s1', ho', hb'⟩ := id y_lc
                      have y_hc : z_c_revise (M g) k f = 0 := by unfold z_c_revise; rw [if_neg (by omega), if_neg (by omega), if_neg (by omega)]
                      have y_k := z_k_revise hb hN y_hc
                      have y_o : z_o_revise (M g) k f 0 = M g 0 ∧ z_o_revise (M g) k f 1 = M g 1 := ⟨(z_uf_ne _ _ (by omega)).trans (z_uf_ne _ _ (by omega)), (z_uf_ne _ _ (by omega)).trans (z_uf_ne _ _ (by omega))⟩
                      refine z_aloadn dL_act_526 rfl ?_
                      refine z_iload dL_act_527 rfl ?_
                      refine z_aload dL_act_529 rfl ?_
                      refine z_iconst dL_act_531 ?_
                      refine z_iload dL_act_532 rfl ?_
                      refine z_imul dL_act_534 ?_
                      refine z_iconst dL_act_535 ?_
                      refine z_iadd dL_act_536 ?_
                      refine z_lld (R := 40) (j := 86 + 5 * k + 1) al_pi (Or.inl (by decide)) ((congrFun y_40 _).trans ((z_uf_ne _ _ (by omega)).trans (z_uf_self _ _ _))) (by omega) (by omega) (Nat.le_of_ble_eq_true rfl) (by omega) dL_act_537 ?_
                      refine kL_130 (tX6_revise hg hn' hn0' s0' s1' ho' hb' (k := k) (f := f) (by omega) (by omega) (by rw [y_g]; exact y_hc)) rfl ⟨(Nat.le_of_ble_eq_true rfl), (Nat.le_of_ble_eq_true rfl)⟩ (Nat.le_of_ble_eq_true rfl) dL_act_538 ?_
                      refine z_rng fun hr => ?_
                      refine z_top (v' := M g (86 + 5 * k + 1)) (by rw [y_g]) ?_
                      refine z_iload dL_act_541 rfl ?_
                      refine z_icmp_ne (tgt := 550) (by first | exact y_rb _ | omega | (exact hr _ _ (by decide))) (by first | exact y_rb _ | omega | (exact hr _ _ (by decide))) dL_act_543 (by decide) (fun h543 => ?_) (fun h543 => ?_)
                      · exfalso; omega
                      · refine z_iconst dL_act_546 ?_
                        refine z_goto (tgt := 551) dL_act_547 (by decide) ?_
                        exact z_zretP dL_act_551 rfl (by rw [y_g]; exact z_PA_sv y_lc y_40 y_k (by omega) (by omega))
                    · refine z_iconst dL_act_481 ?_
                      exact z_zretP dL_act_482 rfl (z_PA_ne (by omega) (z_PS_id h hN))
                · exfalso; omega
              · exfalso; omega
          · exfalso; omega
        · exfalso; omega
      · exfalso; omega
    · exfalso; omega
theorem tL_act_parts {G : z_G} {M : z_M} {g : Nat} {N a x y : Int} (h : z_LR M g N) (hN : N + 1 ≤ 600) (a0 : 0 ≤ a) (a1 : a ≤ 24) (b0 : 0 < M g 0) (ha : 15 ≤ a ∧ a < 17) (hb1 : 0 < M g 1) : z_ConP G yL_act cL_act 15 (some .boolean) 9 177 0 0 [.ref (z_ad G 0 20), z_I a, z_I x, z_I y, .ref (z_ad G 0 40), .ref (z_ad G 0 41), .ref (z_ad G 0 42), .ref (z_ad G 0 43), .ref (z_ad G 0 44), .ref (z_ad G 0 45), .ref (z_ad G 0 46)] M (some (z_I 1)) (z_PA M N a (M g 0)) := by
  refine z_conP (ls := [some (.ref (z_ad G 0 20)), some (z_I a), some (z_I x), some (z_I y), some (.ref (z_ad G 0 40)), some (.ref (z_ad G 0 41)), some (.ref (z_ad G 0 42)), some (.ref (z_ad G 0 43)), some (.ref (z_ad G 0 44)), some (.ref (z_ad G 0 45)), some (.ref (z_ad G 0 46)), none, none, none, none]) (by decide +kernel) (Nat.le_of_ble_eq_true rfl) rfl ?_
  intro Z
  refine z_rng fun hr => ?_
  have h0 := h
  obtain ⟨⟨hg, hn, hn0, s0, s1, ho, hb⟩, hE, h4, h5⟩ := h0
  have hh := z_BI_h hb
  have y_rb : ∀ i, z_rg (M g i) := fun i => hr g i (by omega)
  have hq7 := z_sg_lt g
  refine z_iloadn dL_act_0 rfl ?_
  refine z_if_eq (tgt := 11) (by first | exact y_rb _ | omega | (exact hr _ _ (by decide))) dL_act_1 (by decide) (fun h1 => ?_) (fun h1 => ?_)
  · exfalso; omega
  · refine z_aload dL_act_4 rfl ?_
    refine z_iconst dL_act_6 ?_
    refine z_lld (R := 40) (j := 0) al_c (Or.inl (by decide)) (congrFun hE _) (by omega) (by omega) (Nat.le_of_ble_eq_true rfl) (by omega) dL_act_7 ?_
    refine z_if_ne (tgt := 64) (by first | exact y_rb _ | omega | (exact hr _ _ (by decide))) dL_act_8 (by decide) (fun h8 => ?_) (fun h8 => ?_)
    · refine z_iloadn dL_act_64 rfl ?_
      refine z_iconst dL_act_65 ?_
      refine z_icmp_ne (tgt := 150) (by first | exact y_rb _ | omega | (exact hr _ _ (by decide))) (by first | exact y_rb _ | omega | (exact hr _ _ (by decide))) dL_act_66 (by decide) (fun h66 => ?_) (fun h66 => ?_)
      · refine z_iloadn dL_act_150 rfl ?_
        refine z_iconst dL_act_151 ?_
        refine z_icmp_ne (tgt := 202) (by first | exact y_rb _ | omega | (exact hr _ _ (by decide))) (by first | exact y_rb _ | omega | (exact hr _ _ (by decide))) dL_act_152 (by decide) (fun h152 => ?_) (fun h152 => ?_)
        · refine z_iloadn dL_act_202 rfl ?_
          refine z_bipush dL_act_203 (by decide) ?_
          refine z_icmp_ge (tgt := 222) (by first | exact y_rb _ | omega | (exact hr _ _ (by decide))) (by first | exact y_rb _ | omega | (exact hr _ _ (by decide))) dL_act_205 (by decide) (fun h205 => ?_) (fun h205 => ?_)
          · refine z_iloadn dL_act_222 rfl ?_
            refine z_bipush dL_act_223 (by decide) ?_
            refine z_icmp_lt (tgt := 235) (by first | exact y_rb _ | omega | (exact hr _ _ (by decide))) (by first | exact y_rb _ | omega | (exact hr _ _ (by decide))) dL_act_225 (by decide) (fun h225 => ?_) (fun h225 => ?_)
            · exfalso; omega
            · refine z_aload dL_act_228 rfl ?_
              refine z_iconst dL_act_230 ?_
              refine z_lld (R := 40) (j := 1) al_c (Or.inl (by decide)) (congrFun hE _) (by omega) (by omega) (Nat.le_of_ble_eq_true rfl) (by omega) dL_act_231 ?_
              refine z_if_ne (tgt := 344) (by first | exact y_rb _ | omega | (exact hr _ _ (by decide))) dL_act_232 (by decide) (fun h232 => ?_) (fun h232 => ?_)
              · refine z_iloadn dL_act_344 rfl ?_
                refine z_iconst dL_act_345 ?_
                refine z_ishr (z_ivE _) dL_act_346 ?_
                refine z_aload dL_act_347 rfl ?_
                refine z_iconst dL_act_349 ?_
                refine z_lld (R := 40) (j := 1) al_c (Or.inl (by decide)) (congrFun hE _) (by omega) (by omega) (Nat.le_of_ble_eq_true rfl) (by omega) dL_act_350 ?_
                refine kL_65 (tL_at (by omega) (by omega)) rfl ⟨(Nat.le_of_ble_eq_true rfl), (Nat.le_of_ble_eq_true rfl)⟩ (Nat.le_of_ble_eq_true rfl) dL_act_351 ?_
                obtain ⟨k, y_kk⟩ : ∃ k, z_atv (z_iv (Int32.ofInt x >>> (Int32.ofInt 2 &&& 31))) (M g 1) = k := ⟨_, rfl⟩
                have y_k2 := z_atv_rg (x := z_iv (Int32.ofInt x >>> (Int32.ofInt 2 &&& 31))) (n := M g 1) (by omega)
                rw [y_kk] at y_k2
                have y_K := z_BI_K hb k y_k2.1 (by omega)
                unfold z_KI at y_K
                have y_aD := z_aD_0 hb y_k2.1 (show k < 20 by omega)
                have k0 := y_k2.1
                have k1 := y_k2.2
                refine z_top (v' := k) y_kk ?_
                refine z_istore_11 dL_act_354 (Nat.le_of_ble_eq_true rfl) rfl ?_
                refine z_iloadn dL_act_356 rfl ?_
                refine z_iconst dL_act_357 ?_
                refine z_ishr (z_ivE _) dL_act_358 ?_
                refine z_aload dL_act_359 rfl ?_
                refine z_iconst dL_act_361 ?_
                refine z_lld (R := 40) (j := 0) al_c (Or.inl (by decide)) (congrFun hE _) (by omega) (by omega) (Nat.le_of_ble_eq_true rfl) (by omega) dL_act_362 ?_
                refine kL_65 (tL_at (by omega) (by omega)) rfl ⟨(Nat.le_of_ble_eq_true rfl), (Nat.le_of_ble_eq_true rfl)⟩ (Nat.le_of_ble_eq_true rfl) dL_act_363 ?_
                obtain ⟨p, y_p⟩ : ∃ p, z_atv (z_iv (Int32.ofInt y >>> (Int32.ofInt 5 &&& 31))) (M g 0) = p := ⟨_, rfl⟩
                have y_p2 := z_atv_rg (x := z_iv (Int32.ofInt y >>> (Int32.ofInt 5 &&& 31))) (n := M g 0) b0
                rw [y_p] at y_p2
                have p0 := y_p2.1
                have p1 := y_p2.2
                have y_q := z_BI_Q hb k p k0 (by omega) p0 (by omega)
                unfold z_QI at y_q
                refine z_top (v' := p) y_p ?_
                refine z_istore_12 dL_act_366 (Nat.le_of_ble_eq_true rfl) rfl ?_
                refine z_aload dL_act_368 rfl ?_
                refine z_iconst dL_act_370 ?_
                refine z_iload dL_act_371 rfl ?_
                refine z_imul dL_act_373 ?_
                refine z_iconst dL_act_374 ?_
                refine z_iadd dL_act_375 ?_
                refine z_lld (R := 40) (j := 86 + 5 * k + 2) al_pi (Or.inl (by decide)) (congrFun hE _) (by omega) (by omega) (Nat.le_of_ble_eq_true rfl) (by omega) dL_act_376 ?_
                refine z_istore_13 dL_act_377 (Nat.le_of_ble_eq_true rfl) rfl ?_
                refine z_iloadn dL_act_379 rfl ?_
                refine z_bipush dL_act_380 (by decide) ?_
                refine z_icmp_ge (tgt := 469) (by first | exact y_rb _ | omega | (exact hr _ _ (by decide))) (by first | exact y_rb _ | omega | (exact hr _ _ (by decide))) dL_act_382 (by decide) (fun h382 => ?_) (fun h382 => ?_)
                · refine z_iloadn dL_act_469 rfl ?_
                  refine z_bipush dL_act_470 (by decide) ?_
                  refine z_icmp_ne (tgt := 552) (by first | exact y_rb _ | omega | (exact hr _ _ (by decide))) (by first | exact y_rb _ | omega | (exact hr _ _ (by decide))) dL_act_472 (by decide) (fun h472 => ?_) (fun h472 => ?_)
                  · refine z_iloadn dL_act_552 rfl ?_
                    refine z_bipush dL_act_553 (by decide) ?_
                    refine z_icmp_ge (tgt := 589) (by first | exact y_rb _ | omega | (exact hr _ _ (by decide))) (by first | exact y_rb _ | omega | (exact hr _ _ (by decide))) dL_act_555 (by decide) (fun h555 => ?_) (fun h555 => ?_)
                    · exfalso; omega
                    · refine z_iload dL_act_558 rfl ?_
                      refine z_iconst dL_act_560 ?_
                      refine z_icmp_eq (tgt := 583) (by first | exact y_rb _ | omega | (exact hr _ _ (by decide))) (by first | exact y_rb _ | omega | (exact hr _ _ (by decide))) dL_act_561 (by decide) (fun h561 => ?_) (fun h561 => ?_)
                      · refine z_iconst dL_act_583 ?_
                        refine z_goto (tgt := 588) dL_act_584 (by decide) ?_
                        exact z_zretP dL_act_588 rfl (z_PA_ne (by omega) (by first | exact hM1 | exact z_PS_id h hN))
                      · refine z_aloadn dL_act_564 rfl ?_
                        refine z_iload dL_act_565 rfl ?_
                        refine z_iloadn dL_act_567 rfl ?_
                        refine z_iconst dL_act_568 ?_
                        refine z_ishr (z_ivE _) dL_act_569 ?_
                        refine z_iloadn dL_act_570 rfl ?_
                        refine z_aload dL_act_571 rfl ?_
                        refine z_aload dL_act_573 rfl ?_
                        refine z_aload dL_act_575 rfl ?_
                        refine z_callSP (idx := 133) (tL_parts h hN b0 k0 k1 (by omega)) (by exact wmL_133) wt_L_parts wc_L_parts wn_L n_L_parts rfl rfl ⟨(Nat.le_of_ble_eq_true rfl), (Nat.le_of_ble_eq_true rfl)⟩ ⟨Nat.le_refl _, Nat.le_refl _⟩ (Nat.le_of_ble_eq_true rfl) dL_act_577 (fun M1 hM1 => ?_)
                        refine z_if_eq (tgt := 587) (by first | exact y_rb _ | omega | (exact hr _ _ (by decide))) dL_act_580 (by decide) (fun h580 => ?_) (fun h580 => ?_)
                        · exact absurd h580 (by decide)
                        · refine z_iconst dL_act_583 ?_
                          refine z_goto (tgt := 588) dL_act_584 (by decide) ?_
                          exact z_zretP dL_act_588 rfl (z_PA_ne (by omega) (by first | exact hM1 | exact z_PS_id h hN))
                  · exfalso; omega
                · exfalso; omega
              · exfalso; omega
          · exfalso; omega
        · exfalso; omega
      · exfalso; omega
    · exfalso; omega
theorem tL_act_accept {G : z_G} {M : z_M} {g : Nat} {N a x y : Int} (h : z_LR M g N) (hN : N + 1 ≤ 600) (a0 : 0 ≤ a) (a1 : a ≤ 24) (b0 : 0 < M g 0) (ha : 17 ≤ a ∧ a < 20) (hb1 : 0 < M g 1) : z_ConP G yL_act cL_act 15 (some .boolean) 9 177 0 0 [.ref (z_ad G 0 20), z_I a, z_I x, z_I y, .ref (z_ad G 0 40), .ref (z_ad G 0 41), .ref (z_ad G 0 42), .ref (z_ad G 0 43), .ref (z_ad G 0 44), .ref (z_ad G 0 45), .ref (z_ad G 0 46)] M (some (z_I 1)) (z_PA M N a (M g 0)) := by
  refine z_conP (ls := [some (.ref (z_ad G 0 20)), some (z_I a), some (z_I x), some (z_I y), some (.ref (z_ad G 0 40)), some (.ref (z_ad G 0 41)), some (.ref (z_ad G 0 42)), some (.ref (z_ad G 0 43)), some (.ref (z_ad G 0 44)), some (.ref (z_ad G 0 45)), some (.ref (z_ad G 0 46)), none, none, none, none]) (by decide +kernel) (Nat.le_of_ble_eq_true rfl) rfl ?_
  intro Z
  refine z_rng fun hr => ?_
  have h0 := h
  obtain ⟨⟨hg, hn, hn0, s0, s1, ho, hb⟩, hE, h4, h5⟩ := h0
  have hh := z_BI_h hb
  have y_rb : ∀ i, z_rg (M g i) := fun i => hr g i (by omega)
  have hq7 := z_sg_lt g
  refine z_iloadn dL_act_0 rfl ?_
  refine z_if_eq (tgt := 11) (by first | exact y_rb _ | omega | (exact hr _ _ (by decide))) dL_act_1 (by decide) (fun h1 => ?_) (fun h1 => ?_)
  · exfalso; omega
  · refine z_aload dL_act_4 rfl ?_
    refine z_iconst dL_act_6 ?_
    refine z_lld (R := 40) (j := 0) al_c (Or.inl (by decide)) (congrFun hE _) (by omega) (by omega) (Nat.le_of_ble_eq_true rfl) (by omega) dL_act_7 ?_
    refine z_if_ne (tgt := 64) (by first | exact y_rb _ | omega | (exact hr _ _ (by decide))) dL_act_8 (by decide) (fun h8 => ?_) (fun h8 => ?_)
    · refine z_iloadn dL_act_64 rfl ?_
      refine z_iconst dL_act_65 ?_
      refine z_icmp_ne (tgt := 150) (by first | exact y_rb _ | omega | (exact hr _ _ (by decide))) (by first | exact y_rb _ | omega | (exact hr _ _ (by decide))) dL_act_66 (by decide) (fun h66 => ?_) (fun h66 => ?_)
      · refine z_iloadn dL_act_150 rfl ?_
        refine z_iconst dL_act_151 ?_
        refine z_icmp_ne (tgt := 202) (by first | exact y_rb _ | omega | (exact hr _ _ (by decide))) (by first | exact y_rb _ | omega | (exact hr _ _ (by decide))) dL_act_152 (by decide) (fun h152 => ?_) (fun h152 => ?_)
        · refine z_iloadn dL_act_202 rfl ?_
          refine z_bipush dL_act_203 (by decide) ?_
          refine z_icmp_ge (tgt := 222) (by first | exact y_rb _ | omega | (exact hr _ _ (by decide))) (by first | exact y_rb _ | omega | (exact hr _ _ (by decide))) dL_act_205 (by decide) (fun h205 => ?_) (fun h205 => ?_)
          · refine z_iloadn dL_act_222 rfl ?_
            refine z_bipush dL_act_223 (by decide) ?_
            refine z_icmp_lt (tgt := 235) (by first | exact y_rb _ | omega | (exact hr _ _ (by decide))) (by first | exact y_rb _ | omega | (exact hr _ _ (by decide))) dL_act_225 (by decide) (fun h225 => ?_) (fun h225 => ?_)
            · exfalso; omega
            · refine z_aload dL_act_228 rfl ?_
              refine z_iconst dL_act_230 ?_
              refine z_lld (R := 40) (j := 1) al_c (Or.inl (by decide)) (congrFun hE _) (by omega) (by omega) (Nat.le_of_ble_eq_true rfl) (by omega) dL_act_231 ?_
              refine z_if_ne (tgt := 344) (by first | exact y_rb _ | omega | (exact hr _ _ (by decide))) dL_act_232 (by decide) (fun h232 => ?_) (fun h232 => ?_)
              · refine z_iloadn dL_act_344 rfl ?_
                refine z_iconst dL_act_345 ?_
                refine z_ishr (z_ivE _) dL_act_346 ?_
                refine z_aload dL_act_347 rfl ?_
                refine z_iconst dL_act_349 ?_
                refine z_lld (R := 40) (j := 1) al_c (Or.inl (by decide)) (congrFun hE _) (by omega) (by omega) (Nat.le_of_ble_eq_true rfl) (by omega) dL_act_350 ?_
                refine kL_65 (tL_at (by omega) (by omega)) rfl ⟨(Nat.le_of_ble_eq_true rfl), (Nat.le_of_ble_eq_true rfl)⟩ (Nat.le_of_ble_eq_true rfl) dL_act_351 ?_
                obtain ⟨k, y_kk⟩ : ∃ k, z_atv (z_iv (Int32.ofInt x >>> (Int32.ofInt 2 &&& 31))) (M g 1) = k := ⟨_, rfl⟩
                have y_k2 := z_atv_rg (x := z_iv (Int32.ofInt x >>> (Int32.ofInt 2 &&& 31))) (n := M g 1) (by omega)
                rw [y_kk] at y_k2
                have y_K := z_BI_K hb k y_k2.1 (by omega)
                unfold z_KI at y_K
                have y_aD := z_aD_0 hb y_k2.1 (show k < 20 by omega)
                have k0 := y_k2.1
                have k1 := y_k2.2
                refine z_top (v' := k) y_kk ?_
                refine z_istore_11 dL_act_354 (Nat.le_of_ble_eq_true rfl) rfl ?_
                refine z_iloadn dL_act_356 rfl ?_
                refine z_iconst dL_act_357 ?_
                refine z_ishr (z_ivE _) dL_act_358 ?_
                refine z_aload dL_act_359 rfl ?_
                refine z_iconst dL_act_361 ?_
                refine z_lld (R := 40) (j := 0) al_c (Or.inl (by decide)) (congrFun hE _) (by omega) (by omega) (Nat.le_of_ble_eq_true rfl) (by omega) dL_act_362 ?_
                refine kL_65 (tL_at (by omega) (by omega)) rfl ⟨(Nat.le_of_ble_eq_true rfl), (Nat.le_of_ble_eq_true rfl)⟩ (Nat.le_of_ble_eq_true rfl) dL_act_363 ?_
                obtain ⟨p, y_p⟩ : ∃ p, z_atv (z_iv (Int32.ofInt y >>> (Int32.ofInt 5 &&& 31))) (M g 0) = p := ⟨_, rfl⟩
                have y_p2 := z_atv_rg (x := z_iv (Int32.ofInt y >>> (Int32.ofInt 5 &&& 31))) (n := M g 0) b0
                rw [y_p] at y_p2
                have p0 := y_p2.1
                have p1 := y_p2.2
                have y_q := z_BI_Q hb k p k0 (by omega) p0 (by omega)
                unfold z_QI at y_q
                refine z_top (v' := p) y_p ?_
                refine z_istore_12 dL_act_366 (Nat.le_of_ble_eq_true rfl) rfl ?_
                refine z_aload dL_act_368 rfl ?_
                refine z_iconst dL_act_370 ?_
                refine z_iload dL_act_371 rfl ?_
                refine z_imul dL_act_373 ?_
                refine z_iconst dL_act_374 ?_
                refine z_iadd dL_act_375 ?_
                refine z_lld (R := 40) (j := 86 + 5 * k + 2) al_pi (Or.inl (by decide)) (congrFun hE _) (by omega) (by omega) (Nat.le_of_ble_eq_true rfl) (by omega) dL_act_376 ?_
                refine z_istore_13 dL_act_377 (Nat.le_of_ble_eq_true rfl) rfl ?_
                refine z_iloadn dL_act_379 rfl ?_
                refine z_bipush dL_act_380 (by decide) ?_
                refine z_icmp_ge (tgt := 469) (by first | exact y_rb _ | omega | (exact hr _ _ (by decide))) (by first | exact y_rb _ | omega | (exact hr _ _ (by decide))) dL_act_382 (by decide) (fun h382 => ?_) (fun h382 => ?_)
                · refine z_iloadn dL_act_469 rfl ?_
                  refine z_bipush dL_act_470 (by decide) ?_
                  refine z_icmp_ne (tgt := 552) (by first | exact y_rb _ | omega | (exact hr _ _ (by decide))) (by first | exact y_rb _ | omega | (exact hr _ _ (by decide))) dL_act_472 (by decide) (fun h472 => ?_) (fun h472 => ?_)
                  · refine z_iloadn dL_act_552 rfl ?_
                    refine z_bipush dL_act_553 (by decide) ?_
                    refine z_icmp_ge (tgt := 589) (by first | exact y_rb _ | omega | (exact hr _ _ (by decide))) (by first | exact y_rb _ | omega | (exact hr _ _ (by decide))) dL_act_555 (by decide) (fun h555 => ?_) (fun h555 => ?_)
                    · refine z_iloadn dL_act_589 rfl ?_
                      refine z_bipush dL_act_590 (by decide) ?_
                      refine z_icmp_ge (tgt := 661) (by first | exact y_rb _ | omega | (exact hr _ _ (by decide))) (by first | exact y_rb _ | omega | (exact hr _ _ (by decide))) dL_act_592 (by decide) (fun h592 => ?_) (fun h592 => ?_)
                      · exfalso; omega
                      · refine z_iload dL_act_595 rfl ?_
                        refine z_iconst dL_act_597 ?_
                        refine z_icmp_lt (tgt := 607) (by first | exact y_rb _ | omega | (exact hr _ _ (by decide))) (by first | exact y_rb _ | omega | (exact hr _ _ (by decide))) dL_act_598 (by decide) (fun h598 => ?_) (fun h598 => ?_)
                        · refine z_iconst dL_act_607 ?_
                          exact z_zretP dL_act_608 rfl (z_PA_ne (by omega) (z_PS_id h hN))
                        · refine z_iload dL_act_601 rfl ?_
                          refine z_iconst dL_act_603 ?_
                          refine z_icmp_le (tgt := 609) (by first | exact y_rb _ | omega | (exact hr _ _ (by decide))) (by first | exact y_rb _ | omega | (exact hr _ _ (by decide))) dL_act_604 (by decide) (fun h604 => ?_) (fun h604 => ?_)
                          · refine z_aload dL_act_609 rfl ?_
                            refine z_iconst dL_act_611 ?_
                            refine z_iload dL_act_612 rfl ?_
                            refine z_imul dL_act_614 ?_
                            refine z_iconst dL_act_615 ?_
                            refine z_iadd dL_act_616 ?_
                            refine z_iconst dL_act_617 ?_
                            refine z_lst (R := 40) (j := 86 + 5 * k + 2) al_pi (Or.inl (by decide)) (by omega) (by omega) (Nat.le_of_ble_eq_true rfl) (by omega) (by first | exact y_rb _ | omega | (exact hr _ _ (by decide))) dL_act_618 ?_
                            refine z_rng fun hr => ?_
                            refine z_mem (M' := z_sR M 40 (z_uf (M g) (86 + 5 * k + 2) 3)) (by simp only [z_sM_R, z_sR_R, z_sR_self]; first | (rw [hE]; done) | (rw [hE]; first | rfl | (congr 1; rfl))) ?_
                            have y_lc : z_LC (z_sR M 40 (z_uf (M g) (86 + 5 * k + 2) 3)) g N := z_LC_sR h.1 (by decide)
                            have y_g : z_sR M 40 (z_uf (M g) (86 + 5 * k + 2) 3) g = M g := z_sR_ne _ _ (by omega)
                            have y_40 : z_sR M 40 (z_uf (M g) (86 + 5 * k + 2) 3) 40 = z_uf (M g) (86 + 5 * k + 2) 3 := z_sR_self _ _ _
                            refine z_rng fun hr => ?_
                            generalize z_sR M 40 (z_uf (M g) (86 + 5 * k + 2) 3) = M2 at *
                            obtain ⟨-, hn', hn0', s0', s1', ho', hb'⟩ := id y_lc
                            have f_P := z_BI_P hb (M g (86 + 5 * k)) (by omega) (by omega)
                            unfold z_PI at f_P
                            have y_cF : z_cF (z_uf (M g) (86 + 5 * k + 2) 3) k := z_cF_st k0 (by omega) (z_BI_cF hb k0 k1)
                            have y_4c : z_p4c (z_uf (M g) (86 + 5 * k + 2) 3) k := z_p4c_st k0 (by omega) (z_BI_p4c hb k0 (by omega))
                            have y_Bz : ∀ p, 4 ≤ p → p < 12 → (z_uf (M g) (86 + 5 * k + 2) 3) (426 + 12 * k + p) = 0 := fun p p0 p1 => (z_uf_ne _ _ (by omega)).trans (z_paz hb h4 k0 (by omega) p p0 p1)
                            have y_B0 : (z_uf (M g) (86 + 5 * k + 2) 3) 0 = M g 0 ∧ (z_uf (M g) (86 + 5 * k + 2) 3) 1 = M g 1 ∧ (z_uf (M g) (86 + 5 * k + 2) 3) (86 + 5 * k) = M g (86 + 5 * k) ∧ (z_uf (M g) (86 + 5 * k + 2) 3) (86 + 5 * k + 1) = M g (86 + 5 * k + 1) := ⟨z_uf_ne _ _ (by omega), z_uf_ne _ _ (by omega), z_uf_ne _ _ (by omega), z_uf_ne _ _ (by omega)⟩
                            have y_oo : z_oo (z_uf (M g) (86 + 5 * k + 2) 3) k = M g (14 + 6 * M g (86 + 5 * k) + 3) := by unfold z_oo; rw [y_B0.2.2.1]; exact z_uf_ne _ _ (by omega)
                            have y_fee : 0 ≤ (M g (86 + 5 * k + 1)) ∧ (M g (86 + 5 * k + 1)) ≤ 100000 := by first | exact z_kf_rg hb k0 (by omega) | omega
                            have y_k : z_BI (z_cm (z_uf (M g) (86 + 5 * k + 2) 3) k (M g (86 + 5 * k + 1)) 0).1 (N + 1) := z_k_fee (s0 := fun _ => 0) (r0 := fun _ => 0) hb hN k0 k1 y_fee.1 y_fee.2 (by decide) (by decide)
                            have y_o := z_cm_01 (b := (z_uf (M g) (86 + 5 * k + 2) 3)) (k := k) (a := (M g (86 + 5 * k + 1))) (y := 0) k0 (by omega) (by omega)
                            have y_bd := z_cm_bd (y := 0) k0 (show k < 20 by omega) y_fee.1 y_fee.2 y_cF
                            have y_cr : 0 ≤ (z_cm (z_uf (M g) (86 + 5 * k + 2) 3) k (M g (86 + 5 * k + 1)) 0).2 ∧ (z_cm (z_uf (M g) (86 + 5 * k + 2) 3) k (M g (86 + 5 * k + 1)) 0).2 ≤ 1000000000 := ⟨y_bd.2.2.2.2.2.2.1, y_bd.2.2.2.2.2.2.2⟩
                            clear y_bd
                            have y_ac := z_ac_ref (A := z_SC M2 g) (q := z_sg g) (k := k) (fee := (M g (86 + 5 * k + 1))) (v := 3) (s0 := fun _ => 0) (r0 := fun _ => 0) hq7 (by rw [z_SC_new, y_g]; exact y_cF) (by rw [z_SC_new, y_g]; exact y_4c)
                            rw [z_SC_new, y_g] at y_ac
                            have y_acv : z_acV (z_SC M2 g) (z_sg g) k (M g (86 + 5 * k + 1)) 3 = (z_cm (z_uf (M g) (86 + 5 * k + 2) 3) k (M g (86 + 5 * k + 1)) 0).2 := y_ac.2
                            have y_acm : z_acM (z_SC M2 g) (z_sg g) k (M g (86 + 5 * k + 1)) 3 (z_sg g) = (z_cm (z_uf (M g) (86 + 5 * k + 2) 3) k (M g (86 + 5 * k + 1)) 0).1 := y_ac.1
                            clear y_ac
                            have y_hc : z_c_accept (M g) k = 0 := by unfold z_c_accept; rw [if_neg (by omega), if_neg (by omega)]
                            refine z_aloadn dL_act_619 rfl ?_
                            refine z_iload dL_act_620 rfl ?_
                            refine kL_137 (tX6_accept hg hn' hn0' s0' s1' ho' hb' (k := k) (by omega) (by rw [y_g]; exact y_hc)) rfl ⟨(Nat.le_of_ble_eq_true rfl), (Nat.le_of_ble_eq_true rfl)⟩ (Nat.le_of_ble_eq_true rfl) dL_act_622 ?_
                            refine z_rng fun hr => ?_
                            rw [show M2 g (86 + 5 * k + 1) = M g (86 + 5 * k + 1) from congrFun y_g _] at *
                            obtain ⟨M3, y_M3⟩ : ∃ M3, z_acM (z_SC M2 g) (z_sg g) k (M g (86 + 5 * k + 1)) 3 = M3 := ⟨_, rfl⟩
                            have y_340 : M3 40 = (z_uf (M g) (86 + 5 * k + 2) 3) := by rw [← y_M3]; exact (z_acM_row ⟨by decide, by decide, by decide, by omega⟩).trans ((z_SC_row (by decide) (by omega)).trans y_40)
                            rw [y_M3] at hr ⊢
                            refine z_iload dL_act_625 rfl ?_
                            refine z_aload dL_act_627 rfl ?_
                            refine z_iconst dL_act_629 ?_
                            refine z_iload dL_act_630 rfl ?_
                            refine z_imul dL_act_632 ?_
                            refine z_iconst dL_act_633 ?_
                            refine z_iadd dL_act_634 ?_
                            refine z_lld (R := 40) (j := 86 + 5 * k + 1) al_pi (Or.inl (by decide)) ((congrFun y_340 _).trans y_B0.2.2.2) (by omega) (by omega) (Nat.le_of_ble_eq_true rfl) (by omega) dL_act_635 ?_
                            refine z_iconst dL_act_636 ?_
                            refine z_aload dL_act_637 rfl ?_
                            refine z_aload dL_act_639 rfl ?_
                            refine z_aload dL_act_641 rfl ?_
                            refine z_aload dL_act_643 rfl ?_
                            refine z_aload dL_act_645 rfl ?_
                            refine z_aload dL_act_647 rfl ?_
                            refine kL_79 (tL_comes0 (g := 0) (R := 40) (B := (z_uf (M g) (86 + 5 * k + 2) 3)) rfl (Or.inl rfl) y_340 k0 (by omega) (by omega) (by omega) y_cF y_Bz (by omega) (by omega) (by omega) (fun j _ _ => congrFun y_340 _) (fun q _ _ => congrFun y_340 _)) rfl ⟨(Nat.le_of_ble_eq_true rfl), (Nat.le_of_ble_eq_true rfl)⟩ (Nat.le_of_ble_eq_true rfl) dL_act_649 ?_
                            refine z_rng fun hr => ?_
                            refine z_icmp_ne (tgt := 659) (by first | exact y_rb _ | omega | (exact hr _ _ (by decide))) (by first | exact y_rb _ | omega | (exact hr _ _ (by decide))) dL_act_652 (by decide) (fun h652 => ?_) (fun h652 => ?_)
                            · exfalso; omega
                            · refine z_iconst dL_act_655 ?_
                              refine z_goto (tgt := 660) dL_act_656 (by decide) ?_
                              exact z_zretP dL_act_660 rfl (z_PA_1 (z_LR_ac (k := k) (fee := (M g (86 + 5 * k + 1))) (v := 3) y_lc (fun r hr => (z_sR_ne _ _ hr).trans (by rw [y_M3])) (z_sR_self _ _ _) y_acm y_k (by rw [y_o.1]; omega) (by rw [y_o.2]; omega)))
                          · refine z_iconst dL_act_607 ?_
                            exact z_zretP dL_act_608 rfl (z_PA_ne (by omega) (z_PS_id h hN))
                    · exfalso; omega
                  · exfalso; omega
                · exfalso; omega
              · exfalso; omega
          · exfalso; omega
        · exfalso; omega
      · exfalso; omega
    · exfalso; omega
theorem tL_act_kill {G : z_G} {M : z_M} {g : Nat} {N a x y : Int} (h : z_LR M g N) (hN : N + 1 ≤ 600) (a0 : 0 ≤ a) (a1 : a ≤ 24) (b0 : 0 < M g 0) (ha : a = 20) (hb1 : 0 < M g 1) : z_ConP G yL_act cL_act 15 (some .boolean) 9 177 0 0 [.ref (z_ad G 0 20), z_I a, z_I x, z_I y, .ref (z_ad G 0 40), .ref (z_ad G 0 41), .ref (z_ad G 0 42), .ref (z_ad G 0 43), .ref (z_ad G 0 44), .ref (z_ad G 0 45), .ref (z_ad G 0 46)] M (some (z_I 1)) (z_PA M N a (M g 0)) := by
  refine z_conP (ls := [some (.ref (z_ad G 0 20)), some (z_I a), some (z_I x), some (z_I y), some (.ref (z_ad G 0 40)), some (.ref (z_ad G 0 41)), some (.ref (z_ad G 0 42)), some (.ref (z_ad G 0 43)), some (.ref (z_ad G 0 44)), some (.ref (z_ad G 0 45)), some (.ref (z_ad G 0 46)), none, none, none, none]) (by decide +kernel) (Nat.le_of_ble_eq_true rfl) rfl ?_
  intro Z
  refine z_rng fun hr => ?_
  have h0 := h
  obtain ⟨⟨hg, hn, hn0, s0, s1, ho, hb⟩, hE, h4, h5⟩ := h0
  have hh := z_BI_h hb
  have y_rb : ∀ i, z_rg (M g i) := fun i => hr g i (by omega)
  have hq7 := z_sg_lt g
  refine z_iloadn dL_act_0 rfl ?_
  refine z_if_eq (tgt := 11) (by first | exact y_rb _ | omega | (exact hr _ _ (by decide))) dL_act_1 (by decide) (fun h1 => ?_) (fun h1 => ?_)
  · exfalso; omega
  · refine z_aload dL_act_4 rfl ?_
    refine z_iconst dL_act_6 ?_
    refine z_lld (R := 40) (j := 0) al_c (Or.inl (by decide)) (congrFun hE _) (by omega) (by omega) (Nat.le_of_ble_eq_true rfl) (by omega) dL_act_7 ?_
    refine z_if_ne (tgt := 64) (by first | exact y_rb _ | omega | (exact hr _ _ (by decide))) dL_act_8 (by decide) (fun h8 => ?_) (fun h8 => ?_)
    · refine z_iloadn dL_act_64 rfl ?_
      refine z_iconst dL_act_65 ?_
      refine z_icmp_ne (tgt := 150) (by first | exact y_rb _ | omega | (exact hr _ _ (by decide))) (by first | exact y_rb _ | omega | (exact hr _ _ (by decide))) dL_act_66 (by decide) (fun h66 => ?_) (fun h66 => ?_)
      · refine z_iloadn dL_act_150 rfl ?_
        refine z_iconst dL_act_151 ?_
        refine z_icmp_ne (tgt := 202) (by first | exact y_rb _ | omega | (exact hr _ _ (by decide))) (by first | exact y_rb _ | omega | (exact hr _ _ (by decide))) dL_act_152 (by decide) (fun h152 => ?_) (fun h152 => ?_)
        · refine z_iloadn dL_act_202 rfl ?_
          refine z_bipush dL_act_203 (by decide) ?_
          refine z_icmp_ge (tgt := 222) (by first | exact y_rb _ | omega | (exact hr _ _ (by decide))) (by first | exact y_rb _ | omega | (exact hr _ _ (by decide))) dL_act_205 (by decide) (fun h205 => ?_) (fun h205 => ?_)
          · refine z_iloadn dL_act_222 rfl ?_
            refine z_bipush dL_act_223 (by decide) ?_
            refine z_icmp_lt (tgt := 235) (by first | exact y_rb _ | omega | (exact hr _ _ (by decide))) (by first | exact y_rb _ | omega | (exact hr _ _ (by decide))) dL_act_225 (by decide) (fun h225 => ?_) (fun h225 => ?_)
            · exfalso; omega
            · refine z_aload dL_act_228 rfl ?_
              refine z_iconst dL_act_230 ?_
              refine z_lld (R := 40) (j := 1) al_c (Or.inl (by decide)) (congrFun hE _) (by omega) (by omega) (Nat.le_of_ble_eq_true rfl) (by omega) dL_act_231 ?_
              refine z_if_ne (tgt := 344) (by first | exact y_rb _ | omega | (exact hr _ _ (by decide))) dL_act_232 (by decide) (fun h232 => ?_) (fun h232 => ?_)
              · refine z_iloadn dL_act_344 rfl ?_
                refine z_iconst dL_act_345 ?_
                refine z_ishr (z_ivE _) dL_act_346 ?_
                refine z_aload dL_act_347 rfl ?_
                refine z_iconst dL_act_349 ?_
                refine z_lld (R := 40) (j := 1) al_c (Or.inl (by decide)) (congrFun hE _) (by omega) (by omega) (Nat.le_of_ble_eq_true rfl) (by omega) dL_act_350 ?_
                refine kL_65 (tL_at (by omega) (by omega)) rfl ⟨(Nat.le_of_ble_eq_true rfl), (Nat.le_of_ble_eq_true rfl)⟩ (Nat.le_of_ble_eq_true rfl) dL_act_351 ?_
                obtain ⟨k, y_kk⟩ : ∃ k, z_atv (z_iv (Int32.ofInt x >>> (Int32.ofInt 2 &&& 31))) (M g 1) = k := ⟨_, rfl⟩
                have y_k2 := z_atv_rg (x := z_iv (Int32.ofInt x >>> (Int32.ofInt 2 &&& 31))) (n := M g 1) (by omega)
                rw [y_kk] at y_k2
                have y_K := z_BI_K hb k y_k2.1 (by omega)
                unfold z_KI at y_K
                have y_aD := z_aD_0 hb y_k2.1 (show k < 20 by omega)
                have k0 := y_k2.1
                have k1 := y_k2.2
                refine z_top (v' := k) y_kk ?_
                refine z_istore_11 dL_act_354 (Nat.le_of_ble_eq_true rfl) rfl ?_
                refine z_iloadn dL_act_356 rfl ?_
                refine z_iconst dL_act_357 ?_
                refine z_ishr (z_ivE _) dL_act_358 ?_
                refine z_aload dL_act_359 rfl ?_
                refine z_iconst dL_act_361 ?_
                refine z_lld (R := 40) (j := 0) al_c (Or.inl (by decide)) (congrFun hE _) (by omega) (by omega) (Nat.le_of_ble_eq_true rfl) (by omega) dL_act_362 ?_
                refine kL_65 (tL_at (by omega) (by omega)) rfl ⟨(Nat.le_of_ble_eq_true rfl), (Nat.le_of_ble_eq_true rfl)⟩ (Nat.le_of_ble_eq_true rfl) dL_act_363 ?_
                obtain ⟨p, y_p⟩ : ∃ p, z_atv (z_iv (Int32.ofInt y >>> (Int32.ofInt 5 &&& 31))) (M g 0) = p := ⟨_, rfl⟩
                have y_p2 := z_atv_rg (x := z_iv (Int32.ofInt y >>> (Int32.ofInt 5 &&& 31))) (n := M g 0) b0
                rw [y_p] at y_p2
                have p0 := y_p2.1
                have p1 := y_p2.2
                have y_q := z_BI_Q hb k p k0 (by omega) p0 (by omega)
                unfold z_QI at y_q
                refine z_top (v' := p) y_p ?_
                refine z_istore_12 dL_act_366 (Nat.le_of_ble_eq_true rfl) rfl ?_
                refine z_aload dL_act_368 rfl ?_
                refine z_iconst dL_act_370 ?_
                refine z_iload dL_act_371 rfl ?_
                refine z_imul dL_act_373 ?_
                refine z_iconst dL_act_374 ?_
                refine z_iadd dL_act_375 ?_
                refine z_lld (R := 40) (j := 86 + 5 * k + 2) al_pi (Or.inl (by decide)) (congrFun hE _) (by omega) (by omega) (Nat.le_of_ble_eq_true rfl) (by omega) dL_act_376 ?_
                refine z_istore_13 dL_act_377 (Nat.le_of_ble_eq_true rfl) rfl ?_
                refine z_iloadn dL_act_379 rfl ?_
                refine z_bipush dL_act_380 (by decide) ?_
                refine z_icmp_ge (tgt := 469) (by first | exact y_rb _ | omega | (exact hr _ _ (by decide))) (by first | exact y_rb _ | omega | (exact hr _ _ (by decide))) dL_act_382 (by decide) (fun h382 => ?_) (fun h382 => ?_)
                · refine z_iloadn dL_act_469 rfl ?_
                  refine z_bipush dL_act_470 (by decide) ?_
                  refine z_icmp_ne (tgt := 552) (by first | exact y_rb _ | omega | (exact hr _ _ (by decide))) (by first | exact y_rb _ | omega | (exact hr _ _ (by decide))) dL_act_472 (by decide) (fun h472 => ?_) (fun h472 => ?_)
                  · refine z_iloadn dL_act_552 rfl ?_
                    refine z_bipush dL_act_553 (by decide) ?_
                    refine z_icmp_ge (tgt := 589) (by first | exact y_rb _ | omega | (exact hr _ _ (by decide))) (by first | exact y_rb _ | omega | (exact hr _ _ (by decide))) dL_act_555 (by decide) (fun h555 => ?_) (fun h555 => ?_)
                    · refine z_iloadn dL_act_589 rfl ?_
                      refine z_bipush dL_act_590 (by decide) ?_
                      refine z_icmp_ge (tgt := 661) (by first | exact y_rb _ | omega | (exact hr _ _ (by decide))) (by first | exact y_rb _ | omega | (exact hr _ _ (by decide))) dL_act_592 (by decide) (fun h592 => ?_) (fun h592 => ?_)
                      · refine z_iloadn dL_act_661 rfl ?_
                        refine z_bipush dL_act_662 (by decide) ?_
                        refine z_icmp_ne (tgt := 734) (by first | exact y_rb _ | omega | (exact hr _ _ (by decide))) (by first | exact y_rb _ | omega | (exact hr _ _ (by decide))) dL_act_664 (by decide) (fun h664 => ?_) (fun h664 => ?_)
                        · exfalso; omega
                        · refine z_iload dL_act_667 rfl ?_
                          refine z_iconst dL_act_669 ?_
                          refine z_icmp_le (tgt := 675) (by first | exact y_rb _ | omega | (exact hr _ _ (by decide))) (by first | exact y_rb _ | omega | (exact hr _ _ (by decide))) dL_act_670 (by decide) (fun h670 => ?_) (fun h670 => ?_)
                          · refine z_iload dL_act_675 rfl ?_
                            refine z_aload dL_act_677 rfl ?_
                            refine z_aload dL_act_679 rfl ?_
                            refine kL_39 (tL_kill hb k0 (by omega) hE) rfl ⟨(Nat.le_of_ble_eq_true rfl), (Nat.le_of_ble_eq_true rfl)⟩ (Nat.le_of_ble_eq_true rfl) dL_act_681 ?_
                            refine z_istore_14 dL_act_684 (Nat.le_of_ble_eq_true rfl) rfl ?_
                            refine z_aload dL_act_686 rfl ?_
                            refine z_iconst dL_act_688 ?_
                            refine z_iload dL_act_689 rfl ?_
                            refine z_imul dL_act_691 ?_
                            refine z_iconst dL_act_692 ?_
                            refine z_iadd dL_act_693 ?_
                            refine z_iconst dL_act_694 ?_
                            refine z_lst (R := 40) (j := 86 + 5 * k + 2) al_pi (Or.inl (by decide)) (by omega) (by omega) (Nat.le_of_ble_eq_true rfl) (by omega) (by first | exact y_rb _ | omega | (exact hr _ _ (by decide))) dL_act_695 ?_
                            refine z_rng fun hr => ?_
                            refine z_mem (M' := z_sR M 40 (z_uf (M g) (86 + 5 * k + 2) 4)) (by rw [z_sM_R, hE]) ?_
                            refine z_rng fun hr => ?_
                            have y_140 : z_sR M 40 (z_uf (M g) (86 + 5 * k + 2) 4) 40 = (z_uf (M g) (86 + 5 * k + 2) 4) := z_sR_self _ _ _
                            have f_P := z_BI_P hb (M g (86 + 5 * k)) (by omega) (by omega)
                            unfold z_PI at f_P
                            have y_cF : z_cF (z_uf (M g) (86 + 5 * k + 2) 4) k := z_cF_st k0 (by omega) (z_BI_cF hb k0 k1)
                            have y_4c : z_p4c (z_uf (M g) (86 + 5 * k + 2) 4) k := z_p4c_st k0 (by omega) (z_BI_p4c hb k0 (by omega))
                            have y_Bz : ∀ p, 4 ≤ p → p < 12 → (z_uf (M g) (86 + 5 * k + 2) 4) (426 + 12 * k + p) = 0 := fun p p0 p1 => (z_uf_ne _ _ (by omega)).trans (z_paz hb h4 k0 (by omega) p p0 p1)
                            have y_B0 : (z_uf (M g) (86 + 5 * k + 2) 4) 0 = M g 0 ∧ (z_uf (M g) (86 + 5 * k + 2) 4) 1 = M g 1 ∧ (z_uf (M g) (86 + 5 * k + 2) 4) (86 + 5 * k) = M g (86 + 5 * k) ∧ (z_uf (M g) (86 + 5 * k + 2) 4) (86 + 5 * k + 1) = M g (86 + 5 * k + 1) := ⟨z_uf_ne _ _ (by omega), z_uf_ne _ _ (by omega), z_uf_ne _ _ (by omega), z_uf_ne _ _ (by omega)⟩
                            have y_oo : z_oo (z_uf (M g) (86 + 5 * k + 2) 4) k = M g (14 + 6 * M g (86 + 5 * k) + 3) := by unfold z_oo; rw [y_B0.2.2.1]; exact z_uf_ne _ _ (by omega)
                            have y_fee : 0 ≤ (z_kf (M g) k) ∧ (z_kf (M g) k) ≤ 100000 := by first | exact z_kf_rg hb k0 (by omega) | omega
                            have y_k : z_BI (z_cm (z_uf (M g) (86 + 5 * k + 2) 4) k (z_kf (M g) k) 0).1 (N + 1) := z_k_fee (s0 := fun _ => 0) (r0 := fun _ => 0) hb hN k0 k1 y_fee.1 y_fee.2 (by decide) (by decide)
                            have y_o := z_cm_01 (b := (z_uf (M g) (86 + 5 * k + 2) 4)) (k := k) (a := (z_kf (M g) k)) (y := 0) k0 (by omega) (by omega)
                            have y_bd := z_cm_bd (y := 0) k0 (show k < 20 by omega) y_fee.1 y_fee.2 y_cF
                            have y_cr : 0 ≤ (z_cm (z_uf (M g) (86 + 5 * k + 2) 4) k (z_kf (M g) k) 0).2 ∧ (z_cm (z_uf (M g) (86 + 5 * k + 2) 4) k (z_kf (M g) k) 0).2 ≤ 1000000000 := ⟨y_bd.2.2.2.2.2.2.1, y_bd.2.2.2.2.2.2.2⟩
                            clear y_bd
                            refine z_iload dL_act_696 rfl ?_
                            refine z_iload dL_act_698 rfl ?_
                            refine z_iconst dL_act_700 ?_
                            refine z_aload dL_act_701 rfl ?_
                            refine z_aload dL_act_703 rfl ?_
                            refine z_aload dL_act_705 rfl ?_
                            refine z_aload dL_act_707 rfl ?_
                            refine z_aload dL_act_709 rfl ?_
                            refine z_aload dL_act_711 rfl ?_
                            refine kL_79 (tL_comes0 (g := 0) (R := 40) (B := (z_uf (M g) (86 + 5 * k + 2) 4)) rfl (Or.inl rfl) y_140 k0 (by omega) (by omega) (by omega) y_cF y_Bz (by omega) (by omega) (by omega) (fun j _ _ => congrFun y_140 _) (fun q _ _ => congrFun y_140 _)) rfl ⟨(Nat.le_of_ble_eq_true rfl), (Nat.le_of_ble_eq_true rfl)⟩ (Nat.le_of_ble_eq_true rfl) dL_act_713 ?_
                            refine z_rng fun hr => ?_
                            refine z_pop dL_act_716 rfl ?_
                            refine z_mem (M' := z_sR M 40 (z_cm (z_uf (M g) (86 + 5 * k + 2) 4) k (z_kf (M g) k) 0).1) (z_sR_R _ _ _ _) ?_
                            have y_lc : z_LC (z_sR M 40 ((z_cm (z_uf (M g) (86 + 5 * k + 2) 4) k (z_kf (M g) k) 0).1)) g N := z_LC_sR h.1 (by decide)
                            have y_g : z_sR M 40 ((z_cm (z_uf (M g) (86 + 5 * k + 2) 4) k (z_kf (M g) k) 0).1) g = M g := z_sR_ne _ _ (by omega)
                            have y_40 : z_sR M 40 ((z_cm (z_uf (M g) (86 + 5 * k + 2) 4) k (z_kf (M g) k) 0).1) 40 = (z_cm (z_uf (M g) (86 + 5 * k + 2) 4) k (z_kf (M g) k) 0).1 := z_sR_self _ _ _
                            refine z_rng fun hr => ?_
                            generalize z_sR M 40 ((z_cm (z_uf (M g) (86 + 5 * k + 2) 4) k (z_kf (M g) k) 0).1) = M2 at *
                            obtain ⟨-, hn', hn0', s0', s1', ho', hb'⟩ := id y_lc
                            have y_ac := z_ac_ref (A := z_SC M2 g) (q := z_sg g) (k := k) (fee := (z_kf (M g) k)) (v := 4) (s0 := fun _ => 0) (r0 := fun _ => 0) hq7 (by rw [z_SC_new, y_g]; exact y_cF) (by rw [z_SC_new, y_g]; exact y_4c)
                            rw [z_SC_new, y_g] at y_ac
                            have y_acv : z_acV (z_SC M2 g) (z_sg g) k (z_kf (M g) k) 4 = (z_cm (z_uf (M g) (86 + 5 * k + 2) 4) k (z_kf (M g) k) 0).2 := y_ac.2
                            have y_acm : z_acM (z_SC M2 g) (z_sg g) k (z_kf (M g) k) 4 (z_sg g) = (z_cm (z_uf (M g) (86 + 5 * k + 2) 4) k (z_kf (M g) k) 0).1 := y_ac.1
                            clear y_ac
                            have y_hc : z_c_kill (M g) k = 0 := by unfold z_c_kill; rw [if_neg (by omega), if_neg (by omega)]
                            refine z_aloadn dL_act_717 rfl ?_
                            refine z_iload dL_act_718 rfl ?_
                            refine kL_140 (tX6_kill hg hn' hn0' s0' s1' ho' hb' (k := k) (by omega) (by rw [y_g]; exact y_hc)) rfl ⟨(Nat.le_of_ble_eq_true rfl), (Nat.le_of_ble_eq_true rfl)⟩ (Nat.le_of_ble_eq_true rfl) dL_act_720 ?_
                            refine z_rng fun hr => ?_
                            refine z_top (v' := z_kf (M g) k) (by rw [y_g]) ?_
                            refine z_iload dL_act_723 rfl ?_
                            refine z_icmp_ne (tgt := 732) (by first | exact y_rb _ | omega | (exact hr _ _ (by decide))) (by first | exact y_rb _ | omega | (exact hr _ _ (by decide))) dL_act_725 (by decide) (fun h725 => ?_) (fun h725 => ?_)
                            · exfalso; omega
                            · refine z_iconst dL_act_728 ?_
                              refine z_goto (tgt := 733) dL_act_729 (by decide) ?_
                              exact z_zretP dL_act_733 rfl (by rw [y_g]; exact z_PA_1 (z_LR_ac (k := k) (fee := (z_kf (M g) k)) (v := 4) y_lc (fun r hr => rfl) ((z_acM_row ⟨by decide, by decide, by decide, by omega⟩).trans ((z_SC_row (by decide) (by omega)).trans y_40)) y_acm y_k (by rw [y_o.1]; omega) (by rw [y_o.2]; omega)))
                          · refine z_iconst dL_act_673 ?_
                            exact z_zretP dL_act_674 rfl (z_PA_ne (by omega) (z_PS_id h hN))
                      · exfalso; omega
                    · exfalso; omega
                  · exfalso; omega
                · exfalso; omega
              · exfalso; omega
          · exfalso; omega
        · exfalso; omega
      · exfalso; omega
    · exfalso; omega
theorem tL_act_royalty {G : z_G} {M : z_M} {g : Nat} {N a x y : Int} (h : z_LR M g N) (hN : N + 1 ≤ 600) (a0 : 0 ≤ a) (a1 : a ≤ 24) (b0 : 0 < M g 0) (ha : 21 ≤ a ∧ a < 24) (hb1 : 0 < M g 1) : z_ConP G yL_act cL_act 15 (some .boolean) 9 177 0 0 [.ref (z_ad G 0 20), z_I a, z_I x, z_I y, .ref (z_ad G 0 40), .ref (z_ad G 0 41), .ref (z_ad G 0 42), .ref (z_ad G 0 43), .ref (z_ad G 0 44), .ref (z_ad G 0 45), .ref (z_ad G 0 46)] M (some (z_I 1)) (z_PA M N a (M g 0)) := by
  refine z_conP (ls := [some (.ref (z_ad G 0 20)), some (z_I a), some (z_I x), some (z_I y), some (.ref (z_ad G 0 40)), some (.ref (z_ad G 0 41)), some (.ref (z_ad G 0 42)), some (.ref (z_ad G 0 43)), some (.ref (z_ad G 0 44)), some (.ref (z_ad G 0 45)), some (.ref (z_ad G 0 46)), none, none, none, none]) (by decide +kernel) (Nat.le_of_ble_eq_true rfl) rfl ?_
  intro Z
  refine z_rng fun hr => ?_
  have h0 := h
  obtain ⟨⟨hg, hn, hn0, s0, s1, ho, hb⟩, hE, h4, h5⟩ := h0
  have hh := z_BI_h hb
  have y_rb : ∀ i, z_rg (M g i) := fun i => hr g i (by omega)
  have hq7 := z_sg_lt g
  refine z_iloadn dL_act_0 rfl ?_
  refine z_if_eq (tgt := 11) (by first | exact y_rb _ | omega | (exact hr _ _ (by decide))) dL_act_1 (by decide) (fun h1 => ?_) (fun h1 => ?_)
  · exfalso; omega
  · refine z_aload dL_act_4 rfl ?_
    refine z_iconst dL_act_6 ?_
    refine z_lld (R := 40) (j := 0) al_c (Or.inl (by decide)) (congrFun hE _) (by omega) (by omega) (Nat.le_of_ble_eq_true rfl) (by omega) dL_act_7 ?_
    refine z_if_ne (tgt := 64) (by first | exact y_rb _ | omega | (exact hr _ _ (by decide))) dL_act_8 (by decide) (fun h8 => ?_) (fun h8 => ?_)
    · refine z_iloadn dL_act_64 rfl ?_
      refine z_iconst dL_act_65 ?_
      refine z_icmp_ne (tgt := 150) (by first | exact y_rb _ | omega | (exact hr _ _ (by decide))) (by first | exact y_rb _ | omega | (exact hr _ _ (by decide))) dL_act_66 (by decide) (fun h66 => ?_) (fun h66 => ?_)
      · refine z_iloadn dL_act_150 rfl ?_
        refine z_iconst dL_act_151 ?_
        refine z_icmp_ne (tgt := 202) (by first | exact y_rb _ | omega | (exact hr _ _ (by decide))) (by first | exact y_rb _ | omega | (exact hr _ _ (by decide))) dL_act_152 (by decide) (fun h152 => ?_) (fun h152 => ?_)
        · refine z_iloadn dL_act_202 rfl ?_
          refine z_bipush dL_act_203 (by decide) ?_
          refine z_icmp_ge (tgt := 222) (by first | exact y_rb _ | omega | (exact hr _ _ (by decide))) (by first | exact y_rb _ | omega | (exact hr _ _ (by decide))) dL_act_205 (by decide) (fun h205 => ?_) (fun h205 => ?_)
          · refine z_iloadn dL_act_222 rfl ?_
            refine z_bipush dL_act_223 (by decide) ?_
            refine z_icmp_lt (tgt := 235) (by first | exact y_rb _ | omega | (exact hr _ _ (by decide))) (by first | exact y_rb _ | omega | (exact hr _ _ (by decide))) dL_act_225 (by decide) (fun h225 => ?_) (fun h225 => ?_)
            · exfalso; omega
            · refine z_aload dL_act_228 rfl ?_
              refine z_iconst dL_act_230 ?_
              refine z_lld (R := 40) (j := 1) al_c (Or.inl (by decide)) (congrFun hE _) (by omega) (by omega) (Nat.le_of_ble_eq_true rfl) (by omega) dL_act_231 ?_
              refine z_if_ne (tgt := 344) (by first | exact y_rb _ | omega | (exact hr _ _ (by decide))) dL_act_232 (by decide) (fun h232 => ?_) (fun h232 => ?_)
              · refine z_iloadn dL_act_344 rfl ?_
                refine z_iconst dL_act_345 ?_
                refine z_ishr (z_ivE _) dL_act_346 ?_
                refine z_aload dL_act_347 rfl ?_
                refine z_iconst dL_act_349 ?_
                refine z_lld (R := 40) (j := 1) al_c (Or.inl (by decide)) (congrFun hE _) (by omega) (by omega) (Nat.le_of_ble_eq_true rfl) (by omega) dL_act_350 ?_
                refine kL_65 (tL_at (by omega) (by omega)) rfl ⟨(Nat.le_of_ble_eq_true rfl), (Nat.le_of_ble_eq_true rfl)⟩ (Nat.le_of_ble_eq_true rfl) dL_act_351 ?_
                obtain ⟨k, y_kk⟩ : ∃ k, z_atv (z_iv (Int32.ofInt x >>> (Int32.ofInt 2 &&& 31))) (M g 1) = k := ⟨_, rfl⟩
                have y_k2 := z_atv_rg (x := z_iv (Int32.ofInt x >>> (Int32.ofInt 2 &&& 31))) (n := M g 1) (by omega)
                rw [y_kk] at y_k2
                have y_K := z_BI_K hb k y_k2.1 (by omega)
                unfold z_KI at y_K
                have y_aD := z_aD_0 hb y_k2.1 (show k < 20 by omega)
                have k0 := y_k2.1
                have k1 := y_k2.2
                refine z_top (v' := k) y_kk ?_
                refine z_istore_11 dL_act_354 (Nat.le_of_ble_eq_true rfl) rfl ?_
                refine z_iloadn dL_act_356 rfl ?_
                refine z_iconst dL_act_357 ?_
                refine z_ishr (z_ivE _) dL_act_358 ?_
                refine z_aload dL_act_359 rfl ?_
                refine z_iconst dL_act_361 ?_
                refine z_lld (R := 40) (j := 0) al_c (Or.inl (by decide)) (congrFun hE _) (by omega) (by omega) (Nat.le_of_ble_eq_true rfl) (by omega) dL_act_362 ?_
                refine kL_65 (tL_at (by omega) (by omega)) rfl ⟨(Nat.le_of_ble_eq_true rfl), (Nat.le_of_ble_eq_true rfl)⟩ (Nat.le_of_ble_eq_true rfl) dL_act_363 ?_
                obtain ⟨p, y_p⟩ : ∃ p, z_atv (z_iv (Int32.ofInt y >>> (Int32.ofInt 5 &&& 31))) (M g 0) = p := ⟨_, rfl⟩
                have y_p2 := z_atv_rg (x := z_iv (Int32.ofInt y >>> (Int32.ofInt 5 &&& 31))) (n := M g 0) b0
                rw [y_p] at y_p2
                have p0 := y_p2.1
                have p1 := y_p2.2
                have y_q := z_BI_Q hb k p k0 (by omega) p0 (by omega)
                unfold z_QI at y_q
                refine z_top (v' := p) y_p ?_
                refine z_istore_12 dL_act_366 (Nat.le_of_ble_eq_true rfl) rfl ?_
                refine z_aload dL_act_368 rfl ?_
                refine z_iconst dL_act_370 ?_
                refine z_iload dL_act_371 rfl ?_
                refine z_imul dL_act_373 ?_
                refine z_iconst dL_act_374 ?_
                refine z_iadd dL_act_375 ?_
                refine z_lld (R := 40) (j := 86 + 5 * k + 2) al_pi (Or.inl (by decide)) (congrFun hE _) (by omega) (by omega) (Nat.le_of_ble_eq_true rfl) (by omega) dL_act_376 ?_
                refine z_istore_13 dL_act_377 (Nat.le_of_ble_eq_true rfl) rfl ?_
                refine z_iloadn dL_act_379 rfl ?_
                refine z_bipush dL_act_380 (by decide) ?_
                refine z_icmp_ge (tgt := 469) (by first | exact y_rb _ | omega | (exact hr _ _ (by decide))) (by first | exact y_rb _ | omega | (exact hr _ _ (by decide))) dL_act_382 (by decide) (fun h382 => ?_) (fun h382 => ?_)
                · refine z_iloadn dL_act_469 rfl ?_
                  refine z_bipush dL_act_470 (by decide) ?_
                  refine z_icmp_ne (tgt := 552) (by first | exact y_rb _ | omega | (exact hr _ _ (by decide))) (by first | exact y_rb _ | omega | (exact hr _ _ (by decide))) dL_act_472 (by decide) (fun h472 => ?_) (fun h472 => ?_)
                  · refine z_iloadn dL_act_552 rfl ?_
                    refine z_bipush dL_act_553 (by decide) ?_
                    refine z_icmp_ge (tgt := 589) (by first | exact y_rb _ | omega | (exact hr _ _ (by decide))) (by first | exact y_rb _ | omega | (exact hr _ _ (by decide))) dL_act_555 (by decide) (fun h555 => ?_) (fun h555 => ?_)
                    · refine z_iloadn dL_act_589 rfl ?_
                      refine z_bipush dL_act_590 (by decide) ?_
                      refine z_icmp_ge (tgt := 661) (by first | exact y_rb _ | omega | (exact hr _ _ (by decide))) (by first | exact y_rb _ | omega | (exact hr _ _ (by decide))) dL_act_592 (by decide) (fun h592 => ?_) (fun h592 => ?_)
                      · refine z_iloadn dL_act_661 rfl ?_
                        refine z_bipush dL_act_662 (by decide) ?_
                        refine z_icmp_ne (tgt := 734) (by first | exact y_rb _ | omega | (exact hr _ _ (by decide))) (by first | exact y_rb _ | omega | (exact hr _ _ (by decide))) dL_act_664 (by decide) (fun h664 => ?_) (fun h664 => ?_)
                        · refine z_iloadn dL_act_734 rfl ?_
                          refine z_bipush dL_act_735 (by decide) ?_
                          refine z_icmp_ge (tgt := 797) (by first | exact y_rb _ | omega | (exact hr _ _ (by decide))) (by first | exact y_rb _ | omega | (exact hr _ _ (by decide))) dL_act_737 (by decide) (fun h737 => ?_) (fun h737 => ?_)
                          · exfalso; omega
                          · refine z_iload dL_act_740 rfl ?_
                            refine z_iconst dL_act_742 ?_
                            refine z_icmp_ne (tgt := 791) (by first | exact y_rb _ | omega | (exact hr _ _ (by decide))) (by first | exact y_rb _ | omega | (exact hr _ _ (by decide))) dL_act_743 (by decide) (fun h743 => ?_) (fun h743 => ?_)
                            · refine z_iconst dL_act_791 ?_
                              refine z_goto (tgt := 796) dL_act_792 (by decide) ?_
                              first | exact z_zretP dL_act_796 rfl (z_PA_ne (by omega) (z_PS_id h hN)) | exact z_zretP dL_act_796 rfl (z_PA_1 (z_LR_ro (k := k) (a := v) h.1 (fun r hr => (z_sR_ne _ _ hr).trans (by rw [y_M3])) (z_sR_self _ _ _) y_rom y_k (by rw [y_o.1]; omega) (by rw [y_o.2]; omega)))
                            · refine z_aloadn dL_act_746 rfl ?_
                              refine z_iload dL_act_747 rfl ?_
                              refine z_iconst dL_act_749 ?_
                              refine z_iloadn dL_act_750 rfl ?_
                              refine z_sipush dL_act_751 (by decide) ?_
                              refine kL_65 (tL_at (by decide) (by decide)) rfl ⟨(Nat.le_of_ble_eq_true rfl), (Nat.le_of_ble_eq_true rfl)⟩ (Nat.le_of_ble_eq_true rfl) dL_act_754 ?_
                              refine z_iadd dL_act_757 ?_
                              obtain ⟨v, y_v⟩ : ∃ v, 1 + z_atv y 4000 = v := ⟨_, rfl⟩
                              have y_v2 := z_atv_rg (x := y) (n := 4000) (by decide)
                              have y_v3 : 1 ≤ v ∧ v ≤ 4000 := by omega
                              refine z_top (v' := v) y_v ?_
                              have f_P := z_BI_P hb (M g (86 + 5 * k)) (by omega) (by omega)
                              unfold z_PI at f_P
                              have y_cF : z_cF (M g) k := z_BI_cF hb k0 k1
                              have y_4c : z_p4c (M g) k := z_BI_p4c hb k0 (by omega)
                              have y_Bz := z_paz hb h4 k0 (show k < 20 by omega)
                              have y_oo : z_oo (M g) k = M g (14 + 6 * M g (86 + 5 * k) + 3) := rfl
                              have y_k : z_BI (z_cm (M g) k v 1).1 (N + 1) := z_k_roy (s0 := fun _ => 0) (r0 := fun _ => 0) hb hN k0 k1 (by omega) (by omega)
                              have y_o := z_cm_01 (b := M g) (k := k) (a := v) (y := 1) k0 (by omega) (by omega)
                              have y_bd := z_cm_bd (y := 1) k0 (show k < 20 by omega) (show 0 ≤ v by omega) (show v ≤ 100000 by omega) y_cF
                              have y_cr : 0 ≤ (z_cm (M g) k v 1).2 ∧ (z_cm (M g) k v 1).2 ≤ 1000000000 := ⟨y_bd.2.2.2.2.2.2.1, y_bd.2.2.2.2.2.2.2⟩
                              clear y_bd
                              have y_ro := z_ro_ref (A := z_SC M g) (q := z_sg g) (k := k) (a := v) (s0 := fun _ => 0) (r0 := fun _ => 0) hq7 k0 (by omega) (by rw [z_SC_new]; exact y_cF) (by rw [z_SC_new]; exact y_4c) (by rw [z_SC_new]; exact z_BI_pz hb k0 (by omega))
                              rw [z_SC_new] at y_ro
                              have y_rov : z_roV (z_SC M g) (z_sg g) k v = (z_cm (M g) k v 1).2 := y_ro.2
                              have y_rom : z_roM (z_SC M g) (z_sg g) k v (z_sg g) = (z_cm (M g) k v 1).1 := y_ro.1
                              clear y_ro
                              have y_hc : z_c_royalty (M g) k v = 0 := by unfold z_c_royalty; rw [if_neg (by omega), if_neg (by omega), if_pos (by omega)]
                              refine kL_142 (tX6_royalty hg hn hn0 s0 s1 ho hb (k := k) (a := v) (by omega) (by omega) y_hc) rfl ⟨(Nat.le_of_ble_eq_true rfl), (Nat.le_of_ble_eq_true rfl)⟩ (Nat.le_of_ble_eq_true rfl) dL_act_758 ?_
                              refine z_rng fun hr => ?_
                              obtain ⟨M3, y_M3⟩ : ∃ M3, z_roM (z_SC M g) (z_sg g) k v = M3 := ⟨_, rfl⟩
                              have y_340 : M3 40 = M g := by rw [← y_M3]; exact (z_roM_row ⟨by decide, by decide, by decide, by omega⟩).trans ((z_SC_row (by decide) (by omega)).trans hE)
                              rw [y_M3] at hr ⊢
                              refine z_iload dL_act_761 rfl ?_
                              refine z_iconst dL_act_763 ?_
                              refine z_iloadn dL_act_764 rfl ?_
                              refine z_sipush dL_act_765 (by decide) ?_
                              refine kL_65 (tL_at (by decide) (by decide)) rfl ⟨(Nat.le_of_ble_eq_true rfl), (Nat.le_of_ble_eq_true rfl)⟩ (Nat.le_of_ble_eq_true rfl) dL_act_768 ?_
                              refine z_iadd dL_act_771 ?_
                              refine z_top (v' := v) (y_v) ?_
                              refine z_iconst dL_act_772 ?_
                              refine z_aload dL_act_773 rfl ?_
                              refine z_aload dL_act_775 rfl ?_
                              refine z_aload dL_act_777 rfl ?_
                              refine z_aload dL_act_779 rfl ?_
                              refine z_aload dL_act_781 rfl ?_
                              refine z_aload dL_act_783 rfl ?_
                              refine kL_79 (tL_comes1 (g := 0) (R := 40) (B := M g) rfl (Or.inl rfl) y_340 k0 (by omega) (by omega) (by omega) y_cF y_Bz (by omega) (by omega) (by omega) (fun j _ _ => congrFun y_340 _) (fun q _ _ => congrFun y_340 _)) rfl ⟨(Nat.le_of_ble_eq_true rfl), (Nat.le_of_ble_eq_true rfl)⟩ (Nat.le_of_ble_eq_true rfl) dL_act_785 ?_
                              refine z_rng fun hr => ?_
                              refine z_icmp_ne (tgt := 795) (by first | exact y_rb _ | omega | (exact hr _ _ (by decide))) (by first | exact y_rb _ | omega | (exact hr _ _ (by decide))) dL_act_788 (by decide) (fun h788 => ?_) (fun h788 => ?_)
                              · exfalso; omega
                              · refine z_iconst dL_act_791 ?_
                                refine z_goto (tgt := 796) dL_act_792 (by decide) ?_
                                first | exact z_zretP dL_act_796 rfl (z_PA_ne (by omega) (z_PS_id h hN)) | exact z_zretP dL_act_796 rfl (z_PA_1 (z_LR_ro (k := k) (a := v) h.1 (fun r hr => (z_sR_ne _ _ hr).trans (by rw [y_M3])) (z_sR_self _ _ _) y_rom y_k (by rw [y_o.1]; omega) (by rw [y_o.2]; omega)))
                        · exfalso; omega
                      · exfalso; omega
                    · exfalso; omega
                  · exfalso; omega
                · exfalso; omega
              · exfalso; omega
          · exfalso; omega
        · exfalso; omega
      · exfalso; omega
    · exfalso; omega
theorem tL_act_dispute {G : z_G} {M : z_M} {g : Nat} {N a x y : Int} (h : z_LR M g N) (hN : N + 1 ≤ 600) (a0 : 0 ≤ a) (a1 : a ≤ 24) (b0 : 0 < M g 0) (ha : a = 24) (hb1 : 0 < M g 1) : z_ConP G yL_act cL_act 15 (some .boolean) 9 177 0 0 [.ref (z_ad G 0 20), z_I a, z_I x, z_I y, .ref (z_ad G 0 40), .ref (z_ad G 0 41), .ref (z_ad G 0 42), .ref (z_ad G 0 43), .ref (z_ad G 0 44), .ref (z_ad G 0 45), .ref (z_ad G 0 46)] M (some (z_I 1)) (z_PA M N a (M g 0)) := by
  refine z_conP (ls := [some (.ref (z_ad G 0 20)), some (z_I a), some (z_I x), some (z_I y), some (.ref (z_ad G 0 40)), some (.ref (z_ad G 0 41)), some (.ref (z_ad G 0 42)), some (.ref (z_ad G 0 43)), some (.ref (z_ad G 0 44)), some (.ref (z_ad G 0 45)), some (.ref (z_ad G 0 46)), none, none, none, none]) (by decide +kernel) (Nat.le_of_ble_eq_true rfl) rfl ?_
  intro Z
  refine z_rng fun hr => ?_
  have h0 := h
  obtain ⟨⟨hg, hn, hn0, s0, s1, ho, hb⟩, hE, h4, h5⟩ := h0
  have hh := z_BI_h hb
  have y_rb : ∀ i, z_rg (M g i) := fun i => hr g i (by omega)
  have hq7 := z_sg_lt g
  refine z_iloadn dL_act_0 rfl ?_
  refine z_if_eq (tgt := 11) (by first | exact y_rb _ | omega | (exact hr _ _ (by decide))) dL_act_1 (by decide) (fun h1 => ?_) (fun h1 => ?_)
  · exfalso; omega
  · refine z_aload dL_act_4 rfl ?_
    refine z_iconst dL_act_6 ?_
    refine z_lld (R := 40) (j := 0) al_c (Or.inl (by decide)) (congrFun hE _) (by omega) (by omega) (Nat.le_of_ble_eq_true rfl) (by omega) dL_act_7 ?_
    refine z_if_ne (tgt := 64) (by first | exact y_rb _ | omega | (exact hr _ _ (by decide))) dL_act_8 (by decide) (fun h8 => ?_) (fun h8 => ?_)
    · refine z_iloadn dL_act_64 rfl ?_
      refine z_iconst dL_act_65 ?_
      refine z_icmp_ne (tgt := 150) (by first | exact y_rb _ | omega | (exact hr _ _ (by decide))) (by first | exact y_rb _ | omega | (exact hr _ _ (by decide))) dL_act_66 (by decide) (fun h66 => ?_) (fun h66 => ?_)
      · refine z_iloadn dL_act_150 rfl ?_
        refine z_iconst dL_act_151 ?_
        refine z_icmp_ne (tgt := 202) (by first | exact y_rb _ | omega | (exact hr _ _ (by decide))) (by first | exact y_rb _ | omega | (exact hr _ _ (by decide))) dL_act_152 (by decide) (fun h152 => ?_) (fun h152 => ?_)
        · refine z_iloadn dL_act_202 rfl ?_
          refine z_bipush dL_act_203 (by decide) ?_
          refine z_icmp_ge (tgt := 222) (by first | exact y_rb _ | omega | (exact hr _ _ (by decide))) (by first | exact y_rb _ | omega | (exact hr _ _ (by decide))) dL_act_205 (by decide) (fun h205 => ?_) (fun h205 => ?_)
          · refine z_iloadn dL_act_222 rfl ?_
            refine z_bipush dL_act_223 (by decide) ?_
            refine z_icmp_lt (tgt := 235) (by first | exact y_rb _ | omega | (exact hr _ _ (by decide))) (by first | exact y_rb _ | omega | (exact hr _ _ (by decide))) dL_act_225 (by decide) (fun h225 => ?_) (fun h225 => ?_)
            · exfalso; omega
            · refine z_aload dL_act_228 rfl ?_
              refine z_iconst dL_act_230 ?_
              refine z_lld (R := 40) (j := 1) al_c (Or.inl (by decide)) (congrFun hE _) (by omega) (by omega) (Nat.le_of_ble_eq_true rfl) (by omega) dL_act_231 ?_
              refine z_if_ne (tgt := 344) (by first | exact y_rb _ | omega | (exact hr _ _ (by decide))) dL_act_232 (by decide) (fun h232 => ?_) (fun h232 => ?_)
              · refine z_iloadn dL_act_344 rfl ?_
                refine z_iconst dL_act_345 ?_
                refine z_ishr (z_ivE _) dL_act_346 ?_
                refine z_aload dL_act_347 rfl ?_
                refine z_iconst dL_act_349 ?_
                refine z_lld (R := 40) (j := 1) al_c (Or.inl (by decide)) (congrFun hE _) (by omega) (by omega) (Nat.le_of_ble_eq_true rfl) (by omega) dL_act_350 ?_
                refine kL_65 (tL_at (by omega) (by omega)) rfl ⟨(Nat.le_of_ble_eq_true rfl), (Nat.le_of_ble_eq_true rfl)⟩ (Nat.le_of_ble_eq_true rfl) dL_act_351 ?_
                obtain ⟨k, y_kk⟩ : ∃ k, z_atv (z_iv (Int32.ofInt x >>> (Int32.ofInt 2 &&& 31))) (M g 1) = k := ⟨_, rfl⟩
                have y_k2 := z_atv_rg (x := z_iv (Int32.ofInt x >>> (Int32.ofInt 2 &&& 31))) (n := M g 1) (by omega)
                rw [y_kk] at y_k2
                have y_K := z_BI_K hb k y_k2.1 (by omega)
                unfold z_KI at y_K
                have y_aD := z_aD_0 hb y_k2.1 (show k < 20 by omega)
                have k0 := y_k2.1
                have k1 := y_k2.2
                refine z_top (v' := k) y_kk ?_
                refine z_istore_11 dL_act_354 (Nat.le_of_ble_eq_true rfl) rfl ?_
                refine z_iloadn dL_act_356 rfl ?_
                refine z_iconst dL_act_357 ?_
                refine z_ishr (z_ivE _) dL_act_358 ?_
                refine z_aload dL_act_359 rfl ?_
                refine z_iconst dL_act_361 ?_
                refine z_lld (R := 40) (j := 0) al_c (Or.inl (by decide)) (congrFun hE _) (by omega) (by omega) (Nat.le_of_ble_eq_true rfl) (by omega) dL_act_362 ?_
                refine kL_65 (tL_at (by omega) (by omega)) rfl ⟨(Nat.le_of_ble_eq_true rfl), (Nat.le_of_ble_eq_true rfl)⟩ (Nat.le_of_ble_eq_true rfl) dL_act_363 ?_
                obtain ⟨p, y_p⟩ : ∃ p, z_atv (z_iv (Int32.ofInt y >>> (Int32.ofInt 5 &&& 31))) (M g 0) = p := ⟨_, rfl⟩
                have y_p2 := z_atv_rg (x := z_iv (Int32.ofInt y >>> (Int32.ofInt 5 &&& 31))) (n := M g 0) b0
                rw [y_p] at y_p2
                have p0 := y_p2.1
                have p1 := y_p2.2
                have y_q := z_BI_Q hb k p k0 (by omega) p0 (by omega)
                unfold z_QI at y_q
                refine z_top (v' := p) y_p ?_
                refine z_istore_12 dL_act_366 (Nat.le_of_ble_eq_true rfl) rfl ?_
                refine z_aload dL_act_368 rfl ?_
                refine z_iconst dL_act_370 ?_
                refine z_iload dL_act_371 rfl ?_
                refine z_imul dL_act_373 ?_
                refine z_iconst dL_act_374 ?_
                refine z_iadd dL_act_375 ?_
                refine z_lld (R := 40) (j := 86 + 5 * k + 2) al_pi (Or.inl (by decide)) (congrFun hE _) (by omega) (by omega) (Nat.le_of_ble_eq_true rfl) (by omega) dL_act_376 ?_
                refine z_istore_13 dL_act_377 (Nat.le_of_ble_eq_true rfl) rfl ?_
                refine z_iloadn dL_act_379 rfl ?_
                refine z_bipush dL_act_380 (by decide) ?_
                refine z_icmp_ge (tgt := 469) (by first | exact y_rb _ | omega | (exact hr _ _ (by decide))) (by first | exact y_rb _ | omega | (exact hr _ _ (by decide))) dL_act_382 (by decide) (fun h382 => ?_) (fun h382 => ?_)
                · refine z_iloadn dL_act_469 rfl ?_
                  refine z_bipush dL_act_470 (by decide) ?_
                  refine z_icmp_ne (tgt := 552) (by first | exact y_rb _ | omega | (exact hr _ _ (by decide))) (by first | exact y_rb _ | omega | (exact hr _ _ (by decide))) dL_act_472 (by decide) (fun h472 => ?_) (fun h472 => ?_)
                  · refine z_iloadn dL_act_552 rfl ?_
                    refine z_bipush dL_act_553 (by decide) ?_
                    refine z_icmp_ge (tgt := 589) (by first | exact y_rb _ | omega | (exact hr _ _ (by decide))) (by first | exact y_rb _ | omega | (exact hr _ _ (by decide))) dL_act_555 (by decide) (fun h555 => ?_) (fun h555 => ?_)
                    · refine z_iloadn dL_act_589 rfl ?_
                      refine z_bipush dL_act_590 (by decide) ?_
                      refine z_icmp_ge (tgt := 661) (by first | exact y_rb _ | omega | (exact hr _ _ (by decide))) (by first | exact y_rb _ | omega | (exact hr _ _ (by decide))) dL_act_592 (by decide) (fun h592 => ?_) (fun h592 => ?_)
                      · refine z_iloadn dL_act_661 rfl ?_
                        refine z_bipush dL_act_662 (by decide) ?_
                        refine z_icmp_ne (tgt := 734) (by first | exact y_rb _ | omega | (exact hr _ _ (by decide))) (by first | exact y_rb _ | omega | (exact hr _ _ (by decide))) dL_act_664 (by decide) (fun h664 => ?_) (fun h664 => ?_)
                        · refine z_iloadn dL_act_734 rfl ?_
                          refine z_bipush dL_act_735 (by decide) ?_
                          refine z_icmp_ge (tgt := 797) (by first | exact y_rb _ | omega | (exact hr _ _ (by decide))) (by first | exact y_rb _ | omega | (exact hr _ _ (by decide))) dL_act_737 (by decide) (fun h737 => ?_) (fun h737 => ?_)
                          · refine z_iload dL_act_797 rfl ?_
                            refine z_iload dL_act_799 rfl ?_
                            refine z_aload dL_act_801 rfl ?_
                            refine z_aload dL_act_803 rfl ?_
                            refine z_aload dL_act_805 rfl ?_
                            refine kL_28 (tL_quarrels hb h4 k0 (by omega) p0 (by omega) hE) rfl ⟨(Nat.le_of_ble_eq_true rfl), (Nat.le_of_ble_eq_true rfl)⟩ (Nat.le_of_ble_eq_true rfl) dL_act_807 ?_
                            refine z_ifb_ne (tgt := 815) dL_act_810 (by decide) (fun h810 => ?_) (fun h810 => ?_)
                            · refine z_iconst dL_act_815 ?_
                              refine z_istore_14 dL_act_816 (Nat.le_of_ble_eq_true rfl) rfl ?_
                              refine z_mem (M' := z_sR M 40 (z_cp (M g) (z_dr (M g) k) (426 + 12 * k) 0 ((0 : Nat) : Int))) (by rw [show ((0 : Nat) : Int) = 0 from rfl, z_cp_0, ← hE, z_sR_id]) ?_
                              refine z_upn (P := fun i : Nat => z_J G Z (cL_act, 15, yL_act.cls, z_rmP 9 177 0 0, some .boolean) (z_QmP G Z (some (z_I 1)) (z_PA M N a (M g 0)) 0 0) 818 [some (.ref (z_ad G 0 20)), some (z_I a), some (z_I x), some (z_I y), some (.ref (z_ad G 0 40)), some (.ref (z_ad G 0 41)), some (.ref (z_ad G 0 42)), some (.ref (z_ad G 0 43)), some (.ref (z_ad G 0 44)), some (.ref (z_ad G 0 45)), some (.ref (z_ad G 0 46)), some (z_I k), some (z_I p), some (z_I (M g (86 + 5 * k + 2))), some (z_I i)] [] (z_sR M 40 (z_cp (M g) (z_dr (M g) k) (426 + 12 * k) 0 i)) 0 0) 4 ?_ ?_
                              · refine z_rng fun hr => ?_
                                refine z_iload dL_act_818 rfl ?_
                                refine z_iconst dL_act_820 ?_
                                refine z_icmp_ge (tgt := 850) (by first | exact y_rb _ | omega | (exact hr _ _ (by decide))) (by first | exact y_rb _ | omega | (exact hr _ _ (by decide))) dL_act_821 (by decide) (fun h821 => ?_) (fun h821 => ?_)
                                · refine z_aload dL_act_850 rfl ?_
                                  refine z_iconst dL_act_852 ?_
                                  refine z_iload dL_act_853 rfl ?_
                                  refine z_imul dL_act_855 ?_
                                  refine z_iconst dL_act_856 ?_
                                  refine z_iadd dL_act_857 ?_
                                  refine z_dup2 dL_act_858 rfl rfl ?_
                                  refine z_lld (R := 40) (j := 86 + 5 * k + 3) al_pi (Or.inl (by decide)) ((congrFun (z_sR_self _ _ _) _).trans (show (z_cp (M g) (z_dr (M g) k) (426 + 12 * k) 0 ((4 : Nat) : Int)) (86 + 5 * k + 3) = M g (86 + 5 * k + 3) from if_neg (by omega))) (by omega) (by omega) (Nat.le_of_ble_eq_true rfl) (by omega) dL_act_859 ?_
                                  refine z_iconst dL_act_860 ?_
                                  refine z_iadd dL_act_861 ?_
                                  refine z_lst (R := 40) (j := 86 + 5 * k + 3) al_pi (Or.inl (by decide)) (by omega) (by omega) (Nat.le_of_ble_eq_true rfl) (by omega) (by first | exact y_rb _ | omega | (exact hr _ _ (by decide))) dL_act_862 ?_
                                  refine z_rng fun hr => ?_
                                  refine z_aload dL_act_863 rfl ?_
                                  refine z_bipush dL_act_865 (by decide) ?_
                                  refine z_dup2 dL_act_867 rfl rfl ?_
                                  refine z_lld (R := 40) (j := 6) al_c (Or.inl (by decide)) ((z_sM_ne _ _ _ (by omega)).trans ((congrFun (z_sR_self _ _ _) _).trans (show (z_cp (M g) (z_dr (M g) k) (426 + 12 * k) 0 ((4 : Nat) : Int)) 6 = M g 6 from if_neg (by omega)))) (by omega) (by omega) (Nat.le_of_ble_eq_true rfl) (by omega) dL_act_868 ?_
                                  refine z_iconst dL_act_869 ?_
                                  refine z_iadd dL_act_870 ?_
                                  refine z_lst (R := 40) (j := 6) al_c (Or.inl (by decide)) (by omega) (by omega) (Nat.le_of_ble_eq_true rfl) (by omega) (by first | exact y_rb _ | omega | (exact hr _ _ (by decide))) dL_act_871 ?_
                                  refine z_rng fun hr => ?_
                                  refine z_mem (M' := z_sR M 40 (z_od (M g) k (z_gpb (M g) k))) (by simp only [z_sM_R, z_sR_R, z_sR_self]; rw [← z_od_4 hb h4 k0 (by omega)]; rfl) ?_
                                  have y_lc : z_LC (z_sR M 40 (z_od (M g) k (z_gpb (M g) k))) g N := z_LC_sR h.1 (by decide)
                                  have y_g : z_sR M 40 (z_od (M g) k (z_gpb (M g) k)) g = M g := z_sR_ne _ _ (by omega)
                                  have y_40 : z_sR M 40 (z_od (M g) k (z_gpb (M g) k)) 40 = z_od (M g) k (z_gpb (M g) k) := z_sR_self _ _ _
                                  refine z_rng fun hr => ?_
                                  generalize z_sR M 40 (z_od (M g) k (z_gpb (M g) k)) = M2 at *
                                  obtain ⟨-, hn', hn0', s0', s1', ho', hb'⟩ := id y_lc
                                  have y_hc : z_c_dispute (M g) k p = 0 := by unfold z_c_dispute; rw [if_neg (by omega), if_pos h810]
                                  have y_k := z_k_od hb hN k0 k1 p0 (by omega) h810
                                  have y_o : (z_od (M g) k (z_gpb (M g) k)) 0 = M g 0 ∧ (z_od (M g) k (z_gpb (M g) k)) 1 = M g 1 ∧ (z_od (M g) k (z_gpb (M g) k)) (186 + 12 * k + p) = M g (186 + 12 * k + p) := by
                                    unfold z_od z_uf z_cp
                                    refine ⟨?_, ?_, ?_⟩
                                    · rw [if_neg (by omega), if_neg (by omega), if_neg (by omega)]
                                    · rw [if_neg (by omega), if_neg (by omega), if_neg (by omega)]
                                    · rw [if_neg (by omega), if_neg (by omega), if_neg (by omega)]
                                  refine z_aloadn dL_act_872 rfl ?_
                                  refine z_iload dL_act_873 rfl ?_
                                  refine z_iload dL_act_875 rfl ?_
                                  refine kL_145 (tX6_dispute hg hn' hn0' s0' s1' ho' hb' (k := k) (p := p) (by omega) (by omega) (by rw [y_g]; exact y_hc)) rfl ⟨(Nat.le_of_ble_eq_true rfl), (Nat.le_of_ble_eq_true rfl)⟩ (Nat.le_of_ble_eq_true rfl) dL_act_877 ?_
                                  refine z_rng fun hr => ?_
                                  refine z_top (v' := M g (186 + 12 * k + p)) (by rw [y_g]; exact z_gpb_4 hb h4 k0 (by omega) p p0 (by omega)) ?_
                                  refine z_aload dL_act_880 rfl ?_
                                  refine z_iconst dL_act_882 ?_
                                  refine z_iload dL_act_883 rfl ?_
                                  refine z_imul dL_act_885 ?_
                                  refine z_iload dL_act_886 rfl ?_
                                  refine z_iadd dL_act_888 ?_
                                  refine z_lld (R := 40) (j := 186 + 12 * k + p) al_dr (Or.inl (by decide)) ((congrFun (z_sR_ne _ _ (by omega)) _).trans ((congrFun (z_SC_row (by decide) (by omega)) _).trans ((congrFun y_40 _).trans y_o.2.2))) (by omega) (by omega) (Nat.le_of_ble_eq_true rfl) (by omega) dL_act_889 ?_
                                  refine z_icmp_ne (tgt := 897) (by first | exact y_rb _ | omega | (exact hr _ _ (by decide))) (by first | exact y_rb _ | omega | (exact hr _ _ (by decide))) dL_act_890 (by decide) (fun h890 => ?_) (fun h890 => ?_)
                                  · exfalso; omega
                                  · refine z_iconst dL_act_893 ?_
                                    refine z_goto (tgt := 898) dL_act_894 (by decide) ?_
                                    exact z_zretP dL_act_898 rfl (by rw [y_g]; exact z_PA_sv y_lc y_40 y_k (by omega) (by omega))
                                · exfalso; omega
                              · intro i hi y_ih
                                refine z_rng fun hr => ?_
                                refine z_iload dL_act_818 rfl ?_
                                refine z_iconst dL_act_820 ?_
                                refine z_icmp_ge (tgt := 850) (by first | exact y_rb _ | omega | (exact hr _ _ (by decide))) (by first | exact y_rb _ | omega | (exact hr _ _ (by decide))) dL_act_821 (by decide) (fun h821 => ?_) (fun h821 => ?_)
                                · exfalso; omega
                                · refine z_aload dL_act_824 rfl ?_
                                  refine z_iconst dL_act_826 ?_
                                  refine z_iload dL_act_827 rfl ?_
                                  refine z_imul dL_act_829 ?_
                                  refine z_iload dL_act_830 rfl ?_
                                  refine z_iadd dL_act_832 ?_
                                  refine z_aload dL_act_833 rfl ?_
                                  refine z_iconst dL_act_835 ?_
                                  refine z_iload dL_act_836 rfl ?_
                                  refine z_imul dL_act_838 ?_
                                  refine z_iload dL_act_839 rfl ?_
                                  refine z_iadd dL_act_841 ?_
                                  refine z_lld (R := 40) (j := 186 + 12 * k + (i : Int)) al_dr (Or.inl (by decide)) ((congrFun (z_sR_self _ _ _) _).trans (show (z_cp (M g) (z_dr (M g) k) (426 + 12 * k) 0 i) (186 + 12 * k + (i : Int)) = M g (186 + 12 * k + (i : Int)) from if_neg (by omega))) (by omega) (by omega) (Nat.le_of_ble_eq_true rfl) (by omega) dL_act_842 ?_
                                  refine z_lst (R := 40) (j := 426 + 12 * k + (i : Int)) al_pa (Or.inl (by decide)) (by omega) (by omega) (Nat.le_of_ble_eq_true rfl) (by omega) (by first | exact y_rb _ | omega | (exact hr _ _ (by decide))) dL_act_843 ?_
                                  refine z_rng fun hr => ?_
                                  refine z_iinc_14 dL_act_844 (Nat.le_of_ble_eq_true rfl) rfl ?_
                                  refine z_goto (tgt := 818) dL_act_847 (by decide) ?_
                                  refine z_mem ?_ y_ih
                                  rw [z_sM_sR]
                                  congr 1
                                  refine z_cp_s _ _ _ _ i rfl ?_
                                  show _ = M g (186 + 12 * k + (0 + (i : Int)))
                                  rw [Int.zero_add]
                            · refine z_iconst dL_act_813 ?_
                              exact z_zretP dL_act_814 rfl (z_PA_ne (by omega) (z_PS_id h hN))
                          · exfalso; omega
                        · exfalso; omega
                      · exfalso; omega
                    · exfalso; omega
                  · exfalso; omega
                · exfalso; omega
              · exfalso; omega
          · exfalso; omega
        · exfalso; omega
      · exfalso; omega
    · exfalso; omega
