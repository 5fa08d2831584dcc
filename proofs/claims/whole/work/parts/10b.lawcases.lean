/-! ===== the law's body: a case an operation ===== -/
set_option maxRecDepth 20000 in
theorem z_law_c0 {G : z_G} {Z : z_Z} {Q : State → Prop} {b L : Nat} {xs : Nat → Int32} {M : z_M} {i : Nat} (sc : z_Sc G Z b L xs) (hi : 4 * (i : Int) + 4 ≤ L) (hR : z_Rel M i) (next : ∀ M2, z_Rel M2 ((i : Int) + 1) → z_J G Z z_dL Q 1798 (z_lsL G b (4 * i)) [] M2 (153 + (i + 1)) (14011 + 6 * (i + 1))) : z_J G Z z_dL Q 168 (z_lsL G b (4 * i)) [] M (153 + i) (14011 + 6 * i) := by
  have hL := sc.2.2.2
  have hN : (i : Int) + 1 ≤ 600 := by omega
  have hk : 153 + i + 1 ≤ (z_R z_dL).cells ∧ 14011 + 6 * i + 6 ≤ (z_R z_dL).slots := ⟨by show _ ≤ 601024; omega, by show _ ≤ 7293034; omega⟩
  have hk0 : 153 + i ≤ (z_R z_dL).cells ∧ 14011 + 6 * i ≤ (z_R z_dL).slots := ⟨by have := hk.1; omega, by have := hk.2; omega⟩
  obtain ⟨M1, M2, y_k, y_b, hA, hB, ht, ho, hR2⟩ := z_st_addPen (G := G)  hR hN
  refine z_aloadn dL_law_168 rfl ?_
  refine z_aloadn dL_law_169 rfl ?_
  refine z_callL hA wmL_95 wt_L_addPen wc_L_addPen wn_L n_L_addPen rfl rfl ⟨(Nat.le_of_ble_eq_true rfl), (Nat.le_of_ble_eq_true rfl)⟩ hk (Nat.le_of_ble_eq_true rfl) dL_law_170 ?_
  refine z_istore_5 dL_law_173 (Nat.le_of_ble_eq_true rfl) rfl ?_
  refine z_aloadn dL_law_175 rfl ?_
  refine qL_100 hB rfl ⟨(Nat.le_of_ble_eq_true rfl), (Nat.le_of_ble_eq_true rfl)⟩ hk (Nat.le_of_ble_eq_true rfl) dL_law_176 ?_
  refine z_istore_6 dL_law_179 (Nat.le_of_ble_eq_true rfl) rfl ?_
  refine z_aloadn dL_law_181 rfl ?_
  refine qL_101 (tX7_thrown (G := G) (M := M2)) rfl ⟨(Nat.le_of_ble_eq_true rfl), (Nat.le_of_ble_eq_true rfl)⟩ hk (Nat.le_of_ble_eq_true rfl) dL_law_182 ?_
  refine z_top ht ?_
  refine z_iload dL_law_185 rfl ?_
  refine z_icmp_same (tgt := 192) dL_law_187 rfl ?_
  refine z_iload dL_law_192 rfl ?_
  refine z_rng fun hr => ?_
  have rk : z_rg y_k := by rw [← ht]; exact hr 21 4 (by decide)
  refine z_if_ne (tgt := 209) rk dL_law_194 rfl (fun _ => ?_) (fun y_0 => ?_)
  · refine z_goto (tgt := 1798) dL_law_209 rfl ?_
    exact z_unl5 (z_wide (by omega) (by omega) (next M2 hR2))
  · skip
    refine z_aloadn dL_law_197 rfl ?_
    refine z_iconst dL_law_198 ?_
    refine z_lald dL_law_199 ?_
    refine z_iload dL_law_200 rfl ?_
    refine z_iwr ?_
    refine z_i2l (z_iw_rg y_b) dL_law_202 ?_
    refine z_lcmp (r := 0) (by rw [ho y_0]; exact z_lsame _) dL_law_203 ?_
    refine z_if_eq (tgt := 209) (by decide) dL_law_204 rfl (fun _ => ?_) (fun y_m => absurd rfl y_m)
    refine z_goto (tgt := 1798) dL_law_209 rfl ?_
    exact z_unl5 (z_wide (by omega) (by omega) (next M2 hR2))
set_option maxRecDepth 20000 in
theorem z_law_c1 {G : z_G} {Z : z_Z} {Q : State → Prop} {b L : Nat} {xs : Nat → Int32} {M : z_M} {i : Nat} (sc : z_Sc G Z b L xs) (hi : 4 * (i : Int) + 4 ≤ L) (hR : z_Rel M i) (next : ∀ M2, z_Rel M2 ((i : Int) + 1) → z_J G Z z_dL Q 1798 (z_lsL G b (4 * i)) [] M2 (153 + (i + 1)) (14011 + 6 * (i + 1))) : z_J G Z z_dL Q 212 (z_lsL G b (4 * i)) [] M (153 + i) (14011 + 6 * i) := by
  have hL := sc.2.2.2
  have hN : (i : Int) + 1 ≤ 600 := by omega
  have hk : 153 + i + 1 ≤ (z_R z_dL).cells ∧ 14011 + 6 * i + 6 ≤ (z_R z_dL).slots := ⟨by show _ ≤ 601024; omega, by show _ ≤ 7293034; omega⟩
  have hk0 : 153 + i ≤ (z_R z_dL).cells ∧ 14011 + 6 * i ≤ (z_R z_dL).slots := ⟨by have := hk.1; omega, by have := hk.2; omega⟩
  obtain ⟨M1, M2, y_k, y_b, hA, hB, ht, ho, hR2⟩ := z_st_sell (G := G) (z_y_rg xs (4 * i + 1)) (z_y_rg xs (4 * i + 2)) (z_y_rg xs (4 * i + 3)) hR hN
  refine z_aloadn dL_law_212 rfl ?_
  refine z_aloadn dL_law_213 rfl ?_
  refine z_iload dL_law_214 rfl ?_
  refine z_iconst dL_law_216 ?_
  refine z_iadd dL_law_217 ?_
  refine z_sld sc (by omega) (by omega) dL_law_218 ?_
  refine z_aloadn dL_law_219 rfl ?_
  refine z_iload dL_law_220 rfl ?_
  refine z_iconst dL_law_222 ?_
  refine z_iadd dL_law_223 ?_
  refine z_sld sc (by omega) (by omega) dL_law_224 ?_
  refine z_aloadn dL_law_225 rfl ?_
  refine z_iload dL_law_226 rfl ?_
  refine z_iconst dL_law_228 ?_
  refine z_iadd dL_law_229 ?_
  refine z_sld sc (by omega) (by omega) dL_law_230 ?_
  refine z_aloadn dL_law_231 rfl ?_
  refine z_callL hA wmL_104 wt_L_sell wc_L_sell wn_L n_L_sell rfl rfl ⟨(Nat.le_of_ble_eq_true rfl), (Nat.le_of_ble_eq_true rfl)⟩ hk (Nat.le_of_ble_eq_true rfl) dL_law_232 ?_
  refine z_istore_5 dL_law_235 (Nat.le_of_ble_eq_true rfl) rfl ?_
  refine z_aloadn dL_law_237 rfl ?_
  refine z_aloadn dL_law_238 rfl ?_
  refine z_iload dL_law_239 rfl ?_
  refine z_iconst dL_law_241 ?_
  refine z_iadd dL_law_242 ?_
  refine z_sld sc (by omega) (by omega) dL_law_243 ?_
  refine z_aloadn dL_law_244 rfl ?_
  refine z_iload dL_law_245 rfl ?_
  refine z_iconst dL_law_247 ?_
  refine z_iadd dL_law_248 ?_
  refine z_sld sc (by omega) (by omega) dL_law_249 ?_
  refine z_aloadn dL_law_250 rfl ?_
  refine z_iload dL_law_251 rfl ?_
  refine z_iconst dL_law_253 ?_
  refine z_iadd dL_law_254 ?_
  refine z_sld sc (by omega) (by omega) dL_law_255 ?_
  refine qL_107 hB rfl ⟨(Nat.le_of_ble_eq_true rfl), (Nat.le_of_ble_eq_true rfl)⟩ hk (Nat.le_of_ble_eq_true rfl) dL_law_256 ?_
  refine z_istore_6 dL_law_259 (Nat.le_of_ble_eq_true rfl) rfl ?_
  refine z_aloadn dL_law_261 rfl ?_
  refine qL_101 (tX7_thrown (G := G) (M := M2)) rfl ⟨(Nat.le_of_ble_eq_true rfl), (Nat.le_of_ble_eq_true rfl)⟩ hk (Nat.le_of_ble_eq_true rfl) dL_law_262 ?_
  refine z_top ht ?_
  refine z_iload dL_law_265 rfl ?_
  refine z_icmp_same (tgt := 272) dL_law_267 rfl ?_
  refine z_iload dL_law_272 rfl ?_
  refine z_rng fun hr => ?_
  have rk : z_rg y_k := by rw [← ht]; exact hr 21 4 (by decide)
  refine z_if_ne (tgt := 289) rk dL_law_274 rfl (fun _ => ?_) (fun y_0 => ?_)
  · refine z_goto (tgt := 1798) dL_law_289 rfl ?_
    exact z_unl5 (z_wide (by omega) (by omega) (next M2 hR2))
  · skip
    refine z_aloadn dL_law_277 rfl ?_
    refine z_iconst dL_law_278 ?_
    refine z_lald dL_law_279 ?_
    refine z_iload dL_law_280 rfl ?_
    refine z_iwr ?_
    refine z_i2l (z_iw_rg y_b) dL_law_282 ?_
    refine z_lcmp (r := 0) (by rw [ho y_0]; exact z_lsame _) dL_law_283 ?_
    refine z_if_eq (tgt := 289) (by decide) dL_law_284 rfl (fun _ => ?_) (fun y_m => absurd rfl y_m)
    refine z_goto (tgt := 1798) dL_law_289 rfl ?_
    exact z_unl5 (z_wide (by omega) (by omega) (next M2 hR2))
set_option maxRecDepth 20000 in
theorem z_law_c2 {G : z_G} {Z : z_Z} {Q : State → Prop} {b L : Nat} {xs : Nat → Int32} {M : z_M} {i : Nat} (sc : z_Sc G Z b L xs) (hi : 4 * (i : Int) + 4 ≤ L) (hR : z_Rel M i) (next : ∀ M2, z_Rel M2 ((i : Int) + 1) → z_J G Z z_dL Q 1798 (z_lsL G b (4 * i)) [] M2 (153 + (i + 1)) (14011 + 6 * (i + 1))) : z_J G Z z_dL Q 292 (z_lsL G b (4 * i)) [] M (153 + i) (14011 + 6 * i) := by
  have hL := sc.2.2.2
  have hN : (i : Int) + 1 ≤ 600 := by omega
  have hk : 153 + i + 1 ≤ (z_R z_dL).cells ∧ 14011 + 6 * i + 6 ≤ (z_R z_dL).slots := ⟨by show _ ≤ 601024; omega, by show _ ≤ 7293034; omega⟩
  have hk0 : 153 + i ≤ (z_R z_dL).cells ∧ 14011 + 6 * i ≤ (z_R z_dL).slots := ⟨by have := hk.1; omega, by have := hk.2; omega⟩
  obtain ⟨M1, M2, y_k, y_b, hA, hB, ht, ho, hR2⟩ := z_st_buyBack (G := G) (z_y_rg xs (4 * i + 1)) hR hN
  refine z_aloadn dL_law_292 rfl ?_
  refine z_aloadn dL_law_293 rfl ?_
  refine z_iload dL_law_294 rfl ?_
  refine z_iconst dL_law_296 ?_
  refine z_iadd dL_law_297 ?_
  refine z_sld sc (by omega) (by omega) dL_law_298 ?_
  refine z_aloadn dL_law_299 rfl ?_
  refine z_callL hA wmL_108 wt_L_buyBack wc_L_buyBack wn_L n_L_buyBack rfl rfl ⟨(Nat.le_of_ble_eq_true rfl), (Nat.le_of_ble_eq_true rfl)⟩ hk (Nat.le_of_ble_eq_true rfl) dL_law_300 ?_
  refine z_istore_5 dL_law_303 (Nat.le_of_ble_eq_true rfl) rfl ?_
  refine z_aloadn dL_law_305 rfl ?_
  refine z_aloadn dL_law_306 rfl ?_
  refine z_iload dL_law_307 rfl ?_
  refine z_iconst dL_law_309 ?_
  refine z_iadd dL_law_310 ?_
  refine z_sld sc (by omega) (by omega) dL_law_311 ?_
  refine qL_111 hB rfl ⟨(Nat.le_of_ble_eq_true rfl), (Nat.le_of_ble_eq_true rfl)⟩ hk (Nat.le_of_ble_eq_true rfl) dL_law_312 ?_
  refine z_istore_6 dL_law_315 (Nat.le_of_ble_eq_true rfl) rfl ?_
  refine z_aloadn dL_law_317 rfl ?_
  refine qL_101 (tX7_thrown (G := G) (M := M2)) rfl ⟨(Nat.le_of_ble_eq_true rfl), (Nat.le_of_ble_eq_true rfl)⟩ hk (Nat.le_of_ble_eq_true rfl) dL_law_318 ?_
  refine z_top ht ?_
  refine z_iload dL_law_321 rfl ?_
  refine z_icmp_same (tgt := 328) dL_law_323 rfl ?_
  refine z_iload dL_law_328 rfl ?_
  refine z_rng fun hr => ?_
  have rk : z_rg y_k := by rw [← ht]; exact hr 21 4 (by decide)
  refine z_if_ne (tgt := 345) rk dL_law_330 rfl (fun _ => ?_) (fun y_0 => ?_)
  · refine z_goto (tgt := 1798) dL_law_345 rfl ?_
    exact z_unl5 (z_wide (by omega) (by omega) (next M2 hR2))
  · skip
    refine z_aloadn dL_law_333 rfl ?_
    refine z_iconst dL_law_334 ?_
    refine z_lald dL_law_335 ?_
    refine z_iload dL_law_336 rfl ?_
    refine z_iwr ?_
    refine z_i2l (z_iw_rg y_b) dL_law_338 ?_
    refine z_lcmp (r := 0) (by rw [ho y_0]; exact z_lsame _) dL_law_339 ?_
    refine z_if_eq (tgt := 345) (by decide) dL_law_340 rfl (fun _ => ?_) (fun y_m => absurd rfl y_m)
    refine z_goto (tgt := 1798) dL_law_345 rfl ?_
    exact z_unl5 (z_wide (by omega) (by omega) (next M2 hR2))
set_option maxRecDepth 20000 in
theorem z_law_c3 {G : z_G} {Z : z_Z} {Q : State → Prop} {b L : Nat} {xs : Nat → Int32} {M : z_M} {i : Nat} (sc : z_Sc G Z b L xs) (hi : 4 * (i : Int) + 4 ≤ L) (hR : z_Rel M i) (next : ∀ M2, z_Rel M2 ((i : Int) + 1) → z_J G Z z_dL Q 1798 (z_lsL G b (4 * i)) [] M2 (153 + (i + 1)) (14011 + 6 * (i + 1))) : z_J G Z z_dL Q 348 (z_lsL G b (4 * i)) [] M (153 + i) (14011 + 6 * i) := by
  have hL := sc.2.2.2
  have hN : (i : Int) + 1 ≤ 600 := by omega
  have hk : 153 + i + 1 ≤ (z_R z_dL).cells ∧ 14011 + 6 * i + 6 ≤ (z_R z_dL).slots := ⟨by show _ ≤ 601024; omega, by show _ ≤ 7293034; omega⟩
  have hk0 : 153 + i ≤ (z_R z_dL).cells ∧ 14011 + 6 * i ≤ (z_R z_dL).slots := ⟨by have := hk.1; omega, by have := hk.2; omega⟩
  obtain ⟨M1, M2, y_k, y_b, hA, hB, ht, ho, hR2⟩ := z_st_advance (G := G) (z_y_rg xs (4 * i + 1)) (z_y_rg xs (4 * i + 2)) hR hN
  refine z_aloadn dL_law_348 rfl ?_
  refine z_aloadn dL_law_349 rfl ?_
  refine z_iload dL_law_350 rfl ?_
  refine z_iconst dL_law_352 ?_
  refine z_iadd dL_law_353 ?_
  refine z_sld sc (by omega) (by omega) dL_law_354 ?_
  refine z_aloadn dL_law_355 rfl ?_
  refine z_iload dL_law_356 rfl ?_
  refine z_iconst dL_law_358 ?_
  refine z_iadd dL_law_359 ?_
  refine z_sld sc (by omega) (by omega) dL_law_360 ?_
  refine z_aloadn dL_law_361 rfl ?_
  refine z_callL hA wmL_112 wt_L_advance wc_L_advance wn_L n_L_advance rfl rfl ⟨(Nat.le_of_ble_eq_true rfl), (Nat.le_of_ble_eq_true rfl)⟩ hk (Nat.le_of_ble_eq_true rfl) dL_law_362 ?_
  refine z_istore_5 dL_law_365 (Nat.le_of_ble_eq_true rfl) rfl ?_
  refine z_aloadn dL_law_367 rfl ?_
  refine z_aloadn dL_law_368 rfl ?_
  refine z_iload dL_law_369 rfl ?_
  refine z_iconst dL_law_371 ?_
  refine z_iadd dL_law_372 ?_
  refine z_sld sc (by omega) (by omega) dL_law_373 ?_
  refine z_aloadn dL_law_374 rfl ?_
  refine z_iload dL_law_375 rfl ?_
  refine z_iconst dL_law_377 ?_
  refine z_iadd dL_law_378 ?_
  refine z_sld sc (by omega) (by omega) dL_law_379 ?_
  refine qL_115 hB rfl ⟨(Nat.le_of_ble_eq_true rfl), (Nat.le_of_ble_eq_true rfl)⟩ hk (Nat.le_of_ble_eq_true rfl) dL_law_380 ?_
  refine z_istore_6 dL_law_383 (Nat.le_of_ble_eq_true rfl) rfl ?_
  refine z_aloadn dL_law_385 rfl ?_
  refine qL_101 (tX7_thrown (G := G) (M := M2)) rfl ⟨(Nat.le_of_ble_eq_true rfl), (Nat.le_of_ble_eq_true rfl)⟩ hk (Nat.le_of_ble_eq_true rfl) dL_law_386 ?_
  refine z_top ht ?_
  refine z_iload dL_law_389 rfl ?_
  refine z_icmp_same (tgt := 396) dL_law_391 rfl ?_
  refine z_iload dL_law_396 rfl ?_
  refine z_rng fun hr => ?_
  have rk : z_rg y_k := by rw [← ht]; exact hr 21 4 (by decide)
  refine z_if_ne (tgt := 413) rk dL_law_398 rfl (fun _ => ?_) (fun y_0 => ?_)
  · refine z_goto (tgt := 1798) dL_law_413 rfl ?_
    exact z_unl5 (z_wide (by omega) (by omega) (next M2 hR2))
  · skip
    refine z_aloadn dL_law_401 rfl ?_
    refine z_iconst dL_law_402 ?_
    refine z_lald dL_law_403 ?_
    refine z_iload dL_law_404 rfl ?_
    refine z_iwr ?_
    refine z_i2l (z_iw_rg y_b) dL_law_406 ?_
    refine z_lcmp (r := 0) (by rw [ho y_0]; exact z_lsame _) dL_law_407 ?_
    refine z_if_eq (tgt := 413) (by decide) dL_law_408 rfl (fun _ => ?_) (fun y_m => absurd rfl y_m)
    refine z_goto (tgt := 1798) dL_law_413 rfl ?_
    exact z_unl5 (z_wide (by omega) (by omega) (next M2 hR2))
set_option maxRecDepth 20000 in
theorem z_law_c4 {G : z_G} {Z : z_Z} {Q : State → Prop} {b L : Nat} {xs : Nat → Int32} {M : z_M} {i : Nat} (sc : z_Sc G Z b L xs) (hi : 4 * (i : Int) + 4 ≤ L) (hR : z_Rel M i) (next : ∀ M2, z_Rel M2 ((i : Int) + 1) → z_J G Z z_dL Q 1798 (z_lsL G b (4 * i)) [] M2 (153 + (i + 1)) (14011 + 6 * (i + 1))) : z_J G Z z_dL Q 416 (z_lsL G b (4 * i)) [] M (153 + i) (14011 + 6 * i) := by
  have hL := sc.2.2.2
  have hN : (i : Int) + 1 ≤ 600 := by omega
  have hk : 153 + i + 1 ≤ (z_R z_dL).cells ∧ 14011 + 6 * i + 6 ≤ (z_R z_dL).slots := ⟨by show _ ≤ 601024; omega, by show _ ≤ 7293034; omega⟩
  have hk0 : 153 + i ≤ (z_R z_dL).cells ∧ 14011 + 6 * i ≤ (z_R z_dL).slots := ⟨by have := hk.1; omega, by have := hk.2; omega⟩
  obtain ⟨M1, M2, y_k, y_b, hA, hB, ht, ho, hR2⟩ := z_st_withdraw (G := G) (z_y_rg xs (4 * i + 1)) (z_y_rg xs (4 * i + 2)) hR hN
  refine z_aloadn dL_law_416 rfl ?_
  refine z_aloadn dL_law_417 rfl ?_
  refine z_iload dL_law_418 rfl ?_
  refine z_iconst dL_law_420 ?_
  refine z_iadd dL_law_421 ?_
  refine z_sld sc (by omega) (by omega) dL_law_422 ?_
  refine z_aloadn dL_law_423 rfl ?_
  refine z_iload dL_law_424 rfl ?_
  refine z_iconst dL_law_426 ?_
  refine z_iadd dL_law_427 ?_
  refine z_sld sc (by omega) (by omega) dL_law_428 ?_
  refine z_aloadn dL_law_429 rfl ?_
  refine z_callL hA wmL_116 wt_L_withdraw wc_L_withdraw wn_L n_L_withdraw rfl rfl ⟨(Nat.le_of_ble_eq_true rfl), (Nat.le_of_ble_eq_true rfl)⟩ hk (Nat.le_of_ble_eq_true rfl) dL_law_430 ?_
  refine z_istore_5 dL_law_433 (Nat.le_of_ble_eq_true rfl) rfl ?_
  refine z_aloadn dL_law_435 rfl ?_
  refine z_aloadn dL_law_436 rfl ?_
  refine z_iload dL_law_437 rfl ?_
  refine z_iconst dL_law_439 ?_
  refine z_iadd dL_law_440 ?_
  refine z_sld sc (by omega) (by omega) dL_law_441 ?_
  refine z_aloadn dL_law_442 rfl ?_
  refine z_iload dL_law_443 rfl ?_
  refine z_iconst dL_law_445 ?_
  refine z_iadd dL_law_446 ?_
  refine z_sld sc (by omega) (by omega) dL_law_447 ?_
  refine qL_118 hB rfl ⟨(Nat.le_of_ble_eq_true rfl), (Nat.le_of_ble_eq_true rfl)⟩ hk (Nat.le_of_ble_eq_true rfl) dL_law_448 ?_
  refine z_istore_6 dL_law_451 (Nat.le_of_ble_eq_true rfl) rfl ?_
  refine z_aloadn dL_law_453 rfl ?_
  refine qL_101 (tX7_thrown (G := G) (M := M2)) rfl ⟨(Nat.le_of_ble_eq_true rfl), (Nat.le_of_ble_eq_true rfl)⟩ hk (Nat.le_of_ble_eq_true rfl) dL_law_454 ?_
  refine z_top ht ?_
  refine z_iload dL_law_457 rfl ?_
  refine z_icmp_same (tgt := 464) dL_law_459 rfl ?_
  refine z_iload dL_law_464 rfl ?_
  refine z_rng fun hr => ?_
  have rk : z_rg y_k := by rw [← ht]; exact hr 21 4 (by decide)
  refine z_if_ne (tgt := 481) rk dL_law_466 rfl (fun _ => ?_) (fun y_0 => ?_)
  · refine z_goto (tgt := 1798) dL_law_481 rfl ?_
    exact z_unl5 (z_wide (by omega) (by omega) (next M2 hR2))
  · skip
    refine z_aloadn dL_law_469 rfl ?_
    refine z_iconst dL_law_470 ?_
    refine z_lald dL_law_471 ?_
    refine z_iload dL_law_472 rfl ?_
    refine z_iwr ?_
    refine z_i2l (z_iw_rg y_b) dL_law_474 ?_
    refine z_lcmp (r := 0) (by rw [ho y_0]; exact z_lsame _) dL_law_475 ?_
    refine z_if_eq (tgt := 481) (by decide) dL_law_476 rfl (fun _ => ?_) (fun y_m => absurd rfl y_m)
    refine z_goto (tgt := 1798) dL_law_481 rfl ?_
    exact z_unl5 (z_wide (by omega) (by omega) (next M2 hR2))
set_option maxRecDepth 20000 in
theorem z_law_c5 {G : z_G} {Z : z_Z} {Q : State → Prop} {b L : Nat} {xs : Nat → Int32} {M : z_M} {i : Nat} (sc : z_Sc G Z b L xs) (hi : 4 * (i : Int) + 4 ≤ L) (hR : z_Rel M i) (next : ∀ M2, z_Rel M2 ((i : Int) + 1) → z_J G Z z_dL Q 1798 (z_lsL G b (4 * i)) [] M2 (153 + (i + 1)) (14011 + 6 * (i + 1))) : z_J G Z z_dL Q 484 (z_lsL G b (4 * i)) [] M (153 + i) (14011 + 6 * i) := by
  have hL := sc.2.2.2
  have hN : (i : Int) + 1 ≤ 600 := by omega
  have hk : 153 + i + 1 ≤ (z_R z_dL).cells ∧ 14011 + 6 * i + 6 ≤ (z_R z_dL).slots := ⟨by show _ ≤ 601024; omega, by show _ ≤ 7293034; omega⟩
  have hk0 : 153 + i ≤ (z_R z_dL).cells ∧ 14011 + 6 * i ≤ (z_R z_dL).slots := ⟨by have := hk.1; omega, by have := hk.2; omega⟩
  obtain ⟨M1, M2, y_k, y_b, hA, hB, ht, ho, hR2⟩ := z_st_set (G := G) (z_y_rg xs (4 * i + 1)) (z_y_rg xs (4 * i + 2)) hR hN
  refine z_aloadn dL_law_484 rfl ?_
  refine z_aloadn dL_law_485 rfl ?_
  refine z_iload dL_law_486 rfl ?_
  refine z_iconst dL_law_488 ?_
  refine z_iadd dL_law_489 ?_
  refine z_sld sc (by omega) (by omega) dL_law_490 ?_
  refine z_aloadn dL_law_491 rfl ?_
  refine z_iload dL_law_492 rfl ?_
  refine z_iconst dL_law_494 ?_
  refine z_iadd dL_law_495 ?_
  refine z_sld sc (by omega) (by omega) dL_law_496 ?_
  refine z_aloadn dL_law_497 rfl ?_
  refine z_callL hA wmL_119 wt_L_set wc_L_set wn_L n_L_set rfl rfl ⟨(Nat.le_of_ble_eq_true rfl), (Nat.le_of_ble_eq_true rfl)⟩ hk (Nat.le_of_ble_eq_true rfl) dL_law_498 ?_
  refine z_istore_5 dL_law_501 (Nat.le_of_ble_eq_true rfl) rfl ?_
  refine z_aloadn dL_law_503 rfl ?_
  refine z_aloadn dL_law_504 rfl ?_
  refine z_iload dL_law_505 rfl ?_
  refine z_iconst dL_law_507 ?_
  refine z_iadd dL_law_508 ?_
  refine z_sld sc (by omega) (by omega) dL_law_509 ?_
  refine z_aloadn dL_law_510 rfl ?_
  refine z_iload dL_law_511 rfl ?_
  refine z_iconst dL_law_513 ?_
  refine z_iadd dL_law_514 ?_
  refine z_sld sc (by omega) (by omega) dL_law_515 ?_
  refine qL_121 hB rfl ⟨(Nat.le_of_ble_eq_true rfl), (Nat.le_of_ble_eq_true rfl)⟩ hk (Nat.le_of_ble_eq_true rfl) dL_law_516 ?_
  refine z_istore_6 dL_law_519 (Nat.le_of_ble_eq_true rfl) rfl ?_
  refine z_aloadn dL_law_521 rfl ?_
  refine qL_101 (tX7_thrown (G := G) (M := M2)) rfl ⟨(Nat.le_of_ble_eq_true rfl), (Nat.le_of_ble_eq_true rfl)⟩ hk (Nat.le_of_ble_eq_true rfl) dL_law_522 ?_
  refine z_top ht ?_
  refine z_iload dL_law_525 rfl ?_
  refine z_icmp_same (tgt := 532) dL_law_527 rfl ?_
  refine z_iload dL_law_532 rfl ?_
  refine z_rng fun hr => ?_
  have rk : z_rg y_k := by rw [← ht]; exact hr 21 4 (by decide)
  refine z_if_ne (tgt := 549) rk dL_law_534 rfl (fun _ => ?_) (fun y_0 => ?_)
  · refine z_goto (tgt := 1798) dL_law_549 rfl ?_
    exact z_unl5 (z_wide (by omega) (by omega) (next M2 hR2))
  · skip
    refine z_aloadn dL_law_537 rfl ?_
    refine z_iconst dL_law_538 ?_
    refine z_lald dL_law_539 ?_
    refine z_iload dL_law_540 rfl ?_
    refine z_iwr ?_
    refine z_i2l (z_iw_rg y_b) dL_law_542 ?_
    refine z_lcmp (r := 0) (by rw [ho y_0]; exact z_lsame _) dL_law_543 ?_
    refine z_if_eq (tgt := 549) (by decide) dL_law_544 rfl (fun _ => ?_) (fun y_m => absurd rfl y_m)
    refine z_goto (tgt := 1798) dL_law_549 rfl ?_
    exact z_unl5 (z_wide (by omega) (by omega) (next M2 hR2))
set_option maxRecDepth 20000 in
theorem z_law_c6 {G : z_G} {Z : z_Z} {Q : State → Prop} {b L : Nat} {xs : Nat → Int32} {M : z_M} {i : Nat} (sc : z_Sc G Z b L xs) (hi : 4 * (i : Int) + 4 ≤ L) (hR : z_Rel M i) (next : ∀ M2, z_Rel M2 ((i : Int) + 1) → z_J G Z z_dL Q 1798 (z_lsL G b (4 * i)) [] M2 (153 + (i + 1)) (14011 + 6 * (i + 1))) : z_J G Z z_dL Q 552 (z_lsL G b (4 * i)) [] M (153 + i) (14011 + 6 * i) := by
  have hL := sc.2.2.2
  have hN : (i : Int) + 1 ≤ 600 := by omega
  have hk : 153 + i + 1 ≤ (z_R z_dL).cells ∧ 14011 + 6 * i + 6 ≤ (z_R z_dL).slots := ⟨by show _ ≤ 601024; omega, by show _ ≤ 7293034; omega⟩
  have hk0 : 153 + i ≤ (z_R z_dL).cells ∧ 14011 + 6 * i ≤ (z_R z_dL).slots := ⟨by have := hk.1; omega, by have := hk.2; omega⟩
  obtain ⟨M1, M2, y_b, hA, hB, hR2⟩ := z_st_nextYear (G := G) hR hN
  refine z_aloadn dL_law_552 rfl ?_
  refine qL_122 hA rfl ⟨(Nat.le_of_ble_eq_true rfl), (Nat.le_of_ble_eq_true rfl)⟩ hk0 (Nat.le_of_ble_eq_true rfl) dL_law_553 ?_
  refine z_aloadn dL_law_556 rfl ?_
  refine qL_125 hB rfl ⟨(Nat.le_of_ble_eq_true rfl), (Nat.le_of_ble_eq_true rfl)⟩ hk0 (Nat.le_of_ble_eq_true rfl) dL_law_557 ?_
  refine z_icmp_same (tgt := 1798) dL_law_560 rfl ?_
  exact z_unl5 (z_wide (by omega) (by omega) (next M2 hR2))
set_option maxRecDepth 20000 in
theorem z_law_c7 {G : z_G} {Z : z_Z} {Q : State → Prop} {b L : Nat} {xs : Nat → Int32} {M : z_M} {i : Nat} (sc : z_Sc G Z b L xs) (hi : 4 * (i : Int) + 4 ≤ L) (hR : z_Rel M i) (next : ∀ M2, z_Rel M2 ((i : Int) + 1) → z_J G Z z_dL Q 1798 (z_lsL G b (4 * i)) [] M2 (153 + (i + 1)) (14011 + 6 * (i + 1))) : z_J G Z z_dL Q 565 (z_lsL G b (4 * i)) [] M (153 + i) (14011 + 6 * i) := by
  have hL := sc.2.2.2
  have hN : (i : Int) + 1 ≤ 600 := by omega
  have hk : 153 + i + 1 ≤ (z_R z_dL).cells ∧ 14011 + 6 * i + 6 ≤ (z_R z_dL).slots := ⟨by show _ ≤ 601024; omega, by show _ ≤ 7293034; omega⟩
  have hk0 : 153 + i ≤ (z_R z_dL).cells ∧ 14011 + 6 * i ≤ (z_R z_dL).slots := ⟨by have := hk.1; omega, by have := hk.2; omega⟩
  obtain ⟨M1, M2, y_k, y_b, hA, hB, ht, ho, hR2⟩ := z_st_order (G := G) (z_y_rg xs (4 * i + 1)) (z_y_rg xs (4 * i + 2)) hR hN
  refine z_aloadn dL_law_565 rfl ?_
  refine z_aloadn dL_law_566 rfl ?_
  refine z_iload dL_law_567 rfl ?_
  refine z_iconst dL_law_569 ?_
  refine z_iadd dL_law_570 ?_
  refine z_sld sc (by omega) (by omega) dL_law_571 ?_
  refine z_aloadn dL_law_572 rfl ?_
  refine z_iload dL_law_573 rfl ?_
  refine z_iconst dL_law_575 ?_
  refine z_iadd dL_law_576 ?_
  refine z_sld sc (by omega) (by omega) dL_law_577 ?_
  refine z_aloadn dL_law_578 rfl ?_
  refine z_callL hA wmL_126 wt_L_order wc_L_order wn_L n_L_order rfl rfl ⟨(Nat.le_of_ble_eq_true rfl), (Nat.le_of_ble_eq_true rfl)⟩ hk (Nat.le_of_ble_eq_true rfl) dL_law_579 ?_
  refine z_istore_5 dL_law_582 (Nat.le_of_ble_eq_true rfl) rfl ?_
  refine z_aloadn dL_law_584 rfl ?_
  refine z_aloadn dL_law_585 rfl ?_
  refine z_iload dL_law_586 rfl ?_
  refine z_iconst dL_law_588 ?_
  refine z_iadd dL_law_589 ?_
  refine z_sld sc (by omega) (by omega) dL_law_590 ?_
  refine z_aloadn dL_law_591 rfl ?_
  refine z_iload dL_law_592 rfl ?_
  refine z_iconst dL_law_594 ?_
  refine z_iadd dL_law_595 ?_
  refine z_sld sc (by omega) (by omega) dL_law_596 ?_
  refine qL_128 hB rfl ⟨(Nat.le_of_ble_eq_true rfl), (Nat.le_of_ble_eq_true rfl)⟩ hk (Nat.le_of_ble_eq_true rfl) dL_law_597 ?_
  refine z_istore_6 dL_law_600 (Nat.le_of_ble_eq_true rfl) rfl ?_
  refine z_aloadn dL_law_602 rfl ?_
  refine qL_101 (tX7_thrown (G := G) (M := M2)) rfl ⟨(Nat.le_of_ble_eq_true rfl), (Nat.le_of_ble_eq_true rfl)⟩ hk (Nat.le_of_ble_eq_true rfl) dL_law_603 ?_
  refine z_top ht ?_
  refine z_iload dL_law_606 rfl ?_
  refine z_icmp_same (tgt := 613) dL_law_608 rfl ?_
  refine z_iload dL_law_613 rfl ?_
  refine z_rng fun hr => ?_
  have rk : z_rg y_k := by rw [← ht]; exact hr 21 4 (by decide)
  refine z_if_ne (tgt := 630) rk dL_law_615 rfl (fun _ => ?_) (fun y_0 => ?_)
  · refine z_goto (tgt := 1798) dL_law_630 rfl ?_
    exact z_unl5 (z_wide (by omega) (by omega) (next M2 hR2))
  · skip
    refine z_aloadn dL_law_618 rfl ?_
    refine z_iconst dL_law_619 ?_
    refine z_lald dL_law_620 ?_
    refine z_iload dL_law_621 rfl ?_
    refine z_iwr ?_
    refine z_i2l (z_iw_rg y_b) dL_law_623 ?_
    refine z_lcmp (r := 0) (by rw [ho y_0]; exact z_lsame _) dL_law_624 ?_
    refine z_if_eq (tgt := 630) (by decide) dL_law_625 rfl (fun _ => ?_) (fun y_m => absurd rfl y_m)
    refine z_goto (tgt := 1798) dL_law_630 rfl ?_
    exact z_unl5 (z_wide (by omega) (by omega) (next M2 hR2))
set_option maxRecDepth 20000 in
theorem z_law_c8 {G : z_G} {Z : z_Z} {Q : State → Prop} {b L : Nat} {xs : Nat → Int32} {M : z_M} {i : Nat} (sc : z_Sc G Z b L xs) (hi : 4 * (i : Int) + 4 ≤ L) (hR : z_Rel M i) (next : ∀ M2, z_Rel M2 ((i : Int) + 1) → z_J G Z z_dL Q 1798 (z_lsL G b (4 * i)) [] M2 (153 + (i + 1)) (14011 + 6 * (i + 1))) : z_J G Z z_dL Q 633 (z_lsL G b (4 * i)) [] M (153 + i) (14011 + 6 * i) := by
  have hL := sc.2.2.2
  have hN : (i : Int) + 1 ≤ 600 := by omega
  have hk : 153 + i + 1 ≤ (z_R z_dL).cells ∧ 14011 + 6 * i + 6 ≤ (z_R z_dL).slots := ⟨by show _ ≤ 601024; omega, by show _ ≤ 7293034; omega⟩
  have hk0 : 153 + i ≤ (z_R z_dL).cells ∧ 14011 + 6 * i ≤ (z_R z_dL).slots := ⟨by have := hk.1; omega, by have := hk.2; omega⟩
  obtain ⟨M1, M2, y_k, y_b, hA, hB, ht, ho, hR2⟩ := z_st_draft (G := G) (z_y_rg xs (4 * i + 1)) (z_y_rg xs (4 * i + 2)) hR hN
  refine z_aloadn dL_law_633 rfl ?_
  refine z_aloadn dL_law_634 rfl ?_
  refine z_iload dL_law_635 rfl ?_
  refine z_iconst dL_law_637 ?_
  refine z_iadd dL_law_638 ?_
  refine z_sld sc (by omega) (by omega) dL_law_639 ?_
  refine z_aloadn dL_law_640 rfl ?_
  refine z_iload dL_law_641 rfl ?_
  refine z_iconst dL_law_643 ?_
  refine z_iadd dL_law_644 ?_
  refine z_sld sc (by omega) (by omega) dL_law_645 ?_
  refine z_aloadn dL_law_646 rfl ?_
  refine z_callL hA wmL_129 wt_L_draft wc_L_draft wn_L n_L_draft rfl rfl ⟨(Nat.le_of_ble_eq_true rfl), (Nat.le_of_ble_eq_true rfl)⟩ hk (Nat.le_of_ble_eq_true rfl) dL_law_647 ?_
  refine z_istore_5 dL_law_650 (Nat.le_of_ble_eq_true rfl) rfl ?_
  refine z_aloadn dL_law_652 rfl ?_
  refine z_aloadn dL_law_653 rfl ?_
  refine z_iload dL_law_654 rfl ?_
  refine z_iconst dL_law_656 ?_
  refine z_iadd dL_law_657 ?_
  refine z_sld sc (by omega) (by omega) dL_law_658 ?_
  refine z_aloadn dL_law_659 rfl ?_
  refine z_iload dL_law_660 rfl ?_
  refine z_iconst dL_law_662 ?_
  refine z_iadd dL_law_663 ?_
  refine z_sld sc (by omega) (by omega) dL_law_664 ?_
  refine qL_131 hB rfl ⟨(Nat.le_of_ble_eq_true rfl), (Nat.le_of_ble_eq_true rfl)⟩ hk (Nat.le_of_ble_eq_true rfl) dL_law_665 ?_
  refine z_istore_6 dL_law_668 (Nat.le_of_ble_eq_true rfl) rfl ?_
  refine z_aloadn dL_law_670 rfl ?_
  refine qL_101 (tX7_thrown (G := G) (M := M2)) rfl ⟨(Nat.le_of_ble_eq_true rfl), (Nat.le_of_ble_eq_true rfl)⟩ hk (Nat.le_of_ble_eq_true rfl) dL_law_671 ?_
  refine z_top ht ?_
  refine z_iload dL_law_674 rfl ?_
  refine z_icmp_same (tgt := 681) dL_law_676 rfl ?_
  refine z_iload dL_law_681 rfl ?_
  refine z_rng fun hr => ?_
  have rk : z_rg y_k := by rw [← ht]; exact hr 21 4 (by decide)
  refine z_if_ne (tgt := 698) rk dL_law_683 rfl (fun _ => ?_) (fun y_0 => ?_)
  · refine z_goto (tgt := 1798) dL_law_698 rfl ?_
    exact z_unl5 (z_wide (by omega) (by omega) (next M2 hR2))
  · skip
    refine z_aloadn dL_law_686 rfl ?_
    refine z_iconst dL_law_687 ?_
    refine z_lald dL_law_688 ?_
    refine z_iload dL_law_689 rfl ?_
    refine z_iwr ?_
    refine z_i2l (z_iw_rg y_b) dL_law_691 ?_
    refine z_lcmp (r := 0) (by rw [ho y_0]; exact z_lsame _) dL_law_692 ?_
    refine z_if_eq (tgt := 698) (by decide) dL_law_693 rfl (fun _ => ?_) (fun y_m => absurd rfl y_m)
    refine z_goto (tgt := 1798) dL_law_698 rfl ?_
    exact z_unl5 (z_wide (by omega) (by omega) (next M2 hR2))
set_option maxRecDepth 20000 in
theorem z_law_c9 {G : z_G} {Z : z_Z} {Q : State → Prop} {b L : Nat} {xs : Nat → Int32} {M : z_M} {i : Nat} (sc : z_Sc G Z b L xs) (hi : 4 * (i : Int) + 4 ≤ L) (hR : z_Rel M i) (next : ∀ M2, z_Rel M2 ((i : Int) + 1) → z_J G Z z_dL Q 1798 (z_lsL G b (4 * i)) [] M2 (153 + (i + 1)) (14011 + 6 * (i + 1))) : z_J G Z z_dL Q 701 (z_lsL G b (4 * i)) [] M (153 + i) (14011 + 6 * i) := by
  have hL := sc.2.2.2
  have hN : (i : Int) + 1 ≤ 600 := by omega
  have hk : 153 + i + 1 ≤ (z_R z_dL).cells ∧ 14011 + 6 * i + 6 ≤ (z_R z_dL).slots := ⟨by show _ ≤ 601024; omega, by show _ ≤ 7293034; omega⟩
  have hk0 : 153 + i ≤ (z_R z_dL).cells ∧ 14011 + 6 * i ≤ (z_R z_dL).slots := ⟨by have := hk.1; omega, by have := hk.2; omega⟩
  obtain ⟨M1, M2, y_k, y_b, hA, hB, ht, ho, hR2⟩ := z_st_revise (G := G) (z_y_rg xs (4 * i + 1)) (z_y_rg xs (4 * i + 2)) hR hN
  refine z_aloadn dL_law_701 rfl ?_
  refine z_aloadn dL_law_702 rfl ?_
  refine z_iload dL_law_703 rfl ?_
  refine z_iconst dL_law_705 ?_
  refine z_iadd dL_law_706 ?_
  refine z_sld sc (by omega) (by omega) dL_law_707 ?_
  refine z_aloadn dL_law_708 rfl ?_
  refine z_iload dL_law_709 rfl ?_
  refine z_iconst dL_law_711 ?_
  refine z_iadd dL_law_712 ?_
  refine z_sld sc (by omega) (by omega) dL_law_713 ?_
  refine z_aloadn dL_law_714 rfl ?_
  refine z_callL hA wmL_132 wt_L_revise wc_L_revise wn_L n_L_revise rfl rfl ⟨(Nat.le_of_ble_eq_true rfl), (Nat.le_of_ble_eq_true rfl)⟩ hk (Nat.le_of_ble_eq_true rfl) dL_law_715 ?_
  refine z_istore_5 dL_law_718 (Nat.le_of_ble_eq_true rfl) rfl ?_
  refine z_aloadn dL_law_720 rfl ?_
  refine z_aloadn dL_law_721 rfl ?_
  refine z_iload dL_law_722 rfl ?_
  refine z_iconst dL_law_724 ?_
  refine z_iadd dL_law_725 ?_
  refine z_sld sc (by omega) (by omega) dL_law_726 ?_
  refine z_aloadn dL_law_727 rfl ?_
  refine z_iload dL_law_728 rfl ?_
  refine z_iconst dL_law_730 ?_
  refine z_iadd dL_law_731 ?_
  refine z_sld sc (by omega) (by omega) dL_law_732 ?_
  refine qL_134 hB rfl ⟨(Nat.le_of_ble_eq_true rfl), (Nat.le_of_ble_eq_true rfl)⟩ hk (Nat.le_of_ble_eq_true rfl) dL_law_733 ?_
  refine z_istore_6 dL_law_736 (Nat.le_of_ble_eq_true rfl) rfl ?_
  refine z_aloadn dL_law_738 rfl ?_
  refine qL_101 (tX7_thrown (G := G) (M := M2)) rfl ⟨(Nat.le_of_ble_eq_true rfl), (Nat.le_of_ble_eq_true rfl)⟩ hk (Nat.le_of_ble_eq_true rfl) dL_law_739 ?_
  refine z_top ht ?_
  refine z_iload dL_law_742 rfl ?_
  refine z_icmp_same (tgt := 749) dL_law_744 rfl ?_
  refine z_iload dL_law_749 rfl ?_
  refine z_rng fun hr => ?_
  have rk : z_rg y_k := by rw [← ht]; exact hr 21 4 (by decide)
  refine z_if_ne (tgt := 766) rk dL_law_751 rfl (fun _ => ?_) (fun y_0 => ?_)
  · refine z_goto (tgt := 1798) dL_law_766 rfl ?_
    exact z_unl5 (z_wide (by omega) (by omega) (next M2 hR2))
  · skip
    refine z_aloadn dL_law_754 rfl ?_
    refine z_iconst dL_law_755 ?_
    refine z_lald dL_law_756 ?_
    refine z_iload dL_law_757 rfl ?_
    refine z_iwr ?_
    refine z_i2l (z_iw_rg y_b) dL_law_759 ?_
    refine z_lcmp (r := 0) (by rw [ho y_0]; exact z_lsame _) dL_law_760 ?_
    refine z_if_eq (tgt := 766) (by decide) dL_law_761 rfl (fun _ => ?_) (fun y_m => absurd rfl y_m)
    refine z_goto (tgt := 1798) dL_law_766 rfl ?_
    exact z_unl5 (z_wide (by omega) (by omega) (next M2 hR2))
set_option maxRecDepth 20000 in
theorem z_law_c10 {G : z_G} {Z : z_Z} {Q : State → Prop} {b L : Nat} {xs : Nat → Int32} {M : z_M} {i : Nat} (sc : z_Sc G Z b L xs) (hi : 4 * (i : Int) + 4 ≤ L) (hR : z_Rel M i) (next : ∀ M2, z_Rel M2 ((i : Int) + 1) → z_J G Z z_dL Q 1798 (z_lsL G b (4 * i)) [] M2 (153 + (i + 1)) (14011 + 6 * (i + 1))) : z_J G Z z_dL Q 769 (z_lsL G b (4 * i)) [] M (153 + i) (14011 + 6 * i) := by
  have hL := sc.2.2.2
  have hN : (i : Int) + 1 ≤ 600 := by omega
  have hk : 153 + i + 1 ≤ (z_R z_dL).cells ∧ 14011 + 6 * i + 6 ≤ (z_R z_dL).slots := ⟨by show _ ≤ 601024; omega, by show _ ≤ 7293034; omega⟩
  have hk0 : 153 + i ≤ (z_R z_dL).cells ∧ 14011 + 6 * i ≤ (z_R z_dL).slots := ⟨by have := hk.1; omega, by have := hk.2; omega⟩
  obtain ⟨M1, M2, y_k, y_b, hA, hB, ht, ho, hR2⟩ := z_st_share (G := G) (z_y_rg xs (4 * i + 1)) hR hN
  refine z_aloadn dL_law_769 rfl ?_
  refine z_aloadn dL_law_770 rfl ?_
  refine z_iload dL_law_771 rfl ?_
  refine z_iconst dL_law_773 ?_
  refine z_iadd dL_law_774 ?_
  refine z_sld sc (by omega) (by omega) dL_law_775 ?_
  refine z_aloadn dL_law_776 rfl ?_
  refine z_callL hA wmL_135 wt_L_share wc_L_share wn_L n_L_share rfl rfl ⟨(Nat.le_of_ble_eq_true rfl), (Nat.le_of_ble_eq_true rfl)⟩ hk (Nat.le_of_ble_eq_true rfl) dL_law_777 ?_
  refine z_istore_5 dL_law_780 (Nat.le_of_ble_eq_true rfl) rfl ?_
  refine z_aloadn dL_law_782 rfl ?_
  refine z_aloadn dL_law_783 rfl ?_
  refine z_iload dL_law_784 rfl ?_
  refine z_iconst dL_law_786 ?_
  refine z_iadd dL_law_787 ?_
  refine z_sld sc (by omega) (by omega) dL_law_788 ?_
  refine qL_137 hB rfl ⟨(Nat.le_of_ble_eq_true rfl), (Nat.le_of_ble_eq_true rfl)⟩ hk (Nat.le_of_ble_eq_true rfl) dL_law_789 ?_
  refine z_istore_6 dL_law_792 (Nat.le_of_ble_eq_true rfl) rfl ?_
  refine z_aloadn dL_law_794 rfl ?_
  refine qL_101 (tX7_thrown (G := G) (M := M2)) rfl ⟨(Nat.le_of_ble_eq_true rfl), (Nat.le_of_ble_eq_true rfl)⟩ hk (Nat.le_of_ble_eq_true rfl) dL_law_795 ?_
  refine z_top ht ?_
  refine z_iload dL_law_798 rfl ?_
  refine z_icmp_same (tgt := 805) dL_law_800 rfl ?_
  refine z_iload dL_law_805 rfl ?_
  refine z_rng fun hr => ?_
  have rk : z_rg y_k := by rw [← ht]; exact hr 21 4 (by decide)
  refine z_if_ne (tgt := 822) rk dL_law_807 rfl (fun _ => ?_) (fun y_0 => ?_)
  · refine z_goto (tgt := 1798) dL_law_822 rfl ?_
    exact z_unl5 (z_wide (by omega) (by omega) (next M2 hR2))
  · skip
    refine z_aloadn dL_law_810 rfl ?_
    refine z_iconst dL_law_811 ?_
    refine z_lald dL_law_812 ?_
    refine z_iload dL_law_813 rfl ?_
    refine z_iwr ?_
    refine z_i2l (z_iw_rg y_b) dL_law_815 ?_
    refine z_lcmp (r := 0) (by rw [ho y_0]; exact z_lsame _) dL_law_816 ?_
    refine z_if_eq (tgt := 822) (by decide) dL_law_817 rfl (fun _ => ?_) (fun y_m => absurd rfl y_m)
    refine z_goto (tgt := 1798) dL_law_822 rfl ?_
    exact z_unl5 (z_wide (by omega) (by omega) (next M2 hR2))
set_option maxRecDepth 20000 in
theorem z_law_c11 {G : z_G} {Z : z_Z} {Q : State → Prop} {b L : Nat} {xs : Nat → Int32} {M : z_M} {i : Nat} (sc : z_Sc G Z b L xs) (hi : 4 * (i : Int) + 4 ≤ L) (hR : z_Rel M i) (next : ∀ M2, z_Rel M2 ((i : Int) + 1) → z_J G Z z_dL Q 1798 (z_lsL G b (4 * i)) [] M2 (153 + (i + 1)) (14011 + 6 * (i + 1))) : z_J G Z z_dL Q 825 (z_lsL G b (4 * i)) [] M (153 + i) (14011 + 6 * i) := by
  have hL := sc.2.2.2
  have hN : (i : Int) + 1 ≤ 600 := by omega
  have hk : 153 + i + 1 ≤ (z_R z_dL).cells ∧ 14011 + 6 * i + 6 ≤ (z_R z_dL).slots := ⟨by show _ ≤ 601024; omega, by show _ ≤ 7293034; omega⟩
  have hk0 : 153 + i ≤ (z_R z_dL).cells ∧ 14011 + 6 * i ≤ (z_R z_dL).slots := ⟨by have := hk.1; omega, by have := hk.2; omega⟩
  obtain ⟨M1, M2, y_k, y_b, hA, hB, ht, ho, hR2⟩ := z_st_accept (G := G) (z_y_rg xs (4 * i + 1)) hR hN
  refine z_aloadn dL_law_825 rfl ?_
  refine z_aloadn dL_law_826 rfl ?_
  refine z_iload dL_law_827 rfl ?_
  refine z_iconst dL_law_829 ?_
  refine z_iadd dL_law_830 ?_
  refine z_sld sc (by omega) (by omega) dL_law_831 ?_
  refine z_aloadn dL_law_832 rfl ?_
  refine z_callL hA wmL_138 wt_L_accept wc_L_accept wn_L n_L_accept rfl rfl ⟨(Nat.le_of_ble_eq_true rfl), (Nat.le_of_ble_eq_true rfl)⟩ hk (Nat.le_of_ble_eq_true rfl) dL_law_833 ?_
  refine z_istore_5 dL_law_836 (Nat.le_of_ble_eq_true rfl) rfl ?_
  refine z_aloadn dL_law_838 rfl ?_
  refine z_aloadn dL_law_839 rfl ?_
  refine z_iload dL_law_840 rfl ?_
  refine z_iconst dL_law_842 ?_
  refine z_iadd dL_law_843 ?_
  refine z_sld sc (by omega) (by omega) dL_law_844 ?_
  refine qL_140 hB rfl ⟨(Nat.le_of_ble_eq_true rfl), (Nat.le_of_ble_eq_true rfl)⟩ hk (Nat.le_of_ble_eq_true rfl) dL_law_845 ?_
  refine z_istore_6 dL_law_848 (Nat.le_of_ble_eq_true rfl) rfl ?_
  refine z_aloadn dL_law_850 rfl ?_
  refine qL_101 (tX7_thrown (G := G) (M := M2)) rfl ⟨(Nat.le_of_ble_eq_true rfl), (Nat.le_of_ble_eq_true rfl)⟩ hk (Nat.le_of_ble_eq_true rfl) dL_law_851 ?_
  refine z_top ht ?_
  refine z_iload dL_law_854 rfl ?_
  refine z_icmp_same (tgt := 861) dL_law_856 rfl ?_
  refine z_iload dL_law_861 rfl ?_
  refine z_rng fun hr => ?_
  have rk : z_rg y_k := by rw [← ht]; exact hr 21 4 (by decide)
  refine z_if_ne (tgt := 878) rk dL_law_863 rfl (fun _ => ?_) (fun y_0 => ?_)
  · refine z_goto (tgt := 1798) dL_law_878 rfl ?_
    exact z_unl5 (z_wide (by omega) (by omega) (next M2 hR2))
  · skip
    refine z_aloadn dL_law_866 rfl ?_
    refine z_iconst dL_law_867 ?_
    refine z_lald dL_law_868 ?_
    refine z_iload dL_law_869 rfl ?_
    refine z_iwr ?_
    refine z_i2l (z_iw_rg y_b) dL_law_871 ?_
    refine z_lcmp (r := 0) (by rw [ho y_0]; exact z_lsame _) dL_law_872 ?_
    refine z_if_eq (tgt := 878) (by decide) dL_law_873 rfl (fun _ => ?_) (fun y_m => absurd rfl y_m)
    refine z_goto (tgt := 1798) dL_law_878 rfl ?_
    exact z_unl5 (z_wide (by omega) (by omega) (next M2 hR2))
set_option maxRecDepth 20000 in
theorem z_law_c12 {G : z_G} {Z : z_Z} {Q : State → Prop} {b L : Nat} {xs : Nat → Int32} {M : z_M} {i : Nat} (sc : z_Sc G Z b L xs) (hi : 4 * (i : Int) + 4 ≤ L) (hR : z_Rel M i) (next : ∀ M2, z_Rel M2 ((i : Int) + 1) → z_J G Z z_dL Q 1798 (z_lsL G b (4 * i)) [] M2 (153 + (i + 1)) (14011 + 6 * (i + 1))) : z_J G Z z_dL Q 881 (z_lsL G b (4 * i)) [] M (153 + i) (14011 + 6 * i) := by
  have hL := sc.2.2.2
  have hN : (i : Int) + 1 ≤ 600 := by omega
  have hk : 153 + i + 1 ≤ (z_R z_dL).cells ∧ 14011 + 6 * i + 6 ≤ (z_R z_dL).slots := ⟨by show _ ≤ 601024; omega, by show _ ≤ 7293034; omega⟩
  have hk0 : 153 + i ≤ (z_R z_dL).cells ∧ 14011 + 6 * i ≤ (z_R z_dL).slots := ⟨by have := hk.1; omega, by have := hk.2; omega⟩
  obtain ⟨M1, M2, y_k, y_b, hA, hB, ht, ho, hR2⟩ := z_st_kill (G := G) (z_y_rg xs (4 * i + 1)) hR hN
  refine z_aloadn dL_law_881 rfl ?_
  refine z_aloadn dL_law_882 rfl ?_
  refine z_iload dL_law_883 rfl ?_
  refine z_iconst dL_law_885 ?_
  refine z_iadd dL_law_886 ?_
  refine z_sld sc (by omega) (by omega) dL_law_887 ?_
  refine z_aloadn dL_law_888 rfl ?_
  refine z_callL hA wmL_141 wt_L_kill wc_L_kill wn_L n_L_kill rfl rfl ⟨(Nat.le_of_ble_eq_true rfl), (Nat.le_of_ble_eq_true rfl)⟩ hk (Nat.le_of_ble_eq_true rfl) dL_law_889 ?_
  refine z_istore_5 dL_law_892 (Nat.le_of_ble_eq_true rfl) rfl ?_
  refine z_aloadn dL_law_894 rfl ?_
  refine z_aloadn dL_law_895 rfl ?_
  refine z_iload dL_law_896 rfl ?_
  refine z_iconst dL_law_898 ?_
  refine z_iadd dL_law_899 ?_
  refine z_sld sc (by omega) (by omega) dL_law_900 ?_
  refine qL_143 hB rfl ⟨(Nat.le_of_ble_eq_true rfl), (Nat.le_of_ble_eq_true rfl)⟩ hk (Nat.le_of_ble_eq_true rfl) dL_law_901 ?_
  refine z_istore_6 dL_law_904 (Nat.le_of_ble_eq_true rfl) rfl ?_
  refine z_aloadn dL_law_906 rfl ?_
  refine qL_101 (tX7_thrown (G := G) (M := M2)) rfl ⟨(Nat.le_of_ble_eq_true rfl), (Nat.le_of_ble_eq_true rfl)⟩ hk (Nat.le_of_ble_eq_true rfl) dL_law_907 ?_
  refine z_top ht ?_
  refine z_iload dL_law_910 rfl ?_
  refine z_icmp_same (tgt := 917) dL_law_912 rfl ?_
  refine z_iload dL_law_917 rfl ?_
  refine z_rng fun hr => ?_
  have rk : z_rg y_k := by rw [← ht]; exact hr 21 4 (by decide)
  refine z_if_ne (tgt := 934) rk dL_law_919 rfl (fun _ => ?_) (fun y_0 => ?_)
  · refine z_goto (tgt := 1798) dL_law_934 rfl ?_
    exact z_unl5 (z_wide (by omega) (by omega) (next M2 hR2))
  · skip
    refine z_aloadn dL_law_922 rfl ?_
    refine z_iconst dL_law_923 ?_
    refine z_lald dL_law_924 ?_
    refine z_iload dL_law_925 rfl ?_
    refine z_iwr ?_
    refine z_i2l (z_iw_rg y_b) dL_law_927 ?_
    refine z_lcmp (r := 0) (by rw [ho y_0]; exact z_lsame _) dL_law_928 ?_
    refine z_if_eq (tgt := 934) (by decide) dL_law_929 rfl (fun _ => ?_) (fun y_m => absurd rfl y_m)
    refine z_goto (tgt := 1798) dL_law_934 rfl ?_
    exact z_unl5 (z_wide (by omega) (by omega) (next M2 hR2))
set_option maxRecDepth 20000 in
theorem z_law_c13 {G : z_G} {Z : z_Z} {Q : State → Prop} {b L : Nat} {xs : Nat → Int32} {M : z_M} {i : Nat} (sc : z_Sc G Z b L xs) (hi : 4 * (i : Int) + 4 ≤ L) (hR : z_Rel M i) (next : ∀ M2, z_Rel M2 ((i : Int) + 1) → z_J G Z z_dL Q 1798 (z_lsL G b (4 * i)) [] M2 (153 + (i + 1)) (14011 + 6 * (i + 1))) : z_J G Z z_dL Q 937 (z_lsL G b (4 * i)) [] M (153 + i) (14011 + 6 * i) := by
  have hL := sc.2.2.2
  have hN : (i : Int) + 1 ≤ 600 := by omega
  have hk : 153 + i + 1 ≤ (z_R z_dL).cells ∧ 14011 + 6 * i + 6 ≤ (z_R z_dL).slots := ⟨by show _ ≤ 601024; omega, by show _ ≤ 7293034; omega⟩
  have hk0 : 153 + i ≤ (z_R z_dL).cells ∧ 14011 + 6 * i ≤ (z_R z_dL).slots := ⟨by have := hk.1; omega, by have := hk.2; omega⟩
  obtain ⟨M1, M2, y_k, y_b, hA, hB, ht, ho, hR2⟩ := z_st_royalty (G := G) (z_y_rg xs (4 * i + 1)) (z_y_rg xs (4 * i + 2)) hR hN
  refine z_aloadn dL_law_937 rfl ?_
  refine z_aloadn dL_law_938 rfl ?_
  refine z_iload dL_law_939 rfl ?_
  refine z_iconst dL_law_941 ?_
  refine z_iadd dL_law_942 ?_
  refine z_sld sc (by omega) (by omega) dL_law_943 ?_
  refine z_aloadn dL_law_944 rfl ?_
  refine z_iload dL_law_945 rfl ?_
  refine z_iconst dL_law_947 ?_
  refine z_iadd dL_law_948 ?_
  refine z_sld sc (by omega) (by omega) dL_law_949 ?_
  refine z_aloadn dL_law_950 rfl ?_
  refine z_callL hA wmL_144 wt_L_royalty wc_L_royalty wn_L n_L_royalty rfl rfl ⟨(Nat.le_of_ble_eq_true rfl), (Nat.le_of_ble_eq_true rfl)⟩ hk (Nat.le_of_ble_eq_true rfl) dL_law_951 ?_
  refine z_istore_5 dL_law_954 (Nat.le_of_ble_eq_true rfl) rfl ?_
  refine z_aloadn dL_law_956 rfl ?_
  refine z_aloadn dL_law_957 rfl ?_
  refine z_iload dL_law_958 rfl ?_
  refine z_iconst dL_law_960 ?_
  refine z_iadd dL_law_961 ?_
  refine z_sld sc (by omega) (by omega) dL_law_962 ?_
  refine z_aloadn dL_law_963 rfl ?_
  refine z_iload dL_law_964 rfl ?_
  refine z_iconst dL_law_966 ?_
  refine z_iadd dL_law_967 ?_
  refine z_sld sc (by omega) (by omega) dL_law_968 ?_
  refine qL_146 hB rfl ⟨(Nat.le_of_ble_eq_true rfl), (Nat.le_of_ble_eq_true rfl)⟩ hk (Nat.le_of_ble_eq_true rfl) dL_law_969 ?_
  refine z_istore_6 dL_law_972 (Nat.le_of_ble_eq_true rfl) rfl ?_
  refine z_aloadn dL_law_974 rfl ?_
  refine qL_101 (tX7_thrown (G := G) (M := M2)) rfl ⟨(Nat.le_of_ble_eq_true rfl), (Nat.le_of_ble_eq_true rfl)⟩ hk (Nat.le_of_ble_eq_true rfl) dL_law_975 ?_
  refine z_top ht ?_
  refine z_iload dL_law_978 rfl ?_
  refine z_icmp_same (tgt := 985) dL_law_980 rfl ?_
  refine z_iload dL_law_985 rfl ?_
  refine z_rng fun hr => ?_
  have rk : z_rg y_k := by rw [← ht]; exact hr 21 4 (by decide)
  refine z_if_ne (tgt := 1002) rk dL_law_987 rfl (fun _ => ?_) (fun y_0 => ?_)
  · refine z_goto (tgt := 1798) dL_law_1002 rfl ?_
    exact z_unl5 (z_wide (by omega) (by omega) (next M2 hR2))
  · skip
    refine z_aloadn dL_law_990 rfl ?_
    refine z_iconst dL_law_991 ?_
    refine z_lald dL_law_992 ?_
    refine z_iload dL_law_993 rfl ?_
    refine z_iwr ?_
    refine z_i2l (z_iw_rg y_b) dL_law_995 ?_
    refine z_lcmp (r := 0) (by rw [ho y_0]; exact z_lsame _) dL_law_996 ?_
    refine z_if_eq (tgt := 1002) (by decide) dL_law_997 rfl (fun _ => ?_) (fun y_m => absurd rfl y_m)
    refine z_goto (tgt := 1798) dL_law_1002 rfl ?_
    exact z_unl5 (z_wide (by omega) (by omega) (next M2 hR2))
set_option maxRecDepth 20000 in
theorem z_law_c14 {G : z_G} {Z : z_Z} {Q : State → Prop} {b L : Nat} {xs : Nat → Int32} {M : z_M} {i : Nat} (sc : z_Sc G Z b L xs) (hi : 4 * (i : Int) + 4 ≤ L) (hR : z_Rel M i) (next : ∀ M2, z_Rel M2 ((i : Int) + 1) → z_J G Z z_dL Q 1798 (z_lsL G b (4 * i)) [] M2 (153 + (i + 1)) (14011 + 6 * (i + 1))) : z_J G Z z_dL Q 1005 (z_lsL G b (4 * i)) [] M (153 + i) (14011 + 6 * i) := by
  have hL := sc.2.2.2
  have hN : (i : Int) + 1 ≤ 600 := by omega
  have hk : 153 + i + 1 ≤ (z_R z_dL).cells ∧ 14011 + 6 * i + 6 ≤ (z_R z_dL).slots := ⟨by show _ ≤ 601024; omega, by show _ ≤ 7293034; omega⟩
  have hk0 : 153 + i ≤ (z_R z_dL).cells ∧ 14011 + 6 * i ≤ (z_R z_dL).slots := ⟨by have := hk.1; omega, by have := hk.2; omega⟩
  obtain ⟨M1, M2, y_k, y_b, hA, hB, ht, ho, hR2⟩ := z_st_dispute (G := G) (z_y_rg xs (4 * i + 1)) (z_y_rg xs (4 * i + 2)) hR hN
  refine z_aloadn dL_law_1005 rfl ?_
  refine z_aloadn dL_law_1006 rfl ?_
  refine z_iload dL_law_1007 rfl ?_
  refine z_iconst dL_law_1009 ?_
  refine z_iadd dL_law_1010 ?_
  refine z_sld sc (by omega) (by omega) dL_law_1011 ?_
  refine z_aloadn dL_law_1012 rfl ?_
  refine z_iload dL_law_1013 rfl ?_
  refine z_iconst dL_law_1015 ?_
  refine z_iadd dL_law_1016 ?_
  refine z_sld sc (by omega) (by omega) dL_law_1017 ?_
  refine z_aloadn dL_law_1018 rfl ?_
  refine z_callL hA wmL_147 wt_L_dispute wc_L_dispute wn_L n_L_dispute rfl rfl ⟨(Nat.le_of_ble_eq_true rfl), (Nat.le_of_ble_eq_true rfl)⟩ hk (Nat.le_of_ble_eq_true rfl) dL_law_1019 ?_
  refine z_istore_5 dL_law_1022 (Nat.le_of_ble_eq_true rfl) rfl ?_
  refine z_aloadn dL_law_1024 rfl ?_
  refine z_aloadn dL_law_1025 rfl ?_
  refine z_iload dL_law_1026 rfl ?_
  refine z_iconst dL_law_1028 ?_
  refine z_iadd dL_law_1029 ?_
  refine z_sld sc (by omega) (by omega) dL_law_1030 ?_
  refine z_aloadn dL_law_1031 rfl ?_
  refine z_iload dL_law_1032 rfl ?_
  refine z_iconst dL_law_1034 ?_
  refine z_iadd dL_law_1035 ?_
  refine z_sld sc (by omega) (by omega) dL_law_1036 ?_
  refine qL_149 hB rfl ⟨(Nat.le_of_ble_eq_true rfl), (Nat.le_of_ble_eq_true rfl)⟩ hk (Nat.le_of_ble_eq_true rfl) dL_law_1037 ?_
  refine z_istore_6 dL_law_1040 (Nat.le_of_ble_eq_true rfl) rfl ?_
  refine z_aloadn dL_law_1042 rfl ?_
  refine qL_101 (tX7_thrown (G := G) (M := M2)) rfl ⟨(Nat.le_of_ble_eq_true rfl), (Nat.le_of_ble_eq_true rfl)⟩ hk (Nat.le_of_ble_eq_true rfl) dL_law_1043 ?_
  refine z_top ht ?_
  refine z_iload dL_law_1046 rfl ?_
  refine z_icmp_same (tgt := 1053) dL_law_1048 rfl ?_
  refine z_iload dL_law_1053 rfl ?_
  refine z_rng fun hr => ?_
  have rk : z_rg y_k := by rw [← ht]; exact hr 21 4 (by decide)
  refine z_if_ne (tgt := 1070) rk dL_law_1055 rfl (fun _ => ?_) (fun y_0 => ?_)
  · refine z_goto (tgt := 1798) dL_law_1070 rfl ?_
    exact z_unl5 (z_wide (by omega) (by omega) (next M2 hR2))
  · skip
    refine z_aloadn dL_law_1058 rfl ?_
    refine z_iconst dL_law_1059 ?_
    refine z_lald dL_law_1060 ?_
    refine z_iload dL_law_1061 rfl ?_
    refine z_iwr ?_
    refine z_i2l (z_iw_rg y_b) dL_law_1063 ?_
    refine z_lcmp (r := 0) (by rw [ho y_0]; exact z_lsame _) dL_law_1064 ?_
    refine z_if_eq (tgt := 1070) (by decide) dL_law_1065 rfl (fun _ => ?_) (fun y_m => absurd rfl y_m)
    refine z_goto (tgt := 1798) dL_law_1070 rfl ?_
    exact z_unl5 (z_wide (by omega) (by omega) (next M2 hR2))
set_option maxRecDepth 20000 in
theorem z_law_c15 {G : z_G} {Z : z_Z} {Q : State → Prop} {b L : Nat} {xs : Nat → Int32} {M : z_M} {i : Nat} (sc : z_Sc G Z b L xs) (hi : 4 * (i : Int) + 4 ≤ L) (hR : z_Rel M i) (next : ∀ M2, z_Rel M2 ((i : Int) + 1) → z_J G Z z_dL Q 1798 (z_lsL G b (4 * i)) [] M2 (153 + (i + 1)) (14011 + 6 * (i + 1))) : z_J G Z z_dL Q 1073 (z_lsL G b (4 * i)) [] M (153 + i) (14011 + 6 * i) := by
  have hL := sc.2.2.2
  have hN : (i : Int) + 1 ≤ 600 := by omega
  have hk : 153 + i + 1 ≤ (z_R z_dL).cells ∧ 14011 + 6 * i + 6 ≤ (z_R z_dL).slots := ⟨by show _ ≤ 601024; omega, by show _ ≤ 7293034; omega⟩
  have hk0 : 153 + i ≤ (z_R z_dL).cells ∧ 14011 + 6 * i ≤ (z_R z_dL).slots := ⟨by have := hk.1; omega, by have := hk.2; omega⟩
  obtain ⟨M1, M2, y_k, y_b, hA, hB, ht, ho, hR2⟩ := z_st_append (G := G) (z_y_rg xs (4 * i + 1)) hR hN
  refine z_aloadn dL_law_1073 rfl ?_
  refine z_aloadn dL_law_1074 rfl ?_
  refine z_iload dL_law_1075 rfl ?_
  refine z_iconst dL_law_1077 ?_
  refine z_iadd dL_law_1078 ?_
  refine z_sld sc (by omega) (by omega) dL_law_1079 ?_
  refine z_aloadn dL_law_1080 rfl ?_
  refine z_callL hA wmL_150 wt_L_append wc_L_append wn_L n_L_append rfl rfl ⟨(Nat.le_of_ble_eq_true rfl), (Nat.le_of_ble_eq_true rfl)⟩ hk (Nat.le_of_ble_eq_true rfl) dL_law_1081 ?_
  refine z_istore_5 dL_law_1084 (Nat.le_of_ble_eq_true rfl) rfl ?_
  refine z_aloadn dL_law_1086 rfl ?_
  refine z_aloadn dL_law_1087 rfl ?_
  refine z_iload dL_law_1088 rfl ?_
  refine z_iconst dL_law_1090 ?_
  refine z_iadd dL_law_1091 ?_
  refine z_sld sc (by omega) (by omega) dL_law_1092 ?_
  refine qL_152 hB rfl ⟨(Nat.le_of_ble_eq_true rfl), (Nat.le_of_ble_eq_true rfl)⟩ hk (Nat.le_of_ble_eq_true rfl) dL_law_1093 ?_
  refine z_istore_6 dL_law_1096 (Nat.le_of_ble_eq_true rfl) rfl ?_
  refine z_aloadn dL_law_1098 rfl ?_
  refine qL_101 (tX7_thrown (G := G) (M := M2)) rfl ⟨(Nat.le_of_ble_eq_true rfl), (Nat.le_of_ble_eq_true rfl)⟩ hk (Nat.le_of_ble_eq_true rfl) dL_law_1099 ?_
  refine z_top ht ?_
  refine z_iload dL_law_1102 rfl ?_
  refine z_icmp_same (tgt := 1109) dL_law_1104 rfl ?_
  refine z_iload dL_law_1109 rfl ?_
  refine z_rng fun hr => ?_
  have rk : z_rg y_k := by rw [← ht]; exact hr 21 4 (by decide)
  refine z_if_ne (tgt := 1126) rk dL_law_1111 rfl (fun _ => ?_) (fun y_0 => ?_)
  · refine z_goto (tgt := 1798) dL_law_1126 rfl ?_
    exact z_unl5 (z_wide (by omega) (by omega) (next M2 hR2))
  · skip
    refine z_aloadn dL_law_1114 rfl ?_
    refine z_iconst dL_law_1115 ?_
    refine z_lald dL_law_1116 ?_
    refine z_iload dL_law_1117 rfl ?_
    refine z_iwr ?_
    refine z_i2l (z_iw_rg y_b) dL_law_1119 ?_
    refine z_lcmp (r := 0) (by rw [ho y_0]; exact z_lsame _) dL_law_1120 ?_
    refine z_if_eq (tgt := 1126) (by decide) dL_law_1121 rfl (fun _ => ?_) (fun y_m => absurd rfl y_m)
    refine z_goto (tgt := 1798) dL_law_1126 rfl ?_
    exact z_unl5 (z_wide (by omega) (by omega) (next M2 hR2))
set_option maxRecDepth 20000 in
theorem z_law_c16 {G : z_G} {Z : z_Z} {Q : State → Prop} {b L : Nat} {xs : Nat → Int32} {M : z_M} {i : Nat} (sc : z_Sc G Z b L xs) (hi : 4 * (i : Int) + 4 ≤ L) (hR : z_Rel M i) (next : ∀ M2, z_Rel M2 ((i : Int) + 1) → z_J G Z z_dL Q 1798 (z_lsL G b (4 * i)) [] M2 (153 + (i + 1)) (14011 + 6 * (i + 1))) : z_J G Z z_dL Q 1129 (z_lsL G b (4 * i)) [] M (153 + i) (14011 + 6 * i) := by
  have hL := sc.2.2.2
  have hN : (i : Int) + 1 ≤ 600 := by omega
  have hk : 153 + i + 1 ≤ (z_R z_dL).cells ∧ 14011 + 6 * i + 6 ≤ (z_R z_dL).slots := ⟨by show _ ≤ 601024; omega, by show _ ≤ 7293034; omega⟩
  have hk0 : 153 + i ≤ (z_R z_dL).cells ∧ 14011 + 6 * i ≤ (z_R z_dL).slots := ⟨by have := hk.1; omega, by have := hk.2; omega⟩
  obtain ⟨M1, M2, y_b, hA, hB, hR2⟩ := z_st_clearBuffer (G := G) hR hN
  refine z_aloadn dL_law_1129 rfl ?_
  refine qL_153 hA rfl ⟨(Nat.le_of_ble_eq_true rfl), (Nat.le_of_ble_eq_true rfl)⟩ hk0 (Nat.le_of_ble_eq_true rfl) dL_law_1130 ?_
  refine z_aloadn dL_law_1133 rfl ?_
  refine qL_156 hB rfl ⟨(Nat.le_of_ble_eq_true rfl), (Nat.le_of_ble_eq_true rfl)⟩ hk0 (Nat.le_of_ble_eq_true rfl) dL_law_1134 ?_
  refine z_icmp_same (tgt := 1798) dL_law_1137 rfl ?_
  exact z_unl5 (z_wide (by omega) (by omega) (next M2 hR2))
set_option maxRecDepth 20000 in
theorem z_law_c17 {G : z_G} {Z : z_Z} {Q : State → Prop} {b L : Nat} {xs : Nat → Int32} {M : z_M} {i : Nat} (sc : z_Sc G Z b L xs) (hi : 4 * (i : Int) + 4 ≤ L) (hR : z_Rel M i) (next : ∀ M2, z_Rel M2 ((i : Int) + 1) → z_J G Z z_dL Q 1798 (z_lsL G b (4 * i)) [] M2 (153 + (i + 1)) (14011 + 6 * (i + 1))) : z_J G Z z_dL Q 1142 (z_lsL G b (4 * i)) [] M (153 + i) (14011 + 6 * i) := by
  have hL := sc.2.2.2
  have hN : (i : Int) + 1 ≤ 600 := by omega
  have hk : 153 + i + 1 ≤ (z_R z_dL).cells ∧ 14011 + 6 * i + 6 ≤ (z_R z_dL).slots := ⟨by show _ ≤ 601024; omega, by show _ ≤ 7293034; omega⟩
  have hk0 : 153 + i ≤ (z_R z_dL).cells ∧ 14011 + 6 * i ≤ (z_R z_dL).slots := ⟨by have := hk.1; omega, by have := hk.2; omega⟩
  obtain ⟨M1, M2, y_b, hA, hB, hR2⟩ := z_st_firstError (G := G) hR hN
  refine z_aloadn dL_law_1142 rfl ?_
  refine qL_157 hA rfl ⟨(Nat.le_of_ble_eq_true rfl), (Nat.le_of_ble_eq_true rfl)⟩ hk0 (Nat.le_of_ble_eq_true rfl) dL_law_1143 ?_
  refine z_aloadn dL_law_1146 rfl ?_
  refine qL_160 hB rfl ⟨(Nat.le_of_ble_eq_true rfl), (Nat.le_of_ble_eq_true rfl)⟩ hk0 (Nat.le_of_ble_eq_true rfl) dL_law_1147 ?_
  refine z_icmp_same (tgt := 1798) dL_law_1150 rfl ?_
  exact z_unl5 (z_wide (by omega) (by omega) (next M2 hR2))
set_option maxRecDepth 20000 in
theorem z_law_c18 {G : z_G} {Z : z_Z} {Q : State → Prop} {b L : Nat} {xs : Nat → Int32} {M : z_M} {i : Nat} (sc : z_Sc G Z b L xs) (hi : 4 * (i : Int) + 4 ≤ L) (hR : z_Rel M i) (next : ∀ M2, z_Rel M2 ((i : Int) + 1) → z_J G Z z_dL Q 1798 (z_lsL G b (4 * i)) [] M2 (153 + (i + 1)) (14011 + 6 * (i + 1))) : z_J G Z z_dL Q 1155 (z_lsL G b (4 * i)) [] M (153 + i) (14011 + 6 * i) := by
  have hL := sc.2.2.2
  have hN : (i : Int) + 1 ≤ 600 := by omega
  have hk : 153 + i + 1 ≤ (z_R z_dL).cells ∧ 14011 + 6 * i + 6 ≤ (z_R z_dL).slots := ⟨by show _ ≤ 601024; omega, by show _ ≤ 7293034; omega⟩
  have hk0 : 153 + i ≤ (z_R z_dL).cells ∧ 14011 + 6 * i ≤ (z_R z_dL).slots := ⟨by have := hk.1; omega, by have := hk.2; omega⟩
  obtain ⟨M1, M2, y_k, y_b, hA, hB, ht, ho, hR2⟩ := z_st_undo (G := G)  hR hN
  refine z_aloadn dL_law_1155 rfl ?_
  refine z_aloadn dL_law_1156 rfl ?_
  refine z_callL hA wmL_161 wt_L_undo wc_L_undo wn_L n_L_undo rfl rfl ⟨(Nat.le_of_ble_eq_true rfl), (Nat.le_of_ble_eq_true rfl)⟩ hk (Nat.le_of_ble_eq_true rfl) dL_law_1157 ?_
  refine z_istore_5 dL_law_1160 (Nat.le_of_ble_eq_true rfl) rfl ?_
  refine z_aloadn dL_law_1162 rfl ?_
  refine qL_163 hB rfl ⟨(Nat.le_of_ble_eq_true rfl), (Nat.le_of_ble_eq_true rfl)⟩ hk (Nat.le_of_ble_eq_true rfl) dL_law_1163 ?_
  refine z_istore_6 dL_law_1166 (Nat.le_of_ble_eq_true rfl) rfl ?_
  refine z_aloadn dL_law_1168 rfl ?_
  refine qL_101 (tX7_thrown (G := G) (M := M2)) rfl ⟨(Nat.le_of_ble_eq_true rfl), (Nat.le_of_ble_eq_true rfl)⟩ hk (Nat.le_of_ble_eq_true rfl) dL_law_1169 ?_
  refine z_top ht ?_
  refine z_iload dL_law_1172 rfl ?_
  refine z_icmp_same (tgt := 1179) dL_law_1174 rfl ?_
  refine z_iload dL_law_1179 rfl ?_
  refine z_rng fun hr => ?_
  have rk : z_rg y_k := by rw [← ht]; exact hr 21 4 (by decide)
  refine z_if_ne (tgt := 1196) rk dL_law_1181 rfl (fun _ => ?_) (fun y_0 => ?_)
  · refine z_goto (tgt := 1798) dL_law_1196 rfl ?_
    exact z_unl5 (z_wide (by omega) (by omega) (next M2 hR2))
  · skip
    refine z_aloadn dL_law_1184 rfl ?_
    refine z_iconst dL_law_1185 ?_
    refine z_lald dL_law_1186 ?_
    refine z_iload dL_law_1187 rfl ?_
    refine z_iwr ?_
    refine z_i2l (z_iw_rg y_b) dL_law_1189 ?_
    refine z_lcmp (r := 0) (by rw [ho y_0]; exact z_lsame _) dL_law_1190 ?_
    refine z_if_eq (tgt := 1196) (by decide) dL_law_1191 rfl (fun _ => ?_) (fun y_m => absurd rfl y_m)
    refine z_goto (tgt := 1798) dL_law_1196 rfl ?_
    exact z_unl5 (z_wide (by omega) (by omega) (next M2 hR2))
set_option maxRecDepth 20000 in
theorem z_law_c19 {G : z_G} {Z : z_Z} {Q : State → Prop} {b L : Nat} {xs : Nat → Int32} {M : z_M} {i : Nat} (sc : z_Sc G Z b L xs) (hi : 4 * (i : Int) + 4 ≤ L) (hR : z_Rel M i) (next : ∀ M2, z_Rel M2 ((i : Int) + 1) → z_J G Z z_dL Q 1798 (z_lsL G b (4 * i)) [] M2 (153 + (i + 1)) (14011 + 6 * (i + 1))) : z_J G Z z_dL Q 1199 (z_lsL G b (4 * i)) [] M (153 + i) (14011 + 6 * i) := by
  have hL := sc.2.2.2
  have hN : (i : Int) + 1 ≤ 600 := by omega
  have hk : 153 + i + 1 ≤ (z_R z_dL).cells ∧ 14011 + 6 * i + 6 ≤ (z_R z_dL).slots := ⟨by show _ ≤ 601024; omega, by show _ ≤ 7293034; omega⟩
  have hk0 : 153 + i ≤ (z_R z_dL).cells ∧ 14011 + 6 * i ≤ (z_R z_dL).slots := ⟨by have := hk.1; omega, by have := hk.2; omega⟩
  obtain ⟨M1, M2, y_k, y_b, hA, hB, ht, ho, hR2⟩ := z_st_pen (G := G) (z_y_rg xs (4 * i + 1)) (z_y_rg xs (4 * i + 2)) hR hN
  refine z_aloadn dL_law_1199 rfl ?_
  refine z_aloadn dL_law_1200 rfl ?_
  refine z_iload dL_law_1201 rfl ?_
  refine z_iconst dL_law_1203 ?_
  refine z_iadd dL_law_1204 ?_
  refine z_sld sc (by omega) (by omega) dL_law_1205 ?_
  refine z_aloadn dL_law_1206 rfl ?_
  refine z_iload dL_law_1207 rfl ?_
  refine z_iconst dL_law_1209 ?_
  refine z_iadd dL_law_1210 ?_
  refine z_sld sc (by omega) (by omega) dL_law_1211 ?_
  refine z_aloadn dL_law_1212 rfl ?_
  refine z_callL hA wmL_164 wt_L_pen wc_L_pen wn_L n_L_pen rfl rfl ⟨(Nat.le_of_ble_eq_true rfl), (Nat.le_of_ble_eq_true rfl)⟩ hk (Nat.le_of_ble_eq_true rfl) dL_law_1213 ?_
  refine z_istore_5 dL_law_1216 (Nat.le_of_ble_eq_true rfl) rfl ?_
  refine z_aloadn dL_law_1218 rfl ?_
  refine z_aloadn dL_law_1219 rfl ?_
  refine z_iload dL_law_1220 rfl ?_
  refine z_iconst dL_law_1222 ?_
  refine z_iadd dL_law_1223 ?_
  refine z_sld sc (by omega) (by omega) dL_law_1224 ?_
  refine z_aloadn dL_law_1225 rfl ?_
  refine z_iload dL_law_1226 rfl ?_
  refine z_iconst dL_law_1228 ?_
  refine z_iadd dL_law_1229 ?_
  refine z_sld sc (by omega) (by omega) dL_law_1230 ?_
  refine qL_166 hB rfl ⟨(Nat.le_of_ble_eq_true rfl), (Nat.le_of_ble_eq_true rfl)⟩ hk (Nat.le_of_ble_eq_true rfl) dL_law_1231 ?_
  refine z_istore_6 dL_law_1234 (Nat.le_of_ble_eq_true rfl) rfl ?_
  refine z_aloadn dL_law_1236 rfl ?_
  refine qL_101 (tX7_thrown (G := G) (M := M2)) rfl ⟨(Nat.le_of_ble_eq_true rfl), (Nat.le_of_ble_eq_true rfl)⟩ hk (Nat.le_of_ble_eq_true rfl) dL_law_1237 ?_
  refine z_top ht ?_
  refine z_iload dL_law_1240 rfl ?_
  refine z_icmp_same (tgt := 1247) dL_law_1242 rfl ?_
  refine z_iload dL_law_1247 rfl ?_
  refine z_rng fun hr => ?_
  have rk : z_rg y_k := by rw [← ht]; exact hr 21 4 (by decide)
  refine z_if_ne (tgt := 1264) rk dL_law_1249 rfl (fun _ => ?_) (fun y_0 => ?_)
  · refine z_goto (tgt := 1798) dL_law_1264 rfl ?_
    exact z_unl5 (z_wide (by omega) (by omega) (next M2 hR2))
  · skip
    refine z_aloadn dL_law_1252 rfl ?_
    refine z_iconst dL_law_1253 ?_
    refine z_lald dL_law_1254 ?_
    refine z_iload dL_law_1255 rfl ?_
    refine z_iwr ?_
    refine z_i2l (z_iw_rg y_b) dL_law_1257 ?_
    refine z_lcmp (r := 0) (by rw [ho y_0]; exact z_lsame _) dL_law_1258 ?_
    refine z_if_eq (tgt := 1264) (by decide) dL_law_1259 rfl (fun _ => ?_) (fun y_m => absurd rfl y_m)
    refine z_goto (tgt := 1798) dL_law_1264 rfl ?_
    exact z_unl5 (z_wide (by omega) (by omega) (next M2 hR2))
set_option maxRecDepth 20000 in
theorem z_law_c20 {G : z_G} {Z : z_Z} {Q : State → Prop} {b L : Nat} {xs : Nat → Int32} {M : z_M} {i : Nat} (sc : z_Sc G Z b L xs) (hi : 4 * (i : Int) + 4 ≤ L) (hR : z_Rel M i) (next : ∀ M2, z_Rel M2 ((i : Int) + 1) → z_J G Z z_dL Q 1798 (z_lsL G b (4 * i)) [] M2 (153 + (i + 1)) (14011 + 6 * (i + 1))) : z_J G Z z_dL Q 1267 (z_lsL G b (4 * i)) [] M (153 + i) (14011 + 6 * i) := by
  have hL := sc.2.2.2
  have hN : (i : Int) + 1 ≤ 600 := by omega
  have hk : 153 + i + 1 ≤ (z_R z_dL).cells ∧ 14011 + 6 * i + 6 ≤ (z_R z_dL).slots := ⟨by show _ ≤ 601024; omega, by show _ ≤ 7293034; omega⟩
  have hk0 : 153 + i ≤ (z_R z_dL).cells ∧ 14011 + 6 * i ≤ (z_R z_dL).slots := ⟨by have := hk.1; omega, by have := hk.2; omega⟩
  obtain ⟨M1, M2, y_k, y_b, hA, hB, ht, ho, hR2⟩ := z_st_piece (G := G) (z_y_rg xs (4 * i + 1)) (z_y_rg xs (4 * i + 2)) hR hN
  refine z_aloadn dL_law_1267 rfl ?_
  refine z_aloadn dL_law_1268 rfl ?_
  refine z_iload dL_law_1269 rfl ?_
  refine z_iconst dL_law_1271 ?_
  refine z_iadd dL_law_1272 ?_
  refine z_sld sc (by omega) (by omega) dL_law_1273 ?_
  refine z_aloadn dL_law_1274 rfl ?_
  refine z_iload dL_law_1275 rfl ?_
  refine z_iconst dL_law_1277 ?_
  refine z_iadd dL_law_1278 ?_
  refine z_sld sc (by omega) (by omega) dL_law_1279 ?_
  refine z_aloadn dL_law_1280 rfl ?_
  refine z_callL hA wmL_167 wt_L_piece wc_L_piece wn_L n_L_piece rfl rfl ⟨(Nat.le_of_ble_eq_true rfl), (Nat.le_of_ble_eq_true rfl)⟩ hk (Nat.le_of_ble_eq_true rfl) dL_law_1281 ?_
  refine z_istore_5 dL_law_1284 (Nat.le_of_ble_eq_true rfl) rfl ?_
  refine z_aloadn dL_law_1286 rfl ?_
  refine z_aloadn dL_law_1287 rfl ?_
  refine z_iload dL_law_1288 rfl ?_
  refine z_iconst dL_law_1290 ?_
  refine z_iadd dL_law_1291 ?_
  refine z_sld sc (by omega) (by omega) dL_law_1292 ?_
  refine z_aloadn dL_law_1293 rfl ?_
  refine z_iload dL_law_1294 rfl ?_
  refine z_iconst dL_law_1296 ?_
  refine z_iadd dL_law_1297 ?_
  refine z_sld sc (by omega) (by omega) dL_law_1298 ?_
  refine qL_169 hB rfl ⟨(Nat.le_of_ble_eq_true rfl), (Nat.le_of_ble_eq_true rfl)⟩ hk (Nat.le_of_ble_eq_true rfl) dL_law_1299 ?_
  refine z_istore_6 dL_law_1302 (Nat.le_of_ble_eq_true rfl) rfl ?_
  refine z_aloadn dL_law_1304 rfl ?_
  refine qL_101 (tX7_thrown (G := G) (M := M2)) rfl ⟨(Nat.le_of_ble_eq_true rfl), (Nat.le_of_ble_eq_true rfl)⟩ hk (Nat.le_of_ble_eq_true rfl) dL_law_1305 ?_
  refine z_top ht ?_
  refine z_iload dL_law_1308 rfl ?_
  refine z_icmp_same (tgt := 1315) dL_law_1310 rfl ?_
  refine z_iload dL_law_1315 rfl ?_
  refine z_rng fun hr => ?_
  have rk : z_rg y_k := by rw [← ht]; exact hr 21 4 (by decide)
  refine z_if_ne (tgt := 1332) rk dL_law_1317 rfl (fun _ => ?_) (fun y_0 => ?_)
  · refine z_goto (tgt := 1798) dL_law_1332 rfl ?_
    exact z_unl5 (z_wide (by omega) (by omega) (next M2 hR2))
  · skip
    refine z_aloadn dL_law_1320 rfl ?_
    refine z_iconst dL_law_1321 ?_
    refine z_lald dL_law_1322 ?_
    refine z_iload dL_law_1323 rfl ?_
    refine z_iwr ?_
    refine z_i2l (z_iw_rg y_b) dL_law_1325 ?_
    refine z_lcmp (r := 0) (by rw [ho y_0]; exact z_lsame _) dL_law_1326 ?_
    refine z_if_eq (tgt := 1332) (by decide) dL_law_1327 rfl (fun _ => ?_) (fun y_m => absurd rfl y_m)
    refine z_goto (tgt := 1798) dL_law_1332 rfl ?_
    exact z_unl5 (z_wide (by omega) (by omega) (next M2 hR2))
set_option maxRecDepth 20000 in
theorem z_law_c21 {G : z_G} {Z : z_Z} {Q : State → Prop} {b L : Nat} {xs : Nat → Int32} {M : z_M} {i : Nat} (sc : z_Sc G Z b L xs) (hi : 4 * (i : Int) + 4 ≤ L) (hR : z_Rel M i) (next : ∀ M2, z_Rel M2 ((i : Int) + 1) → z_J G Z z_dL Q 1798 (z_lsL G b (4 * i)) [] M2 (153 + (i + 1)) (14011 + 6 * (i + 1))) : z_J G Z z_dL Q 1335 (z_lsL G b (4 * i)) [] M (153 + i) (14011 + 6 * i) := by
  have hL := sc.2.2.2
  have hN : (i : Int) + 1 ≤ 600 := by omega
  have hk : 153 + i + 1 ≤ (z_R z_dL).cells ∧ 14011 + 6 * i + 6 ≤ (z_R z_dL).slots := ⟨by show _ ≤ 601024; omega, by show _ ≤ 7293034; omega⟩
  have hk0 : 153 + i ≤ (z_R z_dL).cells ∧ 14011 + 6 * i ≤ (z_R z_dL).slots := ⟨by have := hk.1; omega, by have := hk.2; omega⟩
  obtain ⟨M1, M2, y_k, y_b, hA, hB, ht, ho, hR2⟩ := z_st_between (G := G) (z_y_rg xs (4 * i + 1)) (z_y_rg xs (4 * i + 2)) (z_y_rg xs (4 * i + 3)) hR hN
  refine z_aloadn dL_law_1335 rfl ?_
  refine z_aloadn dL_law_1336 rfl ?_
  refine z_iload dL_law_1337 rfl ?_
  refine z_iconst dL_law_1339 ?_
  refine z_iadd dL_law_1340 ?_
  refine z_sld sc (by omega) (by omega) dL_law_1341 ?_
  refine z_aloadn dL_law_1342 rfl ?_
  refine z_iload dL_law_1343 rfl ?_
  refine z_iconst dL_law_1345 ?_
  refine z_iadd dL_law_1346 ?_
  refine z_sld sc (by omega) (by omega) dL_law_1347 ?_
  refine z_aloadn dL_law_1348 rfl ?_
  refine z_iload dL_law_1349 rfl ?_
  refine z_iconst dL_law_1351 ?_
  refine z_iadd dL_law_1352 ?_
  refine z_sld sc (by omega) (by omega) dL_law_1353 ?_
  refine z_aloadn dL_law_1354 rfl ?_
  refine z_callL hA wmL_170 wt_L_between wc_L_between wn_L n_L_between rfl rfl ⟨(Nat.le_of_ble_eq_true rfl), (Nat.le_of_ble_eq_true rfl)⟩ hk (Nat.le_of_ble_eq_true rfl) dL_law_1355 ?_
  refine z_istore_5 dL_law_1358 (Nat.le_of_ble_eq_true rfl) rfl ?_
  refine z_aloadn dL_law_1360 rfl ?_
  refine z_aloadn dL_law_1361 rfl ?_
  refine z_iload dL_law_1362 rfl ?_
  refine z_iconst dL_law_1364 ?_
  refine z_iadd dL_law_1365 ?_
  refine z_sld sc (by omega) (by omega) dL_law_1366 ?_
  refine z_aloadn dL_law_1367 rfl ?_
  refine z_iload dL_law_1368 rfl ?_
  refine z_iconst dL_law_1370 ?_
  refine z_iadd dL_law_1371 ?_
  refine z_sld sc (by omega) (by omega) dL_law_1372 ?_
  refine z_aloadn dL_law_1373 rfl ?_
  refine z_iload dL_law_1374 rfl ?_
  refine z_iconst dL_law_1376 ?_
  refine z_iadd dL_law_1377 ?_
  refine z_sld sc (by omega) (by omega) dL_law_1378 ?_
  refine qL_172 hB rfl ⟨(Nat.le_of_ble_eq_true rfl), (Nat.le_of_ble_eq_true rfl)⟩ hk (Nat.le_of_ble_eq_true rfl) dL_law_1379 ?_
  refine z_istore_6 dL_law_1382 (Nat.le_of_ble_eq_true rfl) rfl ?_
  refine z_aloadn dL_law_1384 rfl ?_
  refine qL_101 (tX7_thrown (G := G) (M := M2)) rfl ⟨(Nat.le_of_ble_eq_true rfl), (Nat.le_of_ble_eq_true rfl)⟩ hk (Nat.le_of_ble_eq_true rfl) dL_law_1385 ?_
  refine z_top ht ?_
  refine z_iload dL_law_1388 rfl ?_
  refine z_icmp_same (tgt := 1395) dL_law_1390 rfl ?_
  refine z_iload dL_law_1395 rfl ?_
  refine z_rng fun hr => ?_
  have rk : z_rg y_k := by rw [← ht]; exact hr 21 4 (by decide)
  refine z_if_ne (tgt := 1412) rk dL_law_1397 rfl (fun _ => ?_) (fun y_0 => ?_)
  · refine z_goto (tgt := 1798) dL_law_1412 rfl ?_
    exact z_unl5 (z_wide (by omega) (by omega) (next M2 hR2))
  · skip
    refine z_aloadn dL_law_1400 rfl ?_
    refine z_iconst dL_law_1401 ?_
    refine z_lald dL_law_1402 ?_
    refine z_iload dL_law_1403 rfl ?_
    refine z_iwr ?_
    refine z_i2l (z_iw_rg y_b) dL_law_1405 ?_
    refine z_lcmp (r := 0) (by rw [ho y_0]; exact z_lsame _) dL_law_1406 ?_
    refine z_if_eq (tgt := 1412) (by decide) dL_law_1407 rfl (fun _ => ?_) (fun y_m => absurd rfl y_m)
    refine z_goto (tgt := 1798) dL_law_1412 rfl ?_
    exact z_unl5 (z_wide (by omega) (by omega) (next M2 hR2))
set_option maxRecDepth 20000 in
theorem z_law_c22 {G : z_G} {Z : z_Z} {Q : State → Prop} {b L : Nat} {xs : Nat → Int32} {M : z_M} {i : Nat} (sc : z_Sc G Z b L xs) (hi : 4 * (i : Int) + 4 ≤ L) (hR : z_Rel M i) (next : ∀ M2, z_Rel M2 ((i : Int) + 1) → z_J G Z z_dL Q 1798 (z_lsL G b (4 * i)) [] M2 (153 + (i + 1)) (14011 + 6 * (i + 1))) : z_J G Z z_dL Q 1415 (z_lsL G b (4 * i)) [] M (153 + i) (14011 + 6 * i) := by
  have hL := sc.2.2.2
  have hN : (i : Int) + 1 ≤ 600 := by omega
  have hk : 153 + i + 1 ≤ (z_R z_dL).cells ∧ 14011 + 6 * i + 6 ≤ (z_R z_dL).slots := ⟨by show _ ≤ 601024; omega, by show _ ≤ 7293034; omega⟩
  have hk0 : 153 + i ≤ (z_R z_dL).cells ∧ 14011 + 6 * i ≤ (z_R z_dL).slots := ⟨by have := hk.1; omega, by have := hk.2; omega⟩
  obtain ⟨M1, M2, y_k, y_b, hA, hB, ht, ho, hR2⟩ := z_st_count (G := G) (z_y_rg xs (4 * i + 1)) hR hN
  refine z_aloadn dL_law_1415 rfl ?_
  refine z_aloadn dL_law_1416 rfl ?_
  refine z_iload dL_law_1417 rfl ?_
  refine z_iconst dL_law_1419 ?_
  refine z_iadd dL_law_1420 ?_
  refine z_sld sc (by omega) (by omega) dL_law_1421 ?_
  refine z_aloadn dL_law_1422 rfl ?_
  refine z_callL hA wmL_173 wt_L_count wc_L_count wn_L n_L_count rfl rfl ⟨(Nat.le_of_ble_eq_true rfl), (Nat.le_of_ble_eq_true rfl)⟩ hk (Nat.le_of_ble_eq_true rfl) dL_law_1423 ?_
  refine z_istore_5 dL_law_1426 (Nat.le_of_ble_eq_true rfl) rfl ?_
  refine z_aloadn dL_law_1428 rfl ?_
  refine z_aloadn dL_law_1429 rfl ?_
  refine z_iload dL_law_1430 rfl ?_
  refine z_iconst dL_law_1432 ?_
  refine z_iadd dL_law_1433 ?_
  refine z_sld sc (by omega) (by omega) dL_law_1434 ?_
  refine qL_175 hB rfl ⟨(Nat.le_of_ble_eq_true rfl), (Nat.le_of_ble_eq_true rfl)⟩ hk (Nat.le_of_ble_eq_true rfl) dL_law_1435 ?_
  refine z_istore_6 dL_law_1438 (Nat.le_of_ble_eq_true rfl) rfl ?_
  refine z_aloadn dL_law_1440 rfl ?_
  refine qL_101 (tX7_thrown (G := G) (M := M2)) rfl ⟨(Nat.le_of_ble_eq_true rfl), (Nat.le_of_ble_eq_true rfl)⟩ hk (Nat.le_of_ble_eq_true rfl) dL_law_1441 ?_
  refine z_top ht ?_
  refine z_iload dL_law_1444 rfl ?_
  refine z_icmp_same (tgt := 1451) dL_law_1446 rfl ?_
  refine z_iload dL_law_1451 rfl ?_
  refine z_rng fun hr => ?_
  have rk : z_rg y_k := by rw [← ht]; exact hr 21 4 (by decide)
  refine z_if_ne (tgt := 1468) rk dL_law_1453 rfl (fun _ => ?_) (fun y_0 => ?_)
  · refine z_goto (tgt := 1798) dL_law_1468 rfl ?_
    exact z_unl5 (z_wide (by omega) (by omega) (next M2 hR2))
  · skip
    refine z_aloadn dL_law_1456 rfl ?_
    refine z_iconst dL_law_1457 ?_
    refine z_lald dL_law_1458 ?_
    refine z_iload dL_law_1459 rfl ?_
    refine z_iwr ?_
    refine z_i2l (z_iw_rg y_b) dL_law_1461 ?_
    refine z_lcmp (r := 0) (by rw [ho y_0]; exact z_lsame _) dL_law_1462 ?_
    refine z_if_eq (tgt := 1468) (by decide) dL_law_1463 rfl (fun _ => ?_) (fun y_m => absurd rfl y_m)
    refine z_goto (tgt := 1798) dL_law_1468 rfl ?_
    exact z_unl5 (z_wide (by omega) (by omega) (next M2 hR2))
set_option maxRecDepth 20000 in
theorem z_law_c23 {G : z_G} {Z : z_Z} {Q : State → Prop} {b L : Nat} {xs : Nat → Int32} {M : z_M} {i : Nat} (sc : z_Sc G Z b L xs) (hi : 4 * (i : Int) + 4 ≤ L) (hR : z_Rel M i) (next : ∀ M2, z_Rel M2 ((i : Int) + 1) → z_J G Z z_dL Q 1798 (z_lsL G b (4 * i)) [] M2 (153 + (i + 1)) (14011 + 6 * (i + 1))) : z_J G Z z_dL Q 1471 (z_lsL G b (4 * i)) [] M (153 + i) (14011 + 6 * i) := by
  have hL := sc.2.2.2
  have hN : (i : Int) + 1 ≤ 600 := by omega
  have hk : 153 + i + 1 ≤ (z_R z_dL).cells ∧ 14011 + 6 * i + 6 ≤ (z_R z_dL).slots := ⟨by show _ ≤ 601024; omega, by show _ ≤ 7293034; omega⟩
  have hk0 : 153 + i ≤ (z_R z_dL).cells ∧ 14011 + 6 * i ≤ (z_R z_dL).slots := ⟨by have := hk.1; omega, by have := hk.2; omega⟩
  obtain ⟨M1, M2, y_k, y_b, hA, hB, ht, ho, hR2⟩ := z_st_setting (G := G) (z_y_rg xs (4 * i + 1)) hR hN
  refine z_aloadn dL_law_1471 rfl ?_
  refine z_aloadn dL_law_1472 rfl ?_
  refine z_iload dL_law_1473 rfl ?_
  refine z_iconst dL_law_1475 ?_
  refine z_iadd dL_law_1476 ?_
  refine z_sld sc (by omega) (by omega) dL_law_1477 ?_
  refine z_aloadn dL_law_1478 rfl ?_
  refine z_callL hA wmL_176 wt_L_setting wc_L_setting wn_L n_L_setting rfl rfl ⟨(Nat.le_of_ble_eq_true rfl), (Nat.le_of_ble_eq_true rfl)⟩ hk (Nat.le_of_ble_eq_true rfl) dL_law_1479 ?_
  refine z_istore_5 dL_law_1482 (Nat.le_of_ble_eq_true rfl) rfl ?_
  refine z_aloadn dL_law_1484 rfl ?_
  refine z_aloadn dL_law_1485 rfl ?_
  refine z_iload dL_law_1486 rfl ?_
  refine z_iconst dL_law_1488 ?_
  refine z_iadd dL_law_1489 ?_
  refine z_sld sc (by omega) (by omega) dL_law_1490 ?_
  refine qL_178 hB rfl ⟨(Nat.le_of_ble_eq_true rfl), (Nat.le_of_ble_eq_true rfl)⟩ hk (Nat.le_of_ble_eq_true rfl) dL_law_1491 ?_
  refine z_istore_6 dL_law_1494 (Nat.le_of_ble_eq_true rfl) rfl ?_
  refine z_aloadn dL_law_1496 rfl ?_
  refine qL_101 (tX7_thrown (G := G) (M := M2)) rfl ⟨(Nat.le_of_ble_eq_true rfl), (Nat.le_of_ble_eq_true rfl)⟩ hk (Nat.le_of_ble_eq_true rfl) dL_law_1497 ?_
  refine z_top ht ?_
  refine z_iload dL_law_1500 rfl ?_
  refine z_icmp_same (tgt := 1507) dL_law_1502 rfl ?_
  refine z_iload dL_law_1507 rfl ?_
  refine z_rng fun hr => ?_
  have rk : z_rg y_k := by rw [← ht]; exact hr 21 4 (by decide)
  refine z_if_ne (tgt := 1524) rk dL_law_1509 rfl (fun _ => ?_) (fun y_0 => ?_)
  · refine z_goto (tgt := 1798) dL_law_1524 rfl ?_
    exact z_unl5 (z_wide (by omega) (by omega) (next M2 hR2))
  · skip
    refine z_aloadn dL_law_1512 rfl ?_
    refine z_iconst dL_law_1513 ?_
    refine z_lald dL_law_1514 ?_
    refine z_iload dL_law_1515 rfl ?_
    refine z_iwr ?_
    refine z_i2l (z_iw_rg y_b) dL_law_1517 ?_
    refine z_lcmp (r := 0) (by rw [ho y_0]; exact z_lsame _) dL_law_1518 ?_
    refine z_if_eq (tgt := 1524) (by decide) dL_law_1519 rfl (fun _ => ?_) (fun y_m => absurd rfl y_m)
    refine z_goto (tgt := 1798) dL_law_1524 rfl ?_
    exact z_unl5 (z_wide (by omega) (by omega) (next M2 hR2))
set_option maxRecDepth 20000 in
theorem z_law_c24 {G : z_G} {Z : z_Z} {Q : State → Prop} {b L : Nat} {xs : Nat → Int32} {M : z_M} {i : Nat} (sc : z_Sc G Z b L xs) (hi : 4 * (i : Int) + 4 ≤ L) (hR : z_Rel M i) (next : ∀ M2, z_Rel M2 ((i : Int) + 1) → z_J G Z z_dL Q 1798 (z_lsL G b (4 * i)) [] M2 (153 + (i + 1)) (14011 + 6 * (i + 1))) : z_J G Z z_dL Q 1527 (z_lsL G b (4 * i)) [] M (153 + i) (14011 + 6 * i) := by
  have hL := sc.2.2.2
  have hN : (i : Int) + 1 ≤ 600 := by omega
  have hk : 153 + i + 1 ≤ (z_R z_dL).cells ∧ 14011 + 6 * i + 6 ≤ (z_R z_dL).slots := ⟨by show _ ≤ 601024; omega, by show _ ≤ 7293034; omega⟩
  have hk0 : 153 + i ≤ (z_R z_dL).cells ∧ 14011 + 6 * i ≤ (z_R z_dL).slots := ⟨by have := hk.1; omega, by have := hk.2; omega⟩
  obtain ⟨M1, M2, y_k, y_b, hA, hB, ht, ho, hR2⟩ := z_st_ifPaid (G := G) (z_y_rg xs (4 * i + 1)) (z_y_rg xs (4 * i + 2)) (z_y_rg xs (4 * i + 3)) hR hN
  refine z_aloadn dL_law_1527 rfl ?_
  refine z_aloadn dL_law_1528 rfl ?_
  refine z_iload dL_law_1529 rfl ?_
  refine z_iconst dL_law_1531 ?_
  refine z_iadd dL_law_1532 ?_
  refine z_sld sc (by omega) (by omega) dL_law_1533 ?_
  refine z_aloadn dL_law_1534 rfl ?_
  refine z_iload dL_law_1535 rfl ?_
  refine z_iconst dL_law_1537 ?_
  refine z_iadd dL_law_1538 ?_
  refine z_sld sc (by omega) (by omega) dL_law_1539 ?_
  refine z_aloadn dL_law_1540 rfl ?_
  refine z_iload dL_law_1541 rfl ?_
  refine z_iconst dL_law_1543 ?_
  refine z_iadd dL_law_1544 ?_
  refine z_sld sc (by omega) (by omega) dL_law_1545 ?_
  refine z_aloadn dL_law_1546 rfl ?_
  refine z_callL hA wmL_179 wt_L_ifPaid wc_L_ifPaid wn_L n_L_ifPaid rfl rfl ⟨(Nat.le_of_ble_eq_true rfl), (Nat.le_of_ble_eq_true rfl)⟩ hk (Nat.le_of_ble_eq_true rfl) dL_law_1547 ?_
  refine z_istore_5 dL_law_1550 (Nat.le_of_ble_eq_true rfl) rfl ?_
  refine z_aloadn dL_law_1552 rfl ?_
  refine z_aloadn dL_law_1553 rfl ?_
  refine z_iload dL_law_1554 rfl ?_
  refine z_iconst dL_law_1556 ?_
  refine z_iadd dL_law_1557 ?_
  refine z_sld sc (by omega) (by omega) dL_law_1558 ?_
  refine z_aloadn dL_law_1559 rfl ?_
  refine z_iload dL_law_1560 rfl ?_
  refine z_iconst dL_law_1562 ?_
  refine z_iadd dL_law_1563 ?_
  refine z_sld sc (by omega) (by omega) dL_law_1564 ?_
  refine z_aloadn dL_law_1565 rfl ?_
  refine z_iload dL_law_1566 rfl ?_
  refine z_iconst dL_law_1568 ?_
  refine z_iadd dL_law_1569 ?_
  refine z_sld sc (by omega) (by omega) dL_law_1570 ?_
  refine qL_181 hB rfl ⟨(Nat.le_of_ble_eq_true rfl), (Nat.le_of_ble_eq_true rfl)⟩ hk (Nat.le_of_ble_eq_true rfl) dL_law_1571 ?_
  refine z_istore_6 dL_law_1574 (Nat.le_of_ble_eq_true rfl) rfl ?_
  refine z_aloadn dL_law_1576 rfl ?_
  refine qL_101 (tX7_thrown (G := G) (M := M2)) rfl ⟨(Nat.le_of_ble_eq_true rfl), (Nat.le_of_ble_eq_true rfl)⟩ hk (Nat.le_of_ble_eq_true rfl) dL_law_1577 ?_
  refine z_top ht ?_
  refine z_iload dL_law_1580 rfl ?_
  refine z_icmp_same (tgt := 1587) dL_law_1582 rfl ?_
  refine z_iload dL_law_1587 rfl ?_
  refine z_rng fun hr => ?_
  have rk : z_rg y_k := by rw [← ht]; exact hr 21 4 (by decide)
  refine z_if_ne (tgt := 1604) rk dL_law_1589 rfl (fun _ => ?_) (fun y_0 => ?_)
  · refine z_goto (tgt := 1798) dL_law_1604 rfl ?_
    exact z_unl5 (z_wide (by omega) (by omega) (next M2 hR2))
  · skip
    refine z_aloadn dL_law_1592 rfl ?_
    refine z_iconst dL_law_1593 ?_
    refine z_lald dL_law_1594 ?_
    refine z_iload dL_law_1595 rfl ?_
    refine z_iwr ?_
    refine z_i2l (z_iw_rg y_b) dL_law_1597 ?_
    refine z_lcmp (r := 0) (by rw [ho y_0]; exact z_lsame _) dL_law_1598 ?_
    refine z_if_eq (tgt := 1604) (by decide) dL_law_1599 rfl (fun _ => ?_) (fun y_m => absurd rfl y_m)
    refine z_goto (tgt := 1798) dL_law_1604 rfl ?_
    exact z_unl5 (z_wide (by omega) (by omega) (next M2 hR2))
set_option maxRecDepth 20000 in
theorem z_law_c25 {G : z_G} {Z : z_Z} {Q : State → Prop} {b L : Nat} {xs : Nat → Int32} {M : z_M} {i : Nat} (sc : z_Sc G Z b L xs) (hi : 4 * (i : Int) + 4 ≤ L) (hR : z_Rel M i) (next : ∀ M2, z_Rel M2 ((i : Int) + 1) → z_J G Z z_dL Q 1798 (z_lsL G b (4 * i)) [] M2 (153 + (i + 1)) (14011 + 6 * (i + 1))) : z_J G Z z_dL Q 1607 (z_lsL G b (4 * i)) [] M (153 + i) (14011 + 6 * i) := by
  have hL := sc.2.2.2
  have hN : (i : Int) + 1 ≤ 600 := by omega
  have hk : 153 + i + 1 ≤ (z_R z_dL).cells ∧ 14011 + 6 * i + 6 ≤ (z_R z_dL).slots := ⟨by show _ ≤ 601024; omega, by show _ ≤ 7293034; omega⟩
  have hk0 : 153 + i ≤ (z_R z_dL).cells ∧ 14011 + 6 * i ≤ (z_R z_dL).slots := ⟨by have := hk.1; omega, by have := hk.2; omega⟩
  obtain ⟨M1, M2, y_k, y_b, hA, hB, ht, ho, hR2⟩ := z_st_fairest (G := G) (z_y_rg xs (4 * i + 1)) (z_y_rg xs (4 * i + 2)) hR hN
  refine z_aloadn dL_law_1607 rfl ?_
  refine z_aloadn dL_law_1608 rfl ?_
  refine z_iload dL_law_1609 rfl ?_
  refine z_iconst dL_law_1611 ?_
  refine z_iadd dL_law_1612 ?_
  refine z_sld sc (by omega) (by omega) dL_law_1613 ?_
  refine z_aloadn dL_law_1614 rfl ?_
  refine z_iload dL_law_1615 rfl ?_
  refine z_iconst dL_law_1617 ?_
  refine z_iadd dL_law_1618 ?_
  refine z_sld sc (by omega) (by omega) dL_law_1619 ?_
  refine z_aloadn dL_law_1620 rfl ?_
  refine z_callL hA wmL_182 wt_L_fairest wc_L_fairest wn_L n_L_fairest rfl rfl ⟨(Nat.le_of_ble_eq_true rfl), (Nat.le_of_ble_eq_true rfl)⟩ hk (Nat.le_of_ble_eq_true rfl) dL_law_1621 ?_
  refine z_istore_5 dL_law_1624 (Nat.le_of_ble_eq_true rfl) rfl ?_
  refine z_aloadn dL_law_1626 rfl ?_
  refine z_aloadn dL_law_1627 rfl ?_
  refine z_iload dL_law_1628 rfl ?_
  refine z_iconst dL_law_1630 ?_
  refine z_iadd dL_law_1631 ?_
  refine z_sld sc (by omega) (by omega) dL_law_1632 ?_
  refine z_aloadn dL_law_1633 rfl ?_
  refine z_iload dL_law_1634 rfl ?_
  refine z_iconst dL_law_1636 ?_
  refine z_iadd dL_law_1637 ?_
  refine z_sld sc (by omega) (by omega) dL_law_1638 ?_
  refine qL_184 hB rfl ⟨(Nat.le_of_ble_eq_true rfl), (Nat.le_of_ble_eq_true rfl)⟩ hk (Nat.le_of_ble_eq_true rfl) dL_law_1639 ?_
  refine z_istore_6 dL_law_1642 (Nat.le_of_ble_eq_true rfl) rfl ?_
  refine z_aloadn dL_law_1644 rfl ?_
  refine qL_101 (tX7_thrown (G := G) (M := M2)) rfl ⟨(Nat.le_of_ble_eq_true rfl), (Nat.le_of_ble_eq_true rfl)⟩ hk (Nat.le_of_ble_eq_true rfl) dL_law_1645 ?_
  refine z_top ht ?_
  refine z_iload dL_law_1648 rfl ?_
  refine z_icmp_same (tgt := 1655) dL_law_1650 rfl ?_
  refine z_iload dL_law_1655 rfl ?_
  refine z_rng fun hr => ?_
  have rk : z_rg y_k := by rw [← ht]; exact hr 21 4 (by decide)
  refine z_if_ne (tgt := 1672) rk dL_law_1657 rfl (fun _ => ?_) (fun y_0 => ?_)
  · refine z_goto (tgt := 1798) dL_law_1672 rfl ?_
    exact z_unl5 (z_wide (by omega) (by omega) (next M2 hR2))
  · skip
    refine z_aloadn dL_law_1660 rfl ?_
    refine z_iconst dL_law_1661 ?_
    refine z_lald dL_law_1662 ?_
    refine z_iload dL_law_1663 rfl ?_
    refine z_iwr ?_
    refine z_i2l (z_iw_rg y_b) dL_law_1665 ?_
    refine z_lcmp (r := 0) (by rw [ho y_0]; exact z_lsame _) dL_law_1666 ?_
    refine z_if_eq (tgt := 1672) (by decide) dL_law_1667 rfl (fun _ => ?_) (fun y_m => absurd rfl y_m)
    refine z_goto (tgt := 1798) dL_law_1672 rfl ?_
    exact z_unl5 (z_wide (by omega) (by omega) (next M2 hR2))
set_option maxRecDepth 20000 in
theorem z_law_c26 {G : z_G} {Z : z_Z} {Q : State → Prop} {b L : Nat} {xs : Nat → Int32} {M : z_M} {i : Nat} (sc : z_Sc G Z b L xs) (hi : 4 * (i : Int) + 4 ≤ L) (hR : z_Rel M i) (next : ∀ M2, z_Rel M2 ((i : Int) + 1) → z_J G Z z_dL Q 1798 (z_lsL G b (4 * i)) [] M2 (153 + (i + 1)) (14011 + 6 * (i + 1))) : z_J G Z z_dL Q 1675 (z_lsL G b (4 * i)) [] M (153 + i) (14011 + 6 * i) := by
  have hL := sc.2.2.2
  have hN : (i : Int) + 1 ≤ 600 := by omega
  have hk : 153 + i + 1 ≤ (z_R z_dL).cells ∧ 14011 + 6 * i + 6 ≤ (z_R z_dL).slots := ⟨by show _ ≤ 601024; omega, by show _ ≤ 7293034; omega⟩
  have hk0 : 153 + i ≤ (z_R z_dL).cells ∧ 14011 + 6 * i ≤ (z_R z_dL).slots := ⟨by have := hk.1; omega, by have := hk.2; omega⟩
  obtain ⟨M1, M2, y_k, y_b, hA, hB, ht, ho, hR2⟩ := z_st_bestPiece (G := G) (z_y_rg xs (4 * i + 1)) (z_y_rg xs (4 * i + 2)) hR hN
  refine z_aloadn dL_law_1675 rfl ?_
  refine z_aloadn dL_law_1676 rfl ?_
  refine z_iload dL_law_1677 rfl ?_
  refine z_iconst dL_law_1679 ?_
  refine z_iadd dL_law_1680 ?_
  refine z_sld sc (by omega) (by omega) dL_law_1681 ?_
  refine z_aloadn dL_law_1682 rfl ?_
  refine z_iload dL_law_1683 rfl ?_
  refine z_iconst dL_law_1685 ?_
  refine z_iadd dL_law_1686 ?_
  refine z_sld sc (by omega) (by omega) dL_law_1687 ?_
  refine z_aloadn dL_law_1688 rfl ?_
  refine z_callL hA wmL_185 wt_L_bestPiece wc_L_bestPiece wn_L n_L_bestPiece rfl rfl ⟨(Nat.le_of_ble_eq_true rfl), (Nat.le_of_ble_eq_true rfl)⟩ hk (Nat.le_of_ble_eq_true rfl) dL_law_1689 ?_
  refine z_istore_5 dL_law_1692 (Nat.le_of_ble_eq_true rfl) rfl ?_
  refine z_aloadn dL_law_1694 rfl ?_
  refine z_aloadn dL_law_1695 rfl ?_
  refine z_iload dL_law_1696 rfl ?_
  refine z_iconst dL_law_1698 ?_
  refine z_iadd dL_law_1699 ?_
  refine z_sld sc (by omega) (by omega) dL_law_1700 ?_
  refine z_aloadn dL_law_1701 rfl ?_
  refine z_iload dL_law_1702 rfl ?_
  refine z_iconst dL_law_1704 ?_
  refine z_iadd dL_law_1705 ?_
  refine z_sld sc (by omega) (by omega) dL_law_1706 ?_
  refine qL_187 hB rfl ⟨(Nat.le_of_ble_eq_true rfl), (Nat.le_of_ble_eq_true rfl)⟩ hk (Nat.le_of_ble_eq_true rfl) dL_law_1707 ?_
  refine z_istore_6 dL_law_1710 (Nat.le_of_ble_eq_true rfl) rfl ?_
  refine z_aloadn dL_law_1712 rfl ?_
  refine qL_101 (tX7_thrown (G := G) (M := M2)) rfl ⟨(Nat.le_of_ble_eq_true rfl), (Nat.le_of_ble_eq_true rfl)⟩ hk (Nat.le_of_ble_eq_true rfl) dL_law_1713 ?_
  refine z_top ht ?_
  refine z_iload dL_law_1716 rfl ?_
  refine z_icmp_same (tgt := 1723) dL_law_1718 rfl ?_
  refine z_iload dL_law_1723 rfl ?_
  refine z_rng fun hr => ?_
  have rk : z_rg y_k := by rw [← ht]; exact hr 21 4 (by decide)
  refine z_if_ne (tgt := 1740) rk dL_law_1725 rfl (fun _ => ?_) (fun y_0 => ?_)
  · refine z_goto (tgt := 1798) dL_law_1740 rfl ?_
    exact z_unl5 (z_wide (by omega) (by omega) (next M2 hR2))
  · skip
    refine z_aloadn dL_law_1728 rfl ?_
    refine z_iconst dL_law_1729 ?_
    refine z_lald dL_law_1730 ?_
    refine z_iload dL_law_1731 rfl ?_
    refine z_iwr ?_
    refine z_i2l (z_iw_rg y_b) dL_law_1733 ?_
    refine z_lcmp (r := 0) (by rw [ho y_0]; exact z_lsame _) dL_law_1734 ?_
    refine z_if_eq (tgt := 1740) (by decide) dL_law_1735 rfl (fun _ => ?_) (fun y_m => absurd rfl y_m)
    refine z_goto (tgt := 1798) dL_law_1740 rfl ?_
    exact z_unl5 (z_wide (by omega) (by omega) (next M2 hR2))
set_option maxRecDepth 20000 in
theorem z_law_c27 {G : z_G} {Z : z_Z} {Q : State → Prop} {b L : Nat} {xs : Nat → Int32} {M : z_M} {i : Nat} (sc : z_Sc G Z b L xs) (hi : 4 * (i : Int) + 4 ≤ L) (hR : z_Rel M i) (next : ∀ M2, z_Rel M2 ((i : Int) + 1) → z_J G Z z_dL Q 1798 (z_lsL G b (4 * i)) [] M2 (153 + (i + 1)) (14011 + 6 * (i + 1))) : z_J G Z z_dL Q 1743 (z_lsL G b (4 * i)) [] M (153 + i) (14011 + 6 * i) := by
  have hL := sc.2.2.2
  have hN : (i : Int) + 1 ≤ 600 := by omega
  have hk : 153 + i + 1 ≤ (z_R z_dL).cells ∧ 14011 + 6 * i + 6 ≤ (z_R z_dL).slots := ⟨by show _ ≤ 601024; omega, by show _ ≤ 7293034; omega⟩
  have hk0 : 153 + i ≤ (z_R z_dL).cells ∧ 14011 + 6 * i ≤ (z_R z_dL).slots := ⟨by have := hk.1; omega, by have := hk.2; omega⟩
  obtain ⟨M2, y_b, hA, hB, -, hR2⟩ := z_st_spread (G := G) hR hN
  refine z_aloadn dL_law_1743 rfl ?_
  refine qL_188 hA rfl ⟨(Nat.le_of_ble_eq_true rfl), (Nat.le_of_ble_eq_true rfl)⟩ hk0 (Nat.le_of_ble_eq_true rfl) dL_law_1744 ?_
  refine z_dstore_5 dL_law_1747 (Nat.le_of_ble_eq_true rfl) rfl ?_
  refine z_aloadn dL_law_1749 rfl ?_
  refine qL_192 hB rfl ⟨(Nat.le_of_ble_eq_true rfl), (Nat.le_of_ble_eq_true rfl)⟩ hk0 (Nat.le_of_ble_eq_true rfl) dL_law_1750 ?_
  refine z_dstore_7 dL_law_1753 (Nat.le_of_ble_eq_true rfl) rfl ?_
  refine z_dload dL_law_1755 rfl ?_
  refine z_dload dL_law_1757 rfl ?_
  refine z_dcmp_any dL_law_1759 ?_
  obtain ⟨r, y_r⟩ : ∃ r, (Op.cmpValue (FP.dcmp y_b y_b) .l).toInt = r := ⟨_, rfl⟩
  have rr : z_rg r := by rw [← y_r]; exact ⟨Int32.le_toInt _, by have := Int32.toInt_lt (Op.cmpValue (FP.dcmp y_b y_b) .l); omega⟩
  rw [y_r]
  refine z_if_eq (tgt := 1781) rr dL_law_1760 rfl (fun _ => ?_) (fun y_n => ?_)
  · refine z_goto (tgt := 1798) dL_law_1781 rfl ?_
    exact z_unl5 (z_wide (by omega) (by omega) (next M2 hR2))
  · skip
    refine z_dload dL_law_1763 rfl ?_
    refine z_dload dL_law_1765 rfl ?_
    refine z_dcmp_any dL_law_1767 ?_
    rw [y_r]
    refine z_if_eq (tgt := 1779) rr dL_law_1768 rfl (fun y_m => absurd y_m y_n) (fun _ => ?_)
    refine z_dload dL_law_1771 rfl ?_
    refine z_dload dL_law_1773 rfl ?_
    refine z_dcmp_any dL_law_1775 ?_
    rw [y_r]
    refine z_if_ne (tgt := 1781) rr dL_law_1776 rfl (fun _ => ?_) (fun y_m => absurd y_m y_n)
    refine z_goto (tgt := 1798) dL_law_1781 rfl ?_
    exact z_unl5 (z_wide (by omega) (by omega) (next M2 hR2))
set_option maxRecDepth 20000 in
theorem z_law_c28 {G : z_G} {Z : z_Z} {Q : State → Prop} {b L : Nat} {xs : Nat → Int32} {M : z_M} {i : Nat} (sc : z_Sc G Z b L xs) (hi : 4 * (i : Int) + 4 ≤ L) (hR : z_Rel M i) (next : ∀ M2, z_Rel M2 ((i : Int) + 1) → z_J G Z z_dL Q 1798 (z_lsL G b (4 * i)) [] M2 (153 + (i + 1)) (14011 + 6 * (i + 1))) : z_J G Z z_dL Q 1784 (z_lsL G b (4 * i)) [] M (153 + i) (14011 + 6 * i) := by
  have hL := sc.2.2.2
  have hN : (i : Int) + 1 ≤ 600 := by omega
  have hk : 153 + i + 1 ≤ (z_R z_dL).cells ∧ 14011 + 6 * i + 6 ≤ (z_R z_dL).slots := ⟨by show _ ≤ 601024; omega, by show _ ≤ 7293034; omega⟩
  have hk0 : 153 + i ≤ (z_R z_dL).cells ∧ 14011 + 6 * i ≤ (z_R z_dL).slots := ⟨by have := hk.1; omega, by have := hk.2; omega⟩
  obtain ⟨M1, M2, y_b, hA, hB, hR2⟩ := z_st_digest (G := G) hR hN
  refine z_aloadn dL_law_1784 rfl ?_
  refine qL_193 hA rfl ⟨(Nat.le_of_ble_eq_true rfl), (Nat.le_of_ble_eq_true rfl)⟩ hk0 (Nat.le_of_ble_eq_true rfl) dL_law_1785 ?_
  refine z_aloadn dL_law_1788 rfl ?_
  refine qL_197 hB rfl ⟨(Nat.le_of_ble_eq_true rfl), (Nat.le_of_ble_eq_true rfl)⟩ hk0 (Nat.le_of_ble_eq_true rfl) dL_law_1789 ?_
  refine z_lcmp (r := 0) (by exact z_lsame _) dL_law_1792 ?_
  refine z_if_eq (tgt := 1798) (by decide) dL_law_1793 rfl (fun _ => ?_) (fun y_m => absurd rfl y_m)
  exact z_unl5 (z_wide (by omega) (by omega) (next M2 hR2))
