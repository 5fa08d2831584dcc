theorem wk_X6_303 : Cond.constantLong RX6 303 (Int64.ofInt (2281)) ∈ z_W := z_wi 466 (by decide +kernel) (by decide +kernel)
theorem wk_X6_381 : Cond.constantLong RX6 381 (Int64.ofInt (31)) ∈ z_W := z_wi 553 (by decide +kernel) (by decide +kernel)
theorem wk_X6_383 : Cond.constantLong RX6 383 (Int64.ofInt (1023)) ∈ z_W := z_wi 719 (by decide +kernel) (by decide +kernel)
theorem wk_X6_385 : Cond.constantDouble RX6 385 (4611686018427387904 : UInt64) ∈ z_W := z_wi 720 (by decide +kernel) (by decide +kernel)
theorem wk_X6_387 : Cond.constantDouble RX6 387 (4841369599423283200 : UInt64) ∈ z_W := z_wi 721 (by decide +kernel) (by decide +kernel)
theorem wk_X6_75 : Cond.constant RX6 75 (Int32.ofInt (100000)) ∈ z_W := z_wi 755 (by decide +kernel) (by decide +kernel)
theorem wk_X7_69 : Cond.constant RX7 69 (Int32.ofInt (100000)) ∈ z_W := z_wi 1069 (by decide +kernel) (by decide +kernel)
theorem wk_X7_256 : Cond.constantLong RX7 256 (Int64.ofInt (2281)) ∈ z_W := z_wi 1377 (by decide +kernel) (by decide +kernel)
theorem wk_X7_246 : Cond.constantLong RX7 246 (Int64.ofInt (31)) ∈ z_W := z_wi 1382 (by decide +kernel) (by decide +kernel)
theorem wk_Jxe99ae_137 : Cond.constantLong RJxe99ae 137 (Int64.ofInt (9221120237041090560)) ∈ z_W := z_wi 1396 (by decide +kernel) (by decide +kernel)
theorem xk_X6_58 : Cond.classLink RX6 58 "java/lang/IllegalStateException" ∈ z_W := z_wi 730 (by decide +kernel) (by decide +kernel)
theorem xf_X6_58 : Bundle.fit "java/lang/IllegalStateException" = true := by decide +kernel
theorem xi_X6_58 : Cond.initialized "java/lang/IllegalStateException" ∈ z_W := z_wi 96 (by decide +kernel) (by decide +kernel)
theorem xk_X6_80 : Cond.classLink RX6 80 "java/lang/IllegalArgumentException" ∈ z_W := z_wi 474 (by decide +kernel) (by decide +kernel)
theorem xf_X6_80 : Bundle.fit "java/lang/IllegalArgumentException" = true := by decide +kernel
theorem xi_X6_80 : Cond.initialized "java/lang/IllegalArgumentException" ∈ z_W := z_wi 100 (by decide +kernel) (by decide +kernel)
theorem xk_X6_327 : Cond.classLink RX6 327 "java/lang/IndexOutOfBoundsException" ∈ z_W := z_wi 615 (by decide +kernel) (by decide +kernel)
theorem xf_X6_327 : Bundle.fit "java/lang/IndexOutOfBoundsException" = true := by decide +kernel
theorem xi_X6_327 : Cond.initialized "java/lang/IndexOutOfBoundsException" ∈ z_W := z_wi 99 (by decide +kernel) (by decide +kernel)
theorem xs_X6_60 : (RX6, 60, "there are 12 pens") ∈ z_S := by decide +kernel
theorem xs_X6_82 : (RX6, 82, "the pen owns the byline") ∈ z_S := by decide +kernel
theorem xs_X6_95 : (RX6, 95, "the pen owns its byline") ∈ z_S := by decide +kernel
theorem xs_X6_137 : (RX6, 137, "there are 20 pieces") ∈ z_S := by decide +kernel
theorem xs_X6_153 : (RX6, 153, "the piece has 9 drafts") ∈ z_S := by decide +kernel
theorem xs_X6_178 : (RX6, 178, "the buffer is no list of parts of pens that there are") ∈ z_S := by decide +kernel
theorem xs_X6_180 : (RX6, 180, "the piece is killed") ∈ z_S := by decide +kernel
theorem xs_X6_195 : (RX6, 195, "the stage of the piece is not 1 or 2") ∈ z_S := by decide +kernel
theorem xs_X6_233 : (RX6, 233, "the pen cannot dispute the parts") ∈ z_S := by decide +kernel
theorem xs_X6_242 : (RX6, 242, "the buffer has 60 characters") ∈ z_S := by decide +kernel
theorem xs_X6_253 : (RX6, 253, "there is no saved state") ∈ z_S := by decide +kernel
theorem xs_X6_329 : (RX6, 329, "no such pen or byline") ∈ z_S := by decide +kernel
theorem xs_X6_332 : (RX6, 332, "no such piece") ∈ z_S := by decide +kernel
theorem xs_X6_334 : (RX6, 334, "no such setting") ∈ z_S := by decide +kernel
theorem xs_X6_336 : (RX6, 336, "a value is out of range") ∈ z_S := by decide +kernel
theorem xs_X6_338 : (RX6, 338, "there is not enough money") ∈ z_S := by decide +kernel
theorem xs_X6_340 : (RX6, 340, "the piece is accepted or killed") ∈ z_S := by decide +kernel
theorem xs_X6_342 : (RX6, 342, "the piece is not accepted") ∈ z_S := by decide +kernel
theorem xa_X6_58_62 : ∀ w ∈ vx_atS RX6 62 "java/lang/IllegalStateException" ["java/lang/RuntimeException", "java/lang/Exception"], w ∈ z_W := by decide +kernel
theorem xg_X6_58_62 : ∀ w ∈ Cond.classLink RX6 58 "java/lang/IllegalStateException" :: Cond.initialized "java/lang/IllegalStateException" :: vx_atS RX6 62 "java/lang/IllegalStateException" ["java/lang/RuntimeException", "java/lang/Exception"], vx_ot w = true := by decide +kernel
theorem xa_X6_80_84 : ∀ w ∈ vx_atS RX6 84 "java/lang/IllegalArgumentException" ["java/lang/RuntimeException", "java/lang/Exception"], w ∈ z_W := by decide +kernel
theorem xg_X6_80_84 : ∀ w ∈ Cond.classLink RX6 80 "java/lang/IllegalArgumentException" :: Cond.initialized "java/lang/IllegalArgumentException" :: vx_atS RX6 84 "java/lang/IllegalArgumentException" ["java/lang/RuntimeException", "java/lang/Exception"], vx_ot w = true := by decide +kernel
theorem xa_X6_327_331 : ∀ w ∈ vx_atS RX6 331 "java/lang/IndexOutOfBoundsException" ["java/lang/RuntimeException", "java/lang/Exception"], w ∈ z_W := by decide +kernel
theorem xg_X6_327_331 : ∀ w ∈ Cond.classLink RX6 327 "java/lang/IndexOutOfBoundsException" :: Cond.initialized "java/lang/IndexOutOfBoundsException" :: vx_atS RX6 331 "java/lang/IndexOutOfBoundsException" ["java/lang/RuntimeException", "java/lang/Exception"], vx_ot w = true := by decide +kernel
