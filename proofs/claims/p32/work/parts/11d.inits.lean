/-! ===== the constructors ===== -/
theorem wk_oi : Cond.instanceMethod objectInit ∈ z_W := z_wi 51 (by decide +kernel) (by decide +kernel)
theorem wk_oc : Cond.code objectInit ⟨#[0xb1]⟩ 1 none ∈ z_W := z_wi 52 (by decide +kernel) (by decide +kernel)
theorem wlkL_23 : Cond.classLink RL 23 RX6 ∈ z_W := z_wi 45 (by decide +kernel) (by decide +kernel)
theorem wlkX6_9 : Cond.classLink RX6 9 RX5 ∈ z_W := z_wi 53 (by decide +kernel) (by decide +kernel)
theorem wlkX6_15 : Cond.classLink RX6 15 RX2 ∈ z_W := z_wi 55 (by decide +kernel) (by decide +kernel)
theorem wlkX6_22 : Cond.classLink RX6 22 RX0 ∈ z_W := z_wi 87 (by decide +kernel) (by decide +kernel)
theorem wlkX6_29 : Cond.classLink RX6 29 RX1 ∈ z_W := z_wi 117 (by decide +kernel) (by decide +kernel)
theorem wlkX5_9 : Cond.classLink RX5 9 RX3 ∈ z_W := z_wi 148 (by decide +kernel) (by decide +kernel)
theorem wlkX5_18 : Cond.classLink RX5 18 RX4 ∈ z_W := z_wi 184 (by decide +kernel) (by decide +kernel)
theorem wlkX5_30 : Cond.classLink RX5 30 "[I" ∈ z_W := z_wi 241 (by decide +kernel) (by decide +kernel)
theorem wq_X0 : Cond.instantiable RX0 6 ∈ z_W := z_wi 88 (by decide +kernel) (by decide +kernel)
theorem wi_X0_init : Cond.instanceMethod yX0_init ∈ z_W := z_wi 90 (by decide +kernel) (by decide +kernel)
theorem wc_X0_init : Cond.code yX0_init cX0_init 1 none ∈ z_W := z_wi 91 (by decide +kernel) (by decide +kernel)
theorem n_X0_init : z_name yX0_init 0 := ⟨⟨by decide +kernel, by decide +kernel⟩, by decide +kernel⟩
theorem wq_X1 : Cond.instantiable RX1 6 ∈ z_W := z_wi 118 (by decide +kernel) (by decide +kernel)
theorem wi_X1_init : Cond.instanceMethod yX1_init ∈ z_W := z_wi 120 (by decide +kernel) (by decide +kernel)
theorem wc_X1_init : Cond.code yX1_init cX1_init 1 none ∈ z_W := z_wi 121 (by decide +kernel) (by decide +kernel)
theorem n_X1_init : z_name yX1_init 0 := ⟨⟨by decide +kernel, by decide +kernel⟩, by decide +kernel⟩
theorem wq_X2 : Cond.instantiable RX2 7 ∈ z_W := z_wi 56 (by decide +kernel) (by decide +kernel)
theorem wi_X2_init : Cond.instanceMethod yX2_init ∈ z_W := z_wi 58 (by decide +kernel) (by decide +kernel)
theorem wc_X2_init : Cond.code yX2_init cX2_init 1 none ∈ z_W := z_wi 59 (by decide +kernel) (by decide +kernel)
theorem n_X2_init : z_name yX2_init 0 := ⟨⟨by decide +kernel, by decide +kernel⟩, by decide +kernel⟩
theorem wq_X3 : Cond.instantiable RX3 7 ∈ z_W := z_wi 149 (by decide +kernel) (by decide +kernel)
theorem wi_X3_init : Cond.instanceMethod yX3_init ∈ z_W := z_wi 151 (by decide +kernel) (by decide +kernel)
theorem wc_X3_init : Cond.code yX3_init cX3_init 1 none ∈ z_W := z_wi 152 (by decide +kernel) (by decide +kernel)
theorem n_X3_init : z_name yX3_init 0 := ⟨⟨by decide +kernel, by decide +kernel⟩, by decide +kernel⟩
theorem wq_X4 : Cond.instantiable RX4 9 ∈ z_W := z_wi 185 (by decide +kernel) (by decide +kernel)
theorem wi_X4_init : Cond.instanceMethod yX4_init ∈ z_W := z_wi 187 (by decide +kernel) (by decide +kernel)
theorem wc_X4_init : Cond.code yX4_init cX4_init 1 none ∈ z_W := z_wi 188 (by decide +kernel) (by decide +kernel)
theorem n_X4_init : z_name yX4_init 0 := ⟨⟨by decide +kernel, by decide +kernel⟩, by decide +kernel⟩
theorem wq_X5 : Cond.instantiable RX5 8 ∈ z_W := z_wi 143 (by decide +kernel) (by decide +kernel)
theorem wi_X5_init : Cond.instanceMethod yX5_init ∈ z_W := z_wi 145 (by decide +kernel) (by decide +kernel)
theorem wc_X5_init : Cond.code yX5_init cX5_init 1 none ∈ z_W := z_wi 146 (by decide +kernel) (by decide +kernel)
theorem n_X5_init : z_name yX5_init 0 := ⟨⟨by decide +kernel, by decide +kernel⟩, by decide +kernel⟩
theorem wq_X6 : Cond.instantiable RX6 9 ∈ z_W := z_wi 46 (by decide +kernel) (by decide +kernel)
theorem wi_X6_init : Cond.instanceMethod yX6_init ∈ z_W := z_wi 48 (by decide +kernel) (by decide +kernel)
theorem wc_X6_init : Cond.code yX6_init cX6_init 2 none ∈ z_W := z_wi 49 (by decide +kernel) (by decide +kernel)
theorem n_X6_init : z_name yX6_init 0 := ⟨⟨by decide +kernel, by decide +kernel⟩, by decide +kernel⟩
theorem wmL_148 : Cond.methodLink RL 148 yX6_init ∈ z_W := z_wi 47 (by decide +kernel) (by decide +kernel)
theorem woX0_3 : Cond.methodLink RX0 3 objectInit ∈ z_W := z_wi 92 (by decide +kernel) (by decide +kernel)
theorem woX1_3 : Cond.methodLink RX1 3 objectInit ∈ z_W := z_wi 122 (by decide +kernel) (by decide +kernel)
theorem woX2_3 : Cond.methodLink RX2 3 objectInit ∈ z_W := z_wi 60 (by decide +kernel) (by decide +kernel)
theorem woX3_3 : Cond.methodLink RX3 3 objectInit ∈ z_W := z_wi 153 (by decide +kernel) (by decide +kernel)
theorem woX4_3 : Cond.methodLink RX4 3 objectInit ∈ z_W := z_wi 189 (by decide +kernel) (by decide +kernel)
theorem woX5_3 : Cond.methodLink RX5 3 objectInit ∈ z_W := z_wi 147 (by decide +kernel) (by decide +kernel)
theorem wmX5_11 : Cond.methodLinkNest RX5 11 yX3_init "PenGuild" ∈ z_W := z_wi 150 (by decide +kernel) (by decide +kernel)
theorem wmX5_20 : Cond.methodLinkNest RX5 20 yX4_init "PenGuild" ∈ z_W := z_wi 186 (by decide +kernel) (by decide +kernel)
theorem woX6_1 : Cond.methodLink RX6 1 objectInit ∈ z_W := z_wi 50 (by decide +kernel) (by decide +kernel)
theorem wmX6_17 : Cond.methodLinkNest RX6 17 yX2_init "PenGuild" ∈ z_W := z_wi 57 (by decide +kernel) (by decide +kernel)
theorem wmX6_24 : Cond.methodLinkNest RX6 24 yX0_init "PenGuild" ∈ z_W := z_wi 89 (by decide +kernel) (by decide +kernel)
theorem wmX6_31 : Cond.methodLinkNest RX6 31 yX1_init "PenGuild" ∈ z_W := z_wi 119 (by decide +kernel) (by decide +kernel)
theorem wmX6_43 : Cond.methodLinkNest RX6 43 yX5_init "PenGuild" ∈ z_W := z_wi 144 (by decide +kernel) (by decide +kernel)
theorem wcl_l : Cond.methodLink RX5 29 ⟨"[I", "clone", "()Ljava/lang/Object;"⟩ ∈ z_W := z_wi 235 (by decide +kernel) (by decide +kernel)
theorem wcl_s : Cond.sameMethod "[I" "java/lang/Object" "clone" "()Ljava/lang/Object;" ∈ z_W := z_wi 236 (by decide +kernel) (by decide +kernel)
theorem wcl_n : Cond.native ⟨"java/lang/Object", "clone", "()Ljava/lang/Object;"⟩ ∈ z_W := z_wi 237 (by decide +kernel) (by decide +kernel)
theorem wcl_i : Cond.instanceMethod ⟨"java/lang/Object", "clone", "()Ljava/lang/Object;"⟩ ∈ z_W := z_wi 238 (by decide +kernel) (by decide +kernel)
theorem wcl_e : Cond.selects "[I" ⟨"[I", "clone", "()Ljava/lang/Object;"⟩ ⟨"java/lang/Object", "clone", "()Ljava/lang/Object;"⟩ ∈ z_W := z_wi 239 (by decide +kernel) (by decide +kernel)
theorem wcl_c : Cond.castable "[I" "java/lang/Cloneable" ∈ z_W := z_wi 240 (by decide +kernel) (by decide +kernel)
theorem z_kL {G : z_G} {Z : z_Z} {d : z_Md} {Q : State → Prop} {pc : Nat} {ls : List (Option Value)} {st : List Value} {a k n : Nat} {L L2 : List z_CC} (e : L = L2) (kk : z_JK G Z d Q pc ls st a L2 k n) : z_JK G Z d Q pc ls st a L k n := e ▸ kk
theorem z_dfX0 : ∀ j, j < 6 → defaultValue (tyX0 j) = ([z_I 0, z_I 0, z_I 0, z_I 0, .null, .null] : List Value).getD j .null := fun j hj => by
  rcases (show j = 0 ∨ j = 1 ∨ j = 2 ∨ j = 3 ∨ j = 4 ∨ j = 5 by omega) with rfl | rfl | rfl | rfl | rfl | rfl <;> rfl
theorem tX0_init {G : z_G} {a : Nat} : z_ConK G yX0_init cX0_init 1 1 20 a (.inl (0, [z_I 0, z_I 0, z_I 0, z_I 0, .null, .null])) [.inl (0, [z_I 0, z_I 0, z_I 0, z_I 0, .ref (a + 1), .ref (a + 2)]), .inr (0, 12, fun _ => z_I 0), .inr (0, 12, fun _ => z_I 0)] 2 24 := by
  refine z_conK (ls := [some (.ref (a + 0))]) (by decide +kernel) rfl (Nat.le_of_ble_eq_true rfl) rfl ?_
  intro Z hin
  refine z_kaloadn dX0_init_0 rfl ?_
  refine z_kobj woX0_3 wk_oi wk_oc (Nat.le_of_ble_eq_true rfl) (Nat.le_of_ble_eq_true rfl) dX0_init_1 ?_
  refine z_kaloadn dX0_init_4 rfl ?_
  refine z_kbipush dX0_init_5 (by decide) ?_
  refine z_knewI (N := 12) wk_aI (Nat.le_of_ble_eq_true rfl) ⟨(Nat.le_of_ble_eq_true rfl), (Nat.le_of_ble_eq_true rfl)⟩ dX0_init_7 ?_
  refine z_kL (L2 := [.inl (0, [z_I 0, z_I 0, z_I 0, z_I 0, .null, .null]), .inr (0, 12, fun _ => z_I 0)]) rfl ?_
  refine z_kputF hin (C := RX0) (T := TX0) (N := 6) (ci := 0) (kf := 4) (i := 0) rfl uX0 tyX0 tyX0_ok nmX0 wfX0_9 rfl rfl rfl (Nat.le_of_ble_eq_true rfl) rfl rfl rfl rfl dX0_init_9 ?_
  refine z_kL (L2 := [.inl (0, [z_I 0, z_I 0, z_I 0, z_I 0, .ref (a + 1), .null]), .inr (0, 12, fun _ => z_I 0)]) rfl ?_
  refine z_kaloadn dX0_init_12 rfl ?_
  refine z_kbipush dX0_init_13 (by decide) ?_
  refine z_knewI (N := 12) wk_aI (Nat.le_of_ble_eq_true rfl) ⟨(Nat.le_of_ble_eq_true rfl), (Nat.le_of_ble_eq_true rfl)⟩ dX0_init_15 ?_
  refine z_kL (L2 := [.inl (0, [z_I 0, z_I 0, z_I 0, z_I 0, .ref (a + 1), .null]), .inr (0, 12, fun _ => z_I 0), .inr (0, 12, fun _ => z_I 0)]) rfl ?_
  refine z_kputF hin (C := RX0) (T := TX0) (N := 6) (ci := 0) (kf := 5) (i := 0) rfl uX0 tyX0 tyX0_ok nmX0 wfX0_15 rfl rfl rfl (Nat.le_of_ble_eq_true rfl) rfl rfl rfl rfl dX0_init_17 ?_
  refine z_kL (L2 := [.inl (0, [z_I 0, z_I 0, z_I 0, z_I 0, .ref (a + 1), .ref (a + 2)]), .inr (0, 12, fun _ => z_I 0), .inr (0, 12, fun _ => z_I 0)]) rfl ?_
  exact z_kret dX0_init_20
theorem z_dfX1 : ∀ j, j < 6 → defaultValue (tyX1 j) = ([.null, .null, .null, .null, z_I 0, z_I 0] : List Value).getD j .null := fun j hj => by
  rcases (show j = 0 ∨ j = 1 ∨ j = 2 ∨ j = 3 ∨ j = 4 ∨ j = 5 by omega) with rfl | rfl | rfl | rfl | rfl | rfl <;> rfl
theorem tX1_init {G : z_G} {a : Nat} : z_ConK G yX1_init cX1_init 1 1 20 a (.inl (1, [.null, .null, .null, .null, z_I 0, z_I 0])) [.inl (1, [.ref (a + 1), .ref (a + 2), .ref (a + 3), .ref (a + 4), z_I 0, z_I 0]), .inr (0, 12, fun _ => z_I 0), .inr (0, 4, fun _ => z_I 0), .inr (0, 4, fun _ => z_I 0), .inr (0, 4, fun _ => z_I 0)] 4 24 := by
  refine z_conK (ls := [some (.ref (a + 0))]) (by decide +kernel) rfl (Nat.le_of_ble_eq_true rfl) rfl ?_
  intro Z hin
  refine z_kaloadn dX1_init_0 rfl ?_
  refine z_kobj woX1_3 wk_oi wk_oc (Nat.le_of_ble_eq_true rfl) (Nat.le_of_ble_eq_true rfl) dX1_init_1 ?_
  refine z_kaloadn dX1_init_4 rfl ?_
  refine z_kbipush dX1_init_5 (by decide) ?_
  refine z_knewI (N := 12) wk_aI (Nat.le_of_ble_eq_true rfl) ⟨(Nat.le_of_ble_eq_true rfl), (Nat.le_of_ble_eq_true rfl)⟩ dX1_init_7 ?_
  refine z_kL (L2 := [.inl (1, [.null, .null, .null, .null, z_I 0, z_I 0]), .inr (0, 12, fun _ => z_I 0)]) rfl ?_
  refine z_kputF hin (C := RX1) (T := TX1) (N := 6) (ci := 1) (kf := 0) (i := 0) rfl uX1 tyX1 tyX1_ok nmX1 wfX1_9 rfl rfl rfl (Nat.le_of_ble_eq_true rfl) rfl rfl rfl rfl dX1_init_9 ?_
  refine z_kL (L2 := [.inl (1, [.ref (a + 1), .null, .null, .null, z_I 0, z_I 0]), .inr (0, 12, fun _ => z_I 0)]) rfl ?_
  refine z_kaloadn dX1_init_12 rfl ?_
  refine z_kiconst dX1_init_13 ?_
  refine z_knewI (N := 4) wk_aI (Nat.le_of_ble_eq_true rfl) ⟨(Nat.le_of_ble_eq_true rfl), (Nat.le_of_ble_eq_true rfl)⟩ dX1_init_14 ?_
  refine z_kL (L2 := [.inl (1, [.ref (a + 1), .null, .null, .null, z_I 0, z_I 0]), .inr (0, 12, fun _ => z_I 0), .inr (0, 4, fun _ => z_I 0)]) rfl ?_
  refine z_kputF hin (C := RX1) (T := TX1) (N := 6) (ci := 1) (kf := 1) (i := 0) rfl uX1 tyX1 tyX1_ok nmX1 wfX1_15 rfl rfl rfl (Nat.le_of_ble_eq_true rfl) rfl rfl rfl rfl dX1_init_16 ?_
  refine z_kL (L2 := [.inl (1, [.ref (a + 1), .ref (a + 2), .null, .null, z_I 0, z_I 0]), .inr (0, 12, fun _ => z_I 0), .inr (0, 4, fun _ => z_I 0)]) rfl ?_
  refine z_kaloadn dX1_init_19 rfl ?_
  refine z_kiconst dX1_init_20 ?_
  refine z_knewI (N := 4) wk_aI (Nat.le_of_ble_eq_true rfl) ⟨(Nat.le_of_ble_eq_true rfl), (Nat.le_of_ble_eq_true rfl)⟩ dX1_init_21 ?_
  refine z_kL (L2 := [.inl (1, [.ref (a + 1), .ref (a + 2), .null, .null, z_I 0, z_I 0]), .inr (0, 12, fun _ => z_I 0), .inr (0, 4, fun _ => z_I 0), .inr (0, 4, fun _ => z_I 0)]) rfl ?_
  refine z_kputF hin (C := RX1) (T := TX1) (N := 6) (ci := 1) (kf := 2) (i := 0) rfl uX1 tyX1 tyX1_ok nmX1 wfX1_18 rfl rfl rfl (Nat.le_of_ble_eq_true rfl) rfl rfl rfl rfl dX1_init_23 ?_
  refine z_kL (L2 := [.inl (1, [.ref (a + 1), .ref (a + 2), .ref (a + 3), .null, z_I 0, z_I 0]), .inr (0, 12, fun _ => z_I 0), .inr (0, 4, fun _ => z_I 0), .inr (0, 4, fun _ => z_I 0)]) rfl ?_
  refine z_kaloadn dX1_init_26 rfl ?_
  refine z_kiconst dX1_init_27 ?_
  refine z_knewI (N := 4) wk_aI (Nat.le_of_ble_eq_true rfl) ⟨(Nat.le_of_ble_eq_true rfl), (Nat.le_of_ble_eq_true rfl)⟩ dX1_init_28 ?_
  refine z_kL (L2 := [.inl (1, [.ref (a + 1), .ref (a + 2), .ref (a + 3), .null, z_I 0, z_I 0]), .inr (0, 12, fun _ => z_I 0), .inr (0, 4, fun _ => z_I 0), .inr (0, 4, fun _ => z_I 0), .inr (0, 4, fun _ => z_I 0)]) rfl ?_
  refine z_kputF hin (C := RX1) (T := TX1) (N := 6) (ci := 1) (kf := 3) (i := 0) rfl uX1 tyX1 tyX1_ok nmX1 wfX1_21 rfl rfl rfl (Nat.le_of_ble_eq_true rfl) rfl rfl rfl rfl dX1_init_30 ?_
  refine z_kL (L2 := [.inl (1, [.ref (a + 1), .ref (a + 2), .ref (a + 3), .ref (a + 4), z_I 0, z_I 0]), .inr (0, 12, fun _ => z_I 0), .inr (0, 4, fun _ => z_I 0), .inr (0, 4, fun _ => z_I 0), .inr (0, 4, fun _ => z_I 0)]) rfl ?_
  exact z_kret dX1_init_33
theorem z_dfX2 : ∀ j, j < 7 → defaultValue (tyX2 j) = ([.null, z_I 0, .null, z_I 0, z_I 0, z_I 0, z_I 0] : List Value).getD j .null := fun j hj => by
  rcases (show j = 0 ∨ j = 1 ∨ j = 2 ∨ j = 3 ∨ j = 4 ∨ j = 5 ∨ j = 6 by omega) with rfl | rfl | rfl | rfl | rfl | rfl | rfl <;> rfl
theorem tX2_init {G : z_G} {a : Nat} : z_ConK G yX2_init cX2_init 1 1 20 a (.inl (2, [.null, z_I 0, .null, z_I 0, z_I 0, z_I 0, z_I 0])) [.inl (2, [.ref (a + 1), z_I 0, .ref (a + 2), z_I 0, z_I 0, z_I 0, z_I 0]), .inr (0, 60, fun _ => z_I 0), .inr (0, 12, fun _ => z_I 0)] 2 72 := by
  refine z_conK (ls := [some (.ref (a + 0))]) (by decide +kernel) rfl (Nat.le_of_ble_eq_true rfl) rfl ?_
  intro Z hin
  refine z_kaloadn dX2_init_0 rfl ?_
  refine z_kobj woX2_3 wk_oi wk_oc (Nat.le_of_ble_eq_true rfl) (Nat.le_of_ble_eq_true rfl) dX2_init_1 ?_
  refine z_kaloadn dX2_init_4 rfl ?_
  refine z_kbipush dX2_init_5 (by decide) ?_
  refine z_knewI (N := 60) wk_aI (Nat.le_of_ble_eq_true rfl) ⟨(Nat.le_of_ble_eq_true rfl), (Nat.le_of_ble_eq_true rfl)⟩ dX2_init_7 ?_
  refine z_kL (L2 := [.inl (2, [.null, z_I 0, .null, z_I 0, z_I 0, z_I 0, z_I 0]), .inr (0, 60, fun _ => z_I 0)]) rfl ?_
  refine z_kputF hin (C := RX2) (T := TX2) (N := 7) (ci := 2) (kf := 0) (i := 0) rfl uX2 tyX2 tyX2_ok nmX2 wfX2_11 rfl rfl rfl (Nat.le_of_ble_eq_true rfl) rfl rfl rfl rfl dX2_init_9 ?_
  refine z_kL (L2 := [.inl (2, [.ref (a + 1), z_I 0, .null, z_I 0, z_I 0, z_I 0, z_I 0]), .inr (0, 60, fun _ => z_I 0)]) rfl ?_
  refine z_kaloadn dX2_init_12 rfl ?_
  refine z_kbipush dX2_init_13 (by decide) ?_
  refine z_knewI (N := 12) wk_aI (Nat.le_of_ble_eq_true rfl) ⟨(Nat.le_of_ble_eq_true rfl), (Nat.le_of_ble_eq_true rfl)⟩ dX2_init_15 ?_
  refine z_kL (L2 := [.inl (2, [.ref (a + 1), z_I 0, .null, z_I 0, z_I 0, z_I 0, z_I 0]), .inr (0, 60, fun _ => z_I 0), .inr (0, 12, fun _ => z_I 0)]) rfl ?_
  refine z_kputF hin (C := RX2) (T := TX2) (N := 7) (ci := 2) (kf := 2) (i := 0) rfl uX2 tyX2 tyX2_ok nmX2 wfX2_15 rfl rfl rfl (Nat.le_of_ble_eq_true rfl) rfl rfl rfl rfl dX2_init_17 ?_
  refine z_kL (L2 := [.inl (2, [.ref (a + 1), z_I 0, .ref (a + 2), z_I 0, z_I 0, z_I 0, z_I 0]), .inr (0, 60, fun _ => z_I 0), .inr (0, 12, fun _ => z_I 0)]) rfl ?_
  exact z_kret dX2_init_20
theorem z_dfX3 : ∀ j, j < 7 → defaultValue (tyX3 j) = ([z_I 0, .null, .null, .null, .null, .null, .null] : List Value).getD j .null := fun j hj => by
  rcases (show j = 0 ∨ j = 1 ∨ j = 2 ∨ j = 3 ∨ j = 4 ∨ j = 5 ∨ j = 6 by omega) with rfl | rfl | rfl | rfl | rfl | rfl | rfl <;> rfl
theorem tX3_init {G : z_G} {a : Nat} : z_ConK G yX3_init cX3_init 1 1 20 a (.inl (3, [z_I 0, .null, .null, .null, .null, .null, .null])) [.inl (3, [z_I 0, .ref (a + 1), .ref (a + 2), .ref (a + 3), .ref (a + 4), .ref (a + 5), .ref (a + 6)]), .inr (0, 12, fun _ => z_I 0), .inr (0, 12, fun _ => z_I 0), .inr (0, 12, fun _ => z_I 0), .inr (0, 12, fun _ => z_I 0), .inr (0, 12, fun _ => z_I 0), .inr (0, 12, fun _ => z_I 0)] 6 72 := by
  refine z_conK (ls := [some (.ref (a + 0))]) (by decide +kernel) rfl (Nat.le_of_ble_eq_true rfl) rfl ?_
  intro Z hin
  refine z_kaloadn dX3_init_0 rfl ?_
  refine z_kobj woX3_3 wk_oi wk_oc (Nat.le_of_ble_eq_true rfl) (Nat.le_of_ble_eq_true rfl) dX3_init_1 ?_
  refine z_kaloadn dX3_init_4 rfl ?_
  refine z_kbipush dX3_init_5 (by decide) ?_
  refine z_knewI (N := 12) wk_aI (Nat.le_of_ble_eq_true rfl) ⟨(Nat.le_of_ble_eq_true rfl), (Nat.le_of_ble_eq_true rfl)⟩ dX3_init_7 ?_
  refine z_kL (L2 := [.inl (3, [z_I 0, .null, .null, .null, .null, .null, .null]), .inr (0, 12, fun _ => z_I 0)]) rfl ?_
  refine z_kputF hin (C := RX3) (T := TX3) (N := 7) (ci := 3) (kf := 1) (i := 0) rfl uX3 tyX3 tyX3_ok nmX3 wfX3_9 rfl rfl rfl (Nat.le_of_ble_eq_true rfl) rfl rfl rfl rfl dX3_init_9 ?_
  refine z_kL (L2 := [.inl (3, [z_I 0, .ref (a + 1), .null, .null, .null, .null, .null]), .inr (0, 12, fun _ => z_I 0)]) rfl ?_
  refine z_kaloadn dX3_init_12 rfl ?_
  refine z_kbipush dX3_init_13 (by decide) ?_
  refine z_knewI (N := 12) wk_aI (Nat.le_of_ble_eq_true rfl) ⟨(Nat.le_of_ble_eq_true rfl), (Nat.le_of_ble_eq_true rfl)⟩ dX3_init_15 ?_
  refine z_kL (L2 := [.inl (3, [z_I 0, .ref (a + 1), .null, .null, .null, .null, .null]), .inr (0, 12, fun _ => z_I 0), .inr (0, 12, fun _ => z_I 0)]) rfl ?_
  refine z_kputF hin (C := RX3) (T := TX3) (N := 7) (ci := 3) (kf := 2) (i := 0) rfl uX3 tyX3 tyX3_ok nmX3 wfX3_15 rfl rfl rfl (Nat.le_of_ble_eq_true rfl) rfl rfl rfl rfl dX3_init_17 ?_
  refine z_kL (L2 := [.inl (3, [z_I 0, .ref (a + 1), .ref (a + 2), .null, .null, .null, .null]), .inr (0, 12, fun _ => z_I 0), .inr (0, 12, fun _ => z_I 0)]) rfl ?_
  refine z_kaloadn dX3_init_20 rfl ?_
  refine z_kbipush dX3_init_21 (by decide) ?_
  refine z_knewI (N := 12) wk_aI (Nat.le_of_ble_eq_true rfl) ⟨(Nat.le_of_ble_eq_true rfl), (Nat.le_of_ble_eq_true rfl)⟩ dX3_init_23 ?_
  refine z_kL (L2 := [.inl (3, [z_I 0, .ref (a + 1), .ref (a + 2), .null, .null, .null, .null]), .inr (0, 12, fun _ => z_I 0), .inr (0, 12, fun _ => z_I 0), .inr (0, 12, fun _ => z_I 0)]) rfl ?_
  refine z_kputF hin (C := RX3) (T := TX3) (N := 7) (ci := 3) (kf := 3) (i := 0) rfl uX3 tyX3 tyX3_ok nmX3 wfX3_18 rfl rfl rfl (Nat.le_of_ble_eq_true rfl) rfl rfl rfl rfl dX3_init_25 ?_
  refine z_kL (L2 := [.inl (3, [z_I 0, .ref (a + 1), .ref (a + 2), .ref (a + 3), .null, .null, .null]), .inr (0, 12, fun _ => z_I 0), .inr (0, 12, fun _ => z_I 0), .inr (0, 12, fun _ => z_I 0)]) rfl ?_
  refine z_kaloadn dX3_init_28 rfl ?_
  refine z_kbipush dX3_init_29 (by decide) ?_
  refine z_knewI (N := 12) wk_aI (Nat.le_of_ble_eq_true rfl) ⟨(Nat.le_of_ble_eq_true rfl), (Nat.le_of_ble_eq_true rfl)⟩ dX3_init_31 ?_
  refine z_kL (L2 := [.inl (3, [z_I 0, .ref (a + 1), .ref (a + 2), .ref (a + 3), .null, .null, .null]), .inr (0, 12, fun _ => z_I 0), .inr (0, 12, fun _ => z_I 0), .inr (0, 12, fun _ => z_I 0), .inr (0, 12, fun _ => z_I 0)]) rfl ?_
  refine z_kputF hin (C := RX3) (T := TX3) (N := 7) (ci := 3) (kf := 4) (i := 0) rfl uX3 tyX3 tyX3_ok nmX3 wfX3_21 rfl rfl rfl (Nat.le_of_ble_eq_true rfl) rfl rfl rfl rfl dX3_init_33 ?_
  refine z_kL (L2 := [.inl (3, [z_I 0, .ref (a + 1), .ref (a + 2), .ref (a + 3), .ref (a + 4), .null, .null]), .inr (0, 12, fun _ => z_I 0), .inr (0, 12, fun _ => z_I 0), .inr (0, 12, fun _ => z_I 0), .inr (0, 12, fun _ => z_I 0)]) rfl ?_
  refine z_kaloadn dX3_init_36 rfl ?_
  refine z_kbipush dX3_init_37 (by decide) ?_
  refine z_knewI (N := 12) wk_aI (Nat.le_of_ble_eq_true rfl) ⟨(Nat.le_of_ble_eq_true rfl), (Nat.le_of_ble_eq_true rfl)⟩ dX3_init_39 ?_
  refine z_kL (L2 := [.inl (3, [z_I 0, .ref (a + 1), .ref (a + 2), .ref (a + 3), .ref (a + 4), .null, .null]), .inr (0, 12, fun _ => z_I 0), .inr (0, 12, fun _ => z_I 0), .inr (0, 12, fun _ => z_I 0), .inr (0, 12, fun _ => z_I 0), .inr (0, 12, fun _ => z_I 0)]) rfl ?_
  refine z_kputF hin (C := RX3) (T := TX3) (N := 7) (ci := 3) (kf := 5) (i := 0) rfl uX3 tyX3 tyX3_ok nmX3 wfX3_24 rfl rfl rfl (Nat.le_of_ble_eq_true rfl) rfl rfl rfl rfl dX3_init_41 ?_
  refine z_kL (L2 := [.inl (3, [z_I 0, .ref (a + 1), .ref (a + 2), .ref (a + 3), .ref (a + 4), .ref (a + 5), .null]), .inr (0, 12, fun _ => z_I 0), .inr (0, 12, fun _ => z_I 0), .inr (0, 12, fun _ => z_I 0), .inr (0, 12, fun _ => z_I 0), .inr (0, 12, fun _ => z_I 0)]) rfl ?_
  refine z_kaloadn dX3_init_44 rfl ?_
  refine z_kbipush dX3_init_45 (by decide) ?_
  refine z_knewI (N := 12) wk_aI (Nat.le_of_ble_eq_true rfl) ⟨(Nat.le_of_ble_eq_true rfl), (Nat.le_of_ble_eq_true rfl)⟩ dX3_init_47 ?_
  refine z_kL (L2 := [.inl (3, [z_I 0, .ref (a + 1), .ref (a + 2), .ref (a + 3), .ref (a + 4), .ref (a + 5), .null]), .inr (0, 12, fun _ => z_I 0), .inr (0, 12, fun _ => z_I 0), .inr (0, 12, fun _ => z_I 0), .inr (0, 12, fun _ => z_I 0), .inr (0, 12, fun _ => z_I 0), .inr (0, 12, fun _ => z_I 0)]) rfl ?_
  refine z_kputF hin (C := RX3) (T := TX3) (N := 7) (ci := 3) (kf := 6) (i := 0) rfl uX3 tyX3 tyX3_ok nmX3 wfX3_27 rfl rfl rfl (Nat.le_of_ble_eq_true rfl) rfl rfl rfl rfl dX3_init_49 ?_
  refine z_kL (L2 := [.inl (3, [z_I 0, .ref (a + 1), .ref (a + 2), .ref (a + 3), .ref (a + 4), .ref (a + 5), .ref (a + 6)]), .inr (0, 12, fun _ => z_I 0), .inr (0, 12, fun _ => z_I 0), .inr (0, 12, fun _ => z_I 0), .inr (0, 12, fun _ => z_I 0), .inr (0, 12, fun _ => z_I 0), .inr (0, 12, fun _ => z_I 0)]) rfl ?_
  exact z_kret dX3_init_52
theorem z_dfX4 : ∀ j, j < 9 → defaultValue (tyX4 j) = ([z_I 0, .null, .null, .null, .null, .null, .null, .null, .null] : List Value).getD j .null := fun j hj => by
  rcases (show j = 0 ∨ j = 1 ∨ j = 2 ∨ j = 3 ∨ j = 4 ∨ j = 5 ∨ j = 6 ∨ j = 7 ∨ j = 8 by omega) with rfl | rfl | rfl | rfl | rfl | rfl | rfl | rfl | rfl <;> rfl
theorem tX4_init {G : z_G} {a : Nat} : z_ConK G yX4_init cX4_init 1 1 20 a (.inl (4, [z_I 0, .null, .null, .null, .null, .null, .null, .null, .null])) [.inl (4, [z_I 0, .ref (a + 1), .ref (a + 2), .ref (a + 3), .ref (a + 4), .ref (a + 5), .ref (a + 6), .ref (a + 7), .ref (a + 8)]), .inr (0, 20, fun _ => z_I 0), .inr (0, 20, fun _ => z_I 0), .inr (0, 20, fun _ => z_I 0), .inr (0, 20, fun _ => z_I 0), .inr (0, 20, fun _ => z_I 0), .inr (0, 240, fun _ => z_I 0), .inr (0, 240, fun _ => z_I 0), .inr (0, 240, fun _ => z_I 0)] 8 820 := by
  refine z_conK (ls := [some (.ref (a + 0))]) (by decide +kernel) rfl (Nat.le_of_ble_eq_true rfl) rfl ?_
  intro Z hin
  refine z_kaloadn dX4_init_0 rfl ?_
  refine z_kobj woX4_3 wk_oi wk_oc (Nat.le_of_ble_eq_true rfl) (Nat.le_of_ble_eq_true rfl) dX4_init_1 ?_
  refine z_kaloadn dX4_init_4 rfl ?_
  refine z_kbipush dX4_init_5 (by decide) ?_
  refine z_knewI (N := 20) wk_aI (Nat.le_of_ble_eq_true rfl) ⟨(Nat.le_of_ble_eq_true rfl), (Nat.le_of_ble_eq_true rfl)⟩ dX4_init_7 ?_
  refine z_kL (L2 := [.inl (4, [z_I 0, .null, .null, .null, .null, .null, .null, .null, .null]), .inr (0, 20, fun _ => z_I 0)]) rfl ?_
  refine z_kputF hin (C := RX4) (T := TX4) (N := 9) (ci := 4) (kf := 1) (i := 0) rfl uX4 tyX4 tyX4_ok nmX4 wfX4_9 rfl rfl rfl (Nat.le_of_ble_eq_true rfl) rfl rfl rfl rfl dX4_init_9 ?_
  refine z_kL (L2 := [.inl (4, [z_I 0, .ref (a + 1), .null, .null, .null, .null, .null, .null, .null]), .inr (0, 20, fun _ => z_I 0)]) rfl ?_
  refine z_kaloadn dX4_init_12 rfl ?_
  refine z_kbipush dX4_init_13 (by decide) ?_
  refine z_knewI (N := 20) wk_aI (Nat.le_of_ble_eq_true rfl) ⟨(Nat.le_of_ble_eq_true rfl), (Nat.le_of_ble_eq_true rfl)⟩ dX4_init_15 ?_
  refine z_kL (L2 := [.inl (4, [z_I 0, .ref (a + 1), .null, .null, .null, .null, .null, .null, .null]), .inr (0, 20, fun _ => z_I 0), .inr (0, 20, fun _ => z_I 0)]) rfl ?_
  refine z_kputF hin (C := RX4) (T := TX4) (N := 9) (ci := 4) (kf := 2) (i := 0) rfl uX4 tyX4 tyX4_ok nmX4 wfX4_15 rfl rfl rfl (Nat.le_of_ble_eq_true rfl) rfl rfl rfl rfl dX4_init_17 ?_
  refine z_kL (L2 := [.inl (4, [z_I 0, .ref (a + 1), .ref (a + 2), .null, .null, .null, .null, .null, .null]), .inr (0, 20, fun _ => z_I 0), .inr (0, 20, fun _ => z_I 0)]) rfl ?_
  refine z_kaloadn dX4_init_20 rfl ?_
  refine z_kbipush dX4_init_21 (by decide) ?_
  refine z_knewI (N := 20) wk_aI (Nat.le_of_ble_eq_true rfl) ⟨(Nat.le_of_ble_eq_true rfl), (Nat.le_of_ble_eq_true rfl)⟩ dX4_init_23 ?_
  refine z_kL (L2 := [.inl (4, [z_I 0, .ref (a + 1), .ref (a + 2), .null, .null, .null, .null, .null, .null]), .inr (0, 20, fun _ => z_I 0), .inr (0, 20, fun _ => z_I 0), .inr (0, 20, fun _ => z_I 0)]) rfl ?_
  refine z_kputF hin (C := RX4) (T := TX4) (N := 9) (ci := 4) (kf := 3) (i := 0) rfl uX4 tyX4 tyX4_ok nmX4 wfX4_18 rfl rfl rfl (Nat.le_of_ble_eq_true rfl) rfl rfl rfl rfl dX4_init_25 ?_
  refine z_kL (L2 := [.inl (4, [z_I 0, .ref (a + 1), .ref (a + 2), .ref (a + 3), .null, .null, .null, .null, .null]), .inr (0, 20, fun _ => z_I 0), .inr (0, 20, fun _ => z_I 0), .inr (0, 20, fun _ => z_I 0)]) rfl ?_
  refine z_kaloadn dX4_init_28 rfl ?_
  refine z_kbipush dX4_init_29 (by decide) ?_
  refine z_knewI (N := 20) wk_aI (Nat.le_of_ble_eq_true rfl) ⟨(Nat.le_of_ble_eq_true rfl), (Nat.le_of_ble_eq_true rfl)⟩ dX4_init_31 ?_
  refine z_kL (L2 := [.inl (4, [z_I 0, .ref (a + 1), .ref (a + 2), .ref (a + 3), .null, .null, .null, .null, .null]), .inr (0, 20, fun _ => z_I 0), .inr (0, 20, fun _ => z_I 0), .inr (0, 20, fun _ => z_I 0), .inr (0, 20, fun _ => z_I 0)]) rfl ?_
  refine z_kputF hin (C := RX4) (T := TX4) (N := 9) (ci := 4) (kf := 4) (i := 0) rfl uX4 tyX4 tyX4_ok nmX4 wfX4_21 rfl rfl rfl (Nat.le_of_ble_eq_true rfl) rfl rfl rfl rfl dX4_init_33 ?_
  refine z_kL (L2 := [.inl (4, [z_I 0, .ref (a + 1), .ref (a + 2), .ref (a + 3), .ref (a + 4), .null, .null, .null, .null]), .inr (0, 20, fun _ => z_I 0), .inr (0, 20, fun _ => z_I 0), .inr (0, 20, fun _ => z_I 0), .inr (0, 20, fun _ => z_I 0)]) rfl ?_
  refine z_kaloadn dX4_init_36 rfl ?_
  refine z_kbipush dX4_init_37 (by decide) ?_
  refine z_knewI (N := 20) wk_aI (Nat.le_of_ble_eq_true rfl) ⟨(Nat.le_of_ble_eq_true rfl), (Nat.le_of_ble_eq_true rfl)⟩ dX4_init_39 ?_
  refine z_kL (L2 := [.inl (4, [z_I 0, .ref (a + 1), .ref (a + 2), .ref (a + 3), .ref (a + 4), .null, .null, .null, .null]), .inr (0, 20, fun _ => z_I 0), .inr (0, 20, fun _ => z_I 0), .inr (0, 20, fun _ => z_I 0), .inr (0, 20, fun _ => z_I 0), .inr (0, 20, fun _ => z_I 0)]) rfl ?_
  refine z_kputF hin (C := RX4) (T := TX4) (N := 9) (ci := 4) (kf := 5) (i := 0) rfl uX4 tyX4 tyX4_ok nmX4 wfX4_24 rfl rfl rfl (Nat.le_of_ble_eq_true rfl) rfl rfl rfl rfl dX4_init_41 ?_
  refine z_kL (L2 := [.inl (4, [z_I 0, .ref (a + 1), .ref (a + 2), .ref (a + 3), .ref (a + 4), .ref (a + 5), .null, .null, .null]), .inr (0, 20, fun _ => z_I 0), .inr (0, 20, fun _ => z_I 0), .inr (0, 20, fun _ => z_I 0), .inr (0, 20, fun _ => z_I 0), .inr (0, 20, fun _ => z_I 0)]) rfl ?_
  refine z_kaloadn dX4_init_44 rfl ?_
  refine z_ksipush dX4_init_45 (by decide) ?_
  refine z_knewI (N := 240) wk_aI (Nat.le_of_ble_eq_true rfl) ⟨(Nat.le_of_ble_eq_true rfl), (Nat.le_of_ble_eq_true rfl)⟩ dX4_init_48 ?_
  refine z_kL (L2 := [.inl (4, [z_I 0, .ref (a + 1), .ref (a + 2), .ref (a + 3), .ref (a + 4), .ref (a + 5), .null, .null, .null]), .inr (0, 20, fun _ => z_I 0), .inr (0, 20, fun _ => z_I 0), .inr (0, 20, fun _ => z_I 0), .inr (0, 20, fun _ => z_I 0), .inr (0, 20, fun _ => z_I 0), .inr (0, 240, fun _ => z_I 0)]) rfl ?_
  refine z_kputF hin (C := RX4) (T := TX4) (N := 9) (ci := 4) (kf := 6) (i := 0) rfl uX4 tyX4 tyX4_ok nmX4 wfX4_27 rfl rfl rfl (Nat.le_of_ble_eq_true rfl) rfl rfl rfl rfl dX4_init_50 ?_
  refine z_kL (L2 := [.inl (4, [z_I 0, .ref (a + 1), .ref (a + 2), .ref (a + 3), .ref (a + 4), .ref (a + 5), .ref (a + 6), .null, .null]), .inr (0, 20, fun _ => z_I 0), .inr (0, 20, fun _ => z_I 0), .inr (0, 20, fun _ => z_I 0), .inr (0, 20, fun _ => z_I 0), .inr (0, 20, fun _ => z_I 0), .inr (0, 240, fun _ => z_I 0)]) rfl ?_
  refine z_kaloadn dX4_init_53 rfl ?_
  refine z_ksipush dX4_init_54 (by decide) ?_
  refine z_knewI (N := 240) wk_aI (Nat.le_of_ble_eq_true rfl) ⟨(Nat.le_of_ble_eq_true rfl), (Nat.le_of_ble_eq_true rfl)⟩ dX4_init_57 ?_
  refine z_kL (L2 := [.inl (4, [z_I 0, .ref (a + 1), .ref (a + 2), .ref (a + 3), .ref (a + 4), .ref (a + 5), .ref (a + 6), .null, .null]), .inr (0, 20, fun _ => z_I 0), .inr (0, 20, fun _ => z_I 0), .inr (0, 20, fun _ => z_I 0), .inr (0, 20, fun _ => z_I 0), .inr (0, 20, fun _ => z_I 0), .inr (0, 240, fun _ => z_I 0), .inr (0, 240, fun _ => z_I 0)]) rfl ?_
  refine z_kputF hin (C := RX4) (T := TX4) (N := 9) (ci := 4) (kf := 7) (i := 0) rfl uX4 tyX4 tyX4_ok nmX4 wfX4_30 rfl rfl rfl (Nat.le_of_ble_eq_true rfl) rfl rfl rfl rfl dX4_init_59 ?_
  refine z_kL (L2 := [.inl (4, [z_I 0, .ref (a + 1), .ref (a + 2), .ref (a + 3), .ref (a + 4), .ref (a + 5), .ref (a + 6), .ref (a + 7), .null]), .inr (0, 20, fun _ => z_I 0), .inr (0, 20, fun _ => z_I 0), .inr (0, 20, fun _ => z_I 0), .inr (0, 20, fun _ => z_I 0), .inr (0, 20, fun _ => z_I 0), .inr (0, 240, fun _ => z_I 0), .inr (0, 240, fun _ => z_I 0)]) rfl ?_
  refine z_kaloadn dX4_init_62 rfl ?_
  refine z_ksipush dX4_init_63 (by decide) ?_
  refine z_knewI (N := 240) wk_aI (Nat.le_of_ble_eq_true rfl) ⟨(Nat.le_of_ble_eq_true rfl), (Nat.le_of_ble_eq_true rfl)⟩ dX4_init_66 ?_
  refine z_kL (L2 := [.inl (4, [z_I 0, .ref (a + 1), .ref (a + 2), .ref (a + 3), .ref (a + 4), .ref (a + 5), .ref (a + 6), .ref (a + 7), .null]), .inr (0, 20, fun _ => z_I 0), .inr (0, 20, fun _ => z_I 0), .inr (0, 20, fun _ => z_I 0), .inr (0, 20, fun _ => z_I 0), .inr (0, 20, fun _ => z_I 0), .inr (0, 240, fun _ => z_I 0), .inr (0, 240, fun _ => z_I 0), .inr (0, 240, fun _ => z_I 0)]) rfl ?_
  refine z_kputF hin (C := RX4) (T := TX4) (N := 9) (ci := 4) (kf := 8) (i := 0) rfl uX4 tyX4 tyX4_ok nmX4 wfX4_33 rfl rfl rfl (Nat.le_of_ble_eq_true rfl) rfl rfl rfl rfl dX4_init_68 ?_
  refine z_kL (L2 := [.inl (4, [z_I 0, .ref (a + 1), .ref (a + 2), .ref (a + 3), .ref (a + 4), .ref (a + 5), .ref (a + 6), .ref (a + 7), .ref (a + 8)]), .inr (0, 20, fun _ => z_I 0), .inr (0, 20, fun _ => z_I 0), .inr (0, 20, fun _ => z_I 0), .inr (0, 20, fun _ => z_I 0), .inr (0, 20, fun _ => z_I 0), .inr (0, 240, fun _ => z_I 0), .inr (0, 240, fun _ => z_I 0), .inr (0, 240, fun _ => z_I 0)]) rfl ?_
  exact z_kret dX4_init_71
theorem z_dfX5 : ∀ j, j < 8 → defaultValue (tyX5 j) = ([.null, .null, .null, z_I 0, z_I 0, z_I 0, z_I 0, z_I 0] : List Value).getD j .null := fun j hj => by
  rcases (show j = 0 ∨ j = 1 ∨ j = 2 ∨ j = 3 ∨ j = 4 ∨ j = 5 ∨ j = 6 ∨ j = 7 by omega) with rfl | rfl | rfl | rfl | rfl | rfl | rfl | rfl <;> rfl
theorem tX5_init {G : z_G} {a : Nat} : z_ConK G yX5_init cX5_init 1 2 40 a (.inl (5, [.null, .null, .null, z_I 0, z_I 0, z_I 0, z_I 0, z_I 0])) [.inl (5, [.ref (a + 1), .ref (a + 8), .ref (a + 17), z_I 0, z_I 0, z_I 0, z_I 0, z_I 0]), .inl (3, [z_I 0, .ref (a + 2), .ref (a + 3), .ref (a + 4), .ref (a + 5), .ref (a + 6), .ref (a + 7)]), .inr (0, 12, fun _ => z_I 0), .inr (0, 12, fun _ => z_I 0), .inr (0, 12, fun _ => z_I 0), .inr (0, 12, fun _ => z_I 0), .inr (0, 12, fun _ => z_I 0), .inr (0, 12, fun _ => z_I 0), .inl (4, [z_I 0, .ref (a + 9), .ref (a + 10), .ref (a + 11), .ref (a + 12), .ref (a + 13), .ref (a + 14), .ref (a + 15), .ref (a + 16)]), .inr (0, 20, fun _ => z_I 0), .inr (0, 20, fun _ => z_I 0), .inr (0, 20, fun _ => z_I 0), .inr (0, 20, fun _ => z_I 0), .inr (0, 20, fun _ => z_I 0), .inr (0, 240, fun _ => z_I 0), .inr (0, 240, fun _ => z_I 0), .inr (0, 240, fun _ => z_I 0), .inr (0, 6, fun j => z_I (z_first j))] 17 914 := by
  refine z_conK (ls := [some (.ref (a + 0))]) (by decide +kernel) rfl (Nat.le_of_ble_eq_true rfl) rfl ?_
  intro Z hin
  refine z_kaloadn dX5_init_0 rfl ?_
  refine z_kobj woX5_3 wk_oi wk_oc (Nat.le_of_ble_eq_true rfl) (Nat.le_of_ble_eq_true rfl) dX5_init_1 ?_
  refine z_kaloadn dX5_init_4 rfl ?_
  refine z_knew (C := RX3) (T := TX3) (N := 7) (ci := 3) (ty := tyX3) (vs := [z_I 0, .null, .null, .null, .null, .null, .null]) rfl uX3 tyX3_ok wlkX5_9 wq_X3 wn_X3 rfl z_dfX3 ⟨(Nat.le_of_ble_eq_true rfl), (Nat.le_of_ble_eq_true rfl)⟩ dX5_init_5 ?_
  refine z_kL (L2 := [.inl (5, [.null, .null, .null, z_I 0, z_I 0, z_I 0, z_I 0, z_I 0]), .inl (3, [z_I 0, .null, .null, .null, .null, .null, .null])]) rfl ?_
  refine z_kdup dX5_init_8 rfl ?_
  refine z_kinitN (L1 := [.inl (5, [.null, .null, .null, z_I 0, z_I 0, z_I 0, z_I 0, z_I 0])]) (i := 1) (tX3_init (a := a + 1)) rfl wmX5_11 wi_X3_init wc_X3_init wn_X3 rfl n_X3_init ⟨(Nat.le_of_ble_eq_true rfl), (Nat.le_of_ble_eq_true rfl)⟩ ⟨(Nat.le_of_ble_eq_true rfl), (Nat.le_of_ble_eq_true rfl)⟩ (Nat.le_of_ble_eq_true rfl) dX5_init_9 ?_
  refine z_kL (L2 := [.inl (5, [.null, .null, .null, z_I 0, z_I 0, z_I 0, z_I 0, z_I 0]), .inl (3, [z_I 0, .ref (a + 2), .ref (a + 3), .ref (a + 4), .ref (a + 5), .ref (a + 6), .ref (a + 7)]), .inr (0, 12, fun _ => z_I 0), .inr (0, 12, fun _ => z_I 0), .inr (0, 12, fun _ => z_I 0), .inr (0, 12, fun _ => z_I 0), .inr (0, 12, fun _ => z_I 0), .inr (0, 12, fun _ => z_I 0)]) rfl ?_
  refine z_kputF hin (C := RX5) (T := TX5) (N := 8) (ci := 5) (kf := 0) (i := 0) rfl uX5 tyX5 tyX5_ok nmX5 wfX5_12 rfl rfl rfl (Nat.le_of_ble_eq_true rfl) rfl rfl rfl rfl dX5_init_12 ?_
  refine z_kL (L2 := [.inl (5, [.ref (a + 1), .null, .null, z_I 0, z_I 0, z_I 0, z_I 0, z_I 0]), .inl (3, [z_I 0, .ref (a + 2), .ref (a + 3), .ref (a + 4), .ref (a + 5), .ref (a + 6), .ref (a + 7)]), .inr (0, 12, fun _ => z_I 0), .inr (0, 12, fun _ => z_I 0), .inr (0, 12, fun _ => z_I 0), .inr (0, 12, fun _ => z_I 0), .inr (0, 12, fun _ => z_I 0), .inr (0, 12, fun _ => z_I 0)]) rfl ?_
  refine z_kaloadn dX5_init_15 rfl ?_
  refine z_knew (C := RX4) (T := TX4) (N := 9) (ci := 4) (ty := tyX4) (vs := [z_I 0, .null, .null, .null, .null, .null, .null, .null, .null]) rfl uX4 tyX4_ok wlkX5_18 wq_X4 wn_X4 rfl z_dfX4 ⟨(Nat.le_of_ble_eq_true rfl), (Nat.le_of_ble_eq_true rfl)⟩ dX5_init_16 ?_
  refine z_kL (L2 := [.inl (5, [.ref (a + 1), .null, .null, z_I 0, z_I 0, z_I 0, z_I 0, z_I 0]), .inl (3, [z_I 0, .ref (a + 2), .ref (a + 3), .ref (a + 4), .ref (a + 5), .ref (a + 6), .ref (a + 7)]), .inr (0, 12, fun _ => z_I 0), .inr (0, 12, fun _ => z_I 0), .inr (0, 12, fun _ => z_I 0), .inr (0, 12, fun _ => z_I 0), .inr (0, 12, fun _ => z_I 0), .inr (0, 12, fun _ => z_I 0), .inl (4, [z_I 0, .null, .null, .null, .null, .null, .null, .null, .null])]) rfl ?_
  refine z_kdup dX5_init_19 rfl ?_
  refine z_kinitN (L1 := [.inl (5, [.ref (a + 1), .null, .null, z_I 0, z_I 0, z_I 0, z_I 0, z_I 0]), .inl (3, [z_I 0, .ref (a + 2), .ref (a + 3), .ref (a + 4), .ref (a + 5), .ref (a + 6), .ref (a + 7)]), .inr (0, 12, fun _ => z_I 0), .inr (0, 12, fun _ => z_I 0), .inr (0, 12, fun _ => z_I 0), .inr (0, 12, fun _ => z_I 0), .inr (0, 12, fun _ => z_I 0), .inr (0, 12, fun _ => z_I 0)]) (i := 8) (tX4_init (a := a + 8)) rfl wmX5_20 wi_X4_init wc_X4_init wn_X4 rfl n_X4_init ⟨(Nat.le_of_ble_eq_true rfl), (Nat.le_of_ble_eq_true rfl)⟩ ⟨(Nat.le_of_ble_eq_true rfl), (Nat.le_of_ble_eq_true rfl)⟩ (Nat.le_of_ble_eq_true rfl) dX5_init_20 ?_
  refine z_kL (L2 := [.inl (5, [.ref (a + 1), .null, .null, z_I 0, z_I 0, z_I 0, z_I 0, z_I 0]), .inl (3, [z_I 0, .ref (a + 2), .ref (a + 3), .ref (a + 4), .ref (a + 5), .ref (a + 6), .ref (a + 7)]), .inr (0, 12, fun _ => z_I 0), .inr (0, 12, fun _ => z_I 0), .inr (0, 12, fun _ => z_I 0), .inr (0, 12, fun _ => z_I 0), .inr (0, 12, fun _ => z_I 0), .inr (0, 12, fun _ => z_I 0), .inl (4, [z_I 0, .ref (a + 9), .ref (a + 10), .ref (a + 11), .ref (a + 12), .ref (a + 13), .ref (a + 14), .ref (a + 15), .ref (a + 16)]), .inr (0, 20, fun _ => z_I 0), .inr (0, 20, fun _ => z_I 0), .inr (0, 20, fun _ => z_I 0), .inr (0, 20, fun _ => z_I 0), .inr (0, 20, fun _ => z_I 0), .inr (0, 240, fun _ => z_I 0), .inr (0, 240, fun _ => z_I 0), .inr (0, 240, fun _ => z_I 0)]) rfl ?_
  refine z_kputF hin (C := RX5) (T := TX5) (N := 8) (ci := 5) (kf := 1) (i := 0) rfl uX5 tyX5 tyX5_ok nmX5 wfX5_21 rfl rfl rfl (Nat.le_of_ble_eq_true rfl) rfl rfl rfl rfl dX5_init_23 ?_
  refine z_kL (L2 := [.inl (5, [.ref (a + 1), .ref (a + 8), .null, z_I 0, z_I 0, z_I 0, z_I 0, z_I 0]), .inl (3, [z_I 0, .ref (a + 2), .ref (a + 3), .ref (a + 4), .ref (a + 5), .ref (a + 6), .ref (a + 7)]), .inr (0, 12, fun _ => z_I 0), .inr (0, 12, fun _ => z_I 0), .inr (0, 12, fun _ => z_I 0), .inr (0, 12, fun _ => z_I 0), .inr (0, 12, fun _ => z_I 0), .inr (0, 12, fun _ => z_I 0), .inl (4, [z_I 0, .ref (a + 9), .ref (a + 10), .ref (a + 11), .ref (a + 12), .ref (a + 13), .ref (a + 14), .ref (a + 15), .ref (a + 16)]), .inr (0, 20, fun _ => z_I 0), .inr (0, 20, fun _ => z_I 0), .inr (0, 20, fun _ => z_I 0), .inr (0, 20, fun _ => z_I 0), .inr (0, 20, fun _ => z_I 0), .inr (0, 240, fun _ => z_I 0), .inr (0, 240, fun _ => z_I 0), .inr (0, 240, fun _ => z_I 0)]) rfl ?_
  refine z_kaloadn dX5_init_26 rfl ?_
  refine z_kfirst wfX5_25 dX5_init_27 ?_
  refine z_kclone wcl_l wcl_s wcl_n wcl_i wcl_e wcl_c (Nat.le_of_ble_eq_true rfl) (Nat.le_of_ble_eq_true rfl) ⟨(Nat.le_of_ble_eq_true rfl), (Nat.le_of_ble_eq_true rfl)⟩ dX5_init_30 ?_
  refine z_kL (L2 := [.inl (5, [.ref (a + 1), .ref (a + 8), .null, z_I 0, z_I 0, z_I 0, z_I 0, z_I 0]), .inl (3, [z_I 0, .ref (a + 2), .ref (a + 3), .ref (a + 4), .ref (a + 5), .ref (a + 6), .ref (a + 7)]), .inr (0, 12, fun _ => z_I 0), .inr (0, 12, fun _ => z_I 0), .inr (0, 12, fun _ => z_I 0), .inr (0, 12, fun _ => z_I 0), .inr (0, 12, fun _ => z_I 0), .inr (0, 12, fun _ => z_I 0), .inl (4, [z_I 0, .ref (a + 9), .ref (a + 10), .ref (a + 11), .ref (a + 12), .ref (a + 13), .ref (a + 14), .ref (a + 15), .ref (a + 16)]), .inr (0, 20, fun _ => z_I 0), .inr (0, 20, fun _ => z_I 0), .inr (0, 20, fun _ => z_I 0), .inr (0, 20, fun _ => z_I 0), .inr (0, 20, fun _ => z_I 0), .inr (0, 240, fun _ => z_I 0), .inr (0, 240, fun _ => z_I 0), .inr (0, 240, fun _ => z_I 0), .inr (0, 6, fun j => z_I (z_first j))]) rfl ?_
  refine z_kcast (i := 17) wlkX5_30 rfl dX5_init_33 ?_
  refine z_kputF hin (C := RX5) (T := TX5) (N := 8) (ci := 5) (kf := 2) (i := 0) rfl uX5 tyX5 tyX5_ok nmX5 wfX5_34 rfl rfl rfl (Nat.le_of_ble_eq_true rfl) rfl rfl rfl rfl dX5_init_36 ?_
  refine z_kL (L2 := [.inl (5, [.ref (a + 1), .ref (a + 8), .ref (a + 17), z_I 0, z_I 0, z_I 0, z_I 0, z_I 0]), .inl (3, [z_I 0, .ref (a + 2), .ref (a + 3), .ref (a + 4), .ref (a + 5), .ref (a + 6), .ref (a + 7)]), .inr (0, 12, fun _ => z_I 0), .inr (0, 12, fun _ => z_I 0), .inr (0, 12, fun _ => z_I 0), .inr (0, 12, fun _ => z_I 0), .inr (0, 12, fun _ => z_I 0), .inr (0, 12, fun _ => z_I 0), .inl (4, [z_I 0, .ref (a + 9), .ref (a + 10), .ref (a + 11), .ref (a + 12), .ref (a + 13), .ref (a + 14), .ref (a + 15), .ref (a + 16)]), .inr (0, 20, fun _ => z_I 0), .inr (0, 20, fun _ => z_I 0), .inr (0, 20, fun _ => z_I 0), .inr (0, 20, fun _ => z_I 0), .inr (0, 20, fun _ => z_I 0), .inr (0, 240, fun _ => z_I 0), .inr (0, 240, fun _ => z_I 0), .inr (0, 240, fun _ => z_I 0), .inr (0, 6, fun j => z_I (z_first j))]) rfl ?_
  exact z_kret dX5_init_39
