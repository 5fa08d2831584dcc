/-! ===== the class's own constructor ===== -/
def z_L15 (a : Nat) (now : Value) (f : Nat → Value) : List z_CC := [.inl (6, [.ref (a + 1), z_I 0, z_I 0, now, .ref (a + 2), .ref (a + 5), .ref (a + 8), .ref (a + 13), .ref (a + 14)]), .inr (4, 7, f), .inl (2, [.ref (a + 3), z_I 0, .ref (a + 4), z_I 0, z_I 0, z_I 0, z_I 0]), .inr (0, 60, fun _ => z_I 0), .inr (0, 12, fun _ => z_I 0), .inl (0, [z_I 0, z_I 0, z_I 0, z_I 0, .ref (a + 6), .ref (a + 7)]), .inr (0, 12, fun _ => z_I 0), .inr (0, 12, fun _ => z_I 0), .inl (1, [.ref (a + 9), .ref (a + 10), .ref (a + 11), .ref (a + 12), z_I 0, z_I 0]), .inr (0, 12, fun _ => z_I 0), .inr (0, 4, fun _ => z_I 0), .inr (0, 4, fun _ => z_I 0), .inr (0, 4, fun _ => z_I 0), .inr (0, 12, fun _ => z_I 0), .inr (0, 12, fun _ => z_I 0)]
def z_stC (a : Nat) : List z_CC := [.inl (5, [.ref (a + 1), .ref (a + 8), .ref (a + 17), z_I 0, z_I 0, z_I 0, z_I 0, z_I 0]), .inl (3, [z_I 0, .ref (a + 2), .ref (a + 3), .ref (a + 4), .ref (a + 5), .ref (a + 6), .ref (a + 7)]), .inr (0, 12, fun _ => z_I 0), .inr (0, 12, fun _ => z_I 0), .inr (0, 12, fun _ => z_I 0), .inr (0, 12, fun _ => z_I 0), .inr (0, 12, fun _ => z_I 0), .inr (0, 12, fun _ => z_I 0), .inl (4, [z_I 0, .ref (a + 9), .ref (a + 10), .ref (a + 11), .ref (a + 12), .ref (a + 13), .ref (a + 14), .ref (a + 15), .ref (a + 16)]), .inr (0, 20, fun _ => z_I 0), .inr (0, 20, fun _ => z_I 0), .inr (0, 20, fun _ => z_I 0), .inr (0, 20, fun _ => z_I 0), .inr (0, 20, fun _ => z_I 0), .inr (0, 240, fun _ => z_I 0), .inr (0, 240, fun _ => z_I 0), .inr (0, 240, fun _ => z_I 0), .inr (0, 6, fun j => z_I (z_first j))]
def z_sts (a : Nat) : Nat → List z_CC
  | 0 => []
  | i + 1 => z_sts a i ++ z_stC (a + 15 + 18 * i)
def z_rF (a i : Nat) : Nat → Value := fun j => if j < i then .ref (a + 15 + 18 * j) else .null
theorem z_sts_len (a : Nat) : ∀ i, (z_sts a i).length = 18 * i
  | 0 => rfl
  | i + 1 => by
    show (z_sts a i ++ z_stC (a + 15 + 18 * i)).length = _
    rw [List.length_append, z_sts_len a i]
    show 18 * i + 18 = _
    omega
theorem z_rF_s (a i : Nat) : updV (z_rF a i) i (.ref (a + (15 + 18 * i))) = z_rF a (i + 1) := by
  funext j
  unfold updV z_rF
  by_cases h : j = i
  · subst h
    rw [if_pos rfl, if_pos (by omega), Nat.add_assoc]
  · rw [if_neg h]
    by_cases h2 : j < i
    · rw [if_pos h2, if_pos (by omega)]
    · rw [if_neg h2, if_neg (by omega)]
theorem z_x6_loop {G : z_G} {Z : z_Z} {R : Room} {Q : State → Prop} {a : Nat} {ret : Option FieldType} (hf : 2 + 1 ≤ R.frames ∧ 8 + (1 + 11) + 40 ≤ R.locals) (hc : 140 ≤ R.cells ∧ 6624 ≤ R.slots)
    (kend : z_JK G Z (cX6_init, 2, RX6, R, ret) Q 92 [some (.ref (a + 0)), some (z_I 7)] [] a (z_L15 a .null (z_rF a 7) ++ z_sts a 7) 140 6624) :
    ∀ f i : Nat, i + f = 7 → z_JK G Z (cX6_init, 2, RX6, R, ret) Q 64 [some (.ref (a + 0)), some (z_I (i : Int))] [] a (z_L15 a .null (z_rF a i) ++ z_sts a i) (14 + 18 * i) (170 + 922 * i) := by
  intro f
  induction f with
  | zero =>
    intro i hi
    have e : i = 7 := by omega
    subst e
    refine z_kiloadn dX6_init_64 rfl ?_
    refine z_kaloadn dX6_init_65 rfl ?_
    refine z_kget (C := RX6) (T := TX6) (N := 9) (ci := 6) (kf := 0) (i := 0) (v := .ref (a + 1)) rfl uX6 wfX6_11 rfl (Nat.le_of_ble_eq_true rfl) rfl rfl rfl dX6_init_66 ?_
    refine z_kalen (i := 1) rfl dX6_init_69 ?_
    refine z_kicmp_ge (tgt := 92) ⟨by omega, by omega⟩ ⟨by omega, by omega⟩ dX6_init_70 rfl (fun _ => ?_) (fun y_c => absurd (by decide) y_c)
    exact kend
  | succ f y_f =>
    intro i hi
    have hl := z_sts_len a i
    have hL : (z_L15 a .null (z_rF a i) ++ z_sts a i).length = 15 + 18 * i := by
      rw [List.length_append, hl]; rfl
    have hc1 := hc.1
    have hc2 := hc.2
    refine z_kiloadn dX6_init_64 rfl ?_
    refine z_kaloadn dX6_init_65 rfl ?_
    refine z_kget (C := RX6) (T := TX6) (N := 9) (ci := 6) (kf := 0) (i := 0) (v := .ref (a + 1)) rfl uX6 wfX6_11 rfl (Nat.le_of_ble_eq_true rfl) rfl rfl rfl dX6_init_66 ?_
    refine z_kalen (i := 1) rfl dX6_init_69 ?_
    refine z_kicmp_ge (tgt := 92) ⟨by omega, by omega⟩ ⟨by omega, by omega⟩ dX6_init_70 rfl (fun y_c => ?_) (fun _ => ?_)
    · exfalso
      have y_d : (7 : Int) ≤ (i : Int) := y_c
      omega
    refine z_kaloadn dX6_init_73 rfl ?_
    refine z_kget (C := RX6) (T := TX6) (N := 9) (ci := 6) (kf := 0) (i := 0) (v := .ref (a + 1)) rfl uX6 wfX6_11 rfl (Nat.le_of_ble_eq_true rfl) rfl rfl rfl dX6_init_74 ?_
    refine z_kiloadn dX6_init_77 rfl ?_
    refine z_knew (C := RX5) (T := TX5) (N := 8) (ci := 5) (ty := tyX5) (vs := [.null, .null, .null, z_I 0, z_I 0, z_I 0, z_I 0, z_I 0]) rfl uX5 tyX5_ok wlkX6_9 wq_X5 wn_X5 rfl z_dfX5 ⟨by show _ ≤ R.cells; omega, by show _ ≤ R.slots; omega⟩ dX6_init_78 ?_
    refine z_kdup dX6_init_81 rfl ?_
    rw [hL]
    refine z_kinitN (L1 := z_L15 a .null (z_rF a i) ++ z_sts a i) (i := 15 + 18 * i) (tX5_init (a := a + (15 + 18 * i))) hL.symm wmX6_43 wi_X5_init wc_X5_init wn_X5 rfl n_X5_init ⟨hf.1, hf.2⟩ ⟨by show _ ≤ R.cells; omega, by show _ ≤ R.slots; omega⟩ (Nat.le_of_ble_eq_true rfl) dX6_init_82 ?_
    have hS : z_stC (a + 15 + 18 * i) = z_stC (a + (15 + 18 * i)) := by rw [Nat.add_assoc]
    refine z_kaast (i := 1) (i2 := 15 + 18 * i) (m := 7) (f := z_rF a i) rfl (by rw [List.getElem?_append_right (by rw [hL]; exact Nat.le_refl _), hL, Nat.sub_self]; rfl) (by omega) (Nat.le_of_ble_eq_true rfl) dX6_init_85 ?_
    refine z_kL (L2 := z_L15 a .null (z_rF a (i + 1)) ++ z_sts a (i + 1)) (by rw [z_rF_s]; show _ = _ ++ (z_sts a i ++ z_stC (a + 15 + 18 * i)); rw [hS, ← List.append_assoc]; rfl) ?_
    refine z_kiinc dX6_init_86 rfl (Nat.le_of_ble_eq_true rfl) rfl ?_
    refine z_kgoto (tgt := 64) dX6_init_89 rfl ?_
    refine z_kwide (k' := 14 + 18 * (i + 1)) (n' := 170 + 922 * (i + 1)) (by omega) (by omega) ?_
    exact y_f (i + 1) (by omega)
theorem tX6_init {G : z_G} {a : Nat} : z_ConK G yX6_init cX6_init 2 3 60 a (.inl (6, [.null, z_I 0, z_I 0, .null, .null, .null, .null, .null, .null])) (z_L15 a (.ref (a + 15)) (z_rF a 7) ++ z_sts a 7) 140 6624 := by
  refine z_conK (ls := [some (.ref (a + 0)), none]) (by decide +kernel) rfl (Nat.le_of_ble_eq_true rfl) rfl ?_
  intro Z hin
  refine z_kaloadn dX6_init_0 rfl ?_
  refine z_kobj woX6_1 wk_oi wk_oc (Nat.le_of_ble_eq_true rfl) (Nat.le_of_ble_eq_true rfl) dX6_init_1 ?_
  refine z_kaloadn dX6_init_4 rfl ?_
  refine z_kbipush dX6_init_5 (by decide) ?_
  refine z_kanew (N := 7) wlkX6_9 (Nat.le_of_ble_eq_true rfl) ⟨(Nat.le_of_ble_eq_true rfl), (Nat.le_of_ble_eq_true rfl)⟩ dX6_init_7 ?_
  refine z_kL (L2 := [.inl (6, [.null, z_I 0, z_I 0, .null, .null, .null, .null, .null, .null]), .inr (4, 7, fun _ => .null)]) rfl ?_
  refine z_kputF hin (C := RX6) (T := TX6) (N := 9) (ci := 6) (kf := 0) (i := 0) rfl uX6 tyX6 tyX6_ok nmX6 wfX6_11 rfl rfl rfl (Nat.le_of_ble_eq_true rfl) rfl rfl rfl rfl dX6_init_10 ?_
  refine z_kL (L2 := [.inl (6, [.ref (a + 1), z_I 0, z_I 0, .null, .null, .null, .null, .null, .null]), .inr (4, 7, fun _ => .null)]) rfl ?_
  refine z_kaloadn dX6_init_13 rfl ?_
  refine z_knew (C := RX2) (T := TX2) (N := 7) (ci := 2) (ty := tyX2) (vs := [.null, z_I 0, .null, z_I 0, z_I 0, z_I 0, z_I 0]) rfl uX2 tyX2_ok wlkX6_15 wq_X2 wn_X2 rfl z_dfX2 ⟨(Nat.le_of_ble_eq_true rfl), (Nat.le_of_ble_eq_true rfl)⟩ dX6_init_14 ?_
  refine z_kL (L2 := [.inl (6, [.ref (a + 1), z_I 0, z_I 0, .null, .null, .null, .null, .null, .null]), .inr (4, 7, fun _ => .null), .inl (2, [.null, z_I 0, .null, z_I 0, z_I 0, z_I 0, z_I 0])]) rfl ?_
  refine z_kdup dX6_init_17 rfl ?_
  refine z_kinitN (L1 := [.inl (6, [.ref (a + 1), z_I 0, z_I 0, .null, .null, .null, .null, .null, .null]), .inr (4, 7, fun _ => .null)]) (i := 2) (tX2_init (a := a + 2)) rfl wmX6_17 wi_X2_init wc_X2_init wn_X2 rfl n_X2_init ⟨(Nat.le_of_ble_eq_true rfl), (Nat.le_of_ble_eq_true rfl)⟩ ⟨(Nat.le_of_ble_eq_true rfl), (Nat.le_of_ble_eq_true rfl)⟩ (Nat.le_of_ble_eq_true rfl) dX6_init_18 ?_
  refine z_kL (L2 := [.inl (6, [.ref (a + 1), z_I 0, z_I 0, .null, .null, .null, .null, .null, .null]), .inr (4, 7, fun _ => .null), .inl (2, [.ref (a + 3), z_I 0, .ref (a + 4), z_I 0, z_I 0, z_I 0, z_I 0]), .inr (0, 60, fun _ => z_I 0), .inr (0, 12, fun _ => z_I 0)]) rfl ?_
  refine z_kputF hin (C := RX6) (T := TX6) (N := 9) (ci := 6) (kf := 4) (i := 0) rfl uX6 tyX6 tyX6_ok nmX6 wfX6_18 rfl rfl rfl (Nat.le_of_ble_eq_true rfl) rfl rfl rfl rfl dX6_init_21 ?_
  refine z_kL (L2 := [.inl (6, [.ref (a + 1), z_I 0, z_I 0, .null, .ref (a + 2), .null, .null, .null, .null]), .inr (4, 7, fun _ => .null), .inl (2, [.ref (a + 3), z_I 0, .ref (a + 4), z_I 0, z_I 0, z_I 0, z_I 0]), .inr (0, 60, fun _ => z_I 0), .inr (0, 12, fun _ => z_I 0)]) rfl ?_
  refine z_kaloadn dX6_init_24 rfl ?_
  refine z_knew (C := RX0) (T := TX0) (N := 6) (ci := 0) (ty := tyX0) (vs := [z_I 0, z_I 0, z_I 0, z_I 0, .null, .null]) rfl uX0 tyX0_ok wlkX6_22 wq_X0 wn_X0 rfl z_dfX0 ⟨(Nat.le_of_ble_eq_true rfl), (Nat.le_of_ble_eq_true rfl)⟩ dX6_init_25 ?_
  refine z_kL (L2 := [.inl (6, [.ref (a + 1), z_I 0, z_I 0, .null, .ref (a + 2), .null, .null, .null, .null]), .inr (4, 7, fun _ => .null), .inl (2, [.ref (a + 3), z_I 0, .ref (a + 4), z_I 0, z_I 0, z_I 0, z_I 0]), .inr (0, 60, fun _ => z_I 0), .inr (0, 12, fun _ => z_I 0), .inl (0, [z_I 0, z_I 0, z_I 0, z_I 0, .null, .null])]) rfl ?_
  refine z_kdup dX6_init_28 rfl ?_
  refine z_kinitN (L1 := [.inl (6, [.ref (a + 1), z_I 0, z_I 0, .null, .ref (a + 2), .null, .null, .null, .null]), .inr (4, 7, fun _ => .null), .inl (2, [.ref (a + 3), z_I 0, .ref (a + 4), z_I 0, z_I 0, z_I 0, z_I 0]), .inr (0, 60, fun _ => z_I 0), .inr (0, 12, fun _ => z_I 0)]) (i := 5) (tX0_init (a := a + 5)) rfl wmX6_24 wi_X0_init wc_X0_init wn_X0 rfl n_X0_init ⟨(Nat.le_of_ble_eq_true rfl), (Nat.le_of_ble_eq_true rfl)⟩ ⟨(Nat.le_of_ble_eq_true rfl), (Nat.le_of_ble_eq_true rfl)⟩ (Nat.le_of_ble_eq_true rfl) dX6_init_29 ?_
  refine z_kL (L2 := [.inl (6, [.ref (a + 1), z_I 0, z_I 0, .null, .ref (a + 2), .null, .null, .null, .null]), .inr (4, 7, fun _ => .null), .inl (2, [.ref (a + 3), z_I 0, .ref (a + 4), z_I 0, z_I 0, z_I 0, z_I 0]), .inr (0, 60, fun _ => z_I 0), .inr (0, 12, fun _ => z_I 0), .inl (0, [z_I 0, z_I 0, z_I 0, z_I 0, .ref (a + 6), .ref (a + 7)]), .inr (0, 12, fun _ => z_I 0), .inr (0, 12, fun _ => z_I 0)]) rfl ?_
  refine z_kputF hin (C := RX6) (T := TX6) (N := 9) (ci := 6) (kf := 5) (i := 0) rfl uX6 tyX6 tyX6_ok nmX6 wfX6_25 rfl rfl rfl (Nat.le_of_ble_eq_true rfl) rfl rfl rfl rfl dX6_init_32 ?_
  refine z_kL (L2 := [.inl (6, [.ref (a + 1), z_I 0, z_I 0, .null, .ref (a + 2), .ref (a + 5), .null, .null, .null]), .inr (4, 7, fun _ => .null), .inl (2, [.ref (a + 3), z_I 0, .ref (a + 4), z_I 0, z_I 0, z_I 0, z_I 0]), .inr (0, 60, fun _ => z_I 0), .inr (0, 12, fun _ => z_I 0), .inl (0, [z_I 0, z_I 0, z_I 0, z_I 0, .ref (a + 6), .ref (a + 7)]), .inr (0, 12, fun _ => z_I 0), .inr (0, 12, fun _ => z_I 0)]) rfl ?_
  refine z_kaloadn dX6_init_35 rfl ?_
  refine z_knew (C := RX1) (T := TX1) (N := 6) (ci := 1) (ty := tyX1) (vs := [.null, .null, .null, .null, z_I 0, z_I 0]) rfl uX1 tyX1_ok wlkX6_29 wq_X1 wn_X1 rfl z_dfX1 ⟨(Nat.le_of_ble_eq_true rfl), (Nat.le_of_ble_eq_true rfl)⟩ dX6_init_36 ?_
  refine z_kL (L2 := [.inl (6, [.ref (a + 1), z_I 0, z_I 0, .null, .ref (a + 2), .ref (a + 5), .null, .null, .null]), .inr (4, 7, fun _ => .null), .inl (2, [.ref (a + 3), z_I 0, .ref (a + 4), z_I 0, z_I 0, z_I 0, z_I 0]), .inr (0, 60, fun _ => z_I 0), .inr (0, 12, fun _ => z_I 0), .inl (0, [z_I 0, z_I 0, z_I 0, z_I 0, .ref (a + 6), .ref (a + 7)]), .inr (0, 12, fun _ => z_I 0), .inr (0, 12, fun _ => z_I 0), .inl (1, [.null, .null, .null, .null, z_I 0, z_I 0])]) rfl ?_
  refine z_kdup dX6_init_39 rfl ?_
  refine z_kinitN (L1 := [.inl (6, [.ref (a + 1), z_I 0, z_I 0, .null, .ref (a + 2), .ref (a + 5), .null, .null, .null]), .inr (4, 7, fun _ => .null), .inl (2, [.ref (a + 3), z_I 0, .ref (a + 4), z_I 0, z_I 0, z_I 0, z_I 0]), .inr (0, 60, fun _ => z_I 0), .inr (0, 12, fun _ => z_I 0), .inl (0, [z_I 0, z_I 0, z_I 0, z_I 0, .ref (a + 6), .ref (a + 7)]), .inr (0, 12, fun _ => z_I 0), .inr (0, 12, fun _ => z_I 0)]) (i := 8) (tX1_init (a := a + 8)) rfl wmX6_31 wi_X1_init wc_X1_init wn_X1 rfl n_X1_init ⟨(Nat.le_of_ble_eq_true rfl), (Nat.le_of_ble_eq_true rfl)⟩ ⟨(Nat.le_of_ble_eq_true rfl), (Nat.le_of_ble_eq_true rfl)⟩ (Nat.le_of_ble_eq_true rfl) dX6_init_40 ?_
  refine z_kL (L2 := [.inl (6, [.ref (a + 1), z_I 0, z_I 0, .null, .ref (a + 2), .ref (a + 5), .null, .null, .null]), .inr (4, 7, fun _ => .null), .inl (2, [.ref (a + 3), z_I 0, .ref (a + 4), z_I 0, z_I 0, z_I 0, z_I 0]), .inr (0, 60, fun _ => z_I 0), .inr (0, 12, fun _ => z_I 0), .inl (0, [z_I 0, z_I 0, z_I 0, z_I 0, .ref (a + 6), .ref (a + 7)]), .inr (0, 12, fun _ => z_I 0), .inr (0, 12, fun _ => z_I 0), .inl (1, [.ref (a + 9), .ref (a + 10), .ref (a + 11), .ref (a + 12), z_I 0, z_I 0]), .inr (0, 12, fun _ => z_I 0), .inr (0, 4, fun _ => z_I 0), .inr (0, 4, fun _ => z_I 0), .inr (0, 4, fun _ => z_I 0)]) rfl ?_
  refine z_kputF hin (C := RX6) (T := TX6) (N := 9) (ci := 6) (kf := 6) (i := 0) rfl uX6 tyX6 tyX6_ok nmX6 wfX6_32 rfl rfl rfl (Nat.le_of_ble_eq_true rfl) rfl rfl rfl rfl dX6_init_43 ?_
  refine z_kL (L2 := [.inl (6, [.ref (a + 1), z_I 0, z_I 0, .null, .ref (a + 2), .ref (a + 5), .ref (a + 8), .null, .null]), .inr (4, 7, fun _ => .null), .inl (2, [.ref (a + 3), z_I 0, .ref (a + 4), z_I 0, z_I 0, z_I 0, z_I 0]), .inr (0, 60, fun _ => z_I 0), .inr (0, 12, fun _ => z_I 0), .inl (0, [z_I 0, z_I 0, z_I 0, z_I 0, .ref (a + 6), .ref (a + 7)]), .inr (0, 12, fun _ => z_I 0), .inr (0, 12, fun _ => z_I 0), .inl (1, [.ref (a + 9), .ref (a + 10), .ref (a + 11), .ref (a + 12), z_I 0, z_I 0]), .inr (0, 12, fun _ => z_I 0), .inr (0, 4, fun _ => z_I 0), .inr (0, 4, fun _ => z_I 0), .inr (0, 4, fun _ => z_I 0)]) rfl ?_
  refine z_kaloadn dX6_init_46 rfl ?_
  refine z_kbipush dX6_init_47 (by decide) ?_
  refine z_knewI (N := 12) wk_aI (Nat.le_of_ble_eq_true rfl) ⟨(Nat.le_of_ble_eq_true rfl), (Nat.le_of_ble_eq_true rfl)⟩ dX6_init_49 ?_
  refine z_kL (L2 := [.inl (6, [.ref (a + 1), z_I 0, z_I 0, .null, .ref (a + 2), .ref (a + 5), .ref (a + 8), .null, .null]), .inr (4, 7, fun _ => .null), .inl (2, [.ref (a + 3), z_I 0, .ref (a + 4), z_I 0, z_I 0, z_I 0, z_I 0]), .inr (0, 60, fun _ => z_I 0), .inr (0, 12, fun _ => z_I 0), .inl (0, [z_I 0, z_I 0, z_I 0, z_I 0, .ref (a + 6), .ref (a + 7)]), .inr (0, 12, fun _ => z_I 0), .inr (0, 12, fun _ => z_I 0), .inl (1, [.ref (a + 9), .ref (a + 10), .ref (a + 11), .ref (a + 12), z_I 0, z_I 0]), .inr (0, 12, fun _ => z_I 0), .inr (0, 4, fun _ => z_I 0), .inr (0, 4, fun _ => z_I 0), .inr (0, 4, fun _ => z_I 0), .inr (0, 12, fun _ => z_I 0)]) rfl ?_
  refine z_kputF hin (C := RX6) (T := TX6) (N := 9) (ci := 6) (kf := 7) (i := 0) rfl uX6 tyX6 tyX6_ok nmX6 wfX6_36 rfl rfl rfl (Nat.le_of_ble_eq_true rfl) rfl rfl rfl rfl dX6_init_51 ?_
  refine z_kL (L2 := [.inl (6, [.ref (a + 1), z_I 0, z_I 0, .null, .ref (a + 2), .ref (a + 5), .ref (a + 8), .ref (a + 13), .null]), .inr (4, 7, fun _ => .null), .inl (2, [.ref (a + 3), z_I 0, .ref (a + 4), z_I 0, z_I 0, z_I 0, z_I 0]), .inr (0, 60, fun _ => z_I 0), .inr (0, 12, fun _ => z_I 0), .inl (0, [z_I 0, z_I 0, z_I 0, z_I 0, .ref (a + 6), .ref (a + 7)]), .inr (0, 12, fun _ => z_I 0), .inr (0, 12, fun _ => z_I 0), .inl (1, [.ref (a + 9), .ref (a + 10), .ref (a + 11), .ref (a + 12), z_I 0, z_I 0]), .inr (0, 12, fun _ => z_I 0), .inr (0, 4, fun _ => z_I 0), .inr (0, 4, fun _ => z_I 0), .inr (0, 4, fun _ => z_I 0), .inr (0, 12, fun _ => z_I 0)]) rfl ?_
  refine z_kaloadn dX6_init_54 rfl ?_
  refine z_kbipush dX6_init_55 (by decide) ?_
  refine z_knewI (N := 12) wk_aI (Nat.le_of_ble_eq_true rfl) ⟨(Nat.le_of_ble_eq_true rfl), (Nat.le_of_ble_eq_true rfl)⟩ dX6_init_57 ?_
  refine z_kL (L2 := [.inl (6, [.ref (a + 1), z_I 0, z_I 0, .null, .ref (a + 2), .ref (a + 5), .ref (a + 8), .ref (a + 13), .null]), .inr (4, 7, fun _ => .null), .inl (2, [.ref (a + 3), z_I 0, .ref (a + 4), z_I 0, z_I 0, z_I 0, z_I 0]), .inr (0, 60, fun _ => z_I 0), .inr (0, 12, fun _ => z_I 0), .inl (0, [z_I 0, z_I 0, z_I 0, z_I 0, .ref (a + 6), .ref (a + 7)]), .inr (0, 12, fun _ => z_I 0), .inr (0, 12, fun _ => z_I 0), .inl (1, [.ref (a + 9), .ref (a + 10), .ref (a + 11), .ref (a + 12), z_I 0, z_I 0]), .inr (0, 12, fun _ => z_I 0), .inr (0, 4, fun _ => z_I 0), .inr (0, 4, fun _ => z_I 0), .inr (0, 4, fun _ => z_I 0), .inr (0, 12, fun _ => z_I 0), .inr (0, 12, fun _ => z_I 0)]) rfl ?_
  refine z_kputF hin (C := RX6) (T := TX6) (N := 9) (ci := 6) (kf := 8) (i := 0) rfl uX6 tyX6 tyX6_ok nmX6 wfX6_40 rfl rfl rfl (Nat.le_of_ble_eq_true rfl) rfl rfl rfl rfl dX6_init_59 ?_
  refine z_kL (L2 := [.inl (6, [.ref (a + 1), z_I 0, z_I 0, .null, .ref (a + 2), .ref (a + 5), .ref (a + 8), .ref (a + 13), .ref (a + 14)]), .inr (4, 7, fun _ => .null), .inl (2, [.ref (a + 3), z_I 0, .ref (a + 4), z_I 0, z_I 0, z_I 0, z_I 0]), .inr (0, 60, fun _ => z_I 0), .inr (0, 12, fun _ => z_I 0), .inl (0, [z_I 0, z_I 0, z_I 0, z_I 0, .ref (a + 6), .ref (a + 7)]), .inr (0, 12, fun _ => z_I 0), .inr (0, 12, fun _ => z_I 0), .inl (1, [.ref (a + 9), .ref (a + 10), .ref (a + 11), .ref (a + 12), z_I 0, z_I 0]), .inr (0, 12, fun _ => z_I 0), .inr (0, 4, fun _ => z_I 0), .inr (0, 4, fun _ => z_I 0), .inr (0, 4, fun _ => z_I 0), .inr (0, 12, fun _ => z_I 0), .inr (0, 12, fun _ => z_I 0)]) rfl ?_
  refine z_kiconst dX6_init_62 ?_
  refine z_kistoren dX6_init_63 (Nat.le_of_ble_eq_true rfl) rfl ?_
  refine z_x6_loop (R := z_rmK 3 60 140 6624) ⟨(Nat.le_of_ble_eq_true rfl), (Nat.le_of_ble_eq_true rfl)⟩ ⟨(Nat.le_of_ble_eq_true rfl), (Nat.le_of_ble_eq_true rfl)⟩ ?_ 7 0 rfl
  refine z_kaloadn dX6_init_92 rfl ?_
  refine z_kaloadn dX6_init_93 rfl ?_
  refine z_kget (C := RX6) (T := TX6) (N := 9) (ci := 6) (kf := 0) (i := 0) (v := .ref (a + 1)) rfl uX6 wfX6_11 rfl (Nat.le_of_ble_eq_true rfl) rfl rfl rfl dX6_init_94 ?_
  refine z_kiconst dX6_init_97 ?_
  refine z_kaald (i := 1) (j := 0) (m := 7) (f := z_rF a 7) (r := a + 15) rfl (by decide) (Nat.le_of_ble_eq_true rfl) rfl dX6_init_98 ?_
  refine z_kput (C := RX6) (T := TX6) (N := 9) (ci := 6) (kf := 3) (i := 0) rfl uX6 tyX6 tyX6_ok nmX6 wfX6_44 rfl rfl (Nat.le_of_ble_eq_true rfl) rfl rfl rfl rfl dX6_init_99 ?_
  exact z_kret dX6_init_102
