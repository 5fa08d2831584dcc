/-! ===== the law from its entry ===== -/
section ZE0
variable {G : z_G} {Z : z_Z} {d : z_Md} {Q : State → Prop} {pc : Nat} {ls : List (Option Value)} {st st2 : List Value} {a k n : Nat} {L : List z_CC} {M : z_M}
theorem z_kst (e : st = st2) (kk : z_JK G Z d Q pc ls st2 a L k n) : z_JK G Z d Q pc ls st a L k n := e ▸ kk
theorem z_kdone (hw : ∀ H0 H : Heap, z_Bd G a L H0 H → z_Wd G M H) (kk : z_J G Z d Q pc ls st M k n) : z_JK G Z d Q pc ls st a L k n := fun hO hX ha H locs la hB hS hL => kk hO H locs la (hw _ _ hB) hS hL
end ZE0
theorem z_dfX6 : ∀ j, j < 9 → defaultValue (tyX6 j) = ([.null, z_I 0, z_I 0, .null, .null, .null, .null, .null, .null] : List Value).getD j .null := fun j hj => by
  rcases (show j = 0 ∨ j = 1 ∨ j = 2 ∨ j = 3 ∨ j = 4 ∨ j = 5 ∨ j = 6 ∨ j = 7 ∨ j = 8 by omega) with rfl | rfl | rfl | rfl | rfl | rfl | rfl | rfl | rfl <;> rfl
theorem z_law_body {G : z_G} {Z : z_Z} {Q : State → Prop} (hx : z_x G = 0) (kk : z_J G Z z_dL Q 48 [some (.ref (z_scp G).1), some (.ref (z_ad G 0 20)), some (.ref (z_ad G 0 40)), some (.ref (z_ad G 0 41)), some (.ref (z_ad G 0 42)), some (.ref (z_ad G 0 43)), some (.ref (z_ad G 0 44)), some (.ref (z_ad G 0 45)), some (.ref (z_ad G 0 46)), none, none, none, none] [] z_M0 148 6739) : z_JK G Z z_dL Q 0 [some (.ref (z_scp G).1), none, none, none, none, none, none, none, none, none, none, none, none] [] (z_b G) [] 0 0 := by
  refine z_knew (C := RX6) (T := TX6) (N := 9) (ci := 6) (ty := tyX6) (vs := [.null, z_I 0, z_I 0, .null, .null, .null, .null, .null, .null]) rfl uX6 tyX6_ok wlkL_23 wq_X6 wn_X6 rfl z_dfX6 ⟨(Nat.le_of_ble_eq_true rfl), (Nat.le_of_ble_eq_true rfl)⟩ dL_law_0 ?_
  refine z_kst (st2 := [.ref (z_b G + 0)]) rfl ?_
  refine z_kdup dL_law_3 rfl ?_
  refine z_kinit (L1 := []) (i := 0) (tX6_init (a := z_b G + 0)) rfl wmL_148 wi_X6_init wc_X6_init wn_X6 rfl n_X6_init ⟨(Nat.le_of_ble_eq_true rfl), (Nat.le_of_ble_eq_true rfl)⟩ ⟨(Nat.le_of_ble_eq_true rfl), (Nat.le_of_ble_eq_true rfl)⟩ (Nat.le_of_ble_eq_true rfl) dL_law_4 ?_
  refine z_kL (L2 := z_cls (z_b G)) rfl ?_
  refine z_kastoren dL_law_7 (Nat.le_of_ble_eq_true rfl) rfl ?_
  refine z_kbipush dL_law_8 (by decide) ?_
  refine z_knewI (N := 24) wk_aI (Nat.le_of_ble_eq_true rfl) ⟨(Nat.le_of_ble_eq_true rfl), (Nat.le_of_ble_eq_true rfl)⟩ dL_law_10 ?_
  refine z_kst (st2 := [.ref (z_b G + 141)]) (by rw [z_cls_len]) ?_
  refine z_kL (L2 := z_cls (z_b G) ++ [.inr (0, 24, fun _ => z_I 0)]) rfl ?_
  refine z_kastoren dL_law_12 (Nat.le_of_ble_eq_true rfl) rfl ?_
  refine z_kbipush dL_law_13 (by decide) ?_
  refine z_knewI (N := 20) wk_aI (Nat.le_of_ble_eq_true rfl) ⟨(Nat.le_of_ble_eq_true rfl), (Nat.le_of_ble_eq_true rfl)⟩ dL_law_15 ?_
  refine z_kst (st2 := [.ref (z_b G + 142)]) (by rw [List.length_append, z_cls_len]; rfl) ?_
  refine z_kL (L2 := z_cls (z_b G) ++ [.inr (0, 24, fun _ => z_I 0), .inr (0, 20, fun _ => z_I 0)]) (List.append_assoc _ _ _) ?_
  refine z_kastoren dL_law_17 (Nat.le_of_ble_eq_true rfl) rfl ?_
  refine z_kbipush dL_law_18 (by decide) ?_
  refine z_knewI (N := 16) wk_aI (Nat.le_of_ble_eq_true rfl) ⟨(Nat.le_of_ble_eq_true rfl), (Nat.le_of_ble_eq_true rfl)⟩ dL_law_20 ?_
  refine z_kst (st2 := [.ref (z_b G + 143)]) (by rw [List.length_append, z_cls_len]; rfl) ?_
  refine z_kL (L2 := z_cls (z_b G) ++ [.inr (0, 24, fun _ => z_I 0), .inr (0, 20, fun _ => z_I 0), .inr (0, 16, fun _ => z_I 0)]) (List.append_assoc _ _ _) ?_
  refine z_kastore dL_law_22 (Nat.le_of_ble_eq_true rfl) rfl ?_
  refine z_kbipush dL_law_24 (by decide) ?_
  refine z_knewI (N := 16) wk_aI (Nat.le_of_ble_eq_true rfl) ⟨(Nat.le_of_ble_eq_true rfl), (Nat.le_of_ble_eq_true rfl)⟩ dL_law_26 ?_
  refine z_kst (st2 := [.ref (z_b G + 144)]) (by rw [List.length_append, z_cls_len]; rfl) ?_
  refine z_kL (L2 := z_cls (z_b G) ++ [.inr (0, 24, fun _ => z_I 0), .inr (0, 20, fun _ => z_I 0), .inr (0, 16, fun _ => z_I 0), .inr (0, 16, fun _ => z_I 0)]) (List.append_assoc _ _ _) ?_
  refine z_kastore dL_law_28 (Nat.le_of_ble_eq_true rfl) rfl ?_
  refine z_kbipush dL_law_30 (by decide) ?_
  refine z_knewI (N := 16) wk_aI (Nat.le_of_ble_eq_true rfl) ⟨(Nat.le_of_ble_eq_true rfl), (Nat.le_of_ble_eq_true rfl)⟩ dL_law_32 ?_
  refine z_kst (st2 := [.ref (z_b G + 145)]) (by rw [List.length_append, z_cls_len]; rfl) ?_
  refine z_kL (L2 := z_cls (z_b G) ++ [.inr (0, 24, fun _ => z_I 0), .inr (0, 20, fun _ => z_I 0), .inr (0, 16, fun _ => z_I 0), .inr (0, 16, fun _ => z_I 0), .inr (0, 16, fun _ => z_I 0)]) (List.append_assoc _ _ _) ?_
  refine z_kastore dL_law_34 (Nat.le_of_ble_eq_true rfl) rfl ?_
  refine z_kbipush dL_law_36 (by decide) ?_
  refine z_knewI (N := 6) wk_aI (Nat.le_of_ble_eq_true rfl) ⟨(Nat.le_of_ble_eq_true rfl), (Nat.le_of_ble_eq_true rfl)⟩ dL_law_38 ?_
  refine z_kst (st2 := [.ref (z_b G + 146)]) (by rw [List.length_append, z_cls_len]; rfl) ?_
  refine z_kL (L2 := z_cls (z_b G) ++ [.inr (0, 24, fun _ => z_I 0), .inr (0, 20, fun _ => z_I 0), .inr (0, 16, fun _ => z_I 0), .inr (0, 16, fun _ => z_I 0), .inr (0, 16, fun _ => z_I 0), .inr (0, 6, fun _ => z_I 0)]) (List.append_assoc _ _ _) ?_
  refine z_kastore dL_law_40 (Nat.le_of_ble_eq_true rfl) rfl ?_
  refine z_kbipush dL_law_42 (by decide) ?_
  refine z_knewI (N := 8) wk_aI (Nat.le_of_ble_eq_true rfl) ⟨(Nat.le_of_ble_eq_true rfl), (Nat.le_of_ble_eq_true rfl)⟩ dL_law_44 ?_
  refine z_kst (st2 := [.ref (z_b G + 147)]) (by rw [List.length_append, z_cls_len]; rfl) ?_
  refine z_kL (L2 := z_cls (z_b G) ++ [.inr (0, 24, fun _ => z_I 0), .inr (0, 20, fun _ => z_I 0), .inr (0, 16, fun _ => z_I 0), .inr (0, 16, fun _ => z_I 0), .inr (0, 16, fun _ => z_I 0), .inr (0, 6, fun _ => z_I 0), .inr (0, 8, fun _ => z_I 0)]) (List.append_assoc _ _ _) ?_
  refine z_kastore dL_law_46 (Nat.le_of_ble_eq_true rfl) rfl ?_
  refine z_kdone (M := z_M0) (fun H0 H hB => z_wd0 hB hx) ?_
  exact z_lsE (ls' := [some (.ref (z_scp G).1), some (.ref (z_ad G 0 20)), some (.ref (z_ad G 0 40)), some (.ref (z_ad G 0 41)), some (.ref (z_ad G 0 42)), some (.ref (z_ad G 0 43)), some (.ref (z_ad G 0 44)), some (.ref (z_ad G 0 45)), some (.ref (z_ad G 0 46)), none, none, none, none]) rfl kk
theorem z_wAny {w : Cond} (hw : (goodWord w || z_isN w) = true) {s U : State} (hW : s.WarmedH U.vm) {A : Array Value} (h : w.before A s = true) (a : Array Value) : w.before a U = true := by
  rw [Bool.or_eq_true] at hw
  rcases hw with hg | hn
  · exact word_at hW (good_of_word hg) h
  · cases w <;> first
      | exact absurd hn Bool.false_ne_true
      | exact va_Nw.use rfl (va_Nw.warmM hW (va_Nw.of rfl h))
      | exact va_Nw.use rfl (va_Nw.warmF hW (va_Nw.of rfl h))
      | exact va_Nw.use rfl (va_Nw.warmC hW (va_Nw.of rfl h))
      | exact va_Nw.use rfl (va_Nw.warmD hW (va_Nw.of rfl h))
theorem z_eqI {A : Array Value} {s : State} {t : Term} {n : Int32} (h : (Cond.eq t (.int n)).before A s = true) : t.eval A s none [] s = some (.int n) := by
  have hb : (Term.int n).eval A s none [] s = some (.int n) := rfl
  simp only [Cond.before, Cond.holds, Cond.value, hb] at h
  cases ha : t.eval A s none [] s with
  | none => simp [ha] at h
  | some x => cases x <;> simp [ha] at h ⊢ <;> exact h
theorem z_lenS {A : Array Value} {s : State} {t : Term} {a : Nat} {cell : Cell} (h : (Term.length t).eval A s none [] s = some (.int 6)) (ht : t.eval A s none [] s = some (.ref a)) (hc : s.heap[a]? = some cell) : cell.slots.size = 6 := by
  obtain ⟨a2, c2, h1, h2, h3⟩ := Term.length_spec h
  cases ht.symm.trans h1
  obtain ⟨h4, -⟩ := State.arrayAt?_spec h2
  cases hc.symm.trans h4
  have hsz : cell.slots.size < 2 ^ 31 := by
    simp only [Term.eval, ht, h2, Option.bind_eq_bind, Option.bind_some] at h
    by_cases hlt : cell.slots.size < 2147483648
    · exact hlt
    · simp [hlt] at h
  have e := Int32.toNatClampNeg_ofNat_of_lt hsz
  have e2 : Int32.ofNat cell.slots.size = 6 := (Value.int.inj h3).symm
  rw [e2] at e
  exact e.symm
set_option maxHeartbeats 4000000 in
set_option maxRecDepth 100000 in
theorem z_entry {p : Program} {e : Env} {s : State} {m : MethodId} {below : List Frame} {meth : Method} {c : Code} {l : Launch} {Q : State → Prop} (hflags : l.flags = flags0) {b L : Nat} {xs : Nat → Int32} (hL : L ≤ 260) (hx : p.tables.exec = Jvm.exec) (hb : c.code = code) (hr : meth.sig.returnType = ret) (hml : c.maxLocals = 13) (hown : s.vm.findClass RL = some m.cls)
    (hts : ∀ w ∈ lw_tbl, w.before #[Value.ref b] s = true) (hX : va_X b L xs s s.heap) (hbl : b < s.heap.size) (hlocks : meth.locks = false) (hgv : (Jvm.Cond.and given_1 narrow_1).before #[Value.ref b] s = true)
    (hend : ∀ (H : Heap) (locs : List Loc) (la : Array Slot) (k n : Nat), (∀ q ∈ locs, s.heap.size ≤ q.base) → k ≤ 600130 → n ≤ 7301080 → W p l e room_1 s m #[Value.ref b] below meth c H locs k n Q (F0 m 304 la [z_I 1])) :
    W p l e room_1 s m #[Value.ref b] below meth c s.heap [] 0 0 Q (entryFrame m ([Value.ref b] : List Value).toArray 13) := by
  have hs := flat_of_before _ hgv
  have tw : ∀ w ∈ z_W, w.before #[Value.ref b] s = true := fun w hw => hts w (List.mem_filter.mp hw).1
  obtain ⟨c0, i0, k0⟩ := u_known (C := RX0) (T := TX0) (N := 6) tw uX0 (tw _ wq_X0)
  obtain ⟨c1, i1, k1⟩ := u_known (C := RX1) (T := TX1) (N := 6) tw uX1 (tw _ wq_X1)
  obtain ⟨c2, i2, k2⟩ := u_known (C := RX2) (T := TX2) (N := 7) tw uX2 (tw _ wq_X2)
  obtain ⟨c3, i3, k3⟩ := u_known (C := RX3) (T := TX3) (N := 7) tw uX3 (tw _ wq_X3)
  obtain ⟨c4, i4, k4⟩ := u_known (C := RX4) (T := TX4) (N := 9) tw uX4 (tw _ wq_X4)
  obtain ⟨c5, i5, k5⟩ := u_known (C := RX5) (T := TX5) (N := 8) tw uX5 (tw _ wq_X5)
  obtain ⟨c6, i6, k6⟩ := u_known (C := RX6) (T := TX6) (N := 9) tw uX6 (tw _ wq_X6)
  obtain ⟨aI, kI, pI, f1, f2, f3⟩ := Cond.arrayClass_spec (tw _ wk_aI)
  have hov : (Cond.arrayOver (.object "PenGuild$State")).before #[Value.ref b] s = true := hts _ (List.mem_of_getElem? (i := 54) (by decide +kernel))
  obtain ⟨pR, aR, kR, r1, r2, r3, r4, r5⟩ := Cond.arrayOver_spec hov
  have hA : ∀ (a : Nat), a < s.heap.size → ¬ (fun q : Nat => s.heap.size ≤ q) a := fun a h h2 => absurd h (Nat.not_lt.mpr h2)
  have iniP : (Cond.initialized "PenGuild").before #[Value.ref b] s = true := hts _ (List.mem_of_getElem? (i := 29) (by decide +kernel))
  have iniT : (Cond.initialized "java/lang/Throwable").before #[Value.ref b] s = true := hts _ (List.mem_of_getElem? (i := 36) (by decide +kernel))
  have lenF : (Term.length (.static "PenGuild" "FIRST_SETTINGS" "[I")).eval #[Value.ref b] s none [] s = some (.int 6) := z_eqI (hs (.eq (.length (.static "PenGuild" "FIRST_SETTINGS" "[I")) (.int 6)) (by decide +kernel))
  obtain ⟨tF, evF, vaF⟩ := va_Tof (args := #[Value.ref b]) (s := s) (tm := .static "PenGuild" "FIRST_SETTINGS" "[I") (ty := .int) (N := 6) (f := fun j => z_I (z_first j)) (A := fun q : Nat => s.heap.size ≤ q) (by decide) (hs (.arrayOf (.static "PenGuild" "FIRST_SETTINGS" "[I") .int) (by decide +kernel)) lenF (fun j hj => by
    rcases (show j = 0 ∨ j = 1 ∨ j = 2 ∨ j = 3 ∨ j = 4 ∨ j = 5 by omega) with rfl | rfl | rfl | rfl | rfl | rfl
    · exact z_eqI (n := 10) (hs (.eq (.elem (.static "PenGuild" "FIRST_SETTINGS" "[I") (.int 0)) (.int 10)) (by decide +kernel))
    · exact z_eqI (n := 5) (hs (.eq (.elem (.static "PenGuild" "FIRST_SETTINGS" "[I") (.int 1)) (.int 5)) (by decide +kernel))
    · exact z_eqI (n := 0) (hs (.eq (.elem (.static "PenGuild" "FIRST_SETTINGS" "[I") (.int 2)) (.int 0)) (by decide +kernel))
    · exact z_eqI (n := 10) (hs (.eq (.elem (.static "PenGuild" "FIRST_SETTINGS" "[I") (.int 3)) (.int 10)) (by decide +kernel))
    · exact z_eqI (n := 25) (hs (.eq (.elem (.static "PenGuild" "FIRST_SETTINGS" "[I") (.int 4)) (.int 25)) (by decide +kernel))
    · exact z_eqI (n := 50) (hs (.eq (.elem (.static "PenGuild" "FIRST_SETTINGS" "[I") (.int 5)) (.int 50)) (by decide +kernel))) hA
  have vzF := va_Zref (hts (.laysStatic "PenGuild" "FIRST_SETTINGS" "[I") (List.mem_of_getElem? (i := 234) (by decide +kernel))) iniP evF hA
  have lenT : (Term.length (.static "PenGuild" "GREATEST_SETTINGS" "[I")).eval #[Value.ref b] s none [] s = some (.int 6) := z_eqI (hs (.eq (.length (.static "PenGuild" "GREATEST_SETTINGS" "[I")) (.int 6)) (by decide +kernel))
  obtain ⟨tT, evT, vaT⟩ := va_Tof (args := #[Value.ref b]) (s := s) (tm := .static "PenGuild" "GREATEST_SETTINGS" "[I") (ty := .int) (N := 6) (f := fun j => z_I (z_most j)) (A := fun q : Nat => s.heap.size ≤ q) (by decide) (hs (.arrayOf (.static "PenGuild" "GREATEST_SETTINGS" "[I") .int) (by decide +kernel)) lenT (fun j hj => by
    rcases (show j = 0 ∨ j = 1 ∨ j = 2 ∨ j = 3 ∨ j = 4 ∨ j = 5 by omega) with rfl | rfl | rfl | rfl | rfl | rfl
    · exact z_eqI (n := 30) (hs (.eq (.elem (.static "PenGuild" "GREATEST_SETTINGS" "[I") (.int 0)) (.int 30)) (by decide +kernel))
    · exact z_eqI (n := 20) (hs (.eq (.elem (.static "PenGuild" "GREATEST_SETTINGS" "[I") (.int 1)) (.int 20)) (by decide +kernel))
    · exact z_eqI (n := 10000) (hs (.eq (.elem (.static "PenGuild" "GREATEST_SETTINGS" "[I") (.int 2)) (.int 10000)) (by decide +kernel))
    · exact z_eqI (n := 100) (hs (.eq (.elem (.static "PenGuild" "GREATEST_SETTINGS" "[I") (.int 3)) (.int 100)) (by decide +kernel))
    · exact z_eqI (n := 100) (hs (.eq (.elem (.static "PenGuild" "GREATEST_SETTINGS" "[I") (.int 4)) (.int 100)) (by decide +kernel))
    · exact z_eqI (n := 100) (hs (.eq (.elem (.static "PenGuild" "GREATEST_SETTINGS" "[I") (.int 5)) (.int 100)) (by decide +kernel))) hA
  have vzT := va_Zref (hts (.laysStatic "PenGuild" "GREATEST_SETTINGS" "[I") (List.mem_of_getElem? (i := 686) (by decide +kernel))) iniP evT hA
  have hstr : ∀ q ∈ z_S, ∃ sa, vk_R q.1 q.2.1 q.2.2 sa s := by
    intro q hq
    unfold z_S at hq
    cases hq
  have hzU := vx_Zqof (A := fun q : Nat => s.heap.size ≤ q) (hts (.laysStatic "java/lang/Throwable" "UNASSIGNED_STACK" "[Ljava/lang/StackTraceElement;") (List.mem_of_getElem? (i := 340) (by decide +kernel))) iniT (hs (.isRef (.static "java/lang/Throwable" "UNASSIGNED_STACK" "[Ljava/lang/StackTraceElement;")) (by decide +kernel)) hA
  have hzS := vx_Zqof (A := fun q : Nat => s.heap.size ≤ q) (hts (.laysStatic "java/lang/Throwable" "SUPPRESSED_SENTINEL" "Ljava/util/List;") (List.mem_of_getElem? (i := 342) (by decide +kernel))) iniT (hs (.isRef (.static "java/lang/Throwable" "SUPPRESSED_SENTINEL" "Ljava/util/List;")) (by decide +kernel)) hA
  have hK : va_K (fun c => match c with | 0 => c0 | 1 => c1 | 2 => c2 | 3 => c3 | 4 => c4 | 5 => c5 | _ => c6, fun c => match c with | 0 => i0 | 1 => i1 | 2 => i2 | 3 => i3 | 4 => i4 | 5 => i5 | _ => i6) vwCl [(aI, .int), (aI, .int), (aR, .object "PenGuild$State")] s := by
    refine ⟨fun c q hq => ?_, fun k q hq => ?_⟩
    · match c, hq with
      | 0, hq => cases hq; exact k0
      | 1, hq => cases hq; exact k1
      | 2, hq => cases hq; exact k2
      | 3, hq => cases hq; exact k3
      | 4, hq => cases hq; exact k4
      | 5, hq => cases hq; exact k5
      | 6, hq => cases hq; exact k6
      | c + 7, hq => cases hq
    · match k, hq with
      | 0, hq => cases hq; exact ⟨fun n z => ⟨fun k h => (by cases h), kI, f2, pI, f3⟩, f1⟩
      | 1, hq => cases hq; exact ⟨fun n z => ⟨fun k h => (by cases h), kI, f2, pI, f3⟩, f1⟩
      | 2, hq => cases hq; exact ⟨fun n z => ⟨fun k h => (by cases h), kR, r3, pR, r4⟩, kR, pR, r3, r4, r1, r5⟩
      | k + 3, hq => cases hq
  obtain ⟨G, hG⟩ : ∃ G : z_G, G = (l, s.heap.size, (fun c => match c with | 0 => c0 | 1 => c1 | 2 => c2 | 3 => c3 | 4 => c4 | 5 => c5 | _ => c6, fun c => match c with | 0 => i0 | 1 => i1 | 2 => i2 | 3 => i3 | 4 => i4 | 5 => i5 | _ => i6), aI, aI, aR, tF, tT, 0, b, L, xs) := ⟨_, rfl⟩
  have hbG : z_b G = s.heap.size := by rw [hG]
  have hT : z_T G s := by
    rw [hG]
    refine ⟨by show l.stackTraces = false; unfold Launch.stackTraces; rw [hflags]; decide +kernel, fun w hw => z_wAny (List.mem_filter.mp hw).2 (State.WarmedH.refl _) (tw w hw) _, hK, hzU, hzS, ⟨vzF, vaF⟩, ⟨vzT, vaT⟩, hstr, hX, hbl, hL⟩
  have hFX : z_FX G s := by
    rw [hG]
    obtain ⟨a, cA, cell, kA, q1, q2, q3, -, q5, q6, -⟩ := Cond.exactly_spec (hs (.exactly (.static "PenGuild" "FIRST_SETTINGS" "[I") "[I") (by decide +kernel))
    cases evF.symm.trans q1
    obtain ⟨cell2, v1, v2, v3, v4, v5, v6, v7⟩ := vaF
    cases q3.symm.trans v1
    exact ⟨cell, q3, Nat.not_le.mp v7, by rw [q6]; exact q2, v3, v2.1, z_lenS lenF evF q3, v6, hov⟩
  have hl := lv_entry [Value.ref b] (n := 13) (Nat.le_of_ble_eq_true rfl)
  have hO : z_Ok G (p, e, s, m, #[Value.ref b], below, meth, c) z_dL := ⟨hx, hb, hml, hown, hlocks, hr, hT⟩
  have hlG : z_l G = l := by rw [hG]
  have hxG : z_x G = 0 := by rw [hG]
  have hbS : (z_scp G).1 = b := by rw [hG]
  have hE : ∀ (M : z_M) (k n : Nat) (ls : List (Option Value)), k ≤ 600130 → n ≤ 7301080 → z_J G (p, e, s, m, #[Value.ref b], below, meth, c) z_dL Q 304 ls [z_I 1] M k n := by
    intro M k n ls hk hn hO2 H locs la hW hS hLH
    rw [hlG]
    exact hend H locs la k n (fun q hq => by have h := hS.2.2 q hq; rw [← hbG]; exact h) hk hn
  have hbody := z_law_body (Q := Q) hxG (z_law_start hxG hE) hO hFX (Nat.le_refl _) s.heap [] _ ⟨by rw [hbG]; rfl, fun _ _ => rfl, fun i x hi => by cases hi⟩ va_S.rf (by rw [hbS]; exact z_ini_LH hl)
  rw [hlG] at hbody
  rw [lg_entry_eq]
  exact hbody
