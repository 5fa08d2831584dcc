/-! ===== contracts ===== -/
def z_ls : List Value → List (Option Value)
  | [] => []
  | v :: vs => if v.category = 2 then some v :: none :: z_ls vs else some v :: z_ls vs
theorem z_ls_in : ∀ (vs : List Value) (k i : Nat) (v : Value), (z_ls vs)[i]? = some (some v) → (k + i, v) ∈ lv_args k vs
  | [], k, i, v, h => by simp [z_ls] at h
  | a :: vs, k, i, v, h => by
    unfold z_ls at h
    unfold lv_args
    by_cases hc : a.category = 2
    · rw [if_pos hc] at h ⊢
      match i, h with
      | 0, h => cases h; exact List.mem_cons_self
      | 1, h => cases h
      | i + 2, h =>
        have := z_ls_in vs (k + 2) i v h
        rw [show k + 2 + i = k + (i + 2) by omega] at this
        exact List.mem_cons_of_mem _ this
    · rw [if_neg hc] at h ⊢
      match i, h with
      | 0, h => cases h; exact List.mem_cons_self
      | i + 1, h =>
        have := z_ls_in vs (k + 1) i v h
        rw [show k + 1 + i = k + (i + 1) by omega] at this
        exact List.mem_cons_of_mem _ this
def z_ini (args : List Value) (n : Nat) : List (Option Value) := z_ls args ++ List.replicate (n - (z_ls args).length) none
theorem z_ini_LH {args : List Value} {n : Nat} {la : Array Slot} (h : lv_has la n (lv_args 0 args)) : z_LH la n (z_ini args n) := by
  refine ⟨h.1, h.2.1, fun i v hi => ?_⟩
  unfold z_ini at hi
  by_cases hl : i < (z_ls args).length
  · rw [List.getElem?_append_left hl] at hi
    have := z_ls_in args 0 i v hi
    rw [Nat.zero_add] at this
    exact h.2.2 _ this
  · rw [List.getElem?_append_right (by omega), List.getElem?_replicate] at hi
    split at hi <;> cases hi
abbrev z_O : Type := (Option Value) ⊕ String
def z_oc (o : z_O) : Nat := match o with | .inl _ => 0 | .inr _ => 1
def z_os (o : z_O) : Nat := match o with | .inl _ => 0 | .inr _ => 6
def z_rm (fr lo : Nat) (o : z_O) : Room := { frames := fr, cells := z_oc o, slots := z_os o, locals := lo }
def z_Qc (G : z_G) (o : z_O) (M1 : z_M) : Array Value → State → Outcome → State → Prop := fun _ st oc t => ∃ v, o = .inl v ∧ oc = .returned v ∧ z_Wd G M1 t.heap ∧ va_F (z_A G) st t
def z_Xc (G : z_G) (o : z_O) (M1 : z_M) : String → State → State → Prop := fun E st t => o = .inr E ∧ z_Wd G M1 t.heap ∧ va_F (z_A G) st t
def z_Pc (G : z_G) (args : List Value) (M : z_M) : Array Value → State → Prop := va_Pc args (fun U => z_T G U ∧ z_Wd G M U.heap)
/-- method y, called with args over the memory M: it ends so (a value, or a class of exceptions), the memory is M1 then -/
def z_Con (G : z_G) (y : MethodName) (cc : ByteArray) (maxL : Nat) (ret : Option FieldType) (fr lo : Nat) (args : List Value) (M : z_M) (o : z_O) (M1 : z_M) : Prop :=
  vx_Met (z_l G) y [Cond.code y cc maxL ret] (z_rm fr lo o) (z_Pc G args M) (z_Qc G o M1) (z_Xc G o M1) (z_oc o) (z_os o) (z_A G)
def z_Qm (G : z_G) (Z : z_Z) (o : z_O) (M1 : z_M) : State → Prop := vx_MQ (z_w Z) (z_Qc G o M1) (z_Xc G o M1) (z_a Z) (z_s Z) (z_oc o) (z_os o) (z_A G)
def z_tb (Z : z_Z) : Prop := ∀ x ∈ (z_c Z).exceptionTable.toList, False
theorem z_blind {G : z_G} {args : List Value} {M : z_M} : FrameBlind (z_Pc G args M) := by
  rintro a U g mk ⟨h1, h2, h3⟩
  refine ⟨h1, z_T_moved (s := U) h2 (by exact State.WarmedH.refl U) (fun _ _ _ => rfl), h3⟩
theorem z_con {G : z_G} {y : MethodName} {cc : ByteArray} {maxL : Nat} {ret : Option FieldType} {fr lo : Nat} {args : List Value} {M : z_M} {o : z_O} {M1 : z_M} {ls : List (Option Value)} (hy : plainName y.cls = true) (hn : (lg_sl args).length ≤ maxL) (hls : z_ini args maxL = ls)
    (h : ∀ Z, z_tb Z → z_J G Z (cc, maxL, y.cls, z_rm fr lo o, ret) (z_Qm G Z o M1) 0 ls [] M 0 0) : z_Con G y cc maxL ret fr lo args M o M1 := by
  refine vx_ofW (cc := cc) (maxL := maxL) (ret := ret) hy rfl ?_
  intro p e s m args' below meth c s₁ B hml htab hv
  obtain ⟨rfl, hT, hWd⟩ := hv
  have hl := lv_entry args (n := maxL) hn
  rw [lg_entry_eq]
  refine h (p, e, s, m, args.toArray, below, meth, c) htab ⟨B.exec, B.bytes, hml, findClass_of_methodNamed B.named, B.notSynchronized, B.returns, hT⟩ s.heap [] _ hWd va_S.rf ?_
  rw [← hls]
  exact z_ini_LH hl
section ZE
variable {G : z_G} {Z : z_Z} {pc : Nat} {ls : List (Option Value)} {M M1 : z_M} {cc : ByteArray} {nL : Nat} {own : String} {R : Room}
theorem z_iret {r r' : Int} (hd : decode cc pc = .ok (.ireturn, 1)) (hr : r' = r) (hM : M = M1) : z_J G Z (cc, nL, own, R, some .int) (z_Qm G Z (.inl (some (z_I r))) M1) pc ls [z_I r'] M 0 0 := fun hO H locs la hW hS hL => by
  subst hr; subst hM
  exact vx_ret (W.iret hO.1 hO.2.1 hO.2.2.2.2.2.1 (fun t ht hw => ⟨_, rfl, rfl, by rw [ht]; exact hW, hS.F ht⟩) hS.2.2 hd hO.2.2.2.2.1)
theorem z_zret {r r' : Int} (hd : decode cc pc = .ok (.ireturn, 1)) (hr : r' = r) (hM : M = M1) (hb : r = 0 ∨ r = 1) : z_J G Z (cc, nL, own, R, some .boolean) (z_Qm G Z (.inl (some (z_I r))) M1) pc ls [z_I r'] M 0 0 := fun hO H locs la hW hS hL => by
  subst hr; subst hM
  refine vx_ret (W.zret hO.1 hO.2.1 hO.2.2.2.2.2.1 ?_ (fun t ht hw => ⟨_, rfl, rfl, by rw [ht]; exact hW, hS.F ht⟩) hS.2.2 hd hO.2.2.2.2.1)
  rcases hb with rfl | rfl <;> rfl
theorem z_vret (hd : decode cc pc = .ok (.return_, 1)) (hM : M = M1) : z_J G Z (cc, nL, own, R, none) (z_Qm G Z (.inl none) M1) pc ls [] M 0 0 := fun hO H locs la hW hS hL => by
  subst hM
  exact vx_ret (W.vret hO.1 hO.2.1 hO.2.2.2.2.2.1 (fun t ht hw => ⟨_, rfl, rfl, by rw [ht]; exact hW, hS.F ht⟩) hS.2.2 hd hO.2.2.2.2.1)
theorem z_lret {r r' : Int} (hd : decode cc pc = .ok (.lreturn, 1)) (hr : r' = r) (hM : M = M1) : z_J G Z (cc, nL, own, R, some .long) (z_Qm G Z (.inl (some (z_L r))) M1) pc ls [z_L r'] M 0 0 := fun hO H locs la hW hS hL => by
  subst hr; subst hM
  exact vx_ret (W.lret hO.1 hO.2.1 hO.2.2.2.2.2.1 (fun t ht hw => ⟨_, rfl, rfl, by rw [ht]; exact hW, hS.F ht⟩) hS.2.2 hd hO.2.2.2.2.1)
theorem z_dret {r r' : UInt64} (hd : decode cc pc = .ok (.dreturn, 1)) (hr : r' = r) (hM : M = M1) : z_J G Z (cc, nL, own, R, some .double) (z_Qm G Z (.inl (some (.double r))) M1) pc ls [.double r'] M 0 0 := fun hO H locs la hW hS hL => by
  subst hr; subst hM
  have hlk := hO.2.2.2.2.1
  exact vx_ret (W.dret hO.1 hO.2.1 hO.2.2.2.2.2.1 (fun t ht hw => ⟨_, rfl, rfl, by rw [ht]; exact hW, hS.F ht⟩) hS.2.2 hd)
end ZE
section ZK
variable {G : z_G} {Z : z_Z} {d : z_Md} {Q : State → Prop} {pc : Nat} {ls : List (Option Value)} {M M1 : z_M} {k n : Nat}
variable {y : MethodName} {cc' : ByteArray} {maxL fr lo idx na : Nat} {ret : Option FieldType} {As rest st : List Value} {v : Option Value} {E : String}
/-- what a call needs of the room -/
def z_fit (d : z_Md) (fr lo maxL : Nat) : Prop := fr + 1 ≤ (z_R d).frames ∧ 8 + (maxL + 11) + lo ≤ (z_R d).locals
def z_name (y : MethodName) (na : Nat) : Prop := (y.cls ≠ "java/lang/invoke/MethodHandle" ∧ y.cls ≠ "java/lang/invoke/VarHandle") ∧ (parseMethodDescriptor y.desc).map (fun q => q.parameters.length) = some na
theorem z_nm (hy : z_name y na) : ∀ sig, parseMethodDescriptor y.desc = some sig → na = sig.parameters.length := fun sig h => by
  have h2 := hy.2
  rw [h] at h2
  exact (Option.some.inj h2).symm
theorem z_ws1 (hO : z_Ok G Z d) (hcode : Cond.code y cc' maxL ret ∈ z_W) : ∀ w ∈ ([Cond.code y cc' maxL ret] : List Cond), ∀ (a' : Array Value) (U : State), (z_s Z).WarmedH U.vm → w.before a' U = true := by
  intro w hw a' U hW
  rw [List.mem_singleton] at hw
  subst hw
  exact z_warmw (List.mem_filter.mp hcode).2 hW (hO.2.2.2.2.2.2.2.1 _ hcode) a'
theorem z_PcU (hO : z_Ok G Z d) {H : Heap} {locs : List Loc} {args : List Value} (hW : z_Wd G M H) (hS : va_S (z_A G) (z_s Z).heap H locs) : ∀ U : State, U.heap = H → (z_s Z).WarmedH U.vm → z_Pc G args M args.toArray U := by
  intro U hU hw
  refine ⟨rfl, z_T_moved hO.2.2.2.2.2.2 hw (fun a ha hA => ?_), by rw [hU]; exact hW⟩
  rw [hU]
  exact hS.2.1 a ha hA
theorem z_recv (hO : z_Ok G Z d) {H : Heap} (hW : z_Wd G M H) {g c ci : Nat} {fs : List z_F} {C : String} {T : u_T} {N : Nat} (hdm : z_dm G g c) (hob : z_ob g c = some (ci, fs)) (hC : vwCl[ci]? = some (C, T, N)) : ∃ cellB : Cell, H[z_ad G g c]? = some cellB ∧ cellB.vm.isStatics = false ∧ (z_s Z).vm.findClass C = some cellB.cls := by
  obtain ⟨cell, q1, q2, q3, -⟩ := (hW.2.2 g c hdm).1 ci fs hob
  obtain ⟨-, hfc, -⟩ := hO.2.2.2.2.2.2.2.2.1.1 ci _ hC
  exact ⟨cell, q1, by rw [q3]; rfl, by rw [q2]; exact hfc⟩
/-- a call of an instance method that returns -/
theorem z_callV {g c ci : Nat} {fs : List z_F} {C : String} {T : u_T} {N : Nat} (hC : z_Con G y cc' maxL ret fr lo (.ref (z_ad G g c) :: As) M (.inl v) M1)
    (hlink : Cond.methodLink (z_own d) idx y ∈ z_W) (hinst : Cond.instanceMethod y ∈ z_W) (hsel : Cond.selects C y y ∈ z_W) (hcode : Cond.code y cc' maxL ret ∈ z_W) (hini : Cond.initialized y.cls ∈ z_W) (hy : z_name y na)
    (hdm : z_dm G g c) (hob : z_ob g c = some (ci, fs)) (hcl : vwCl[ci]? = some (C, T, N)) (hna : As.length = na) (hst : st = As.reverse ++ .ref (z_ad G g c) :: rest) (hfit : z_fit d fr lo maxL) (hk : k ≤ (z_R d).cells ∧ n ≤ (z_R d).slots) (hcat : (rest.map fun v => v.category).sum ≤ 8)
    (hd : decode (z_cc d) pc = .ok (.invokevirtual idx, 3)) (kk : z_J G Z d Q (pc + 3) ls (v.toList ++ rest) M1 k n) : z_J G Z d Q pc ls st M k n := fun hO H locs la hW hS hL => by
  subst hst
  have hts : ∀ w ∈ z_W, w.before (z_a Z) (z_s Z) = true := fun w hw => z_tw hO hw _
  intro T0 hT0 X
  rcases vx_runV (Ts := z_W) (own := z_own d) (C := C) (n := na) (bytes := cc') (maxL := maxL) (ret := ret) (index := idx) (g := F0 (z_m Z) pc la (As.reverse ++ .ref (z_ad G g c) :: rest)) (rest := rest) ⟨hO.1, hO.2.1, hO.2.2.1, hO.2.2.2.1, hts⟩ hC
      ⟨⟨rfl, rfl, hfit.1, hfit.2, z_ws1 hO hcode, List.mem_singleton_self _, hts _ hcode, hts _ hini, hy.1, z_nm hy, hts _ hlink⟩, hts _ hinst, hts _ hsel⟩
      ⟨z_blind, z_recv hO hW hdm hob hcl, z_PcU hO hW hS⟩ rfl hna hL.1 rfl (lv_room hcat) hd ⟨hk.1, hk.2⟩ T0 hT0 X with ⟨v', st₀, t, T', L, h0, X', hL', e1, e2, ⟨w, ho, hv, hWd, hF⟩, stp⟩ | ⟨q, st₀, t, T', L, E', ce, h0, X', hL', e1, e2, ⟨ho, hWd, hF⟩, hce, hcv, hcl', stp⟩
  · cases ho
    cases hv
    obtain ⟨k1, k2, k3⟩ := vx_keep (A1 := z_A G) h0 e1 hS (fun q _ h => h) (fun q h => h) hL' hF
    obtain ⟨t2, a1, b1⟩ := kk hO T'.heap (locs ++ L) la (by rw [e1]; exact hWd) k3 hL T' rfl X'
    exact ⟨t2, stp t2 a1, b1⟩
  · cases ho
end ZK
