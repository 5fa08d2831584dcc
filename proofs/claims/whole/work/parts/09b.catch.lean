/-! ===== methods that catch: the law's own ===== -/
def z_rm1 (fr lo : Nat) : Room := { frames := fr, cells := 1, slots := 6, locals := lo }
def z_Xn : String → State → State → Prop := fun _ _ _ => False
/-- a method with a table of handlers: it comes to its end with r, the memory is M1 then -/
def z_ConL (G : z_G) (y : MethodName) (cc : ByteArray) (maxL : Nat) (hh : List (Nat × Nat × Nat × Nat)) (fr lo : Nat) (args : List Value) (M : z_M) (r : Int) (M1 : z_M) : Prop :=
  vx_Met (z_l G) y [Cond.codeWith y cc maxL (some .int) hh] (z_rm1 fr lo) (z_Pc G args M) (z_Qc G (.inl (some (z_I r))) M1) z_Xn 1 6 (z_A G)
def z_QL (G : z_G) (Z : z_Z) (r : Int) (M1 : z_M) : State → Prop := vx_MQ (z_w Z) (z_Qc G (.inl (some (z_I r))) M1) z_Xn (z_a Z) (z_s Z) 1 6 (z_A G)
theorem z_conL {G : z_G} {y : MethodName} {cc : ByteArray} {maxL : Nat} {hh : List (Nat × Nat × Nat × Nat)} {fr lo : Nat} {args : List Value} {M : z_M} {r : Int} {M1 : z_M} {ls : List (Option Value)} (hy : plainName y.cls = true) (hn : (lg_sl args).length ≤ maxL) (hls : z_ini args maxL = ls)
    (h : ∀ Z, (z_c Z).exceptionTable.toList = tableOf hh → z_J G Z (cc, maxL, y.cls, z_rm1 fr lo, some .int) (z_QL G Z r M1) 0 ls [] M 0 0) : z_ConL G y cc maxL hh fr lo args M r M1 := by
  refine vx_ofWH (cc := cc) (maxL := maxL) (ret := some .int) (hh := hh) hy rfl ?_
  intro p e s m args' below meth c s₁ B hml hv
  have htab := vx_table (x := y) B (atoms_spec (ws := [Cond.codeWith y cc maxL (some .int) hh]) B.pre _ List.mem_cons_self)
  obtain ⟨rfl, hT, hWd⟩ := hv
  have hl := lv_entry args (n := maxL) hn
  rw [lg_entry_eq]
  refine h (p, e, s, m, args.toArray, below, meth, c) htab ⟨B.exec, B.bytes, hml, findClass_of_methodNamed B.named, B.notSynchronized, B.returns, hT⟩ s.heap [] _ hWd va_S.rf ?_
  rw [← hls]
  exact z_ini_LH hl
section ZCL
variable {G : z_G} {Z : z_Z} {d : z_Md} {Q : State → Prop} {pc : Nat} {ls : List (Option Value)} {M M1 : z_M} {k n : Nat}
variable {y : MethodName} {cc' : ByteArray} {maxL fr lo idx na : Nat} {ret : Option FieldType} {As rest st : List Value} {v : Option Value} {E : String}
theorem z_iw_rg1 (v : Int) : z_rg (z_iw v) := ⟨Int32.le_toInt _, by have h := Int32.toInt_lt (Int32.ofInt v); unfold z_iw; omega⟩
theorem z_iwr {v : Int} (kk : z_J G Z d Q pc ls (z_I (z_iw v) :: st) M k n) : z_J G Z d Q pc ls (z_I v :: st) M k n := by
  have e : z_I v = z_I (z_iw v) := by unfold z_I z_iw; rw [Int32.ofInt_toInt]
  rw [e]; exact kk
theorem z_retL {cc : ByteArray} {nL : Nat} {own : String} {R : Room} {r r' : Int} (hk : k ≤ 1) (hn : n ≤ 6) (hd : decode cc pc = .ok (.ireturn, 1)) (hr : r' = r) (hM : M = M1) : z_J G Z (cc, nL, own, R, some .int) (z_QL G Z r M1) pc ls [z_I r'] M k n := fun hO H locs la hW hS hL => by
  subst hr; subst hM
  intro T hT X
  exact vx_ret (W.iret hO.1 hO.2.1 hO.2.2.2.2.2.1 (fun t ht hw => ⟨_, rfl, rfl, by rw [ht]; exact hW, hS.F ht⟩) hS.2.2 hd hO.2.2.2.2.1) T hT (stand_widen X hk hn)
/-- a call of an instance method that throws, caught here by the row x -/
theorem z_callVc {g c ci : Nat} {fs : List z_F} {C : String} {T : u_T} {N : Nat} {name : String} {pre suf : List ExceptionTableEntry} {x : ExceptionTableEntry} (htb : (z_c Z).exceptionTable.toList = pre ++ x :: suf) (hC : z_Con G y cc' maxL ret fr lo (.ref (z_ad G g c) :: As) M (.inr E) M1)
    (hpass : ∀ z ∈ pre, covers z pc = false ∨ (z.catchType ≠ 0 ∧ ∃ nm : String, Cond.classLink (z_own d) z.catchType nm ∈ z_W ∧ (E, nm) ∈ z_X)) (hx : covers x pc = true) (h0 : x.catchType ≠ 0) (hlk : Cond.classLink (z_own d) x.catchType name ∈ z_W) (hcast : Cond.castable E name ∈ z_W)
    (hlink : Cond.methodLink (z_own d) idx y ∈ z_W) (hinst : Cond.instanceMethod y ∈ z_W) (hsel : Cond.selects C y y ∈ z_W) (hcode : Cond.code y cc' maxL ret ∈ z_W) (hini : Cond.initialized y.cls ∈ z_W) (hy : z_name y na)
    (hdm : z_dm g c) (hob : z_ob g c = some (ci, fs)) (hcl : vwCl[ci]? = some (C, T, N)) (hna : As.length = na) (hst : st = As.reverse ++ .ref (z_ad G g c) :: rest) (hfit : z_fit d fr lo maxL) (hk : k + 1 ≤ (z_R d).cells ∧ n + 6 ≤ (z_R d).slots) (hcat : (rest.map fun v => v.category).sum ≤ 8)
    (hd : decode (z_cc d) pc = .ok (.invokevirtual idx, 3)) (kk : ∀ q, z_J G Z d Q x.handlerPc ls [.ref q] M1 (k + 1) (n + 6)) : z_J G Z d Q pc ls st M k n := fun hO H locs la hW hS hL => by
  subst hst
  have hts : ∀ w ∈ z_W, w.before (z_a Z) (z_s Z) = true := fun w hw => z_tw hO hw _
  intro T0 hT0 X
  rcases vx_runV (Ts := z_W) (own := z_own d) (C := C) (n := na) (bytes := cc') (maxL := maxL) (ret := ret) (index := idx) (g := F0 (z_m Z) pc la (As.reverse ++ .ref (z_ad G g c) :: rest)) (rest := rest) ⟨hO.1, hO.2.1, hO.2.2.1, hO.2.2.2.1, hts⟩ hC
      ⟨⟨rfl, rfl, hfit.1, hfit.2, z_ws1 hO hcode, List.mem_singleton_self _, hts _ hcode, hts _ hini, hy.1, z_nm hy, hts _ hlink⟩, hts _ hinst, hts _ hsel⟩
      ⟨z_blind, z_recv hO hW hdm hob hcl, z_PcU hO hW hS⟩ rfl hna hL.1 rfl (lv_room hcat) hd hk T0 hT0 X with ⟨v', st₀, t, T', L, h0', X', hL', e1, e2, ⟨w, ho, hv, hWd, hF⟩, stp⟩ | ⟨q, st₀, t, T', L, E', ce, h0', X', hL', e1, e2, ⟨ho, hWd, hF⟩, hce, hcv, hcl', stp⟩
  · cases ho
  · cases ho
    obtain ⟨k1, k2, k3⟩ := vx_keep (A1 := z_A G) h0' e1 hS (fun q _ h => h) (fun q h => h) hL' hF
    obtain ⟨t2, a1, b1⟩ := vx_catch (pc := pc) (ls := la) (rest := rest) (name := name) hO.2.2.2.1 pre x suf htb (fun z hz => by
        rcases hpass z hz with h | ⟨hz0, nm, hl1, hn1⟩
        · exact Or.inl h
        · exact Or.inr ⟨hz0, nm, hts _ hl1, hO.2.2.2.2.2.2.2.2.2.2.2.2.2.2 _ hn1⟩) hx h0 (hts _ hlk) (hts _ hcast) (by rw [e1]; exact hce) hcv hcl' (kk q hO T'.heap (locs ++ L) la (by rw [e1]; exact hWd) k3 hL) T' rfl X'
    exact ⟨t2, stp.trans a1, b1⟩
/-- the law's call of such a method -/
theorem z_callL {hh : List (Nat × Nat × Nat × Nat)} {r : Int} (hC : z_ConL G y cc' maxL hh fr lo As M r M1)
    (hlink : Cond.methodLink (z_own d) idx y ∈ z_W) (hstat : Cond.static y ∈ z_W) (hcode : Cond.codeWith y cc' maxL (some .int) hh ∈ z_W) (hini : Cond.initialized y.cls ∈ z_W) (hy : z_name y na)
    (hna : As.length = na) (hst : st = As.reverse ++ rest) (hfit : z_fit d fr lo maxL) (hk : k + 1 ≤ (z_R d).cells ∧ n + 6 ≤ (z_R d).slots) (hcat : (rest.map fun v => v.category).sum ≤ 8)
    (hd : decode (z_cc d) pc = .ok (.invokestatic idx, 3)) (kk : z_J G Z d Q (pc + 3) ls (z_I r :: rest) M1 (k + 1) (n + 6)) : z_J G Z d Q pc ls st M k n := fun hO H locs la hW hS hL => by
  subst hst
  have hts : ∀ w ∈ z_W, w.before (z_a Z) (z_s Z) = true := fun w hw => z_tw hO hw _
  have hws : ∀ w ∈ ([Cond.codeWith y cc' maxL (some .int) hh] : List Cond), ∀ (a' : Array Value) (U : State), (z_s Z).WarmedH U.vm → w.before a' U = true := by
    intro w hw a' U hW
    rw [List.mem_singleton] at hw
    subst hw
    exact z_warmw (List.mem_filter.mp hcode).2 hW (hO.2.2.2.2.2.2.2.1 _ hcode) a'
  intro T0 hT0 X
  rcases vx_runSX (Ts := z_W) (own := z_own d) (n := na) (bytes := cc') (maxL := maxL) (ret := some .int) (hh := hh) (index := idx) (g := F0 (z_m Z) pc la (As.reverse ++ rest)) (rest := rest) ⟨hO.1, hO.2.1, hO.2.2.1, hO.2.2.2.1, hts⟩ hC
      ⟨⟨rfl, rfl, hfit.1, hfit.2, hws, List.mem_singleton_self _⟩, hts _ hcode, hts _ hini, hy.1, z_nm hy, hts _ hlink, hts _ hstat⟩
      ⟨z_blind, z_PcU hO hW hS⟩ rfl hna hL.1 rfl (lv_room hcat) hd hk T0 hT0 X with ⟨v', st₀, t, T', L, h0', X', hL', e1, e2, ⟨w, ho, hv, hWd, hF⟩, stp⟩ | ⟨q, st₀, t, T', L, E', ce, h0', X', hL', e1, e2, ho, hce, hcv, hcl', stp⟩
  · cases ho
    cases hv
    obtain ⟨k1, k2, k3⟩ := vx_keep (A1 := z_A G) h0' e1 hS (fun q _ h => h) (fun q h => h) hL' hF
    obtain ⟨t2, a1, b1⟩ := kk hO T'.heap (locs ++ L) la (by rw [e1]; exact hWd) k3 hL T' rfl X'
    exact ⟨t2, stp t2 a1, b1⟩
  · cases ho
end ZCL
