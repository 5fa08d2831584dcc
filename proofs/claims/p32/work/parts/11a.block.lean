/-! ===== constructors: a block of cells that grows ===== -/
abbrev z_CC : Type := (Nat × List Value) ⊕ (Nat × Nat × (Nat → Value))
def z_ch (G : z_G) (H : Heap) (a : Nat) (x : z_CC) : Prop := match x with
  | .inl o => t_OB a ((z_D G).1 o.1) o.2.length ((z_D G).2 o.1) H (fun j => o.2.getD j .null)
  | .inr r => H[a]? = some (arrV (z_ac G r.1) r.2.1 r.2.2)
theorem z_ch_kept {G : z_G} {H H1 : Heap} {a : Nat} {x : z_CC} (h : z_ch G H a x) (e : H1[a]? = H[a]?) : z_ch G H1 a x := by
  rcases x with o | r
  · exact t_OB.kept h e
  · show H1[a]? = _
    rw [e]; exact h
/-- from a on the heap holds the cells L and no more; below a nothing has changed -/
def z_Bd (G : z_G) (a : Nat) (L : List z_CC) (H0 H : Heap) : Prop := H.size = a + L.length ∧ (∀ q : Nat, q < a → H[q]? = H0[q]?) ∧ ∀ i x, L[i]? = some x → z_ch G H (a + i) x
theorem z_Bd_push {G : z_G} {a : Nat} {L : List z_CC} {H0 H H1 : Heap} {x : z_CC} (h : z_Bd G a L H0 H) (z : H1.size = H.size + 1) (o : ∀ q : Nat, q < H.size → H1[q]? = H[q]?) (e : z_ch G H1 H.size x) : z_Bd G a (L ++ [x]) H0 H1 := by
  refine ⟨by rw [z, h.1, List.length_append]; rfl, fun q hq => (o q (by rw [h.1]; omega)).trans (h.2.1 q hq), fun i y hi => ?_⟩
  by_cases c : i < L.length
  · rw [List.getElem?_append_left c] at hi
    exact z_ch_kept (h.2.2 i y hi) (o _ (by rw [h.1]; omega))
  · have hl := (List.getElem?_eq_some_iff.mp hi).1
    rw [List.length_append] at hl
    have ei : i = L.length := by simp only [List.length_cons, List.length_nil] at hl; omega
    subst ei
    rw [List.getElem?_append_right (Nat.le_refl _), Nat.sub_self] at hi
    cases hi
    rw [← h.1]; exact e
theorem z_Bd_set {G : z_G} {a : Nat} {L : List z_CC} {H0 H H1 : Heap} {x : z_CC} (h : z_Bd G a L H0 H) {i : Nat} (hi : i < L.length) (z : H1.size = H.size) (o : ∀ q : Nat, q ≠ a + i → H1[q]? = H[q]?) (e : z_ch G H1 (a + i) x) : z_Bd G a (L.set i x) H0 H1 := by
  refine ⟨by rw [z, h.1, List.length_set], fun q hq => (o q (by omega)).trans (h.2.1 q hq), fun j y hj => ?_⟩
  by_cases c : j = i
  · subst c; rw [List.getElem?_set_self hi] at hj; cases hj; exact e
  · rw [List.getElem?_set_ne (Ne.symm c)] at hj; exact z_ch_kept (h.2.2 j y hj) (o _ (by omega))
theorem z_Bd_call {G : z_G} {a : Nat} {L1 L2 : List z_CC} {x0 : z_CC} {H0 H H1 : Heap} (h : z_Bd G a (L1 ++ [x0]) H0 H) (h2 : z_Bd G (a + L1.length) L2 H H1) : z_Bd G a (L1 ++ L2) H0 H1 := by
  refine ⟨by rw [h2.1, List.length_append]; omega, fun q hq => (h2.2.1 q (by omega)).trans (h.2.1 q hq), fun i y hi => ?_⟩
  by_cases c : i < L1.length
  · rw [List.getElem?_append_left c] at hi
    exact z_ch_kept (h.2.2 i y (by rw [List.getElem?_append_left c]; exact hi)) (h2.2.1 _ (by omega))
  · rw [List.getElem?_append_right (by omega)] at hi
    have q := h2.2.2 _ y hi
    rw [show a + L1.length + (i - L1.length) = a + i by omega] at q
    exact q
/-- the row of the first settings, to be copied -/
def z_FX (G : z_G) (U : State) : Prop := ∃ cell : Cell, U.heap[z_fs G]? = some cell ∧ z_fs G < z_b G ∧ U.vm.findClass "[I" = some cell.cls ∧ cell.vm ≠ .unknown ∧ (∀ k, cell.vm ≠ .statics k) ∧ cell.slots.size = 6 ∧ (∀ j : Nat, j < 6 → cell.slots[j]? = some (z_I (z_first j))) ∧ va_AO "PenGuild$State" U
theorem z_FX_moved {G : z_G} {s U : State} (h : z_FX G s) (hW : s.WarmedH U.vm) (hq : U.heap[z_fs G]? = s.heap[z_fs G]?) : z_FX G U := by
  obtain ⟨cell, h1, h2, h3, h4, h5, h6, h7, h8⟩ := h
  exact ⟨cell, hq.trans h1, h2, by rw [hW.alike.findClass]; exact h3, h4, h5, h6, h7, va_AO.moved hW.alike h8⟩
def z_JK (G : z_G) (Z : z_Z) (d : z_Md) (Q : State → Prop) (pc : Nat) (ls : List (Option Value)) (st : List Value) (a : Nat) (L : List z_CC) (k n : Nat) : Prop :=
  z_Ok G Z d → z_FX G (z_s Z) → z_b G ≤ a → ∀ (H : Heap) (locs : List Loc) (la : Array Slot), z_Bd G a L (z_s Z).heap H → va_S (z_A G) (z_s Z).heap H locs → z_LH la (z_nL d) ls →
    W (z_p Z) (z_l G) (z_e Z) (z_R d) (z_s Z) (z_m Z) (z_a Z) (z_w Z) (z_h Z) (z_c Z) H locs k n Q (F0 (z_m Z) pc la st)
/-- a constructor: it finds its object x0 as the last cell of the heap, and leaves L in its place -/
def z_QK (G : z_G) (a : Nat) (L : List z_CC) : Array Value → State → Outcome → State → Prop := fun _ st oc t => oc = .returned none ∧ z_Bd G a L st.heap t.heap ∧ va_F (z_A G) st t
def z_PKc (G : z_G) (a : Nat) (x0 : z_CC) : Array Value → State → Prop := va_Pc [.ref a] (fun U => z_T G U ∧ z_FX G U ∧ z_b G ≤ a ∧ U.heap.size = a + 1 ∧ z_ch G U.heap a x0)
def z_rmK (fr lo mc ms : Nat) : Room := { frames := fr, cells := mc, slots := ms, locals := lo }
def z_ConK (G : z_G) (y : MethodName) (cc : ByteArray) (maxL fr lo a : Nat) (x0 : z_CC) (L : List z_CC) (mc ms : Nat) : Prop :=
  Met (z_l G) y [Cond.code y cc maxL none] (z_rmK fr lo mc ms) (z_PKc G a x0) (z_QK G a L) mc ms (z_A G)
def z_QmK (G : z_G) (Z : z_Z) (a : Nat) (L : List z_CC) (mc ms : Nat) : State → Prop := MQ (z_w Z) (z_QK G a L) (z_a Z) (z_s Z) mc ms (z_A G)
theorem z_conK {G : z_G} {y : MethodName} {cc : ByteArray} {maxL fr lo a : Nat} {x0 : z_CC} {L : List z_CC} {mc ms : Nat} {ls : List (Option Value)} (hy : plainName y.cls = true) (hyi : y.name = "<init>") (hn : 1 ≤ maxL) (hls : z_ini [.ref a] maxL = ls)
    (h : ∀ Z, (z_h Z).name = "<init>" → z_JK G Z (cc, maxL, y.cls, z_rmK fr lo mc ms, none) (z_QmK G Z a L mc ms) 0 ls [] a [x0] 0 0) : z_ConK G y cc maxL fr lo a x0 L mc ms := by
  refine Met.ofW (cc := cc) (maxL := maxL) (ret := none) hy rfl ?_
  intro p e s m args' below meth c s₁ B hml hv
  obtain ⟨rfl, hT, hX, ha, hsz, hx⟩ := hv
  have hl := lv_entry [Value.ref a] (n := maxL) hn
  rw [lg_entry_eq]
  have hin : meth.name = "<init>" := by rw [← hyi]; exact (name_of_methodNamed B.named B.method).1
  refine h (p, e, s, m, ([Value.ref a] : List Value).toArray, below, meth, c) hin ⟨B.exec, B.bytes, hml, findClass_of_methodNamed B.named, B.notSynchronized, B.returns, hT⟩ hX ha s.heap [] _ ⟨hsz, fun _ _ => rfl, fun i x hi => ?_⟩ va_S.rf ?_
  · match i, hi with
    | 0, hi => cases hi; exact hx
    | j + 1, hi => cases hi
  · rw [← hls]
    exact z_ini_LH hl
section ZKN
variable {G : z_G} {Z : z_Z} {d : z_Md} {Q : State → Prop} {pc : Nat} {ls : List (Option Value)} {st : List Value} {a k n : Nat} {L : List z_CC}
theorem z_kret {cc : ByteArray} {nL : Nat} {own : String} {R : Room} {mc ms : Nat} (hd : decode cc pc = .ok (.return_, 1)) : z_JK G Z (cc, nL, own, R, none) (z_QmK G Z a L mc ms) pc ls [] a L mc ms := fun hO hX ha H locs la hB hS hL =>
  W.vret hO.1 hO.2.1 hO.2.2.2.2.2.1 (fun t ht hw => ⟨rfl, by rw [ht]; exact hB, hS.F ht⟩) hS.2.2 hd hO.2.2.2.2.1
theorem z_kwide {k' n' : Nat} (h1 : k ≤ k') (h2 : n ≤ n') (kk : z_JK G Z d Q pc ls st a L k' n') : z_JK G Z d Q pc ls st a L k n := fun hO hX ha H locs la hB hS hL => W.widen h1 h2 (kk hO hX ha H locs la hB hS hL)
theorem z_kaloadn {j : Fin 4} {v : Nat} (hd : decode (z_cc d) pc = .ok (.aload_n j, 1)) (hl : ls[(j : Nat)]? = some (some (.ref v))) (kk : z_JK G Z d Q (pc + 1) ls (.ref v :: st) a L k n) : z_JK G Z d Q pc ls st a L k n := fun hO hX ha H locs la hB hS hL => lv_aload_n hO.1 hO.2.1 hd rfl (hL.2.2 _ _ hl) (kk hO hX ha H locs la hB hS hL)
theorem z_kiloadn {j : Fin 4} {v : Int} (hd : decode (z_cc d) pc = .ok (.iload_n j, 1)) (hl : ls[(j : Nat)]? = some (some (z_I v))) (kk : z_JK G Z d Q (pc + 1) ls (z_I v :: st) a L k n) : z_JK G Z d Q pc ls st a L k n := fun hO hX ha H locs la hB hS hL => lv_iload_n hO.1 hO.2.1 hd rfl (hL.2.2 _ _ hl) (kk hO hX ha H locs la hB hS hL)
theorem z_kastoren {j : Fin 4} {v : Nat} (hd : decode (z_cc d) pc = .ok (.astore_n j, 1)) (hn : (j : Nat) < z_nL d) (hp : z_pre ls (j : Nat) = true) (kk : z_JK G Z d Q (pc + 1) (ls.set (j : Nat) (some (.ref v))) st a L k n) : z_JK G Z d Q pc ls (.ref v :: st) a L k n := fun hO hX ha H locs la hB hS hL => lv_astore_n hO.1 hO.2.1 hd rfl (z_LH_has hL) hn rfl (fun la' hl' => kk hO hX ha H locs la' hB hS (z_LH_set1 hp hl'))
theorem z_kistoren {j : Fin 4} {v : Int} (hd : decode (z_cc d) pc = .ok (.istore_n j, 1)) (hn : (j : Nat) < z_nL d) (hp : z_pre ls (j : Nat) = true) (kk : z_JK G Z d Q (pc + 1) (ls.set (j : Nat) (some (z_I v))) st a L k n) : z_JK G Z d Q pc ls (z_I v :: st) a L k n := fun hO hX ha H locs la hB hS hL => lv_istore_n hO.1 hO.2.1 hd rfl (z_LH_has hL) hn rfl (fun la' hl' => kk hO hX ha H locs la' hB hS (z_LH_set1 hp hl'))
theorem z_kistore {j : Nat} {v : Int} (hd : decode (z_cc d) pc = .ok (.istore j, 2)) (hn : j < z_nL d) (hp : z_pre ls j = true) (kk : z_JK G Z d Q (pc + 2) (ls.set j (some (z_I v))) st a L k n) : z_JK G Z d Q pc ls (z_I v :: st) a L k n := fun hO hX ha H locs la hB hS hL => lv_istore hO.1 hO.2.1 hd (z_LH_has hL) hn rfl (fun la' hl' => kk hO hX ha H locs la' hB hS (z_LH_set1 hp hl'))
theorem z_kiinc {j : Nat} {i v : Int} (hd : decode (z_cc d) pc = .ok (.iinc j i, 3)) (hv : ls[j]? = some (some (z_I v))) (hn : j < z_nL d) (hp : z_pre ls j = true) (kk : z_JK G Z d Q (pc + 3) (ls.set j (some (z_I (v + i)))) st a L k n) : z_JK G Z d Q pc ls st a L k n := fun hO hX ha H locs la hB hS hL => by
  obtain ⟨q, hq⟩ := List.getElem?_of_mem (z_lv_mem.mpr hv)
  exact lv_iinc hO.1 hO.2.1 hd (z_LH_has hL) hq (by rw [← Int32.ofInt_add]) hn rfl (fun la' hl' => kk hO hX ha H locs la' hB hS (z_LH_set1 hp hl'))
theorem z_kiconst {i : Int} (hd : decode (z_cc d) pc = .ok (.iconst i, 1)) (kk : z_JK G Z d Q (pc + 1) ls (z_I i :: st) a L k n) : z_JK G Z d Q pc ls st a L k n := fun hO hX ha H locs la hB hS hL => lv_iconst hO.1 hO.2.1 hd rfl (kk hO hX ha H locs la hB hS hL)
theorem z_kbipush {i : Int} (hd : decode (z_cc d) pc = .ok (.bipush i, 2)) (hv : (Int8.ofInt i).toInt32 = Int32.ofInt i) (kk : z_JK G Z d Q (pc + 2) ls (z_I i :: st) a L k n) : z_JK G Z d Q pc ls st a L k n := fun hO hX ha H locs la hB hS hL => lv_bipush hO.1 hO.2.1 hd hv (kk hO hX ha H locs la hB hS hL)
theorem z_ksipush {i : Int} (hd : decode (z_cc d) pc = .ok (.sipush i, 3)) (hv : (Int16.ofInt i).toInt32 = Int32.ofInt i) (kk : z_JK G Z d Q (pc + 3) ls (z_I i :: st) a L k n) : z_JK G Z d Q pc ls st a L k n := fun hO hX ha H locs la hB hS hL => lv_sipush hO.1 hO.2.1 hd hv (kk hO hX ha H locs la hB hS hL)
theorem z_kdup {va : Value} (hd : decode (z_cc d) pc = .ok (.dup, 1)) (hc : va.category = 1) (kk : z_JK G Z d Q (pc + 1) ls (va :: va :: st) a L k n) : z_JK G Z d Q pc ls (va :: st) a L k n := fun hO hX ha H locs la hB hS hL => lv_dup hO.1 hO.2.1 hd hc (kk hO hX ha H locs la hB hS hL)
theorem z_kgoto {off : Int} {tgt : Nat} (hd : decode (z_cc d) pc = .ok (.goto off, 3)) (ht : (pc : Int) + off = (tgt : Int)) (kk : z_JK G Z d Q tgt ls st a L k n) : z_JK G Z d Q pc ls st a L k n := fun hO hX ha H locs la hB hS hL => lv_goto hO.1 hO.2.1 hd ht (kk hO hX ha H locs la hB hS hL)
theorem z_kicmp_ge {x y : Int} {off : Int} {tgt : Nat} (hx : z_rg x) (hy : z_rg y) (hd : decode (z_cc d) pc = .ok (.if_icmp .ge off, 3)) (ht : (pc : Int) + off = (tgt : Int)) (kt : y ≤ x → z_JK G Z d Q tgt ls st a L k n) (kf : ¬ y ≤ x → z_JK G Z d Q (pc + 3) ls st a L k n) : z_JK G Z d Q pc ls (z_I y :: z_I x :: st) a L k n := fun hO hX ha H locs la hB hS hL =>
  lv_icmp_ge hO.1 hO.2.1 hd ht (fun h => kt ((z_le32 hy hx).mp h) hO hX ha H locs la hB hS hL) (fun h => kf (fun h2 => h ((z_le32 hy hx).mpr h2)) hO hX ha H locs la hB hS hL)
/-- Object's own constructor -/
theorem z_kobj {v idx : Nat} (hlink : Cond.methodLink (z_own d) idx objectInit ∈ z_W) (hinst : Cond.instanceMethod objectInit ∈ z_W) (hcode : Cond.code objectInit ⟨#[0xb1]⟩ 1 none ∈ z_W) (hf : 1 ≤ (z_R d).frames) (hlo : 20 ≤ (z_R d).locals) (hd : decode (z_cc d) pc = .ok (.invokespecial idx, 3)) (kk : z_JK G Z d Q (pc + 3) ls [] a L k n) : z_JK G Z d Q pc ls [.ref v] a L k n := fun hO hX ha H locs la hB hS hL => by
  refine W.objInit hO.1 hO.2.1 hO.2.2.2.1 (z_tw hO hlink _) (z_tw hO hinst _) (z_tw hO hcode _) rfl (by rw [hO.2.2.1]; exact hL.1) rfl hd hf (Nat.le_trans (show 2 * 0 + 0 + 12 ≤ 20 by omega) hlo) ?_
  exact W.eq (g2 := F0 (z_m Z) (pc + 3) la []) rfl (kk hO hX ha H locs la hB hS hL)
theorem z_kSS {H H1 : Heap} {locs : List Loc} {s : State} (hS : va_S (z_A G) s.heap H locs) (z : H1.size = H.size + 1) (o : ∀ q : Nat, q < H.size → H1[q]? = H[q]?) : va_S (z_A G) s.heap H1 locs :=
  ⟨Nat.le_trans hS.1 (by omega), fun x h1 h2 => (o x (Nat.lt_of_lt_of_le h1 hS.1)).trans (hS.2.1 x h1 h2), hS.2.2⟩
theorem z_knew {C : String} {T : u_T} {N ci index : Nat} {ty : Nat → FieldType} {vs : List Value} (hC : vwCl[ci]? = some (C, T, N)) (hin : ∀ w ∈ u_ws C T N, w ∈ z_W) (hty : ∀ k, k < N → parseFieldDescriptor (T k).2.2.1 = some (ty k))
    (hcl : Cond.classLink (z_own d) index C ∈ z_W) (hinst : Cond.instantiable C N ∈ z_W) (hini : Cond.initialized C ∈ z_W) (hlen : vs.length = N) (hfs : ∀ j, j < N → defaultValue (ty j) = vs.getD j .null) (hk : k + 1 ≤ (z_R d).cells ∧ n + N ≤ (z_R d).slots) (hd : decode (z_cc d) pc = .ok (.new index, 3))
    (kk : z_JK G Z d Q (pc + 3) ls (.ref (a + L.length) :: st) a (L ++ [.inl (ci, vs)]) (k + 1) (n + N)) : z_JK G Z d Q pc ls st a L k n := fun hO hX ha H locs la hB hS hL => by
  have hKn := hO.2.2.2.2.2.2.2.2.1.1 ci _ hC
  have hts : ∀ w ∈ u_ws C T N, w.before (z_a Z) (z_s Z) = true := fun w hw => z_tw hO (hin w hw) _
  refine W.newcK hO.1 hO.2.1 hO.2.2.2.1 (z_tw hO hcl _) (z_tw hO hinst _) (z_tw hO hini _) rfl hd hk.1 hk.2 hKn.2.1 rfl fun H1 kC hkC e1 z1 o1 => ?_
  have e := hB.1
  rw [← e] at kk
  refine kk hO hX ha H1 locs la (z_Bd_push hB z1 o1 ?_) (z_kSS hS z1 o1) hL
  have q := (u_born ty hts (fun _ h => h) hKn hkC e1 hty).to hfs
  show t_OB H.size _ vs.length _ H1 _
  rw [hlen]
  exact q
/-- a new row of ints (t = 0) or longs (t = 3) -/
theorem z_knewI {N : Nat} (harr : Cond.arrayClass .int ∈ z_W) (hN : N ≤ 6000) (hk : k + 1 ≤ (z_R d).cells ∧ n + N ≤ (z_R d).slots) (hd : decode (z_cc d) pc = .ok (.newarray .int, 2))
    (kk : z_JK G Z d Q (pc + 2) ls (.ref (a + L.length) :: st) a (L ++ [.inr (0, N, fun _ => z_I 0)]) (k + 1) (n + N)) : z_JK G Z d Q pc ls (z_I (N : Int) :: st) a L k n := fun hO hX ha H locs la hB hS hL => by
  have e := hB.1
  rw [← e] at kk
  refine va_newaK (atype := .int) hO.1 hO.2.1 (z_tw hO harr _) rfl hd rfl (fun h => ?_) (N := N) (by rw [z_clamp (by omega) (by omega)]; omega) (by show N * 4 ≤ _; omega) hk.1 hk.2 rfl fun H1 cA e1 z1 o1 hAr hNm => ?_
  · exact z_vp (n := 6001) (i := N) (by omega) (by omega) (by omega) (Or.inl h)
  · have h2 := (hO.2.2.2.2.2.2.2.2.1.2 0 _ rfl).2
    cases Option.some.inj (hNm.symm.trans h2)
    exact kk hO hX ha H1 locs la (z_Bd_push hB z1 o1 e1) (z_kSS hS z1 o1) hL
/-- a new row of states, all null -/
theorem z_kanew {N index : Nat} (hcl : Cond.classLink (z_own d) index "PenGuild$State" ∈ z_W) (hN : N ≤ 6000) (hk : k + 1 ≤ (z_R d).cells ∧ n + N ≤ (z_R d).slots) (hd : decode (z_cc d) pc = .ok (.anewarray index, 3))
    (kk : z_JK G Z d Q (pc + 3) ls (.ref (a + L.length) :: st) a (L ++ [.inr (4, N, fun _ => .null)]) (k + 1) (n + N)) : z_JK G Z d Q pc ls (z_I (N : Int) :: st) a L k n := fun hO hX ha H locs la hB hS hL => by
  have e := hB.1
  rw [← e] at kk
  obtain ⟨-, -, -, -, -, -, -, -, hov⟩ := id hX
  have eN : (Int32.ofInt (N : Int)).toNatClampNeg = N := by rw [z_clamp (by omega) (by omega)]; omega
  refine W.anew hO.1 hO.2.1 hO.2.2.2.1 (z_tw hO hcl _) (va_AO.use hov) rfl hd rfl (fun h => ?_) (by rw [eN]; omega) hk.1 (by rw [eN]; exact hk.2) fun cA kA comp f1 f2 f3 f4 => ?_
  · exact z_vp (n := 6001) (i := N) (by omega) (by omega) (by omega) (Or.inl h)
  rw [eN]
  generalize hH1 : H.push ({ cls := cA, slots := Array.replicate N .null, vm := .none } : Cell) = H1
  have z1 : H1.size = H.size + 1 := by rw [← hH1, Array.size_push]
  have e1 : H1[H.size]? = some (arrV cA N (fun _ => .null)) := by rw [← hH1, Array.getElem?_push_size, ← arrV_new]
  have o1 : ∀ q : Nat, q < H.size → H1[q]? = H[q]? := fun q hq => by rw [← hH1, Array.getElem?_push, if_neg (Nat.ne_of_lt hq)]
  obtain ⟨kA2, comp2, g1, g2, g3, g4⟩ := (hO.2.2.2.2.2.2.2.2.1.2 2 _ rfl).2
  have ec : cA = z_cR G := Option.some.inj (f1.symm.trans g4)
  subst ec
  exact kk hO hX ha H1 locs la (z_Bd_push hB z1 o1 e1) (z_kSS hS z1 o1) hL
end ZKN
