section ZKX
variable {G : z_G} {Z : z_Z} {d : z_Md} {Q : State → Prop} {pc : Nat} {ls : List (Option Value)} {st : List Value} {a k n : Nat} {L : List z_CC}
theorem z_kastore {j v : Nat} (hd : decode (z_cc d) pc = .ok (.astore j, 2)) (hn : j < z_nL d) (hp : z_pre ls j = true) (kk : z_JK G Z d Q (pc + 2) (ls.set j (some (.ref v))) st a L k n) : z_JK G Z d Q pc ls (.ref v :: st) a L k n := fun hO hX ha H locs la hB hS hL => lv_astore hO.1 hO.2.1 hd (z_LH_has hL) hn rfl (fun la' hl' => kk hO hX ha H locs la' hB hS (z_LH_set1 hp hl'))
end ZKX
/-! ===== constructors: copies of a row, stores in rows ===== -/
theorem z_cellE {cA : ClassId} {sl : Array Value} {n : Nat} {f : Nat → Value} (h : sl.size = n) (he : ∀ j, j < n → sl[j]? = some (f j)) : ({ cls := cA, slots := sl } : Cell) = arrV cA n f := by
  have e : sl = (arrV cA n f).slots := by
    apply Array.ext_getElem?
    intro i
    by_cases hi : i < n
    · rw [he i hi, arrV_read _ _ hi]
    · rw [Array.getElem?_eq_none (by omega), Array.getElem?_eq_none (by rw [arrV_size]; omega)]
  rw [e]; rfl
section ZKR
variable {G : z_G} {Z : z_Z} {d : z_Md} {Q : State → Prop} {pc : Nat} {ls : List (Option Value)} {st rest : List Value} {a k n : Nat} {L : List z_CC}
theorem z_kfirst {x : Nat} (hlink : Cond.fieldLinkNest (z_own d) x "PenGuild" "FIRST_SETTINGS" "[I" "PenGuild" ∈ z_W) (hd : decode (z_cc d) pc = .ok (.getstatic x, 3)) (kk : z_JK G Z d Q (pc + 3) ls (.ref (z_fs G) :: st) a L k n) : z_JK G Z d Q pc ls st a L k n := fun hO hX ha H locs la hB hS hL =>
  va_getsN hO.1 hO.2.1 hO.2.2.2.2.2.2.2.2.2.2.2.1.1 hS hO.2.2.2.1 (z_tw hO hlink _) (fun _ h => h) hd (kk hO hX ha H locs la hB hS hL)
theorem z_kclone {x : Nat} (hlink : Cond.methodLink (z_own d) x ⟨"[I", "clone", "()Ljava/lang/Object;"⟩ ∈ z_W) (hsame : Cond.sameMethod "[I" "java/lang/Object" "clone" "()Ljava/lang/Object;" ∈ z_W) (hnat : Cond.native ⟨"java/lang/Object", "clone", "()Ljava/lang/Object;"⟩ ∈ z_W) (hinst : Cond.instanceMethod ⟨"java/lang/Object", "clone", "()Ljava/lang/Object;"⟩ ∈ z_W)
    (hsel : Cond.selects "[I" ⟨"[I", "clone", "()Ljava/lang/Object;"⟩ ⟨"java/lang/Object", "clone", "()Ljava/lang/Object;"⟩ ∈ z_W) (hcl : Cond.castable "[I" "java/lang/Cloneable" ∈ z_W) (hf : 1 ≤ (z_R d).frames) (hlo : (rest.map fun v => v.category).sum + 14 ≤ (z_R d).locals) (hk : k + 1 ≤ (z_R d).cells ∧ n + 6 ≤ (z_R d).slots)
    (hd : decode (z_cc d) pc = .ok (.invokevirtual x, 3)) (kk : z_JK G Z d Q (pc + 3) ls (.ref (a + L.length) :: rest) a (L ++ [.inr (0, 6, fun j => z_I (z_first j))]) (k + 1) (n + 6)) : z_JK G Z d Q pc ls (.ref (z_fs G) :: rest) a L k n := fun hO hX ha H locs la hB hS hL => by
  have hX2 := hX
  obtain ⟨cell, x1, x2, x3, x4, x5, x6, x7, -⟩ := hX2
  have hK := hO.2.2.2.2.2.2.2.2.1.2 0 _ rfl
  have ec : cell.cls = z_cI G := Option.some.inj (x3.symm.trans (va_nm_int hK.2))
  obtain ⟨c0, t0', f1, f2, f3⟩ := Cond.castable_spec (z_tw hO hcl (z_a Z))
  have e0 : c0 = cell.cls := Option.some.inj (f1.symm.trans x3)
  rw [e0] at f3
  have e := hB.1
  rw [← e] at kk
  intro T hT X
  have hcT : T.heap[z_fs G]? = some cell := by rw [hT, hB.2.1 _ (by omega)]; exact x1
  obtain ⟨-, kA, hkA, comp, hkind⟩ := State.isArrayOf_alike X.warmed.alike (hK.1 0 (fun _ => .null))
  obtain ⟨-, kS, hkS, compS, hkindS⟩ := hK.1 0 (fun _ => .null)
  obtain ⟨vm', X', stp⟩ := X.cloneArray hO.1 hO.2.2.2.1 (z_tw hO hlink _) (z_tw hO hsame _) (z_tw hO hnat _) (z_tw hO hinst _) (z_tw hO hsel _) (a := z_fs G) (cell := cell) hcT x5 x4 x3 f2 f3
    (fun i v hv => by
      have hi : i < 6 := by have := (Array.getElem?_eq_some_iff.mp hv).1; omega
      have hvv : v = z_I (z_first i) := Option.some.inj (hv.symm.trans (x7 i hi))
      rw [ec, hvv]
      have hk' : T.vm.classes[z_cI G]? = some kA := hkA
      simp [State.fitsSlot, State.slotType?, hk', hkind, z_I, fits])
    (g := F0 (z_m Z) pc la (.ref (z_fs G) :: rest)) rfl (by rw [hO.2.2.1]; exact hL.1) rfl (by rw [hO.2.1]; exact hd) hf (by show 2 * 0 + _ + 14 ≤ _; omega) hk.1 (by rw [x6]; exact hk.2) (hloader := by rw [ec]; exact Vm.clonesLoader_of_array hkS hkindS)
  rw [ec, z_cellE x6 x7, x6] at X'
  generalize hH1 : H.push (arrV (z_cI G) 6 (fun j => z_I (z_first j))) = H1
  have z1 : H1.size = H.size + 1 := by rw [← hH1, Array.size_push]
  have e1 : H1[H.size]? = some (arrV (z_cI G) 6 (fun j => z_I (z_first j))) := by rw [← hH1, Array.getElem?_push_size]
  have o1 : ∀ q : Nat, q < H.size → H1[q]? = H[q]? := fun q hq => by rw [← hH1, Array.getElem?_push, if_neg (Nat.ne_of_lt hq)]
  obtain ⟨t, b1, b2⟩ := kk hO hX ha H1 locs la (z_Bd_push hB z1 o1 e1) (z_kSS hS z1 o1) hL ((T.setVm vm').pushCell (arrV (z_cI G) 6 (fun j => z_I (z_first j)))) (by rw [← hH1, ← hT]; rfl) X'
  refine ⟨t, stp t ?_, b2⟩
  rw [ec, z_cellE x6 x7, hT]
  exact b1
theorem z_kcast {x i m : Nat} {f : Nat → Value} (hcl : Cond.classLink (z_own d) x "[I" ∈ z_W) (hLi : L[i]? = some (.inr (0, m, f))) (hd : decode (z_cc d) pc = .ok (.checkcast x, 3)) (kk : z_JK G Z d Q (pc + 3) ls (.ref (a + i) :: st) a L k n) : z_JK G Z d Q pc ls (.ref (a + i) :: st) a L k n := fun hO hX ha H locs la hB hS hL => by
  have hc : H[a + i]? = some (arrV (z_cI G) m f) := hB.2.2 i _ hLi
  have hK := hO.2.2.2.2.2.2.2.2.1.2 0 _ rfl
  intro T hT X
  obtain ⟨vm', X', stp⟩ := X.checkcastYes hO.1 hO.2.2.2.1 (z_tw hO hcl _) (by rw [hT]; exact hc) rfl (va_nm_int hK.2) (va_asg _ _) (g := F0 (z_m Z) pc la (.ref (a + i) :: st)) rfl rfl (by rw [hO.2.1]; exact hd)
  obtain ⟨t, a1, b1⟩ := kk hO hX ha H locs la hB hS hL (T.setVm vm') hT X'
  exact ⟨t, stp t a1, b1⟩
theorem z_kiast {i m j : Nat} {v : Int} {f : Nat → Value} (hLi : L[i]? = some (.inr (0, m, f))) (hj : j < m) (hm : m ≤ 6000) (hd : decode (z_cc d) pc = .ok (.iastore, 1)) (kk : z_JK G Z d Q (pc + 1) ls st a (L.set i (.inr (0, m, updV f j (z_I v)))) k n) : z_JK G Z d Q pc ls (z_I v :: z_I (j : Int) :: .ref (a + i) :: st) a L k n := fun hO hX ha H locs la hB hS hL => by
  have hc : H[a + i]? = some (arrV (z_cI G) m f) := hB.2.2 i _ hLi
  have hK := hO.2.2.2.2.2.2.2.2.1.2
  have e : (Int32.ofInt (j : Int)).toNatClampNeg = j := by rw [z_clamp (by omega) (by omega)]; omega
  refine W.iast hO.1 hO.2.1 hc ((hK 0 _ rfl).1 m _) (fun q => by cases q) (by rw [arrV_size]; exact z_vp (by omega) (by omega) (by omega)) rfl rfl hd fun H' e1 z oq => ?_
  refine kk hO hX ha H' _ la (z_Bd_set hB (List.getElem?_eq_some_iff.mp hLi).1 z oq ?_) (hS.put z oq (show z_b G ≤ a + i by omega)) hL
  show H'[a + i]? = some (arrV (z_cI G) m (updV f j (z_I v)))
  rw [e1, e, arrV_store]
  rfl
theorem z_kaast {i i2 m j : Nat} {f : Nat → Value} {vs : List Value} (hLi : L[i]? = some (.inr (4, m, f))) (hL2 : L[i2]? = some (.inl (5, vs))) (hj : j < m) (hm : m ≤ 6000) (hd : decode (z_cc d) pc = .ok (.aastore, 1)) (kk : z_JK G Z d Q (pc + 1) ls st a (L.set i (.inr (4, m, updV f j (.ref (a + i2))))) k n) : z_JK G Z d Q pc ls (.ref (a + i2) :: z_I (j : Int) :: .ref (a + i) :: st) a L k n := fun hO hX ha H locs la hB hS hL => by
  have hc : H[a + i]? = some (arrV (z_cR G) m f) := hB.2.2 i _ hLi
  obtain ⟨cellV, g1, g2, g3, -⟩ := (hB.2.2 i2 _ hL2 : t_OB _ _ _ _ _ _)
  have hK := hO.2.2.2.2.2.2.2.2.1
  have hcls := (hK.1 5 _ rfl).2
  obtain ⟨kA, comp, k1, k2, k3, -⟩ := (hK.2 2 _ rfl).2
  have hcomp : comp = (z_D G).1 5 := Option.some.inj (k3.symm.trans hcls.1)
  subst hcomp
  obtain ⟨kC, hkC, -⟩ := hcls.2
  have e : (Int32.ofInt (j : Int)).toNatClampNeg = j := by rw [z_clamp (by omega) (by omega)]; omega
  refine W.aast hO.1 hO.2.1 hc (fun q h => by cases h) (fun h => by cases h) k1 k2 rfl hkC ⟨fun h => z_vp (n := m) (i := (j : Int)) (by omega) (by omega) (by omega) (Or.inl h), by rw [arrV_size, e]; exact hj⟩ g1 (fun q h => by rw [g3] at h; cases h) (by rw [g2]; exact hkC) (by rw [g2]; exact va_assign hcls) rfl rfl hd fun H' e1 z oq => ?_
  refine kk hO hX ha H' _ la (z_Bd_set hB (List.getElem?_eq_some_iff.mp hLi).1 z oq ?_) (hS.put z oq (show z_b G ≤ a + i by omega)) hL
  show H'[a + i]? = some (arrV (z_cR G) m (updV f j (.ref (a + i2))))
  rw [e1, e, arrV_store]
theorem z_kaald {i m j : Nat} {f : Nat → Value} {r : Nat} (hLi : L[i]? = some (.inr (4, m, f))) (hj : j < m) (hm : m ≤ 6000) (hf : f j = .ref r) (hd : decode (z_cc d) pc = .ok (.aaload, 1)) (kk : z_JK G Z d Q (pc + 1) ls (.ref r :: st) a L k n) : z_JK G Z d Q pc ls (z_I (j : Int) :: .ref (a + i) :: st) a L k n := fun hO hX ha H locs la hB hS hL => by
  have hc : H[a + i]? = some (arrV (z_cR G) m f) := hB.2.2 i _ hLi
  have hK := hO.2.2.2.2.2.2.2.2.1.2
  have e : (Int32.ofInt (j : Int)).toNatClampNeg = j := by rw [z_clamp (by omega) (by omega)]; omega
  refine W.aald (v := .ref r) (ty := .object "PenGuild$State") hO.1 hO.2.1 hc ((hK 2 _ rfl).1 m _) rfl (fun q => by cases q) (by rw [arrV_size]; exact z_vp (by omega) (by omega) (by omega)) ?_ rfl rfl hd (kk hO hX ha H locs la hB hS hL)
  rw [e, arrV_read _ _ hj, hf]
theorem z_kalen {i m : Nat} {f : Nat → Value} (hLi : L[i]? = some (.inr (4, m, f))) (hd : decode (z_cc d) pc = .ok (.arraylength, 1)) (kk : z_JK G Z d Q (pc + 1) ls (z_I (m : Int) :: st) a L k n) : z_JK G Z d Q pc ls (.ref (a + i) :: st) a L k n := fun hO hX ha H locs la hB hS hL => by
  have hc : H[a + i]? = some (arrV (z_cR G) m f) := hB.2.2 i _ hLi
  have hK := hO.2.2.2.2.2.2.2.2.1.2
  exact W.alen (n := Int32.ofInt (m : Int)) hO.1 hO.2.1 hc ((hK 2 _ rfl).1 m _) (by rw [arrV_size]; rfl) rfl rfl hd (kk hO hX ha H locs la hB hS hL)
end ZKR
