/-! ===== a rule an instruction ===== -/
/-- locals as a list of pairs, for the kit's stores -/
def z_lv (ls : List (Option Value)) : List (Nat × Value) := ls.zipIdx.filterMap (fun q => q.1.map (fun v => (q.2, v)))
theorem z_lv_mem {ls : List (Option Value)} {i : Nat} {v : Value} : (i, v) ∈ z_lv ls ↔ ls[i]? = some (some v) := by
  unfold z_lv
  rw [List.mem_filterMap]
  constructor
  · rintro ⟨⟨o, j⟩, h1, h2⟩
    have h3 := List.mem_zipIdx_iff_getElem?.mp h1
    cases o with
    | none => cases h2
    | some w => cases h2; exact h3
  · intro h
    exact ⟨(some v, i), List.mem_zipIdx_iff_getElem?.mpr h, rfl⟩
theorem z_LH_has {la : Array Slot} {n : Nat} {ls : List (Option Value)} (h : z_LH la n ls) : lv_has la n (z_lv ls) := ⟨h.1, h.2.1, fun q hq => h.2.2 q.1 q.2 (z_lv_mem.mp hq)⟩
def z_c1 (o : Option Value) : Bool := match o with | some v => v.category == 1 | none => true
/-- before slot j no long begins -/
def z_pre (ls : List (Option Value)) (j : Nat) : Bool := match j with | 0 => true | j + 1 => z_c1 ((ls[j]?).getD none)
theorem z_LH_set1 {la : Array Slot} {n j : Nat} {v : Value} {ls : List (Option Value)} (hp : z_pre ls j = true) (h : lv_has la n ((j, v) :: (z_lv ls).filter (fun q => !(q.1 == j) && !(q.1 + 1 == j && q.2.category == 2)))) : z_LH la n (ls.set j (some v)) := by
  refine ⟨h.1, h.2.1, fun i w hi => ?_⟩
  by_cases e : i = j
  · subst e
    have hl : i < ls.length := by have := (List.getElem?_eq_some_iff.mp hi).1; simpa using this
    rw [List.getElem?_set_self hl] at hi
    cases hi
    exact h.2.2 (i, v) List.mem_cons_self
  · rw [List.getElem?_set_ne (Ne.symm e)] at hi
    refine h.2.2 (i, w) (List.mem_cons_of_mem _ (List.mem_filter.mpr ⟨z_lv_mem.mpr hi, ?_⟩))
    have h1 : (i == j) = false := by simpa using e
    have h2 : (i + 1 == j && w.category == 2) = false := by
      by_cases e2 : i + 1 = j
      · subst e2
        have h3 : z_c1 (some w) = true := by
          have : z_pre ls (i + 1) = z_c1 ((ls[i]?).getD none) := rfl
          rw [this, hi] at hp
          exact hp
        have h4 : w.category = 1 := by simpa [z_c1] using h3
        simp [h4]
      · simp [e2]
    simp only [h1, h2, Bool.not_false, Bool.and_self]
theorem z_LH_set2 {la : Array Slot} {n j : Nat} {v : Value} {ls : List (Option Value)} (hp : z_pre ls j = true) (h : lv_has la n ((j, v) :: (z_lv ls).filter (fun q => !(q.1 == j) && (!(q.1 == j + 1) && !(q.1 + 1 == j && q.2.category == 2))))) : z_LH la n ((ls.set j (some v)).set (j + 1) none) := by
  refine ⟨h.1, h.2.1, fun i w hi => ?_⟩
  by_cases e1 : i = j + 1
  · subst e1
    rw [List.getElem?_set] at hi
    simp at hi
  · rw [List.getElem?_set_ne (Ne.symm e1)] at hi
    by_cases e : i = j
    · subst e
      have hl : i < ls.length := by have := (List.getElem?_eq_some_iff.mp hi).1; simpa using this
      rw [List.getElem?_set_self hl] at hi
      cases hi
      exact h.2.2 (i, v) List.mem_cons_self
    · rw [List.getElem?_set_ne (Ne.symm e)] at hi
      refine h.2.2 (i, w) (List.mem_cons_of_mem _ (List.mem_filter.mpr ⟨z_lv_mem.mpr hi, ?_⟩))
      have h1 : (i == j) = false := by simpa using e
      have h0 : (i == j + 1) = false := by simpa using e1
      have h2 : (i + 1 == j && w.category == 2) = false := by
        by_cases e2 : i + 1 = j
        · subst e2
          have h3 : z_c1 (some w) = true := by
            have : z_pre ls (i + 1) = z_c1 ((ls[i]?).getD none) := rfl
            rw [this, hi] at hp
            exact hp
          have h4 : w.category = 1 := by simpa [z_c1] using h3
          simp [h4]
        · simp [e2]
      simp only [h0, h1, h2, Bool.not_false, Bool.and_self]
section ZR
variable {G : z_G} {Z : z_Z} {d : z_Md} {Q : State → Prop} {pc : Nat} {ls : List (Option Value)} {st : List Value} {M : z_M} {k n : Nat}
theorem z_iconst {i : Int} (hd : decode (z_cc d) pc = .ok (.iconst i, 1)) (kk : z_J G Z d Q (pc + 1) ls (z_I i :: st) M k n) : z_J G Z d Q (pc) ls st M k n :=
  fun hO H locs la hW hS hL => lv_iconst hO.1 hO.2.1 hd rfl (kk hO H locs la hW hS hL)
theorem z_bipush {i : Int} (hd : decode (z_cc d) pc = .ok (.bipush i, 2)) (hv : (Int8.ofInt i).toInt32 = Int32.ofInt i) (kk : z_J G Z d Q (pc + 2) ls (z_I i :: st) M k n) : z_J G Z d Q (pc) ls st M k n :=
  fun hO H locs la hW hS hL => lv_bipush hO.1 hO.2.1 hd hv (kk hO H locs la hW hS hL)
theorem z_sipush {i : Int} (hd : decode (z_cc d) pc = .ok (.sipush i, 3)) (hv : (Int16.ofInt i).toInt32 = Int32.ofInt i) (kk : z_J G Z d Q (pc + 3) ls (z_I i :: st) M k n) : z_J G Z d Q (pc) ls st M k n :=
  fun hO H locs la hW hS hL => lv_sipush hO.1 hO.2.1 hd hv (kk hO H locs la hW hS hL)
theorem z_lconst0  (hd : decode (z_cc d) pc = .ok (.lconst 0, 1)) (kk : z_J G Z d Q (pc + 1) ls (z_L 0 :: st) M k n) : z_J G Z d Q (pc) ls st M k n :=
  fun hO H locs la hW hS hL => lv_lconst hO.1 hO.2.1 hd rfl (kk hO H locs la hW hS hL)
theorem z_lconst1  (hd : decode (z_cc d) pc = .ok (.lconst 1, 1)) (kk : z_J G Z d Q (pc + 1) ls (z_L 1 :: st) M k n) : z_J G Z d Q (pc) ls st M k n :=
  fun hO H locs la hW hS hL => lv_lconst hO.1 hO.2.1 hd rfl (kk hO H locs la hW hS hL)
theorem z_ldc {i : Int} {x : Nat} (hw : Cond.constant (z_own d) x (Int32.ofInt i) ∈ z_W) (hd : decode (z_cc d) pc = .ok (.ldc x, 2)) (kk : z_J G Z d Q (pc + 2) ls (z_I i :: st) M k n) : z_J G Z d Q (pc) ls st M k n :=
  fun hO H locs la hW hS hL => lv_ldc hO.1 hO.2.1 hO.2.2.2.1 (z_tw hO hw _) hd (kk hO H locs la hW hS hL)
theorem z_ldc2 {i : Int} {x : Nat} (hw : Cond.constantLong (z_own d) x (Int64.ofInt i) ∈ z_W) (hd : decode (z_cc d) pc = .ok (.ldc2_w x, 3)) (kk : z_J G Z d Q (pc + 3) ls (z_L i :: st) M k n) : z_J G Z d Q (pc) ls st M k n :=
  fun hO H locs la hW hS hL => lv_ldc2 hO.1 hO.2.1 hO.2.2.2.1 (z_tw hO hw _) hd (kk hO H locs la hW hS hL)
theorem z_ldc2d {v : UInt64} {x : Nat} (hw : Cond.constantDouble (z_own d) x v ∈ z_W) (hd : decode (z_cc d) pc = .ok (.ldc2_w x, 3)) (kk : z_J G Z d Q (pc + 3) ls (.double v :: st) M k n) : z_J G Z d Q (pc) ls st M k n :=
  fun hO H locs la hW hS hL => lv_ldc2d hO.1 hO.2.1 hO.2.2.2.1 (z_tw hO hw _) hd (kk hO H locs la hW hS hL)
theorem z_dconst0  (hd : decode (z_cc d) pc = .ok (.dconst 0, 1)) (kk : z_J G Z d Q (pc + 1) ls (.double FP.dconst0 :: st) M k n) : z_J G Z d Q (pc) ls st M k n :=
  fun hO H locs la hW hS hL => lv_dconst0 hO.1 hO.2.1 hd (kk hO H locs la hW hS hL)
theorem z_dconst1  (hd : decode (z_cc d) pc = .ok (.dconst 1, 1)) (kk : z_J G Z d Q (pc + 1) ls (.double FP.dconst1 :: st) M k n) : z_J G Z d Q (pc) ls st M k n :=
  fun hO H locs la hW hS hL => lv_dconst1 hO.1 hO.2.1 hd (kk hO H locs la hW hS hL)
theorem z_iloadn {j : Fin 4} {v : Int} (hd : decode (z_cc d) pc = .ok (.iload_n j, 1)) (hl : ls[(j : Nat)]? = some (some (z_I v))) (kk : z_J G Z d Q (pc + 1) ls ((z_I v) :: st) M k n) : z_J G Z d Q (pc) ls st M k n :=
  fun hO H locs la hW hS hL => lv_iload_n hO.1 hO.2.1 hd rfl (hL.2.2 _ _ hl) (kk hO H locs la hW hS hL)
theorem z_iload {j : Nat} {v : Int} (hd : decode (z_cc d) pc = .ok (.iload j, 2)) (hl : ls[j]? = some (some (z_I v))) (kk : z_J G Z d Q (pc + 2) ls ((z_I v) :: st) M k n) : z_J G Z d Q (pc) ls st M k n :=
  fun hO H locs la hW hS hL => lv_iload hO.1 hO.2.1 hd (hL.2.2 _ _ hl) (kk hO H locs la hW hS hL)
theorem z_aloadn {j : Fin 4} {v : Nat} (hd : decode (z_cc d) pc = .ok (.aload_n j, 1)) (hl : ls[(j : Nat)]? = some (some (.ref v))) (kk : z_J G Z d Q (pc + 1) ls ((.ref v) :: st) M k n) : z_J G Z d Q (pc) ls st M k n :=
  fun hO H locs la hW hS hL => lv_aload_n hO.1 hO.2.1 hd rfl (hL.2.2 _ _ hl) (kk hO H locs la hW hS hL)
theorem z_aload {j : Nat} {v : Nat} (hd : decode (z_cc d) pc = .ok (.aload j, 2)) (hl : ls[j]? = some (some (.ref v))) (kk : z_J G Z d Q (pc + 2) ls ((.ref v) :: st) M k n) : z_J G Z d Q (pc) ls st M k n :=
  fun hO H locs la hW hS hL => lv_aload hO.1 hO.2.1 hd (hL.2.2 _ _ hl) (kk hO H locs la hW hS hL)
theorem z_lloadn {j : Fin 4} {v : Int} (hd : decode (z_cc d) pc = .ok (.lload_n j, 1)) (hl : ls[(j : Nat)]? = some (some (z_L v))) (kk : z_J G Z d Q (pc + 1) ls ((z_L v) :: st) M k n) : z_J G Z d Q (pc) ls st M k n :=
  fun hO H locs la hW hS hL => lv_lload_n hO.1 hO.2.1 hd rfl (hL.2.2 _ _ hl) (kk hO H locs la hW hS hL)
theorem z_lload {j : Nat} {v : Int} (hd : decode (z_cc d) pc = .ok (.lload j, 2)) (hl : ls[j]? = some (some (z_L v))) (kk : z_J G Z d Q (pc + 2) ls ((z_L v) :: st) M k n) : z_J G Z d Q (pc) ls st M k n :=
  fun hO H locs la hW hS hL => lv_lload hO.1 hO.2.1 hd (hL.2.2 _ _ hl) (kk hO H locs la hW hS hL)
theorem z_dloadn {j : Fin 4} {v : UInt64} (hd : decode (z_cc d) pc = .ok (.dload_n j, 1)) (hl : ls[(j : Nat)]? = some (some (.double v))) (kk : z_J G Z d Q (pc + 1) ls ((.double v) :: st) M k n) : z_J G Z d Q (pc) ls st M k n :=
  fun hO H locs la hW hS hL => lv_dload_n hO.1 hO.2.1 hd rfl (hL.2.2 _ _ hl) (kk hO H locs la hW hS hL)
theorem z_dload {j : Nat} {v : UInt64} (hd : decode (z_cc d) pc = .ok (.dload j, 2)) (hl : ls[j]? = some (some (.double v))) (kk : z_J G Z d Q (pc + 2) ls ((.double v) :: st) M k n) : z_J G Z d Q (pc) ls st M k n :=
  fun hO H locs la hW hS hL => lv_dload hO.1 hO.2.1 hd (hL.2.2 _ _ hl) (kk hO H locs la hW hS hL)
theorem z_istoren_g {j : Fin 4} {v : Int} (hd : decode (z_cc d) pc = .ok (.istore_n j, 1)) (hn : (j : Nat) < z_nL d) (hp : z_pre ls (j : Nat) = true) (kk : z_J G Z d Q (pc + 1) (ls.set (j : Nat) (some (z_I v))) st M k n) : z_J G Z d Q (pc) ls ((z_I v) :: st) M k n :=
  fun hO H locs la hW hS hL => lv_istore_n hO.1 hO.2.1 hd rfl (z_LH_has hL) hn rfl (fun la' hl' => kk hO H locs la' hW hS (z_LH_set1 hp hl'))
theorem z_istore_g {j : Nat} {v : Int} (hd : decode (z_cc d) pc = .ok (.istore j, 2)) (hn : j < z_nL d) (hp : z_pre ls j = true) (kk : z_J G Z d Q (pc + 2) (ls.set j (some (z_I v))) st M k n) : z_J G Z d Q (pc) ls ((z_I v) :: st) M k n :=
  fun hO H locs la hW hS hL => lv_istore hO.1 hO.2.1 hd (z_LH_has hL) hn rfl (fun la' hl' => kk hO H locs la' hW hS (z_LH_set1 hp hl'))
theorem z_istoren_0 {v : Int} {a0 : Option Value} {lt : List (Option Value)} (hd : decode (z_cc d) pc = .ok (.istore_n 0, 1)) (hn : 0 < z_nL d) (kk : z_J G Z d Q (pc + 1) (some (z_I v) :: lt) st M k n) : z_J G Z d Q (pc) (a0 :: lt) ((z_I v) :: st) M k n := z_istoren_g hd hn rfl kk
theorem z_istoren_1 {v : Int} {a0 a1 : Option Value} {lt : List (Option Value)} (hd : decode (z_cc d) pc = .ok (.istore_n 1, 1)) (hn : 1 < z_nL d) (hp : z_c1 a0 = true) (kk : z_J G Z d Q (pc + 1) (a0 :: some (z_I v) :: lt) st M k n) : z_J G Z d Q (pc) (a0 :: a1 :: lt) ((z_I v) :: st) M k n := z_istoren_g hd hn hp kk
theorem z_istoren_2 {v : Int} {a0 a1 a2 : Option Value} {lt : List (Option Value)} (hd : decode (z_cc d) pc = .ok (.istore_n 2, 1)) (hn : 2 < z_nL d) (hp : z_c1 a1 = true) (kk : z_J G Z d Q (pc + 1) (a0 :: a1 :: some (z_I v) :: lt) st M k n) : z_J G Z d Q (pc) (a0 :: a1 :: a2 :: lt) ((z_I v) :: st) M k n := z_istoren_g hd hn hp kk
theorem z_istoren_3 {v : Int} {a0 a1 a2 a3 : Option Value} {lt : List (Option Value)} (hd : decode (z_cc d) pc = .ok (.istore_n 3, 1)) (hn : 3 < z_nL d) (hp : z_c1 a2 = true) (kk : z_J G Z d Q (pc + 1) (a0 :: a1 :: a2 :: some (z_I v) :: lt) st M k n) : z_J G Z d Q (pc) (a0 :: a1 :: a2 :: a3 :: lt) ((z_I v) :: st) M k n := z_istoren_g hd hn hp kk
theorem z_istore_4 {v : Int} {a0 a1 a2 a3 a4 : Option Value} {lt : List (Option Value)} (hd : decode (z_cc d) pc = .ok (.istore 4, 2)) (hn : 4 < z_nL d) (hp : z_c1 a3 = true) (kk : z_J G Z d Q (pc + 2) (a0 :: a1 :: a2 :: a3 :: some (z_I v) :: lt) st M k n) : z_J G Z d Q (pc) (a0 :: a1 :: a2 :: a3 :: a4 :: lt) ((z_I v) :: st) M k n := z_istore_g hd hn hp kk
theorem z_istore_5 {v : Int} {a0 a1 a2 a3 a4 a5 : Option Value} {lt : List (Option Value)} (hd : decode (z_cc d) pc = .ok (.istore 5, 2)) (hn : 5 < z_nL d) (hp : z_c1 a4 = true) (kk : z_J G Z d Q (pc + 2) (a0 :: a1 :: a2 :: a3 :: a4 :: some (z_I v) :: lt) st M k n) : z_J G Z d Q (pc) (a0 :: a1 :: a2 :: a3 :: a4 :: a5 :: lt) ((z_I v) :: st) M k n := z_istore_g hd hn hp kk
theorem z_istore_6 {v : Int} {a0 a1 a2 a3 a4 a5 a6 : Option Value} {lt : List (Option Value)} (hd : decode (z_cc d) pc = .ok (.istore 6, 2)) (hn : 6 < z_nL d) (hp : z_c1 a5 = true) (kk : z_J G Z d Q (pc + 2) (a0 :: a1 :: a2 :: a3 :: a4 :: a5 :: some (z_I v) :: lt) st M k n) : z_J G Z d Q (pc) (a0 :: a1 :: a2 :: a3 :: a4 :: a5 :: a6 :: lt) ((z_I v) :: st) M k n := z_istore_g hd hn hp kk
theorem z_istore_7 {v : Int} {a0 a1 a2 a3 a4 a5 a6 a7 : Option Value} {lt : List (Option Value)} (hd : decode (z_cc d) pc = .ok (.istore 7, 2)) (hn : 7 < z_nL d) (hp : z_c1 a6 = true) (kk : z_J G Z d Q (pc + 2) (a0 :: a1 :: a2 :: a3 :: a4 :: a5 :: a6 :: some (z_I v) :: lt) st M k n) : z_J G Z d Q (pc) (a0 :: a1 :: a2 :: a3 :: a4 :: a5 :: a6 :: a7 :: lt) ((z_I v) :: st) M k n := z_istore_g hd hn hp kk
theorem z_istore_8 {v : Int} {a0 a1 a2 a3 a4 a5 a6 a7 a8 : Option Value} {lt : List (Option Value)} (hd : decode (z_cc d) pc = .ok (.istore 8, 2)) (hn : 8 < z_nL d) (hp : z_c1 a7 = true) (kk : z_J G Z d Q (pc + 2) (a0 :: a1 :: a2 :: a3 :: a4 :: a5 :: a6 :: a7 :: some (z_I v) :: lt) st M k n) : z_J G Z d Q (pc) (a0 :: a1 :: a2 :: a3 :: a4 :: a5 :: a6 :: a7 :: a8 :: lt) ((z_I v) :: st) M k n := z_istore_g hd hn hp kk
theorem z_istore_9 {v : Int} {a0 a1 a2 a3 a4 a5 a6 a7 a8 a9 : Option Value} {lt : List (Option Value)} (hd : decode (z_cc d) pc = .ok (.istore 9, 2)) (hn : 9 < z_nL d) (hp : z_c1 a8 = true) (kk : z_J G Z d Q (pc + 2) (a0 :: a1 :: a2 :: a3 :: a4 :: a5 :: a6 :: a7 :: a8 :: some (z_I v) :: lt) st M k n) : z_J G Z d Q (pc) (a0 :: a1 :: a2 :: a3 :: a4 :: a5 :: a6 :: a7 :: a8 :: a9 :: lt) ((z_I v) :: st) M k n := z_istore_g hd hn hp kk
theorem z_istore_10 {v : Int} {a0 a1 a2 a3 a4 a5 a6 a7 a8 a9 a10 : Option Value} {lt : List (Option Value)} (hd : decode (z_cc d) pc = .ok (.istore 10, 2)) (hn : 10 < z_nL d) (hp : z_c1 a9 = true) (kk : z_J G Z d Q (pc + 2) (a0 :: a1 :: a2 :: a3 :: a4 :: a5 :: a6 :: a7 :: a8 :: a9 :: some (z_I v) :: lt) st M k n) : z_J G Z d Q (pc) (a0 :: a1 :: a2 :: a3 :: a4 :: a5 :: a6 :: a7 :: a8 :: a9 :: a10 :: lt) ((z_I v) :: st) M k n := z_istore_g hd hn hp kk
theorem z_istore_11 {v : Int} {a0 a1 a2 a3 a4 a5 a6 a7 a8 a9 a10 a11 : Option Value} {lt : List (Option Value)} (hd : decode (z_cc d) pc = .ok (.istore 11, 2)) (hn : 11 < z_nL d) (hp : z_c1 a10 = true) (kk : z_J G Z d Q (pc + 2) (a0 :: a1 :: a2 :: a3 :: a4 :: a5 :: a6 :: a7 :: a8 :: a9 :: a10 :: some (z_I v) :: lt) st M k n) : z_J G Z d Q (pc) (a0 :: a1 :: a2 :: a3 :: a4 :: a5 :: a6 :: a7 :: a8 :: a9 :: a10 :: a11 :: lt) ((z_I v) :: st) M k n := z_istore_g hd hn hp kk
theorem z_astoren_g {j : Fin 4} {v : Nat} (hd : decode (z_cc d) pc = .ok (.astore_n j, 1)) (hn : (j : Nat) < z_nL d) (hp : z_pre ls (j : Nat) = true) (kk : z_J G Z d Q (pc + 1) (ls.set (j : Nat) (some (.ref v))) st M k n) : z_J G Z d Q (pc) ls ((.ref v) :: st) M k n :=
  fun hO H locs la hW hS hL => lv_astore_n hO.1 hO.2.1 hd rfl (z_LH_has hL) hn rfl (fun la' hl' => kk hO H locs la' hW hS (z_LH_set1 hp hl'))
theorem z_astore_g {j : Nat} {v : Nat} (hd : decode (z_cc d) pc = .ok (.astore j, 2)) (hn : j < z_nL d) (hp : z_pre ls j = true) (kk : z_J G Z d Q (pc + 2) (ls.set j (some (.ref v))) st M k n) : z_J G Z d Q (pc) ls ((.ref v) :: st) M k n :=
  fun hO H locs la hW hS hL => lv_astore hO.1 hO.2.1 hd (z_LH_has hL) hn rfl (fun la' hl' => kk hO H locs la' hW hS (z_LH_set1 hp hl'))
theorem z_astoren_0 {v : Nat} {a0 : Option Value} {lt : List (Option Value)} (hd : decode (z_cc d) pc = .ok (.astore_n 0, 1)) (hn : 0 < z_nL d) (kk : z_J G Z d Q (pc + 1) (some (.ref v) :: lt) st M k n) : z_J G Z d Q (pc) (a0 :: lt) ((.ref v) :: st) M k n := z_astoren_g hd hn rfl kk
theorem z_astoren_1 {v : Nat} {a0 a1 : Option Value} {lt : List (Option Value)} (hd : decode (z_cc d) pc = .ok (.astore_n 1, 1)) (hn : 1 < z_nL d) (hp : z_c1 a0 = true) (kk : z_J G Z d Q (pc + 1) (a0 :: some (.ref v) :: lt) st M k n) : z_J G Z d Q (pc) (a0 :: a1 :: lt) ((.ref v) :: st) M k n := z_astoren_g hd hn hp kk
theorem z_astoren_2 {v : Nat} {a0 a1 a2 : Option Value} {lt : List (Option Value)} (hd : decode (z_cc d) pc = .ok (.astore_n 2, 1)) (hn : 2 < z_nL d) (hp : z_c1 a1 = true) (kk : z_J G Z d Q (pc + 1) (a0 :: a1 :: some (.ref v) :: lt) st M k n) : z_J G Z d Q (pc) (a0 :: a1 :: a2 :: lt) ((.ref v) :: st) M k n := z_astoren_g hd hn hp kk
theorem z_astoren_3 {v : Nat} {a0 a1 a2 a3 : Option Value} {lt : List (Option Value)} (hd : decode (z_cc d) pc = .ok (.astore_n 3, 1)) (hn : 3 < z_nL d) (hp : z_c1 a2 = true) (kk : z_J G Z d Q (pc + 1) (a0 :: a1 :: a2 :: some (.ref v) :: lt) st M k n) : z_J G Z d Q (pc) (a0 :: a1 :: a2 :: a3 :: lt) ((.ref v) :: st) M k n := z_astoren_g hd hn hp kk
theorem z_astore_4 {v : Nat} {a0 a1 a2 a3 a4 : Option Value} {lt : List (Option Value)} (hd : decode (z_cc d) pc = .ok (.astore 4, 2)) (hn : 4 < z_nL d) (hp : z_c1 a3 = true) (kk : z_J G Z d Q (pc + 2) (a0 :: a1 :: a2 :: a3 :: some (.ref v) :: lt) st M k n) : z_J G Z d Q (pc) (a0 :: a1 :: a2 :: a3 :: a4 :: lt) ((.ref v) :: st) M k n := z_astore_g hd hn hp kk
theorem z_astore_5 {v : Nat} {a0 a1 a2 a3 a4 a5 : Option Value} {lt : List (Option Value)} (hd : decode (z_cc d) pc = .ok (.astore 5, 2)) (hn : 5 < z_nL d) (hp : z_c1 a4 = true) (kk : z_J G Z d Q (pc + 2) (a0 :: a1 :: a2 :: a3 :: a4 :: some (.ref v) :: lt) st M k n) : z_J G Z d Q (pc) (a0 :: a1 :: a2 :: a3 :: a4 :: a5 :: lt) ((.ref v) :: st) M k n := z_astore_g hd hn hp kk
theorem z_astore_6 {v : Nat} {a0 a1 a2 a3 a4 a5 a6 : Option Value} {lt : List (Option Value)} (hd : decode (z_cc d) pc = .ok (.astore 6, 2)) (hn : 6 < z_nL d) (hp : z_c1 a5 = true) (kk : z_J G Z d Q (pc + 2) (a0 :: a1 :: a2 :: a3 :: a4 :: a5 :: some (.ref v) :: lt) st M k n) : z_J G Z d Q (pc) (a0 :: a1 :: a2 :: a3 :: a4 :: a5 :: a6 :: lt) ((.ref v) :: st) M k n := z_astore_g hd hn hp kk
theorem z_astore_7 {v : Nat} {a0 a1 a2 a3 a4 a5 a6 a7 : Option Value} {lt : List (Option Value)} (hd : decode (z_cc d) pc = .ok (.astore 7, 2)) (hn : 7 < z_nL d) (hp : z_c1 a6 = true) (kk : z_J G Z d Q (pc + 2) (a0 :: a1 :: a2 :: a3 :: a4 :: a5 :: a6 :: some (.ref v) :: lt) st M k n) : z_J G Z d Q (pc) (a0 :: a1 :: a2 :: a3 :: a4 :: a5 :: a6 :: a7 :: lt) ((.ref v) :: st) M k n := z_astore_g hd hn hp kk
theorem z_astore_8 {v : Nat} {a0 a1 a2 a3 a4 a5 a6 a7 a8 : Option Value} {lt : List (Option Value)} (hd : decode (z_cc d) pc = .ok (.astore 8, 2)) (hn : 8 < z_nL d) (hp : z_c1 a7 = true) (kk : z_J G Z d Q (pc + 2) (a0 :: a1 :: a2 :: a3 :: a4 :: a5 :: a6 :: a7 :: some (.ref v) :: lt) st M k n) : z_J G Z d Q (pc) (a0 :: a1 :: a2 :: a3 :: a4 :: a5 :: a6 :: a7 :: a8 :: lt) ((.ref v) :: st) M k n := z_astore_g hd hn hp kk
theorem z_astore_9 {v : Nat} {a0 a1 a2 a3 a4 a5 a6 a7 a8 a9 : Option Value} {lt : List (Option Value)} (hd : decode (z_cc d) pc = .ok (.astore 9, 2)) (hn : 9 < z_nL d) (hp : z_c1 a8 = true) (kk : z_J G Z d Q (pc + 2) (a0 :: a1 :: a2 :: a3 :: a4 :: a5 :: a6 :: a7 :: a8 :: some (.ref v) :: lt) st M k n) : z_J G Z d Q (pc) (a0 :: a1 :: a2 :: a3 :: a4 :: a5 :: a6 :: a7 :: a8 :: a9 :: lt) ((.ref v) :: st) M k n := z_astore_g hd hn hp kk
theorem z_astore_10 {v : Nat} {a0 a1 a2 a3 a4 a5 a6 a7 a8 a9 a10 : Option Value} {lt : List (Option Value)} (hd : decode (z_cc d) pc = .ok (.astore 10, 2)) (hn : 10 < z_nL d) (hp : z_c1 a9 = true) (kk : z_J G Z d Q (pc + 2) (a0 :: a1 :: a2 :: a3 :: a4 :: a5 :: a6 :: a7 :: a8 :: a9 :: some (.ref v) :: lt) st M k n) : z_J G Z d Q (pc) (a0 :: a1 :: a2 :: a3 :: a4 :: a5 :: a6 :: a7 :: a8 :: a9 :: a10 :: lt) ((.ref v) :: st) M k n := z_astore_g hd hn hp kk
theorem z_astore_11 {v : Nat} {a0 a1 a2 a3 a4 a5 a6 a7 a8 a9 a10 a11 : Option Value} {lt : List (Option Value)} (hd : decode (z_cc d) pc = .ok (.astore 11, 2)) (hn : 11 < z_nL d) (hp : z_c1 a10 = true) (kk : z_J G Z d Q (pc + 2) (a0 :: a1 :: a2 :: a3 :: a4 :: a5 :: a6 :: a7 :: a8 :: a9 :: a10 :: some (.ref v) :: lt) st M k n) : z_J G Z d Q (pc) (a0 :: a1 :: a2 :: a3 :: a4 :: a5 :: a6 :: a7 :: a8 :: a9 :: a10 :: a11 :: lt) ((.ref v) :: st) M k n := z_astore_g hd hn hp kk
theorem z_lstoren_g {j : Fin 4} {v : Int} (hd : decode (z_cc d) pc = .ok (.lstore_n j, 1)) (hn : (j : Nat) + 1 < z_nL d) (hp : z_pre ls (j : Nat) = true) (kk : z_J G Z d Q (pc + 1) ((ls.set (j : Nat) (some (z_L v))).set ((j : Nat) + 1) none) st M k n) : z_J G Z d Q (pc) ls ((z_L v) :: st) M k n :=
  fun hO H locs la hW hS hL => lv_lstore_n hO.1 hO.2.1 hd rfl (z_LH_has hL) hn rfl (fun la' hl' => kk hO H locs la' hW hS (z_LH_set2 hp hl'))
theorem z_lstore_g {j : Nat} {v : Int} (hd : decode (z_cc d) pc = .ok (.lstore j, 2)) (hn : j + 1 < z_nL d) (hp : z_pre ls j = true) (kk : z_J G Z d Q (pc + 2) ((ls.set j (some (z_L v))).set (j + 1) none) st M k n) : z_J G Z d Q (pc) ls ((z_L v) :: st) M k n :=
  fun hO H locs la hW hS hL => lv_lstore hO.1 hO.2.1 hd (z_LH_has hL) hn rfl (fun la' hl' => kk hO H locs la' hW hS (z_LH_set2 hp hl'))
theorem z_lstoren_0 {v : Int} {a0 a1 : Option Value} {lt : List (Option Value)} (hd : decode (z_cc d) pc = .ok (.lstore_n 0, 1)) (hn : 1 < z_nL d) (kk : z_J G Z d Q (pc + 1) (some (z_L v) :: none :: lt) st M k n) : z_J G Z d Q (pc) (a0 :: a1 :: lt) ((z_L v) :: st) M k n := z_lstoren_g hd hn rfl kk
theorem z_lstoren_1 {v : Int} {a0 a1 a2 : Option Value} {lt : List (Option Value)} (hd : decode (z_cc d) pc = .ok (.lstore_n 1, 1)) (hn : 2 < z_nL d) (hp : z_c1 a0 = true) (kk : z_J G Z d Q (pc + 1) (a0 :: some (z_L v) :: none :: lt) st M k n) : z_J G Z d Q (pc) (a0 :: a1 :: a2 :: lt) ((z_L v) :: st) M k n := z_lstoren_g hd hn hp kk
theorem z_lstoren_2 {v : Int} {a0 a1 a2 a3 : Option Value} {lt : List (Option Value)} (hd : decode (z_cc d) pc = .ok (.lstore_n 2, 1)) (hn : 3 < z_nL d) (hp : z_c1 a1 = true) (kk : z_J G Z d Q (pc + 1) (a0 :: a1 :: some (z_L v) :: none :: lt) st M k n) : z_J G Z d Q (pc) (a0 :: a1 :: a2 :: a3 :: lt) ((z_L v) :: st) M k n := z_lstoren_g hd hn hp kk
theorem z_lstoren_3 {v : Int} {a0 a1 a2 a3 a4 : Option Value} {lt : List (Option Value)} (hd : decode (z_cc d) pc = .ok (.lstore_n 3, 1)) (hn : 4 < z_nL d) (hp : z_c1 a2 = true) (kk : z_J G Z d Q (pc + 1) (a0 :: a1 :: a2 :: some (z_L v) :: none :: lt) st M k n) : z_J G Z d Q (pc) (a0 :: a1 :: a2 :: a3 :: a4 :: lt) ((z_L v) :: st) M k n := z_lstoren_g hd hn hp kk
theorem z_lstore_4 {v : Int} {a0 a1 a2 a3 a4 a5 : Option Value} {lt : List (Option Value)} (hd : decode (z_cc d) pc = .ok (.lstore 4, 2)) (hn : 5 < z_nL d) (hp : z_c1 a3 = true) (kk : z_J G Z d Q (pc + 2) (a0 :: a1 :: a2 :: a3 :: some (z_L v) :: none :: lt) st M k n) : z_J G Z d Q (pc) (a0 :: a1 :: a2 :: a3 :: a4 :: a5 :: lt) ((z_L v) :: st) M k n := z_lstore_g hd hn hp kk
theorem z_lstore_5 {v : Int} {a0 a1 a2 a3 a4 a5 a6 : Option Value} {lt : List (Option Value)} (hd : decode (z_cc d) pc = .ok (.lstore 5, 2)) (hn : 6 < z_nL d) (hp : z_c1 a4 = true) (kk : z_J G Z d Q (pc + 2) (a0 :: a1 :: a2 :: a3 :: a4 :: some (z_L v) :: none :: lt) st M k n) : z_J G Z d Q (pc) (a0 :: a1 :: a2 :: a3 :: a4 :: a5 :: a6 :: lt) ((z_L v) :: st) M k n := z_lstore_g hd hn hp kk
theorem z_lstore_6 {v : Int} {a0 a1 a2 a3 a4 a5 a6 a7 : Option Value} {lt : List (Option Value)} (hd : decode (z_cc d) pc = .ok (.lstore 6, 2)) (hn : 7 < z_nL d) (hp : z_c1 a5 = true) (kk : z_J G Z d Q (pc + 2) (a0 :: a1 :: a2 :: a3 :: a4 :: a5 :: some (z_L v) :: none :: lt) st M k n) : z_J G Z d Q (pc) (a0 :: a1 :: a2 :: a3 :: a4 :: a5 :: a6 :: a7 :: lt) ((z_L v) :: st) M k n := z_lstore_g hd hn hp kk
theorem z_lstore_7 {v : Int} {a0 a1 a2 a3 a4 a5 a6 a7 a8 : Option Value} {lt : List (Option Value)} (hd : decode (z_cc d) pc = .ok (.lstore 7, 2)) (hn : 8 < z_nL d) (hp : z_c1 a6 = true) (kk : z_J G Z d Q (pc + 2) (a0 :: a1 :: a2 :: a3 :: a4 :: a5 :: a6 :: some (z_L v) :: none :: lt) st M k n) : z_J G Z d Q (pc) (a0 :: a1 :: a2 :: a3 :: a4 :: a5 :: a6 :: a7 :: a8 :: lt) ((z_L v) :: st) M k n := z_lstore_g hd hn hp kk
theorem z_lstore_8 {v : Int} {a0 a1 a2 a3 a4 a5 a6 a7 a8 a9 : Option Value} {lt : List (Option Value)} (hd : decode (z_cc d) pc = .ok (.lstore 8, 2)) (hn : 9 < z_nL d) (hp : z_c1 a7 = true) (kk : z_J G Z d Q (pc + 2) (a0 :: a1 :: a2 :: a3 :: a4 :: a5 :: a6 :: a7 :: some (z_L v) :: none :: lt) st M k n) : z_J G Z d Q (pc) (a0 :: a1 :: a2 :: a3 :: a4 :: a5 :: a6 :: a7 :: a8 :: a9 :: lt) ((z_L v) :: st) M k n := z_lstore_g hd hn hp kk
theorem z_lstore_9 {v : Int} {a0 a1 a2 a3 a4 a5 a6 a7 a8 a9 a10 : Option Value} {lt : List (Option Value)} (hd : decode (z_cc d) pc = .ok (.lstore 9, 2)) (hn : 10 < z_nL d) (hp : z_c1 a8 = true) (kk : z_J G Z d Q (pc + 2) (a0 :: a1 :: a2 :: a3 :: a4 :: a5 :: a6 :: a7 :: a8 :: some (z_L v) :: none :: lt) st M k n) : z_J G Z d Q (pc) (a0 :: a1 :: a2 :: a3 :: a4 :: a5 :: a6 :: a7 :: a8 :: a9 :: a10 :: lt) ((z_L v) :: st) M k n := z_lstore_g hd hn hp kk
theorem z_lstore_10 {v : Int} {a0 a1 a2 a3 a4 a5 a6 a7 a8 a9 a10 a11 : Option Value} {lt : List (Option Value)} (hd : decode (z_cc d) pc = .ok (.lstore 10, 2)) (hn : 11 < z_nL d) (hp : z_c1 a9 = true) (kk : z_J G Z d Q (pc + 2) (a0 :: a1 :: a2 :: a3 :: a4 :: a5 :: a6 :: a7 :: a8 :: a9 :: some (z_L v) :: none :: lt) st M k n) : z_J G Z d Q (pc) (a0 :: a1 :: a2 :: a3 :: a4 :: a5 :: a6 :: a7 :: a8 :: a9 :: a10 :: a11 :: lt) ((z_L v) :: st) M k n := z_lstore_g hd hn hp kk
theorem z_lstore_11 {v : Int} {a0 a1 a2 a3 a4 a5 a6 a7 a8 a9 a10 a11 a12 : Option Value} {lt : List (Option Value)} (hd : decode (z_cc d) pc = .ok (.lstore 11, 2)) (hn : 12 < z_nL d) (hp : z_c1 a10 = true) (kk : z_J G Z d Q (pc + 2) (a0 :: a1 :: a2 :: a3 :: a4 :: a5 :: a6 :: a7 :: a8 :: a9 :: a10 :: some (z_L v) :: none :: lt) st M k n) : z_J G Z d Q (pc) (a0 :: a1 :: a2 :: a3 :: a4 :: a5 :: a6 :: a7 :: a8 :: a9 :: a10 :: a11 :: a12 :: lt) ((z_L v) :: st) M k n := z_lstore_g hd hn hp kk
theorem z_dstoren_g {j : Fin 4} {v : UInt64} (hd : decode (z_cc d) pc = .ok (.dstore_n j, 1)) (hn : (j : Nat) + 1 < z_nL d) (hp : z_pre ls (j : Nat) = true) (kk : z_J G Z d Q (pc + 1) ((ls.set (j : Nat) (some (.double v))).set ((j : Nat) + 1) none) st M k n) : z_J G Z d Q (pc) ls ((.double v) :: st) M k n :=
  fun hO H locs la hW hS hL => lv_dstore_n hO.1 hO.2.1 hd rfl (z_LH_has hL) hn rfl (fun la' hl' => kk hO H locs la' hW hS (z_LH_set2 hp hl'))
theorem z_dstore_g {j : Nat} {v : UInt64} (hd : decode (z_cc d) pc = .ok (.dstore j, 2)) (hn : j + 1 < z_nL d) (hp : z_pre ls j = true) (kk : z_J G Z d Q (pc + 2) ((ls.set j (some (.double v))).set (j + 1) none) st M k n) : z_J G Z d Q (pc) ls ((.double v) :: st) M k n :=
  fun hO H locs la hW hS hL => lv_dstore hO.1 hO.2.1 hd (z_LH_has hL) hn rfl (fun la' hl' => kk hO H locs la' hW hS (z_LH_set2 hp hl'))
theorem z_dstoren_0 {v : UInt64} {a0 a1 : Option Value} {lt : List (Option Value)} (hd : decode (z_cc d) pc = .ok (.dstore_n 0, 1)) (hn : 1 < z_nL d) (kk : z_J G Z d Q (pc + 1) (some (.double v) :: none :: lt) st M k n) : z_J G Z d Q (pc) (a0 :: a1 :: lt) ((.double v) :: st) M k n := z_dstoren_g hd hn rfl kk
theorem z_dstoren_1 {v : UInt64} {a0 a1 a2 : Option Value} {lt : List (Option Value)} (hd : decode (z_cc d) pc = .ok (.dstore_n 1, 1)) (hn : 2 < z_nL d) (hp : z_c1 a0 = true) (kk : z_J G Z d Q (pc + 1) (a0 :: some (.double v) :: none :: lt) st M k n) : z_J G Z d Q (pc) (a0 :: a1 :: a2 :: lt) ((.double v) :: st) M k n := z_dstoren_g hd hn hp kk
theorem z_dstoren_2 {v : UInt64} {a0 a1 a2 a3 : Option Value} {lt : List (Option Value)} (hd : decode (z_cc d) pc = .ok (.dstore_n 2, 1)) (hn : 3 < z_nL d) (hp : z_c1 a1 = true) (kk : z_J G Z d Q (pc + 1) (a0 :: a1 :: some (.double v) :: none :: lt) st M k n) : z_J G Z d Q (pc) (a0 :: a1 :: a2 :: a3 :: lt) ((.double v) :: st) M k n := z_dstoren_g hd hn hp kk
theorem z_dstoren_3 {v : UInt64} {a0 a1 a2 a3 a4 : Option Value} {lt : List (Option Value)} (hd : decode (z_cc d) pc = .ok (.dstore_n 3, 1)) (hn : 4 < z_nL d) (hp : z_c1 a2 = true) (kk : z_J G Z d Q (pc + 1) (a0 :: a1 :: a2 :: some (.double v) :: none :: lt) st M k n) : z_J G Z d Q (pc) (a0 :: a1 :: a2 :: a3 :: a4 :: lt) ((.double v) :: st) M k n := z_dstoren_g hd hn hp kk
theorem z_dstore_4 {v : UInt64} {a0 a1 a2 a3 a4 a5 : Option Value} {lt : List (Option Value)} (hd : decode (z_cc d) pc = .ok (.dstore 4, 2)) (hn : 5 < z_nL d) (hp : z_c1 a3 = true) (kk : z_J G Z d Q (pc + 2) (a0 :: a1 :: a2 :: a3 :: some (.double v) :: none :: lt) st M k n) : z_J G Z d Q (pc) (a0 :: a1 :: a2 :: a3 :: a4 :: a5 :: lt) ((.double v) :: st) M k n := z_dstore_g hd hn hp kk
theorem z_dstore_5 {v : UInt64} {a0 a1 a2 a3 a4 a5 a6 : Option Value} {lt : List (Option Value)} (hd : decode (z_cc d) pc = .ok (.dstore 5, 2)) (hn : 6 < z_nL d) (hp : z_c1 a4 = true) (kk : z_J G Z d Q (pc + 2) (a0 :: a1 :: a2 :: a3 :: a4 :: some (.double v) :: none :: lt) st M k n) : z_J G Z d Q (pc) (a0 :: a1 :: a2 :: a3 :: a4 :: a5 :: a6 :: lt) ((.double v) :: st) M k n := z_dstore_g hd hn hp kk
theorem z_dstore_6 {v : UInt64} {a0 a1 a2 a3 a4 a5 a6 a7 : Option Value} {lt : List (Option Value)} (hd : decode (z_cc d) pc = .ok (.dstore 6, 2)) (hn : 7 < z_nL d) (hp : z_c1 a5 = true) (kk : z_J G Z d Q (pc + 2) (a0 :: a1 :: a2 :: a3 :: a4 :: a5 :: some (.double v) :: none :: lt) st M k n) : z_J G Z d Q (pc) (a0 :: a1 :: a2 :: a3 :: a4 :: a5 :: a6 :: a7 :: lt) ((.double v) :: st) M k n := z_dstore_g hd hn hp kk
theorem z_dstore_7 {v : UInt64} {a0 a1 a2 a3 a4 a5 a6 a7 a8 : Option Value} {lt : List (Option Value)} (hd : decode (z_cc d) pc = .ok (.dstore 7, 2)) (hn : 8 < z_nL d) (hp : z_c1 a6 = true) (kk : z_J G Z d Q (pc + 2) (a0 :: a1 :: a2 :: a3 :: a4 :: a5 :: a6 :: some (.double v) :: none :: lt) st M k n) : z_J G Z d Q (pc) (a0 :: a1 :: a2 :: a3 :: a4 :: a5 :: a6 :: a7 :: a8 :: lt) ((.double v) :: st) M k n := z_dstore_g hd hn hp kk
theorem z_dstore_8 {v : UInt64} {a0 a1 a2 a3 a4 a5 a6 a7 a8 a9 : Option Value} {lt : List (Option Value)} (hd : decode (z_cc d) pc = .ok (.dstore 8, 2)) (hn : 9 < z_nL d) (hp : z_c1 a7 = true) (kk : z_J G Z d Q (pc + 2) (a0 :: a1 :: a2 :: a3 :: a4 :: a5 :: a6 :: a7 :: some (.double v) :: none :: lt) st M k n) : z_J G Z d Q (pc) (a0 :: a1 :: a2 :: a3 :: a4 :: a5 :: a6 :: a7 :: a8 :: a9 :: lt) ((.double v) :: st) M k n := z_dstore_g hd hn hp kk
theorem z_dstore_9 {v : UInt64} {a0 a1 a2 a3 a4 a5 a6 a7 a8 a9 a10 : Option Value} {lt : List (Option Value)} (hd : decode (z_cc d) pc = .ok (.dstore 9, 2)) (hn : 10 < z_nL d) (hp : z_c1 a8 = true) (kk : z_J G Z d Q (pc + 2) (a0 :: a1 :: a2 :: a3 :: a4 :: a5 :: a6 :: a7 :: a8 :: some (.double v) :: none :: lt) st M k n) : z_J G Z d Q (pc) (a0 :: a1 :: a2 :: a3 :: a4 :: a5 :: a6 :: a7 :: a8 :: a9 :: a10 :: lt) ((.double v) :: st) M k n := z_dstore_g hd hn hp kk
theorem z_dstore_10 {v : UInt64} {a0 a1 a2 a3 a4 a5 a6 a7 a8 a9 a10 a11 : Option Value} {lt : List (Option Value)} (hd : decode (z_cc d) pc = .ok (.dstore 10, 2)) (hn : 11 < z_nL d) (hp : z_c1 a9 = true) (kk : z_J G Z d Q (pc + 2) (a0 :: a1 :: a2 :: a3 :: a4 :: a5 :: a6 :: a7 :: a8 :: a9 :: some (.double v) :: none :: lt) st M k n) : z_J G Z d Q (pc) (a0 :: a1 :: a2 :: a3 :: a4 :: a5 :: a6 :: a7 :: a8 :: a9 :: a10 :: a11 :: lt) ((.double v) :: st) M k n := z_dstore_g hd hn hp kk
theorem z_dstore_11 {v : UInt64} {a0 a1 a2 a3 a4 a5 a6 a7 a8 a9 a10 a11 a12 : Option Value} {lt : List (Option Value)} (hd : decode (z_cc d) pc = .ok (.dstore 11, 2)) (hn : 12 < z_nL d) (hp : z_c1 a10 = true) (kk : z_J G Z d Q (pc + 2) (a0 :: a1 :: a2 :: a3 :: a4 :: a5 :: a6 :: a7 :: a8 :: a9 :: a10 :: some (.double v) :: none :: lt) st M k n) : z_J G Z d Q (pc) (a0 :: a1 :: a2 :: a3 :: a4 :: a5 :: a6 :: a7 :: a8 :: a9 :: a10 :: a11 :: a12 :: lt) ((.double v) :: st) M k n := z_dstore_g hd hn hp kk
theorem z_iinc_g {j : Nat} {i v : Int} (hd : decode (z_cc d) pc = .ok (.iinc j i, 3)) (hv : ls[j]? = some (some (z_I v))) (hn : j < z_nL d) (hp : z_pre ls j = true) (kk : z_J G Z d Q (pc + 3) (ls.set j (some (z_I (v + i)))) st M k n) : z_J G Z d Q (pc) ls st M k n :=
  fun hO H locs la hW hS hL => by
    obtain ⟨q, hq⟩ := List.getElem?_of_mem (z_lv_mem.mpr hv)
    exact lv_iinc hO.1 hO.2.1 hd (z_LH_has hL) hq (by rw [← Int32.ofInt_add]) hn rfl (fun la' hl' => kk hO H locs la' hW hS (z_LH_set1 hp hl'))
theorem z_iinc_0 {i v : Int} {lt : List (Option Value)} (hd : decode (z_cc d) pc = .ok (.iinc 0 i, 3)) (hn : 0 < z_nL d) (kk : z_J G Z d Q (pc + 3) (some (z_I (v + i)) :: lt) st M k n) : z_J G Z d Q (pc) (some (z_I v) :: lt) st M k n := z_iinc_g hd rfl hn rfl kk
theorem z_iinc_1 {i v : Int} {a0 : Option Value} {lt : List (Option Value)} (hd : decode (z_cc d) pc = .ok (.iinc 1 i, 3)) (hn : 1 < z_nL d) (hp : z_c1 a0 = true) (kk : z_J G Z d Q (pc + 3) (a0 :: some (z_I (v + i)) :: lt) st M k n) : z_J G Z d Q (pc) (a0 :: some (z_I v) :: lt) st M k n := z_iinc_g hd rfl hn hp kk
theorem z_iinc_2 {i v : Int} {a0 a1 : Option Value} {lt : List (Option Value)} (hd : decode (z_cc d) pc = .ok (.iinc 2 i, 3)) (hn : 2 < z_nL d) (hp : z_c1 a1 = true) (kk : z_J G Z d Q (pc + 3) (a0 :: a1 :: some (z_I (v + i)) :: lt) st M k n) : z_J G Z d Q (pc) (a0 :: a1 :: some (z_I v) :: lt) st M k n := z_iinc_g hd rfl hn hp kk
theorem z_iinc_3 {i v : Int} {a0 a1 a2 : Option Value} {lt : List (Option Value)} (hd : decode (z_cc d) pc = .ok (.iinc 3 i, 3)) (hn : 3 < z_nL d) (hp : z_c1 a2 = true) (kk : z_J G Z d Q (pc + 3) (a0 :: a1 :: a2 :: some (z_I (v + i)) :: lt) st M k n) : z_J G Z d Q (pc) (a0 :: a1 :: a2 :: some (z_I v) :: lt) st M k n := z_iinc_g hd rfl hn hp kk
theorem z_iinc_4 {i v : Int} {a0 a1 a2 a3 : Option Value} {lt : List (Option Value)} (hd : decode (z_cc d) pc = .ok (.iinc 4 i, 3)) (hn : 4 < z_nL d) (hp : z_c1 a3 = true) (kk : z_J G Z d Q (pc + 3) (a0 :: a1 :: a2 :: a3 :: some (z_I (v + i)) :: lt) st M k n) : z_J G Z d Q (pc) (a0 :: a1 :: a2 :: a3 :: some (z_I v) :: lt) st M k n := z_iinc_g hd rfl hn hp kk
theorem z_iinc_5 {i v : Int} {a0 a1 a2 a3 a4 : Option Value} {lt : List (Option Value)} (hd : decode (z_cc d) pc = .ok (.iinc 5 i, 3)) (hn : 5 < z_nL d) (hp : z_c1 a4 = true) (kk : z_J G Z d Q (pc + 3) (a0 :: a1 :: a2 :: a3 :: a4 :: some (z_I (v + i)) :: lt) st M k n) : z_J G Z d Q (pc) (a0 :: a1 :: a2 :: a3 :: a4 :: some (z_I v) :: lt) st M k n := z_iinc_g hd rfl hn hp kk
theorem z_iinc_6 {i v : Int} {a0 a1 a2 a3 a4 a5 : Option Value} {lt : List (Option Value)} (hd : decode (z_cc d) pc = .ok (.iinc 6 i, 3)) (hn : 6 < z_nL d) (hp : z_c1 a5 = true) (kk : z_J G Z d Q (pc + 3) (a0 :: a1 :: a2 :: a3 :: a4 :: a5 :: some (z_I (v + i)) :: lt) st M k n) : z_J G Z d Q (pc) (a0 :: a1 :: a2 :: a3 :: a4 :: a5 :: some (z_I v) :: lt) st M k n := z_iinc_g hd rfl hn hp kk
theorem z_iinc_7 {i v : Int} {a0 a1 a2 a3 a4 a5 a6 : Option Value} {lt : List (Option Value)} (hd : decode (z_cc d) pc = .ok (.iinc 7 i, 3)) (hn : 7 < z_nL d) (hp : z_c1 a6 = true) (kk : z_J G Z d Q (pc + 3) (a0 :: a1 :: a2 :: a3 :: a4 :: a5 :: a6 :: some (z_I (v + i)) :: lt) st M k n) : z_J G Z d Q (pc) (a0 :: a1 :: a2 :: a3 :: a4 :: a5 :: a6 :: some (z_I v) :: lt) st M k n := z_iinc_g hd rfl hn hp kk
theorem z_iinc_8 {i v : Int} {a0 a1 a2 a3 a4 a5 a6 a7 : Option Value} {lt : List (Option Value)} (hd : decode (z_cc d) pc = .ok (.iinc 8 i, 3)) (hn : 8 < z_nL d) (hp : z_c1 a7 = true) (kk : z_J G Z d Q (pc + 3) (a0 :: a1 :: a2 :: a3 :: a4 :: a5 :: a6 :: a7 :: some (z_I (v + i)) :: lt) st M k n) : z_J G Z d Q (pc) (a0 :: a1 :: a2 :: a3 :: a4 :: a5 :: a6 :: a7 :: some (z_I v) :: lt) st M k n := z_iinc_g hd rfl hn hp kk
theorem z_iinc_9 {i v : Int} {a0 a1 a2 a3 a4 a5 a6 a7 a8 : Option Value} {lt : List (Option Value)} (hd : decode (z_cc d) pc = .ok (.iinc 9 i, 3)) (hn : 9 < z_nL d) (hp : z_c1 a8 = true) (kk : z_J G Z d Q (pc + 3) (a0 :: a1 :: a2 :: a3 :: a4 :: a5 :: a6 :: a7 :: a8 :: some (z_I (v + i)) :: lt) st M k n) : z_J G Z d Q (pc) (a0 :: a1 :: a2 :: a3 :: a4 :: a5 :: a6 :: a7 :: a8 :: some (z_I v) :: lt) st M k n := z_iinc_g hd rfl hn hp kk
theorem z_iinc_10 {i v : Int} {a0 a1 a2 a3 a4 a5 a6 a7 a8 a9 : Option Value} {lt : List (Option Value)} (hd : decode (z_cc d) pc = .ok (.iinc 10 i, 3)) (hn : 10 < z_nL d) (hp : z_c1 a9 = true) (kk : z_J G Z d Q (pc + 3) (a0 :: a1 :: a2 :: a3 :: a4 :: a5 :: a6 :: a7 :: a8 :: a9 :: some (z_I (v + i)) :: lt) st M k n) : z_J G Z d Q (pc) (a0 :: a1 :: a2 :: a3 :: a4 :: a5 :: a6 :: a7 :: a8 :: a9 :: some (z_I v) :: lt) st M k n := z_iinc_g hd rfl hn hp kk
theorem z_iinc_11 {i v : Int} {a0 a1 a2 a3 a4 a5 a6 a7 a8 a9 a10 : Option Value} {lt : List (Option Value)} (hd : decode (z_cc d) pc = .ok (.iinc 11 i, 3)) (hn : 11 < z_nL d) (hp : z_c1 a10 = true) (kk : z_J G Z d Q (pc + 3) (a0 :: a1 :: a2 :: a3 :: a4 :: a5 :: a6 :: a7 :: a8 :: a9 :: a10 :: some (z_I (v + i)) :: lt) st M k n) : z_J G Z d Q (pc) (a0 :: a1 :: a2 :: a3 :: a4 :: a5 :: a6 :: a7 :: a8 :: a9 :: a10 :: some (z_I v) :: lt) st M k n := z_iinc_g hd rfl hn hp kk
theorem z_iadd {a b : Int} (hd : decode (z_cc d) pc = .ok (.iadd, 1)) (kk : z_J G Z d Q (pc + 1) ls (z_I (a + b) :: st) M k n) : z_J G Z d Q (pc) ls (z_I b :: z_I a :: st) M k n :=
  fun hO H locs la hW hS hL => lv_iadd hO.1 hO.2.1 hd (by have h := kk hO H locs la hW hS hL; rwa [z_I, Int32.ofInt_add] at h)
theorem z_isub {a b : Int} (hd : decode (z_cc d) pc = .ok (.isub, 1)) (kk : z_J G Z d Q (pc + 1) ls (z_I (a - b) :: st) M k n) : z_J G Z d Q (pc) ls (z_I b :: z_I a :: st) M k n :=
  fun hO H locs la hW hS hL => lv_isub hO.1 hO.2.1 hd (by have h := kk hO H locs la hW hS hL; rwa [z_I, Int32.ofInt_sub] at h)
theorem z_imul {a b : Int} (hd : decode (z_cc d) pc = .ok (.imul, 1)) (kk : z_J G Z d Q (pc + 1) ls (z_I (a * b) :: st) M k n) : z_J G Z d Q (pc) ls (z_I b :: z_I a :: st) M k n :=
  fun hO H locs la hW hS hL => lv_imul hO.1 hO.2.1 hd (by have h := kk hO H locs la hW hS hL; rwa [z_I, Int32.ofInt_mul] at h)
theorem z_ladd {a b : Int} (hd : decode (z_cc d) pc = .ok (.ladd, 1)) (kk : z_J G Z d Q (pc + 1) ls (z_L (a + b) :: st) M k n) : z_J G Z d Q (pc) ls (z_L b :: z_L a :: st) M k n :=
  fun hO H locs la hW hS hL => lv_ladd hO.1 hO.2.1 hd (by have h := kk hO H locs la hW hS hL; rwa [z_L, Int64.ofInt_add] at h)
theorem z_lsub {a b : Int} (hd : decode (z_cc d) pc = .ok (.lsub, 1)) (kk : z_J G Z d Q (pc + 1) ls (z_L (a - b) :: st) M k n) : z_J G Z d Q (pc) ls (z_L b :: z_L a :: st) M k n :=
  fun hO H locs la hW hS hL => lv_lsub hO.1 hO.2.1 hd (by have h := kk hO H locs la hW hS hL; rwa [z_L, Int64.ofInt_sub] at h)
theorem z_lmul {a b : Int} (hd : decode (z_cc d) pc = .ok (.lmul, 1)) (kk : z_J G Z d Q (pc + 1) ls (z_L (a * b) :: st) M k n) : z_J G Z d Q (pc) ls (z_L b :: z_L a :: st) M k n :=
  fun hO H locs la hW hS hL => lv_lmul hO.1 hO.2.1 hd (by have h := kk hO H locs la hW hS hL; rwa [z_L, Int64.ofInt_mul] at h)
theorem z_ineg {a : Int} (hd : decode (z_cc d) pc = .ok (.ineg, 1)) (kk : z_J G Z d Q (pc + 1) ls (z_I (-a) :: st) M k n) : z_J G Z d Q (pc) ls (z_I a :: st) M k n :=
  fun hO H locs la hW hS hL => lv_ineg hO.1 hO.2.1 hd (by have h := kk hO H locs la hW hS hL; rwa [z_I, Int32.ofInt_neg] at h)
theorem z_ofInt_rem {a b : Int} (ha : 0 ≤ a) (ha' : a ≤ 2147483647) (hb : 0 < b) (hb' : b ≤ 2147483647) (e : Int32.ofInt a / Int32.ofInt b = Int32.ofInt (a / b)) : Int32.ofInt a - Int32.ofInt a / Int32.ofInt b * Int32.ofInt b = Int32.ofInt (a % b) := by
  rw [e, ← Int32.ofInt_mul, ← Int32.ofInt_sub]
  congr 1
  rw [Int.emod_def, Int.mul_comm b]
theorem z_ofInt_div {a b : Int} (ha : 0 ≤ a) (ha' : a ≤ 2147483647) (hb : 0 < b) (hb' : b ≤ 2147483647) : Int32.ofInt a / Int32.ofInt b = Int32.ofInt (a / b) := by
  rw [← Int.tdiv_eq_ediv_of_nonneg ha]
  exact (Int32.ofInt_tdiv (show (-2147483648 : Int) ≤ a by omega) (show a ≤ (2147483647 : Int) from ha') (show (-2147483648 : Int) ≤ b by omega) (show b ≤ (2147483647 : Int) from hb')).symm
theorem z_ne0 {b : Int} (hb : 0 < b) (hb' : b ≤ 2147483647) : ¬ Int32.ofInt b = 0 := fun e => by
  have h := (z_eq32 (a := b) (b := 0) ⟨by omega, hb'⟩ ⟨by omega, by omega⟩).mp e
  omega
theorem z_idiv {a b : Int} (ha : 0 ≤ a) (ha' : a ≤ 2147483647) (hb : 0 < b) (hb' : b ≤ 2147483647) (hd : decode (z_cc d) pc = .ok (.idiv, 1)) (kk : z_J G Z d Q (pc + 1) ls (z_I (a / b) :: st) M k n) : z_J G Z d Q (pc) ls (z_I b :: z_I a :: st) M k n :=
  fun hO H locs la hW hS hL => lv_idiv hO.1 hO.2.1 hd (z_ne0 hb hb') (by have h := kk hO H locs la hW hS hL; rwa [z_I, ← z_ofInt_div ha ha' hb hb'] at h)
theorem z_irem {a b : Int} (ha : 0 ≤ a) (ha' : a ≤ 2147483647) (hb : 0 < b) (hb' : b ≤ 2147483647) (hd : decode (z_cc d) pc = .ok (.irem, 1)) (kk : z_J G Z d Q (pc + 1) ls (z_I (a % b) :: st) M k n) : z_J G Z d Q (pc) ls (z_I b :: z_I a :: st) M k n :=
  fun hO H locs la hW hS hL => lv_irem hO.1 hO.2.1 hd (z_ne0 hb hb') (by have h := kk hO H locs la hW hS hL; rwa [z_I, ← z_ofInt_rem ha ha' hb hb' (z_ofInt_div ha ha' hb hb')] at h)
theorem z_dup {va : Value} (hd : decode (z_cc d) pc = .ok (.dup, 1)) (hc : va.category = 1)  (kk : z_J G Z d Q (pc + 1) ls (va :: va :: st) M k n) : z_J G Z d Q (pc) ls (va :: st) M k n :=
  fun hO H locs la hW hS hL => lv_dup hO.1 hO.2.1 hd hc (kk hO H locs la hW hS hL)
theorem z_pop {va : Value} (hd : decode (z_cc d) pc = .ok (.pop, 1)) (hc : va.category = 1)  (kk : z_J G Z d Q (pc + 1) ls st M k n) : z_J G Z d Q (pc) ls (va :: st) M k n :=
  fun hO H locs la hW hS hL => lv_pop hO.1 hO.2.1 hd hc (kk hO H locs la hW hS hL)
theorem z_dup2 {va vb : Value} (hd : decode (z_cc d) pc = .ok (.dup2, 1)) (hc : va.category = 1) (hc2 : vb.category = 1)  (kk : z_J G Z d Q (pc + 1) ls (va :: vb :: va :: vb :: st) M k n) : z_J G Z d Q (pc) ls (va :: vb :: st) M k n :=
  fun hO H locs la hW hS hL => lv_dup2_11 hO.1 hO.2.1 hd hc hc2 (kk hO H locs la hW hS hL)
theorem z_dup2l {va : Value} (hd : decode (z_cc d) pc = .ok (.dup2, 1)) (hc : va.category = 2)  (kk : z_J G Z d Q (pc + 1) ls (va :: va :: st) M k n) : z_J G Z d Q (pc) ls (va :: st) M k n :=
  fun hO H locs la hW hS hL => lv_dup2_2 hO.1 hO.2.1 hd hc (kk hO H locs la hW hS hL)
theorem z_i2l {a : Int} (hr : z_rg a) (hd : decode (z_cc d) pc = .ok (.i2l, 1)) (kk : z_J G Z d Q (pc + 1) ls (z_L a :: st) M k n) : z_J G Z d Q (pc) ls (z_I a :: st) M k n :=
  fun hO H locs la hW hS hL => lv_i2l hO.1 hO.2.1 hd (Int32.toInt64_ofInt hr.1 hr.2) (kk hO H locs la hW hS hL)
theorem z_i2d {a : Int} (hd : decode (z_cc d) pc = .ok (.i2d, 1)) (kk : z_J G Z d Q (pc + 1) ls (.double (FP.i2d (Int32.ofInt a)) :: st) M k n) : z_J G Z d Q (pc) ls (z_I a :: st) M k n :=
  fun hO H locs la hW hS hL => lv_i2d hO.1 hO.2.1 hd (kk hO H locs la hW hS hL)
theorem z_dmul {x y : UInt64} (hne : vf_n64 (FP.dmul x y)) (hd : decode (z_cc d) pc = .ok (.dmul, 1)) (kk : z_J G Z d Q (pc + 1) ls (.double (FP.dmul x y) :: st) M k n) : z_J G Z d Q (pc) ls (.double y :: .double x :: st) M k n :=
  fun hO H locs la hW hS hL => lv_dmul hO.1 hO.2.1 hd hne (kk hO H locs la hW hS hL)
theorem z_ddiv {x y : UInt64} (hne : vf_n64 (FP.ddiv x y)) (hd : decode (z_cc d) pc = .ok (.ddiv, 1)) (kk : z_J G Z d Q (pc + 1) ls (.double (FP.ddiv x y) :: st) M k n) : z_J G Z d Q (pc) ls (.double y :: .double x :: st) M k n :=
  fun hO H locs la hW hS hL => lv_ddiv hO.1 hO.2.1 hd hne (kk hO H locs la hW hS hL)
theorem z_dsub {x y : UInt64} (hne : vf_n64 (FP.dsub x y)) (hd : decode (z_cc d) pc = .ok (.dsub, 1)) (kk : z_J G Z d Q (pc + 1) ls (.double (FP.dsub x y) :: st) M k n) : z_J G Z d Q (pc) ls (.double y :: .double x :: st) M k n :=
  fun hO H locs la hW hS hL => lv_dsub hO.1 hO.2.1 hd hne (kk hO H locs la hW hS hL)
theorem z_d2l {x : UInt64} (hd : decode (z_cc d) pc = .ok (.d2l, 1)) (kk : z_J G Z d Q (pc + 1) ls (.long (FP.d2l x) :: st) M k n) : z_J G Z d Q (pc) ls (.double x :: st) M k n :=
  fun hO H locs la hW hS hL => lv_d2l hO.1 hO.2.1 hd (kk hO H locs la hW hS hL)
theorem z_dcmp {x y : UInt64} {op : CmpOp} {r : Int} (hr : Op.cmpValue (FP.dcmp x y) op = Int32.ofInt r) (hd : decode (z_cc d) pc = .ok (.dcmp op, 1)) (kk : z_J G Z d Q (pc + 1) ls (z_I r :: st) M k n) : z_J G Z d Q (pc) ls (.double y :: .double x :: st) M k n :=
  fun hO H locs la hW hS hL => lv_dcmp hO.1 hO.2.1 hd (by rw [hr]; exact kk hO H locs la hW hS hL)
theorem z_lcmp {x y : Int} {r : Int} (hr : lg_cmp (Int64.ofInt x) (Int64.ofInt y) = Int32.ofInt r) (hd : decode (z_cc d) pc = .ok (.lcmp, 1)) (kk : z_J G Z d Q (pc + 1) ls (z_I r :: st) M k n) : z_J G Z d Q (pc) ls (z_L y :: z_L x :: st) M k n :=
  fun hO H locs la hW hS hL => W.lcmp hO.1 hO.2.1 hd (by rw [hr]; exact kk hO H locs la hW hS hL)
theorem z_ishl {x y r : Int} (hr : (Int32.ofInt x) <<< ((Int32.ofInt y) &&& 31) = Int32.ofInt r) (hd : decode (z_cc d) pc = .ok (.ishl, 1)) (kk : z_J G Z d Q (pc + 1) ls (z_I r :: st) M k n) : z_J G Z d Q (pc) ls (z_I y :: z_I x :: st) M k n :=
  fun hO H locs la hW hS hL => lv_ishl hO.1 hO.2.1 hd (by rw [hr]; exact kk hO H locs la hW hS hL)
theorem z_ishr {x y r : Int} (hr : (Int32.ofInt x) >>> ((Int32.ofInt y) &&& 31) = Int32.ofInt r) (hd : decode (z_cc d) pc = .ok (.ishr, 1)) (kk : z_J G Z d Q (pc + 1) ls (z_I r :: st) M k n) : z_J G Z d Q (pc) ls (z_I y :: z_I x :: st) M k n :=
  fun hO H locs la hW hS hL => lv_ishr hO.1 hO.2.1 hd (by rw [hr]; exact kk hO H locs la hW hS hL)
theorem z_iand {x y r : Int} (hr : (Int32.ofInt x) &&& (Int32.ofInt y) = Int32.ofInt r) (hd : decode (z_cc d) pc = .ok (.iand, 1)) (kk : z_J G Z d Q (pc + 1) ls (z_I r :: st) M k n) : z_J G Z d Q (pc) ls (z_I y :: z_I x :: st) M k n :=
  fun hO H locs la hW hS hL => lv_iand hO.1 hO.2.1 hd (by rw [hr]; exact kk hO H locs la hW hS hL)
theorem z_ior {x y r : Int} (hr : (Int32.ofInt x) ||| (Int32.ofInt y) = Int32.ofInt r) (hd : decode (z_cc d) pc = .ok (.ior, 1)) (kk : z_J G Z d Q (pc + 1) ls (z_I r :: st) M k n) : z_J G Z d Q (pc) ls (z_I y :: z_I x :: st) M k n :=
  fun hO H locs la hW hS hL => lv_ior hO.1 hO.2.1 hd (by rw [hr]; exact kk hO H locs la hW hS hL)
theorem z_lshl {x y r : Int} (hr : (Int64.ofInt x) <<< ((Int32.ofInt y).toInt64 &&& 63) = Int64.ofInt r) (hd : decode (z_cc d) pc = .ok (.lshl, 1)) (kk : z_J G Z d Q (pc + 1) ls (z_L r :: st) M k n) : z_J G Z d Q (pc) ls (z_I y :: z_L x :: st) M k n :=
  fun hO H locs la hW hS hL => lv_lshl hO.1 hO.2.1 hd hr (kk hO H locs la hW hS hL)
theorem z_icmp_eq {a b : Int} {off : Int} {tgt : Nat} (ha : z_rg a) (hb : z_rg b) (hd : decode (z_cc d) pc = .ok (.if_icmp .eq off, 3)) (ht : (pc : Int) + off = (tgt : Int)) (kt : a = b → z_J G Z d Q (tgt) ls st M k n) (kf : ¬ a = b → z_J G Z d Q (pc + 3) ls st M k n) : z_J G Z d Q (pc) ls (z_I b :: z_I a :: st) M k n :=
  fun hO H locs la hW hS hL => lv_icmp_eq hO.1 hO.2.1 hd ht (fun h => kt ((z_eq32 ha hb).mp h) hO H locs la hW hS hL) (fun h => kf (fun h2 => h ((z_eq32 ha hb).mpr h2)) hO H locs la hW hS hL)
theorem z_rg0 : z_rg 0 := ⟨by decide, by decide⟩
theorem z_if_eq {a : Int} {off : Int} {tgt : Nat} (ha : z_rg a) (hd : decode (z_cc d) pc = .ok (.ifCond .eq off, 3)) (ht : (pc : Int) + off = (tgt : Int)) (kt : a = 0 → z_J G Z d Q (tgt) ls st M k n) (kf : ¬ a = 0 → z_J G Z d Q (pc + 3) ls st M k n) : z_J G Z d Q (pc) ls (z_I a :: st) M k n :=
  fun hO H locs la hW hS hL => lv_if_eq hO.1 hO.2.1 hd ht (fun h => kt ((z_eq32 ha z_rg0).mp h) hO H locs la hW hS hL) (fun h => kf (fun h2 => h ((z_eq32 ha z_rg0).mpr h2)) hO H locs la hW hS hL)
theorem z_icmp_ne {a b : Int} {off : Int} {tgt : Nat} (ha : z_rg a) (hb : z_rg b) (hd : decode (z_cc d) pc = .ok (.if_icmp .ne off, 3)) (ht : (pc : Int) + off = (tgt : Int)) (kt : ¬ a = b → z_J G Z d Q (tgt) ls st M k n) (kf : a = b → z_J G Z d Q (pc + 3) ls st M k n) : z_J G Z d Q (pc) ls (z_I b :: z_I a :: st) M k n :=
  fun hO H locs la hW hS hL => lv_icmp_ne hO.1 hO.2.1 hd ht (fun h => kt (((not_congr (z_eq32 ha hb))).mp h) hO H locs la hW hS hL) (fun h => kf ((z_eq32 ha hb).mp h) hO H locs la hW hS hL)
theorem z_if_ne {a : Int} {off : Int} {tgt : Nat} (ha : z_rg a) (hd : decode (z_cc d) pc = .ok (.ifCond .ne off, 3)) (ht : (pc : Int) + off = (tgt : Int)) (kt : ¬ a = 0 → z_J G Z d Q (tgt) ls st M k n) (kf : a = 0 → z_J G Z d Q (pc + 3) ls st M k n) : z_J G Z d Q (pc) ls (z_I a :: st) M k n :=
  fun hO H locs la hW hS hL => lv_if_ne hO.1 hO.2.1 hd ht (fun h => kt (((not_congr (z_eq32 ha z_rg0))).mp h) hO H locs la hW hS hL) (fun h => kf ((z_eq32 ha z_rg0).mp h) hO H locs la hW hS hL)
theorem z_icmp_lt {a b : Int} {off : Int} {tgt : Nat} (ha : z_rg a) (hb : z_rg b) (hd : decode (z_cc d) pc = .ok (.if_icmp .lt off, 3)) (ht : (pc : Int) + off = (tgt : Int)) (kt : a < b → z_J G Z d Q (tgt) ls st M k n) (kf : ¬ a < b → z_J G Z d Q (pc + 3) ls st M k n) : z_J G Z d Q (pc) ls (z_I b :: z_I a :: st) M k n :=
  fun hO H locs la hW hS hL => lv_icmp_lt hO.1 hO.2.1 hd ht (fun h => kt ((z_lt32 ha hb).mp h) hO H locs la hW hS hL) (fun h => kf (fun h2 => h ((z_lt32 ha hb).mpr h2)) hO H locs la hW hS hL)
theorem z_if_lt {a : Int} {off : Int} {tgt : Nat} (ha : z_rg a) (hd : decode (z_cc d) pc = .ok (.ifCond .lt off, 3)) (ht : (pc : Int) + off = (tgt : Int)) (kt : a < 0 → z_J G Z d Q (tgt) ls st M k n) (kf : ¬ a < 0 → z_J G Z d Q (pc + 3) ls st M k n) : z_J G Z d Q (pc) ls (z_I a :: st) M k n :=
  fun hO H locs la hW hS hL => lv_if_lt hO.1 hO.2.1 hd ht (fun h => kt ((z_lt32 ha z_rg0).mp h) hO H locs la hW hS hL) (fun h => kf (fun h2 => h ((z_lt32 ha z_rg0).mpr h2)) hO H locs la hW hS hL)
theorem z_icmp_ge {a b : Int} {off : Int} {tgt : Nat} (ha : z_rg a) (hb : z_rg b) (hd : decode (z_cc d) pc = .ok (.if_icmp .ge off, 3)) (ht : (pc : Int) + off = (tgt : Int)) (kt : b ≤ a → z_J G Z d Q (tgt) ls st M k n) (kf : ¬ b ≤ a → z_J G Z d Q (pc + 3) ls st M k n) : z_J G Z d Q (pc) ls (z_I b :: z_I a :: st) M k n :=
  fun hO H locs la hW hS hL => lv_icmp_ge hO.1 hO.2.1 hd ht (fun h => kt ((z_le32 hb ha).mp h) hO H locs la hW hS hL) (fun h => kf (fun h2 => h ((z_le32 hb ha).mpr h2)) hO H locs la hW hS hL)
theorem z_if_ge {a : Int} {off : Int} {tgt : Nat} (ha : z_rg a) (hd : decode (z_cc d) pc = .ok (.ifCond .ge off, 3)) (ht : (pc : Int) + off = (tgt : Int)) (kt : 0 ≤ a → z_J G Z d Q (tgt) ls st M k n) (kf : ¬ 0 ≤ a → z_J G Z d Q (pc + 3) ls st M k n) : z_J G Z d Q (pc) ls (z_I a :: st) M k n :=
  fun hO H locs la hW hS hL => lv_if_ge hO.1 hO.2.1 hd ht (fun h => kt ((z_le32 z_rg0 ha).mp h) hO H locs la hW hS hL) (fun h => kf (fun h2 => h ((z_le32 z_rg0 ha).mpr h2)) hO H locs la hW hS hL)
theorem z_icmp_gt {a b : Int} {off : Int} {tgt : Nat} (ha : z_rg a) (hb : z_rg b) (hd : decode (z_cc d) pc = .ok (.if_icmp .gt off, 3)) (ht : (pc : Int) + off = (tgt : Int)) (kt : b < a → z_J G Z d Q (tgt) ls st M k n) (kf : ¬ b < a → z_J G Z d Q (pc + 3) ls st M k n) : z_J G Z d Q (pc) ls (z_I b :: z_I a :: st) M k n :=
  fun hO H locs la hW hS hL => lv_icmp_gt hO.1 hO.2.1 hd ht (fun h => kt ((z_lt32 hb ha).mp h) hO H locs la hW hS hL) (fun h => kf (fun h2 => h ((z_lt32 hb ha).mpr h2)) hO H locs la hW hS hL)
theorem z_if_gt {a : Int} {off : Int} {tgt : Nat} (ha : z_rg a) (hd : decode (z_cc d) pc = .ok (.ifCond .gt off, 3)) (ht : (pc : Int) + off = (tgt : Int)) (kt : 0 < a → z_J G Z d Q (tgt) ls st M k n) (kf : ¬ 0 < a → z_J G Z d Q (pc + 3) ls st M k n) : z_J G Z d Q (pc) ls (z_I a :: st) M k n :=
  fun hO H locs la hW hS hL => lv_if_gt hO.1 hO.2.1 hd ht (fun h => kt ((z_lt32 z_rg0 ha).mp h) hO H locs la hW hS hL) (fun h => kf (fun h2 => h ((z_lt32 z_rg0 ha).mpr h2)) hO H locs la hW hS hL)
theorem z_icmp_le {a b : Int} {off : Int} {tgt : Nat} (ha : z_rg a) (hb : z_rg b) (hd : decode (z_cc d) pc = .ok (.if_icmp .le off, 3)) (ht : (pc : Int) + off = (tgt : Int)) (kt : a ≤ b → z_J G Z d Q (tgt) ls st M k n) (kf : ¬ a ≤ b → z_J G Z d Q (pc + 3) ls st M k n) : z_J G Z d Q (pc) ls (z_I b :: z_I a :: st) M k n :=
  fun hO H locs la hW hS hL => lv_icmp_le hO.1 hO.2.1 hd ht (fun h => kt ((z_le32 ha hb).mp h) hO H locs la hW hS hL) (fun h => kf (fun h2 => h ((z_le32 ha hb).mpr h2)) hO H locs la hW hS hL)
theorem z_if_le {a : Int} {off : Int} {tgt : Nat} (ha : z_rg a) (hd : decode (z_cc d) pc = .ok (.ifCond .le off, 3)) (ht : (pc : Int) + off = (tgt : Int)) (kt : a ≤ 0 → z_J G Z d Q (tgt) ls st M k n) (kf : ¬ a ≤ 0 → z_J G Z d Q (pc + 3) ls st M k n) : z_J G Z d Q (pc) ls (z_I a :: st) M k n :=
  fun hO H locs la hW hS hL => lv_if_le hO.1 hO.2.1 hd ht (fun h => kt ((z_le32 ha z_rg0).mp h) hO H locs la hW hS hL) (fun h => kf (fun h2 => h ((z_le32 ha z_rg0).mpr h2)) hO H locs la hW hS hL)
theorem z_goto {off : Int} {tgt : Nat} (hd : decode (z_cc d) pc = .ok (.goto off, 3)) (ht : (pc : Int) + off = (tgt : Int)) (kk : z_J G Z d Q (tgt) ls st M k n) : z_J G Z d Q (pc) ls st M k n :=
  fun hO H locs la hW hS hL => lv_goto hO.1 hO.2.1 hd ht (kk hO H locs la hW hS hL)
theorem z_tabOut {dflt lo hi : Int} {offs : Array Int} {len tgt : Nat} {a : Int} (hd : decode (z_cc d) pc = .ok (.tableswitch dflt lo hi offs, len)) (ha : z_rg a) (h : a < lo ∨ hi < a) (ht : (pc : Int) + dflt = (tgt : Int)) (kk : z_J G Z d Q (tgt) ls st M k n) : z_J G Z d Q (pc) ls (z_I a :: st) M k n :=
  fun hO H locs la hW hS hL => lv_tableOut hO.1 hO.2.1 hd (by rw [z_toI ha]; exact h) ht (kk hO H locs la hW hS hL)
theorem z_tabIn {dflt lo hi : Int} {offs : Array Int} {len tgt : Nat} {a off : Int} (hd : decode (z_cc d) pc = .ok (.tableswitch dflt lo hi offs, len)) (ha : z_rg a) (h1 : ¬ a < lo) (h2 : ¬ hi < a) (ho : offs[(a - lo).toNat]? = some off) (ht : (pc : Int) + off = (tgt : Int)) (kk : z_J G Z d Q (tgt) ls st M k n) : z_J G Z d Q (pc) ls (z_I a :: st) M k n :=
  fun hO H locs la hW hS hL => lv_tableIn hO.1 hO.2.1 hd (by rw [z_toI ha]; exact h1) (by rw [z_toI ha]; exact h2) (by rw [z_toI ha]; exact ho) ht (kk hO H locs la hW hS hL)
theorem z_lookup {dflt : Int} {ps : Array (Int × Int)} {len tgt : Nat} {a off : Int} (hd : decode (z_cc d) pc = .ok (.lookupswitch dflt ps, len)) (ha : z_rg a) (hp : (ps.toList.zip (ps.toList.drop 1)).all (fun (a, next) => a.1 < next.1) = true) (ho : Op.lookupswitch.offset ps.toList dflt a = off) (ht : (pc : Int) + off = (tgt : Int)) (kk : z_J G Z d Q (tgt) ls st M k n) : z_J G Z d Q (pc) ls (z_I a :: st) M k n :=
  fun hO H locs la hW hS hL => lv_lookup hO.1 hO.2.1 hd hp (by rw [z_toI ha]; exact ho) ht (kk hO H locs la hW hS hL)
theorem z_rng (kk : (∀ (a : Nat) (i : Int), a ≠ 20 → z_rg (M a i)) → z_J G Z d Q (pc) ls st M k n) : z_J G Z d Q (pc) ls st M k n :=
  fun hO H locs la hW hS hL => kk hW.2.1 hO H locs la hW hS hL
theorem z_wide {k' n' : Nat} (h1 : k ≤ k') (h2 : n ≤ n') (kk : z_J G Z d Q pc ls st M k' n') : z_J G Z d Q (pc) ls st M k n :=
  fun hO H locs la hW hS hL => W.widen h1 h2 (kk hO H locs la hW hS hL)
theorem z_alen {g c t a m : Nat} {ix : Int → Int} (hal : z_al g c = some (t, a, m, ix)) (hdm : z_dm g c) (hd : decode (z_cc d) pc = .ok (.arraylength, 1)) (kk : z_J G Z d Q (pc + 1) ls (z_I (m : Int) :: st) M k n) : z_J G Z d Q (pc) ls (.ref (z_ad G g c) :: st) M k n :=
  fun hO H locs la hW hS hL => by
    have hc := (hW.2.2 g c hdm).2 t a m ix hal
    have hK := hO.2.2.2.2.2.2.2.2.1.2
    rcases z_al_t hal with rfl | rfl | rfl
    · exact W.alen (n := Int32.ofInt (m : Int)) hO.1 hO.2.1 hc ((hK 0 _ rfl).1 m _) (by rw [arrV_size]; rfl) rfl rfl hd (kk hO H locs la hW hS hL)
    · exact W.alen (n := Int32.ofInt (m : Int)) hO.1 hO.2.1 hc ((hK 1 _ rfl).1 m _) (by rw [arrV_size]; rfl) rfl rfl hd (kk hO H locs la hW hS hL)
    · exact W.alen (n := Int32.ofInt (m : Int)) hO.1 hO.2.1 hc ((hK 2 _ rfl).1 m _) (by rw [arrV_size]; rfl) rfl rfl hd (kk hO H locs la hW hS hL)
theorem z_iald {g c a m : Nat} {ix : Int → Int} {i : Int} (hal : z_al g c = some (0, a, m, ix)) (hdm : z_dm g c) (h0 : 0 ≤ i) (h1 : i < (m : Int)) (hm : m ≤ 6000) (hd : decode (z_cc d) pc = .ok (.iaload, 1)) (kk : z_J G Z d Q (pc + 1) ls (z_I (M a (ix i)) :: st) M k n) : z_J G Z d Q (pc) ls (z_I i :: .ref (z_ad G g c) :: st) M k n :=
  fun hO H locs la hW hS hL => by
    have hc := (hW.2.2 g c hdm).2 0 a m ix hal
    have hK := hO.2.2.2.2.2.2.2.2.1.2
    have e : (Int32.ofInt i).toNatClampNeg = i.toNat := z_clamp h0 (by omega)
    have e2 : ((i.toNat : Nat) : Int) = i := Int.toNat_of_nonneg h0
    refine W.iald (v := z_I (M a (ix i))) hO.1 hO.2.1 hc ((hK 0 _ rfl).1 m _) (fun q => by cases q) (by rw [arrV_size]; exact z_vp h0 h1 (by omega)) ?_ rfl rfl hd (kk hO H locs la hW hS hL)
    rw [e, arrV_read _ _ (by omega)]
    show some (z_I (M a (ix ((i.toNat : Nat) : Int)))) = _
    rw [e2]
theorem z_obal {g c : Nat} {x : Nat × List z_F} (h : z_ob g c = some x) : z_al g c = none := by
  unfold z_ob at h
  split at h <;> first | rfl | cases h
theorem z_iast {g c a m : Nat} {ix : Int → Int} {i v : Int} (hal : z_al g c = some (0, a, m, ix)) (hdm : z_dm g c) (h0 : 0 ≤ i) (h1 : i < (m : Int)) (hm : m ≤ 6000) (hv : z_rg v) (hd : decode (z_cc d) pc = .ok (.iastore, 1)) (kk : z_J G Z d Q (pc + 1) ls st (z_sM M a (ix i) v) k n) : z_J G Z d Q (pc) ls (z_I v :: z_I i :: .ref (z_ad G g c) :: st) M k n :=
  fun hO H locs la hW hS hL => by
    have hc := (hW.2.2 g c hdm).2 0 a m ix hal
    have hK := hO.2.2.2.2.2.2.2.2.1.2
    have e : (Int32.ofInt i).toNatClampNeg = i.toNat := z_clamp h0 (by omega)
    have e2 : ((i.toNat : Nat) : Int) = i := Int.toNat_of_nonneg h0
    refine W.iast hO.1 hO.2.1 hc ((hK 0 _ rfl).1 m _) (fun q => by cases q) (by rw [arrV_size]; exact z_vp h0 h1 (by omega)) rfl rfl hd fun H' e1 z oq => ?_
    refine kk hO H' _ la (z_Wd_put hW hdm z oq (fun _ => hv) ?_ ?_) (hS.put z oq (z_in g c)) hL
    · have h := z_owA hdm hal (by decide) i.toNat (by omega)
      rwa [e2] at h
    · refine ⟨fun ci fs ho => ?_, fun t a' m' ix' ha' => ?_⟩
      · have h := z_obal ho
        rw [hal] at h
        cases h
      · rw [hal] at ha'
        cases ha'
        rw [e1, e, arrV_store]
        congr 1
        refine z_arrV_eq fun j hj => ?_
        show updV _ _ _ _ = z_I (z_sM M a (ix i) v a (ix j))
        unfold updV z_sM
        by_cases hji : j = i.toNat
        · rw [if_pos hji, if_pos ⟨rfl, by rw [hji, e2]⟩]
          rfl
        · rw [if_neg hji, if_neg]
          · rfl
          · rintro ⟨-, h⟩
            exact hji (z_al_inj hal j i.toNat (by rw [e2]; exact h))
end ZR
