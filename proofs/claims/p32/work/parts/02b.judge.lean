/-! ===== words, facts of the tables, the judgement ===== -/
def z_isN (w : Cond) : Bool := match w with
  | .methodLinkNest _ _ _ _ => true
  | .fieldLinkNest _ _ _ _ _ _ => true
  | .castable _ _ => true
  | .declares _ => true
  | _ => false
def z_W : List Cond := lw_tbl.filter (fun w => goodWord w || z_isN w)
theorem z_warmw {w : Cond} (hw : (goodWord w || z_isN w) = true) {s U : State} (hW : s.WarmedH U.vm) (h : w.before #[] s = true) (a : Array Value) : w.before a U = true := by
  rw [Bool.or_eq_true] at hw
  rcases hw with hg | hn
  · exact word_at hW (good_of_word hg) h
  · cases w <;> first
      | exact absurd hn Bool.false_ne_true
      | exact va_Nw.use rfl (va_Nw.warmM hW h)
      | exact va_Nw.use rfl (va_Nw.warmF hW h)
      | exact va_Nw.use rfl (va_Nw.warmC hW h)
      | exact va_Nw.use rfl (va_Nw.warmD hW h)
theorem z_wi {w : Cond} (i : Nat) (h : lw_tbl[i]? = some w) (hg : (goodWord w || z_isN w) = true) : w ∈ z_W := List.mem_filter.mpr ⟨List.mem_of_getElem? h, hg⟩
/-- the texts of the exceptions: class, entry, text -/
def z_S : List (String × Nat × String) := []
def z_first (j : Nat) : Int := match j with | 0 => 10 | 1 => 5 | 2 => 0 | 3 => 10 | 4 => 25 | _ => 50
def z_most (j : Nat) : Int := match j with | 0 => 30 | 1 => 20 | 2 => 10000 | _ => 100
/-- pairs of classes, the first no kind of the second -/
def z_X : List (String × String) := []
theorem z_X_lt {b L : Nat} {xs : Nat → Int32} {U : State} {H : Heap} (h : va_X b L xs U H) : b < H.size := by
  obtain ⟨scr, h1, -⟩ := h
  exact (Array.getElem?_eq_some_iff.mp h1).1
/-- what the tables and the statics say of a state -/
def z_T (G : z_G) (U : State) : Prop :=
  (z_l G).stackTraces = false ∧ (∀ w ∈ z_W, w.before #[] U = true) ∧ va_K (z_D G) vwCl [(z_cI G, .int), (z_cL G, .int), (z_cR G, .object "PenGuild$State")] U ∧
  vx_Zq Bundle.tN "UNASSIGNED_STACK" Bundle.steD (z_A G) U U.heap ∧ vx_Zq Bundle.tN "SUPPRESSED_SENTINEL" Bundle.listD (z_A G) U U.heap ∧
  (va_Z "PenGuild" "FIRST_SETTINGS" "[I" (.ref (z_fs G)) (z_A G) U U.heap ∧ va_T .int (z_fs G) 6 (fun j => z_I (z_first j)) (z_A G) U U.heap) ∧
  (va_Z "PenGuild" "GREATEST_SETTINGS" "[I" (.ref (z_gs G)) (z_A G) U U.heap ∧ va_T .int (z_gs G) 6 (fun j => z_I (z_most j)) (z_A G) U U.heap) ∧
  (∀ q ∈ z_S, ∃ sa, vk_R q.1 q.2.1 q.2.2 sa U) ∧ (va_X (z_scp G).1 (z_scp G).2.1 (z_scp G).2.2 U U.heap ∧ (z_scp G).1 < z_b G ∧ (z_scp G).2.1 ≤ 260)
theorem z_T_moved {G : z_G} {s U : State} (h : z_T G s) (hW : s.WarmedH U.vm) (hq : ∀ a : Nat, a < s.heap.size → ¬ z_A G a → U.heap[a]? = s.heap[a]?) : z_T G U := by
  obtain ⟨h1, h2, h3, h4, h5, h6, h7, h8, h9⟩ := h
  have hv := hW.alike
  refine ⟨h1, fun w hw => z_warmw (List.mem_filter.mp hw).2 hW (h2 w hw) #[], va_K.moved hv h3, vx_Zq.kept (vx_Zq.moved hv h4) hq, vx_Zq.kept (vx_Zq.moved hv h5) hq,
    ⟨va_Z.kept (va_Z.moved hv h6.1) hq, va_T.kept (va_T.moved hv h6.2) hq⟩, ⟨va_Z.kept (va_Z.moved hv h7.1) hq, va_T.kept (va_T.moved hv h7.2) hq⟩,
    fun q hq => ?_, va_X.kept (va_X.moved hv h9.1) (hq _ (z_X_lt h9.1) (Nat.not_le.mpr h9.2.1)), h9.2⟩
  obtain ⟨sa, h⟩ := h8 q hq
  exact ⟨sa, vk_R.warm hW h⟩
/-- a method's own: program, environment, start, number, arguments, frames below, entry, code -/
abbrev z_Z : Type := Program × Env × State × MethodId × Array Value × List Frame × Method × Code
abbrev z_p (Z : z_Z) : Program := Z.1
abbrev z_e (Z : z_Z) : Env := Z.2.1
abbrev z_s (Z : z_Z) : State := Z.2.2.1
abbrev z_m (Z : z_Z) : MethodId := Z.2.2.2.1
abbrev z_a (Z : z_Z) : Array Value := Z.2.2.2.2.1
abbrev z_w (Z : z_Z) : List Frame := Z.2.2.2.2.2.1
abbrev z_h (Z : z_Z) : Method := Z.2.2.2.2.2.2.1
abbrev z_c (Z : z_Z) : Code := Z.2.2.2.2.2.2.2
/-- bytes, number of locals, class, room, what it returns -/
abbrev z_Md : Type := ByteArray × Nat × String × Room × Option FieldType
abbrev z_cc (d : z_Md) : ByteArray := d.1
abbrev z_nL (d : z_Md) : Nat := d.2.1
abbrev z_own (d : z_Md) : String := d.2.2.1
abbrev z_R (d : z_Md) : Room := d.2.2.2.1
abbrev z_ret (d : z_Md) : Option FieldType := d.2.2.2.2
def z_Ok (G : z_G) (Z : z_Z) (d : z_Md) : Prop :=
  (z_p Z).tables.exec = Jvm.exec ∧ (z_c Z).code = z_cc d ∧ (z_c Z).maxLocals = z_nL d ∧ (z_s Z).vm.findClass (z_own d) = some (z_m Z).cls ∧ (z_h Z).locks = false ∧ (z_h Z).sig.returnType = z_ret d ∧ z_T G (z_s Z)
def z_LH (la : Array Slot) (n : Nat) (ls : List (Option Value)) : Prop := la.size = n ∧ lv_wf la ∧ ∀ (i : Nat) (v : Value), ls[i]? = some (some v) → la[i]? = some (.val v)
def z_J (G : z_G) (Z : z_Z) (d : z_Md) (Q : State → Prop) (pc : Nat) (ls : List (Option Value)) (st : List Value) (M : z_M) (k n : Nat) : Prop :=
  z_Ok G Z d → ∀ (H : Heap) (locs : List Loc) (la : Array Slot), z_Wd G M H → va_S (z_A G) (z_s Z).heap H locs → z_LH la (z_nL d) ls →
    W (z_p Z) (z_l G) (z_e Z) (z_R d) (z_s Z) (z_m Z) (z_a Z) (z_w Z) (z_h Z) (z_c Z) H locs k n Q (F0 (z_m Z) pc la st)
section ZJ
variable {G : z_G} {Z : z_Z} {d : z_Md} {Q : State → Prop} {pc : Nat} {ls : List (Option Value)} {st : List Value} {M : z_M} {k n : Nat}
theorem z_tw {w : Cond} (hO : z_Ok G Z d) (hw : w ∈ z_W) (a : Array Value) : w.before a (z_s Z) = true :=
  z_warmw (List.mem_filter.mp hw).2 (State.WarmedH.refl _) (hO.2.2.2.2.2.2.2.1 w hw) a
end ZJ
