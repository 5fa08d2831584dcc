/-! ===== constructors: fields, calls, rows ===== -/
section ZKP
variable {G : z_G} {Z : z_Z} {d : z_Md} {Q : State → Prop} {pc : Nat} {ls : List (Option Value)} {st rest : List Value} {a k n : Nat} {L : List z_CC}
/-- a final field of an object of the block -/
theorem z_kputF {C : String} {T : u_T} {N ci index kf i : Nat} {v : Value} {vs : List Value} (hin2 : (z_h Z).name = "<init>") (hC : vwCl[ci]? = some (C, T, N)) (hin : ∀ w ∈ u_ws C T N, w ∈ z_W) (ty0 : Nat → FieldType) (hty : ∀ k, k < N → parseFieldDescriptor (T k).2.2.1 = some (ty0 k)) (hnm : ∀ a, a < N → ∀ b, b < N → a ≠ b → (T a).2.1 ≠ (T b).2.1)
    (hlink : Cond.fieldLink (z_own d) index C (T kf).2.1 (T kf).2.2.1 ∈ z_W) (hself : (T kf).1 = C) (hfin : (T kf).2.2.2 = true) (hdecl : (T kf).1 = z_own d) (hkN : kf < N) (hLi : L[i]? = some (.inl (ci, vs))) (hlen : vs.length = N) (hnar : narrow (ty0 kf) v = v) (hfit : fits (ty0 kf) v = true) (hd : decode (z_cc d) pc = .ok (.putfield index, 3))
    (kk : z_JK G Z d Q (pc + 3) ls st a (L.set i (.inl (ci, vs.set kf v))) k n) : z_JK G Z d Q pc ls (v :: .ref (a + i) :: st) a L k n := fun hO hX ha H locs la hB hS hL => by
  obtain ⟨cell, q1, q2, q3, q4⟩ := (hB.2.2 i _ hLi : t_OB _ _ _ _ _ _)
  have hK := hO.2.2.2.2.2.2.2.2.1
  have hts : ∀ w ∈ u_ws C T N, w.before (z_a Z) (z_s Z) = true := fun w hw => z_tw hO (hin w hw) _
  have hap := va_apart (own := C) (args := z_a Z) hts (fun _ h => h) ty0 hty hnm hK hC
  obtain ⟨hS0, hfc, kC, hkC, hkind⟩ := hK.1 ci _ hC
  obtain ⟨cf, kf', fi, f, hi, hsl⟩ := hS0 kf hkN
  have hi' : (z_s Z).fieldFound? C (T kf).2.1 (T kf).2.2.1 = some (cf, kf', fi, f) := by rw [← hi]; dsimp only; rw [hself]
  have hlay := hts _ (u_in_lay hkN)
  unfold u_lay at hlay
  rw [if_pos hfin] at hlay
  have hst := (u_facts hfc hkC (u_lays hts (fun _ h => h) hkN) hi).1
  have hcf : (z_m Z).cls = cf := by
    obtain ⟨_, _, c', _, _, _, -, -, hf', -, -, -, hown2, -⟩ := Cond.laysFinal_spec hlay
    have e1 : c' = cf := by have := hi.symm.trans hf'; simp at this; exact this.1.symm
    rw [hdecl] at hown2
    rw [← e1]; exact Option.some.inj (hO.2.2.2.1.symm.trans hown2)
  have h6 := u_fits hfc hkC hkind (Or.inr hlay) hi (hty kf hkN) hnar hfit
  have hkl : kf < vs.length := by rw [hlen]; exact hkN
  refine W.putFinK hO.1 hO.2.1 hO.2.2.2.1 (z_tw hO hlink _) hi' hst hcf hin2 (by rw [q2]; exact h6) q1 q3 (by rw [hsl]; exact k2_hasslot (q4 kf hkl)) rfl rfl hd fun H' e1 e2 e3 => ?_
  rw [hsl] at e1 ⊢
  refine kk hO hX ha H' _ la (z_Bd_set hB (List.getElem?_eq_some_iff.mp hLi).1 e2 e3 ?_) (hS.put e2 e3 (show z_b G ≤ a + i by omega)) hL
  have h7 := t_set (V := fun j => vs.getD j .null) (v := v) (N := vs.length) q4 (fun x y hx hy => hap x y (by rw [← hlen]; exact hx) (by rw [← hlen]; exact hy)) hkl
  show t_OB _ _ (vs.set kf v).length _ _ _
  rw [List.length_set]
  refine t_OB.to ⟨_, e1, q2, q3, h7⟩ fun j hj => ?_
  unfold updV
  by_cases hjk : j = kf
  · subst hjk
    rw [if_pos rfl]
    show v = (vs.set j v).getD j .null
    rw [List.getD_eq_getElem?_getD, List.getElem?_set_self hkl]; rfl
  · rw [if_neg hjk]
    show vs.getD j .null = (vs.set kf v).getD j .null
    rw [List.getD_eq_getElem?_getD, List.getD_eq_getElem?_getD, List.getElem?_set_ne (Ne.symm hjk)]
/-- a field that is not final -/
theorem z_kput {C : String} {T : u_T} {N ci index kf i : Nat} {v : Value} {vs : List Value} (hC : vwCl[ci]? = some (C, T, N)) (hin : ∀ w ∈ u_ws C T N, w ∈ z_W) (ty0 : Nat → FieldType) (hty : ∀ k, k < N → parseFieldDescriptor (T k).2.2.1 = some (ty0 k)) (hnm : ∀ a, a < N → ∀ b, b < N → a ≠ b → (T a).2.1 ≠ (T b).2.1)
    (hlink : Cond.fieldLink (z_own d) index C (T kf).2.1 (T kf).2.2.1 ∈ z_W) (hself : (T kf).1 = C) (hfin : (T kf).2.2.2 = false) (hkN : kf < N) (hLi : L[i]? = some (.inl (ci, vs))) (hlen : vs.length = N) (hnar : narrow (ty0 kf) v = v) (hfit : fits (ty0 kf) v = true) (hd : decode (z_cc d) pc = .ok (.putfield index, 3))
    (kk : z_JK G Z d Q (pc + 3) ls st a (L.set i (.inl (ci, vs.set kf v))) k n) : z_JK G Z d Q pc ls (v :: .ref (a + i) :: st) a L k n := fun hO hX ha H locs la hB hS hL => by
  obtain ⟨cell, q1, q2, q3, q4⟩ := (hB.2.2 i _ hLi : t_OB _ _ _ _ _ _)
  have hK := hO.2.2.2.2.2.2.2.2.1
  have hts : ∀ w ∈ u_ws C T N, w.before (z_a Z) (z_s Z) = true := fun w hw => z_tw hO (hin w hw) _
  have hap := va_apart (own := C) (args := z_a Z) hts (fun _ h => h) ty0 hty hnm hK hC
  obtain ⟨hS0, hfc, kC, hkC, hkind⟩ := hK.1 ci _ hC
  obtain ⟨cf, kf', fi, f, hi, hsl⟩ := hS0 kf hkN
  have hi' : (z_s Z).fieldFound? C (T kf).2.1 (T kf).2.2.1 = some (cf, kf', fi, f) := by rw [← hi]; dsimp only; rw [hself]
  have hlay := hts _ (u_in_lay hkN)
  unfold u_lay at hlay
  rw [if_neg (by rw [hfin]; decide)] at hlay
  have hst := (u_facts hfc hkC (u_lays hts (fun _ h => h) hkN) hi).1
  have h6 := u_store hfc hkC hkind hlay hi (hty kf hkN) hnar hfit
  have hkl : kf < vs.length := by rw [hlen]; exact hkN
  refine W.putK hO.1 hO.2.1 (f := f) ⟨hO.2.2.2.1, z_tw hO hlink _, ⟨_, _, _, hi'⟩, hst⟩ (by rw [q2]; exact h6) q1 q3 (by rw [hsl]; exact k2_hasslot (q4 kf hkl)) rfl rfl hd fun H' e1 e2 e3 => ?_
  rw [hsl] at e1 ⊢
  refine kk hO hX ha H' _ la (z_Bd_set hB (List.getElem?_eq_some_iff.mp hLi).1 e2 e3 ?_) (hS.put e2 e3 (show z_b G ≤ a + i by omega)) hL
  have h7 := t_set (V := fun j => vs.getD j .null) (v := v) (N := vs.length) q4 (fun x y hx hy => hap x y (by rw [← hlen]; exact hx) (by rw [← hlen]; exact hy)) hkl
  show t_OB _ _ (vs.set kf v).length _ _ _
  rw [List.length_set]
  refine t_OB.to ⟨_, e1, q2, q3, h7⟩ fun j hj => ?_
  unfold updV
  by_cases hjk : j = kf
  · subst hjk
    rw [if_pos rfl]
    show v = (vs.set j v).getD j .null
    rw [List.getD_eq_getElem?_getD, List.getElem?_set_self hkl]; rfl
  · rw [if_neg hjk]
    show vs.getD j .null = (vs.set kf v).getD j .null
    rw [List.getD_eq_getElem?_getD, List.getD_eq_getElem?_getD, List.getElem?_set_ne (Ne.symm hjk)]
theorem z_kget {C : String} {T : u_T} {N ci index kf i : Nat} {v : Value} {vs : List Value} (hC : vwCl[ci]? = some (C, T, N)) (hin : ∀ w ∈ u_ws C T N, w ∈ z_W) (hlink : Cond.fieldLink (z_own d) index C (T kf).2.1 (T kf).2.2.1 ∈ z_W)
    (hself : (T kf).1 = C) (hkN : kf < N) (hLi : L[i]? = some (.inl (ci, vs))) (hlen : vs.length = N) (hv : vs[kf]? = some v) (hd : decode (z_cc d) pc = .ok (.getfield index, 3))
    (kk : z_JK G Z d Q (pc + 3) ls (v :: st) a L k n) : z_JK G Z d Q pc ls (.ref (a + i) :: st) a L k n := fun hO hX ha H locs la hB hS hL => by
  obtain ⟨cell, q1, q2, q3, q4⟩ := (hB.2.2 i _ hLi : t_OB _ _ _ _ _ _)
  obtain ⟨hS0, hfc, kC, hkC, hkind⟩ := hO.2.2.2.2.2.2.2.2.1.1 ci _ hC
  obtain ⟨cf, kf', fi, fd, hi, hsl⟩ := hS0 kf hkN
  have hi' : (z_s Z).fieldFound? C (T kf).2.1 (T kf).2.2.1 = some (cf, kf', fi, fd) := by rw [← hi]; dsimp only; rw [hself]
  have hts : ∀ w ∈ u_ws C T N, w.before (z_a Z) (z_s Z) = true := fun w hw => z_tw hO (hin w hw) _
  refine W.getf hO.1 hO.2.1 hO.2.2.2.1 (z_tw hO hlink _) hi' (u_facts hfc hkC (u_lays hts (fun _ h => h) hkN) hi).1 q1 (by rw [q3]; exact fun h => by cases h) (v := v) ?_ rfl rfl hd (kk hO hX ha H locs la hB hS hL)
  rw [hsl, q4 kf (by show kf < vs.length; rw [hlen]; exact hkN)]
  dsimp only
  rw [List.getD_eq_getElem?_getD, hv]; rfl
theorem z_kPre {i : Nat} {x0 : z_CC} {L1 : List z_CC} (hi : i = L1.length) (hO : z_Ok G Z d) (hX : z_FX G (z_s Z)) (ha : z_b G ≤ a) {H : Heap} {locs : List Loc} (hB : z_Bd G a (L1 ++ [x0]) (z_s Z).heap H) (hS : va_S (z_A G) (z_s Z).heap H locs) : PreS (z_s Z) H (z_PKc G (a + i) x0) [.ref (a + i)] := by
  refine ⟨?_, fun U hU hw => ⟨rfl, z_T_moved hO.2.2.2.2.2.2 hw (fun q hq hA => ?_), z_FX_moved hX hw ?_, by omega, ?_, ?_⟩⟩
  · rintro a' U g mk ⟨h1, h2, h3, h4⟩
    exact ⟨h1, z_T_moved (s := U) h2 (by exact State.WarmedH.refl U) (fun _ _ _ => rfl), z_FX_moved (s := U) h3 (by exact State.WarmedH.refl U) rfl, h4⟩
  · rw [hU]; exact hS.2.1 q hq hA
  · rw [hU]
    obtain ⟨cell, h1, h2, -⟩ := hX
    exact hB.2.1 _ (by omega)
  · rw [hU, hB.1, List.length_append, hi]; rfl
  · rw [hU]
    exact hB.2.2 i x0 (by rw [hi, List.getElem?_append_right (Nat.le_refl _), Nat.sub_self]; rfl)
/-- a call of a constructor -/
theorem z_kinit {y : MethodName} {cc' : ByteArray} {maxL fr lo idx i mc ms : Nat} {x0 : z_CC} {L1 L2 : List z_CC} (hC : z_ConK G y cc' maxL fr lo (a + i) x0 L2 mc ms) (hi : i = L1.length) (hlink : Cond.methodLink (z_own d) idx y ∈ z_W) (hinst : Cond.instanceMethod y ∈ z_W) (hcode : Cond.code y cc' maxL none ∈ z_W) (hini : Cond.initialized y.cls ∈ z_W) (hyi : y.name = "<init>") (hy : z_name y 0)
    (hfit : z_fit d fr lo maxL) (hk : k + mc ≤ (z_R d).cells ∧ n + ms ≤ (z_R d).slots) (hcat : (rest.map fun v => v.category).sum ≤ 8) (hd : decode (z_cc d) pc = .ok (.invokespecial idx, 3)) (kk : z_JK G Z d Q (pc + 3) ls rest a (L1 ++ L2) (k + mc) (n + ms)) : z_JK G Z d Q pc ls (.ref (a + i) :: rest) a (L1 ++ [x0]) k n := fun hO hX ha H locs la hB hS hL => by
  have hts : ∀ w ∈ z_W, w.before (z_a Z) (z_s Z) = true := fun w hw => z_tw hO hw _
  intro T0 hT0 X
  obtain ⟨v', st₀, t, T', Lo, h0, X', hL', e1, e2, ⟨ho, hBd, hF⟩, stp⟩ := va_runI (Ts := z_W) (own := z_own d) (n := 0) (bytes := cc') (maxL := maxL) (index := idx) (b := a + i) (As := []) (g := F0 (z_m Z) pc la (.ref (a + i) :: rest)) (rest := rest) ⟨hO.1, hO.2.1, hO.2.2.1, hO.2.2.2.1, hts⟩ hC
      ⟨⟨rfl, rfl, hfit.1, hfit.2, z_ws1 hO hcode, List.mem_singleton_self _, hts _ hcode, hts _ hini, hy.1, z_nm hy, hts _ hlink⟩, hyi, hts _ hinst⟩
      (z_kPre hi hO hX ha hB hS) rfl rfl hL.1 rfl (lv_room hcat) hd hk T0 hT0 X
  cases ho
  obtain ⟨k1, k2, k3⟩ := vx_keep (A1 := z_A G) h0 e1 hS (fun q _ h => h) (fun q h => h) hL' hF
  have e0 : st₀.heap = H := h0
  rw [e0] at hBd
  obtain ⟨t2, a1, b1⟩ := kk hO hX ha T'.heap (locs ++ Lo) la (z_Bd_call hB (by rw [← hi, e1]; exact hBd)) k3 hL T' rfl X'
  exact ⟨t2, stp t2 a1, b1⟩
theorem z_kinitN {y : MethodName} {host : String} {cc' : ByteArray} {maxL fr lo idx i mc ms : Nat} {x0 : z_CC} {L1 L2 : List z_CC} (hC : z_ConK G y cc' maxL fr lo (a + i) x0 L2 mc ms) (hi : i = L1.length) (hlink : Cond.methodLinkNest (z_own d) idx y host ∈ z_W) (hinst : Cond.instanceMethod y ∈ z_W) (hcode : Cond.code y cc' maxL none ∈ z_W) (hini : Cond.initialized y.cls ∈ z_W) (hyi : y.name = "<init>") (hy : z_name y 0)
    (hfit : z_fit d fr lo maxL) (hk : k + mc ≤ (z_R d).cells ∧ n + ms ≤ (z_R d).slots) (hcat : (rest.map fun v => v.category).sum ≤ 8) (hd : decode (z_cc d) pc = .ok (.invokespecial idx, 3)) (kk : z_JK G Z d Q (pc + 3) ls rest a (L1 ++ L2) (k + mc) (n + ms)) : z_JK G Z d Q pc ls (.ref (a + i) :: rest) a (L1 ++ [x0]) k n := fun hO hX ha H locs la hB hS hL => by
  have hts : ∀ w ∈ z_W, w.before (z_a Z) (z_s Z) = true := fun w hw => z_tw hO hw _
  intro T0 hT0 X
  obtain ⟨v', st₀, t, T', Lo, h0, X', hL', e1, e2, ⟨ho, hBd, hF⟩, stp⟩ := va_runIN (Ts := z_W) (own := z_own d) (host := host) (n := 0) (bytes := cc') (maxL := maxL) (index := idx) (b := a + i) (As := []) (g := F0 (z_m Z) pc la (.ref (a + i) :: rest)) (rest := rest) ⟨hO.1, hO.2.1, hO.2.2.1, hO.2.2.2.1, hts⟩ hC
      ⟨⟨⟨rfl, rfl, hfit.1, hfit.2, z_ws1 hO hcode, List.mem_singleton_self _⟩, hts _ hcode, hts _ hini, hy.1, z_nm hy, hts _ hlink⟩, hyi, hts _ hinst⟩
      (z_kPre hi hO hX ha hB hS) rfl rfl hL.1 rfl (lv_room hcat) hd hk T0 hT0 X
  cases ho
  obtain ⟨k1, k2, k3⟩ := vx_keep (A1 := z_A G) h0 e1 hS (fun q _ h => h) (fun q h => h) hL' hF
  have e0 : st₀.heap = H := h0
  rw [e0] at hBd
  obtain ⟨t2, a1, b1⟩ := kk hO hX ha T'.heap (locs ++ Lo) la (z_Bd_call hB (by rw [← hi, e1]; exact hBd)) k3 hL T' rfl X'
  exact ⟨t2, stp t2 a1, b1⟩
end ZKP
