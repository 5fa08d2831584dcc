section ZK
variable {G : z_G} {Z : z_Z} {d : z_Md} {Q : State → Prop} {pc : Nat} {ls : List (Option Value)} {M M1 : z_M} {k n : Nat}
variable {y : MethodName} {cc' : ByteArray} {maxL fr lo idx na : Nat} {ret : Option FieldType} {As rest st : List Value} {v : Option Value} {E : String}
/-- a call of a static method that returns -/
theorem z_callS (hC : z_Con G y cc' maxL ret fr lo As M (.inl v) M1)
    (hlink : Cond.methodLink (z_own d) idx y ∈ z_W) (hstat : Cond.static y ∈ z_W) (hcode : Cond.code y cc' maxL ret ∈ z_W) (hini : Cond.initialized y.cls ∈ z_W) (hy : z_name y na)
    (hna : As.length = na) (hst : st = As.reverse ++ rest) (hfit : z_fit d fr lo maxL) (hk : k ≤ (z_R d).cells ∧ n ≤ (z_R d).slots) (hcat : (rest.map fun v => v.category).sum ≤ 8)
    (hd : decode (z_cc d) pc = .ok (.invokestatic idx, 3)) (kk : z_J G Z d Q (pc + 3) ls (v.toList ++ rest) M1 k n) : z_J G Z d Q pc ls st M k n := fun hO H locs la hW hS hL => by
  subst hst
  have hts : ∀ w ∈ z_W, w.before (z_a Z) (z_s Z) = true := fun w hw => z_tw hO hw _
  intro T0 hT0 X
  rcases vx_runS (Ts := z_W) (own := z_own d) (n := na) (bytes := cc') (maxL := maxL) (ret := ret) (index := idx) (g := F0 (z_m Z) pc la (As.reverse ++ rest)) (rest := rest) ⟨hO.1, hO.2.1, hO.2.2.1, hO.2.2.2.1, hts⟩ hC
      ⟨⟨rfl, rfl, hfit.1, hfit.2, z_ws1 hO hcode, List.mem_singleton_self _, hts _ hcode, hts _ hini, hy.1, z_nm hy, hts _ hlink⟩, hts _ hstat⟩
      ⟨z_blind, z_PcU hO hW hS⟩ rfl hna hL.1 rfl (lv_room hcat) hd ⟨hk.1, hk.2⟩ T0 hT0 X with ⟨v', st₀, t, T', L, h0, X', hL', e1, e2, ⟨w, ho, hv, hWd, hF⟩, stp⟩ | ⟨q, st₀, t, T', L, E', ce, h0, X', hL', e1, e2, ⟨ho, hWd, hF⟩, hce, hcv, hcl', stp⟩
  · cases ho
    cases hv
    obtain ⟨k1, k2, k3⟩ := vx_keep (A1 := z_A G) h0 e1 hS (fun q _ h => h) (fun q h => h) hL' hF
    obtain ⟨t2, a1, b1⟩ := kk hO T'.heap (locs ++ L) la (by rw [e1]; exact hWd) k3 hL T' rfl X'
    exact ⟨t2, stp t2 a1, b1⟩
  · cases ho
/-- a contract that returns, as the kit's contract without exceptions -/
theorem z_Met (hC : z_Con G y cc' maxL ret fr lo As M (.inl v) M1) : Met (z_l G) y [Cond.code y cc' maxL ret] (z_rm fr lo (.inl v)) (z_Pc G As M) (z_Qc G (.inl v) M1) 0 0 (z_A G) := by
  intro p e ha hc hk s m args below hf happ hP hK
  obtain ⟨n, o, h1, h2, h3, h4⟩ := hC p e ha hc hk s m args below hf happ hP hK
  refine ⟨n, o, h1, h2, h3, ?_⟩
  rcases h4 with h4 | ⟨q, -, E, ce, L, ⟨hx, -⟩, -⟩
  · exact h4
  · cases hx
/-- a call of a private static method of the nest's host -/
theorem z_callN {host : String} (hC : z_Con G y cc' maxL ret fr lo As M (.inl v) M1)
    (hlink : Cond.methodLinkNest (z_own d) idx y host ∈ z_W) (hstat : Cond.static y ∈ z_W) (hcode : Cond.code y cc' maxL ret ∈ z_W) (hini : Cond.initialized y.cls ∈ z_W) (hy : z_name y na)
    (hna : As.length = na) (hst : st = As.reverse ++ rest) (hfit : z_fit d fr lo maxL) (hk : k ≤ (z_R d).cells ∧ n ≤ (z_R d).slots) (hcat : (rest.map fun v => v.category).sum ≤ 8)
    (hd : decode (z_cc d) pc = .ok (.invokestatic idx, 3)) (kk : z_J G Z d Q (pc + 3) ls (v.toList ++ rest) M1 k n) : z_J G Z d Q pc ls st M k n := fun hO H locs la hW hS hL => by
  subst hst
  have hts : ∀ w ∈ z_W, w.before (z_a Z) (z_s Z) = true := fun w hw => z_tw hO hw _
  intro T0 hT0 X
  obtain ⟨v', st₀, t, T', L, h0, X', hL', e1, e2, ⟨w, ho, hv, hWd, hF⟩, stp⟩ := va_runSN (Ts := z_W) (own := z_own d) (host := host) (n := na) (bytes := cc') (maxL := maxL) (ret := ret) (index := idx) (g := F0 (z_m Z) pc la (As.reverse ++ rest)) (rest := rest) ⟨hO.1, hO.2.1, hO.2.2.1, hO.2.2.2.1, hts⟩ (z_Met hC)
      ⟨⟨⟨rfl, rfl, hfit.1, hfit.2, z_ws1 hO hcode, List.mem_singleton_self _⟩, hts _ hcode, hts _ hini, hy.1, z_nm hy, hts _ hlink⟩, hts _ hstat, trivial⟩
      ⟨z_blind, z_PcU hO hW hS⟩ rfl hna hL.1 rfl (lv_room hcat) hd ⟨hk.1, hk.2⟩ T0 hT0 X
  cases ho
  cases hv
  obtain ⟨k1, k2, k3⟩ := vx_keep (A1 := z_A G) h0 e1 hS (fun q _ h => h) (fun q h => h) hL' hF
  obtain ⟨t2, a1, b1⟩ := kk hO T'.heap (locs ++ L) la (by rw [e1]; exact hWd) k3 hL T' rfl X'
  exact ⟨t2, stp t2 a1, b1⟩
/-- slot 5 of a state's row is no cell's: it may be counted along -/
theorem z_ghost {g : Nat} {w : Int} (hg : g < 7) (hw : z_rg w) (kk : z_J G Z d Q pc ls st (z_sM M g 5 w) k n) : z_J G Z d Q pc ls st M k n := fun hO H locs la hW hS hL => by
  refine kk hO H locs la ⟨hW.1, fun a i ha => ?_, fun g' k' hd => ?_⟩ hS hL
  · unfold z_sM
    split
    · exact hw
    · exact hW.2.1 a i ha
  · refine z_hold_move (M := M) hd (fun a i ho => ?_) rfl (hW.2.2 g' k' hd)
    unfold z_sM
    rw [if_neg]
    rintro ⟨rfl, rfl⟩
    have h : z_ow a 5 = (a, 99) := by
      unfold z_ow
      rw [if_pos hg]
      rfl
    rw [h] at ho
    cases ho
    unfold z_dm z_dmb at hd
    omega
end ZK
