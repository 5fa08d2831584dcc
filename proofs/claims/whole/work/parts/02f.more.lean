section ZK
variable {G : z_G} {Z : z_Z} {d : z_Md} {Q : State → Prop} {pc : Nat} {ls : List (Option Value)} {M M1 : z_M} {k n : Nat}
variable {y : MethodName} {cc' : ByteArray} {maxL fr lo idx na : Nat} {ret : Option FieldType} {As rest st : List Value} {v : Option Value} {E : String}
/-- a call of a static method that returns -/
theorem z_callS (hC : z_Con G y cc' maxL ret fr lo As M (.inl v) M1)
    (hlink : Cond.methodLink (z_own d) idx y ∈ z_W) (hstat : Cond.static y ∈ z_W) (hcode : Cond.code y cc' maxL ret ∈ z_W) (hini : Cond.initialized y.cls ∈ z_W) (hy : z_name y na)
    (hna : As.length = na) (hst : st = As.reverse ++ rest) (hfit : z_fit d fr lo maxL) (hk : k ≤ (z_R d).cells ∧ n ≤ (z_R d).slots) (hcat : (rest.map fun v => v.category).sum ≤ 8)
    (hd : decode (z_cc d) pc = .ok (.invokestatic idx, 3)) (kk : z_J G Z d Q (pc + 3) ls (v.toList ++ rest) M1 k n) : z_J G Z d Q pc ls st M k n := fun hO H locs la hW hS hL => by
  subst hst
  have hts : ∀ w ∈ z_W, w.before (z_a Z) (z_s Z) = true := fun w hw => z_tw hO hw _
  intro T0 hT0 X
  rcases vx_runS (Ts := z_W) (own := z_own d) (n := na) (bytes := cc') (maxL := maxL) (ret := ret) (index := idx) (g := F0 (z_m Z) pc la (As.reverse ++ rest)) (rest := rest) ⟨hO.1, hO.2.1, hO.2.2.1, hO.2.2.2.1, hts⟩ hC
      ⟨⟨rfl, rfl, hfit.1, hfit.2, z_ws1 hO hcode, List.mem_singleton_self _, hts _ hcode, hts _ hini, hy.1, z_nm hy, hts _ hlink⟩, hts _ hstat⟩
      ⟨z_blind, z_PcU hO hW hS⟩ rfl hna hL.1 rfl (lv_room hcat) hd ⟨hk.1, hk.2⟩ T0 hT0 X with ⟨v', st₀, t, T', L, h0, X', hL', e1, e2, ⟨w, ho, hv, hWd, hF⟩, stp⟩ | ⟨q, st₀, t, T', L, E', ce, h0, X', hL', e1, e2, ⟨ho, hWd, hF⟩, hce, hcv, hcl', stp⟩
  · cases ho
    cases hv
    obtain ⟨k1, k2, k3⟩ := vx_keep (A1 := z_A G) h0 e1 hS (fun q _ h => h) (fun q h => h) hL' hF
    obtain ⟨t2, a1, b1⟩ := kk hO T'.heap (locs ++ L) la (by rw [e1]; exact hWd) k3 hL T' rfl X'
    exact ⟨t2, stp t2 a1, b1⟩
  · cases ho
theorem z_callSx {fr' lo' : Nat} {nL : Nat} {own : String} {cc : ByteArray} {ret' : Option FieldType} (htb : z_tb Z) (hC : z_Con G y cc' maxL ret fr lo As M (.inr E) M1)
    (hlink : Cond.methodLink own idx y ∈ z_W) (hstat : Cond.static y ∈ z_W) (hcode : Cond.code y cc' maxL ret ∈ z_W) (hini : Cond.initialized y.cls ∈ z_W) (hy : z_name y na)
    (hna : As.length = na) (hst : st = As.reverse ++ rest) (hfit : z_fit (cc, nL, own, z_rm fr' lo' (.inr E), ret') fr lo maxL) (hcat : (rest.map fun v => v.category).sum ≤ 8)
    (hd : decode cc pc = .ok (.invokestatic idx, 3)) : z_J G Z (cc, nL, own, z_rm fr' lo' (.inr E), ret') (z_Qm G Z (.inr E) M1) pc ls st M 0 0 := fun hO H locs la hW hS hL => by
  subst hst
  have hts : ∀ w ∈ z_W, w.before (z_a Z) (z_s Z) = true := fun w hw => z_tw hO hw _
  intro T0 hT0 X
  rcases vx_runS (Ts := z_W) (own := own) (n := na) (bytes := cc') (maxL := maxL) (ret := ret) (index := idx) (g := F0 (z_m Z) pc la (As.reverse ++ rest)) (rest := rest) ⟨hO.1, hO.2.1, hO.2.2.1, hO.2.2.2.1, hts⟩ hC
      ⟨⟨rfl, rfl, hfit.1, hfit.2, z_ws1 hO hcode, List.mem_singleton_self _, hts _ hcode, hts _ hini, hy.1, z_nm hy, hts _ hlink⟩, hts _ hstat⟩
      ⟨z_blind, z_PcU hO hW hS⟩ rfl hna hL.1 rfl (lv_room hcat) hd ⟨Nat.le_refl 1, Nat.le_refl 6⟩ T0 hT0 X with ⟨v', st₀, t, T', L, h0, X', hL', e1, e2, ⟨w, ho, hv, hWd, hF⟩, stp⟩ | ⟨q, st₀, t, T', L, E', ce, h0, X', hL', e1, e2, ⟨ho, hWd, hF⟩, hce, hcv, hcl', stp⟩
  · cases ho
  · cases ho
    obtain ⟨k1, k2, k3⟩ := vx_keep (A1 := z_A G) h0 e1 hS (fun q _ h => h) (fun q h => h) hL' hF
    obtain ⟨t2, a1, b1⟩ := vx_out (pc := pc) (ls := la) (rest := rest) (XC := z_Xc G (.inr E) M1) (Qc := z_Qc G (.inr E) M1) (mc := 1) (ms := 6) (free := z_A G) (fun x hx => absurd (htb x hx) id) hO.2.2.2.2.1 (by rw [e1]; exact hce) hcv hcl' (fun t' ht' _ => ⟨rfl, by rw [ht', e1]; exact hWd, k3.F ht'⟩) k3.2.2 (Nat.le_refl 1) (Nat.le_refl 6) T' rfl X'
    exact ⟨t2, stp.trans a1, b1⟩
/-- a contract that returns, as the kit's contract without exceptions -/
theorem z_Met (hC : z_Con G y cc' maxL ret fr lo As M (.inl v) M1) : Met (z_l G) y [Cond.code y cc' maxL ret] (z_rm fr lo (.inl v)) (z_Pc G As M) (z_Qc G (.inl v) M1) 0 0 (z_A G) := by
  intro p e ha hc hk s m args below hf happ hP hK
  obtain ⟨n, o, h1, h2, h3, h4⟩ := hC p e ha hc hk s m args below hf happ hP hK
  refine ⟨n, o, h1, h2, h3, ?_⟩
  rcases h4 with h4 | ⟨q, -, E, ce, L, ⟨hx, -⟩, -⟩
  · exact h4
  · cases hx
/-- a call of a private static method of the nest's host -/
theorem z_callN {host : String} (hC : z_Con G y cc' maxL ret fr lo As M (.inl v) M1)
    (hlink : Cond.methodLinkNest (z_own d) idx y host ∈ z_W) (hstat : Cond.static y ∈ z_W) (hcode : Cond.code y cc' maxL ret ∈ z_W) (hini : Cond.initialized y.cls ∈ z_W) (hy : z_name y na)
    (hna : As.length = na) (hst : st = As.reverse ++ rest) (hfit : z_fit d fr lo maxL) (hk : k ≤ (z_R d).cells ∧ n ≤ (z_R d).slots) (hcat : (rest.map fun v => v.category).sum ≤ 8)
    (hd : decode (z_cc d) pc = .ok (.invokestatic idx, 3)) (kk : z_J G Z d Q (pc + 3) ls (v.toList ++ rest) M1 k n) : z_J G Z d Q pc ls st M k n := fun hO H locs la hW hS hL => by
  subst hst
  have hts : ∀ w ∈ z_W, w.before (z_a Z) (z_s Z) = true := fun w hw => z_tw hO hw _
  intro T0 hT0 X
  obtain ⟨v', st₀, t, T', L, h0, X', hL', e1, e2, ⟨w, ho, hv, hWd, hF⟩, stp⟩ := va_runSN (Ts := z_W) (own := z_own d) (host := host) (n := na) (bytes := cc') (maxL := maxL) (ret := ret) (index := idx) (g := F0 (z_m Z) pc la (As.reverse ++ rest)) (rest := rest) ⟨hO.1, hO.2.1, hO.2.2.1, hO.2.2.2.1, hts⟩ (z_Met hC)
      ⟨⟨⟨rfl, rfl, hfit.1, hfit.2, z_ws1 hO hcode, List.mem_singleton_self _⟩, hts _ hcode, hts _ hini, hy.1, z_nm hy, hts _ hlink⟩, hts _ hstat, trivial⟩
      ⟨z_blind, z_PcU hO hW hS⟩ rfl hna hL.1 rfl (lv_room hcat) hd ⟨hk.1, hk.2⟩ T0 hT0 X
  cases ho
  cases hv
  obtain ⟨k1, k2, k3⟩ := vx_keep (A1 := z_A G) h0 e1 hS (fun q _ h => h) (fun q h => h) hL' hF
  obtain ⟨t2, a1, b1⟩ := kk hO T'.heap (locs ++ L) la (by rw [e1]; exact hWd) k3 hL T' rfl X'
  exact ⟨t2, stp t2 a1, b1⟩
/-- the throw of a new exception with a text -/
theorem z_throw {fr' lo' : Nat} {nL : Nat} {own : String} {cc : ByteArray} {ret' : Option FieldType} {text : String} {ik is ic : Nat} (htb : z_tb Z) (hfit : Bundle.fit E = true)
    (hk : Cond.classLink own ik E ∈ z_W) (hini : Cond.initialized E ∈ z_W) (hstr : (own, is, text) ∈ z_S) (hat : ∀ w ∈ vx_atS own ic E ["java/lang/RuntimeException", "java/lang/Exception"], w ∈ z_W)
    (hgood : ∀ w ∈ Cond.classLink own ik E :: Cond.initialized E :: vx_atS own ic E ["java/lang/RuntimeException", "java/lang/Exception"], vx_ot w = true)
    (d0 : decode cc pc = .ok (.new ik, 3)) (d3 : decode cc (pc + 3) = .ok (.dup, 1)) (d4 : decode cc (pc + 4) = .ok (.ldc is, 2)) (d6 : decode cc (pc + 6) = .ok (.invokespecial ic, 3)) (d9 : decode cc (pc + 9) = .ok (.athrow, 1))
    (hRf : 5 < fr') (hRl : (rest.map fun v => v.category).sum + 82 ≤ lo') : z_J G Z (cc, nL, own, z_rm fr' lo' (.inr E), ret') (z_Qm G Z (.inr E) M) pc ls rest M 0 0 := fun hO H locs la hW hS hL => by
  have hts : ∀ w ∈ z_W, w.before (z_a Z) (z_s Z) = true := fun w hw => z_tw hO hw _
  obtain ⟨sa, hsa⟩ := hO.2.2.2.2.2.2.2.2.2.2.2.2.2.1 _ hstr
  refine vx_throwS (names := ["java/lang/RuntimeException", "java/lang/Exception"]) (text := text) (sa := sa) (A := z_A G) hO.1 hO.2.1 hO.2.2.2.2.2.2.1 hO.2.2.2.1 hfit (by decide +kernel) (hts _ hk) (hts _ hini) hsa (fun w hw => hts w (hat w hw)) hgood hO.2.2.2.2.2.2.2.2.2.1 hO.2.2.2.2.2.2.2.2.2.2.1 hS (by rw [hO.2.2.1]; exact hL.1)
    d0 d3 d4 d6 d9 (fun x hx => absurd (htb x hx) id) hRf hRl (Nat.le_refl 1) (Nat.le_refl 6) hO.2.2.2.2.1 (fun t ht hz hq => ⟨rfl, z_Wd_keep hW hz hq, ⟨Nat.le_trans hS.1 hz, fun q h1 h2 => by rw [hq q (Nat.lt_of_lt_of_le h1 hS.1)]; exact hS.2.1 q h1 h2⟩⟩) hS.2.2 (Nat.le_refl 1) (Nat.le_refl 6)
/-- the throw of a new exception with a text of a far entry -/
theorem z_throwW {fr' lo' : Nat} {nL : Nat} {own : String} {cc : ByteArray} {ret' : Option FieldType} {text : String} {ik is ic : Nat} (htb : z_tb Z) (hfit : Bundle.fit E = true)
    (hk : Cond.classLink own ik E ∈ z_W) (hini : Cond.initialized E ∈ z_W) (hstr : (own, is, text) ∈ z_S) (hat : ∀ w ∈ vx_atS own ic E ["java/lang/RuntimeException", "java/lang/Exception"], w ∈ z_W)
    (hgood : ∀ w ∈ Cond.classLink own ik E :: Cond.initialized E :: vx_atS own ic E ["java/lang/RuntimeException", "java/lang/Exception"], vx_ot w = true)
    (d0 : decode cc pc = .ok (.new ik, 3)) (d3 : decode cc (pc + 3) = .ok (.dup, 1)) (d4 : decode cc (pc + 4) = .ok (.ldc_w is, 3)) (d7 : decode cc (pc + 7) = .ok (.invokespecial ic, 3)) (d10 : decode cc (pc + 10) = .ok (.athrow, 1))
    (hRf : 5 < fr') (hRl : (rest.map fun v => v.category).sum + 82 ≤ lo') : z_J G Z (cc, nL, own, z_rm fr' lo' (.inr E), ret') (z_Qm G Z (.inr E) M) pc ls rest M 0 0 := fun hO H locs la hW hS hL => by
  have hts : ∀ w ∈ z_W, w.before (z_a Z) (z_s Z) = true := fun w hw => z_tw hO hw _
  obtain ⟨sa, hsa⟩ := hO.2.2.2.2.2.2.2.2.2.2.2.2.2.1 _ hstr
  refine vx_throwSW (names := ["java/lang/RuntimeException", "java/lang/Exception"]) (text := text) (sa := sa) (A := z_A G) hO.1 hO.2.1 hO.2.2.2.2.2.2.1 hO.2.2.2.1 hfit (by decide +kernel) (hts _ hk) (hts _ hini) hsa (fun w hw => hts w (hat w hw)) hgood hO.2.2.2.2.2.2.2.2.2.1 hO.2.2.2.2.2.2.2.2.2.2.1 hS (by rw [hO.2.2.1]; exact hL.1)
    d0 d3 d4 d7 d10 (fun x hx => absurd (htb x hx) id) hRf hRl (Nat.le_refl 1) (Nat.le_refl 6) hO.2.2.2.2.1 (fun t ht hz hq => ⟨rfl, z_Wd_keep hW hz hq, ⟨Nat.le_trans hS.1 hz, fun q h1 h2 => by rw [hq q (Nat.lt_of_lt_of_le h1 hS.1)]; exact hS.2.1 q h1 h2⟩⟩) hS.2.2 (Nat.le_refl 1) (Nat.le_refl 6)
/-- slot 5 of a state's row is no cell's: it may be counted along -/
theorem z_ghost {g : Nat} {w : Int} (hg : g < 7) (hw : z_rg w) (kk : z_J G Z d Q pc ls st (z_sM M g 5 w) k n) : z_J G Z d Q pc ls st M k n := fun hO H locs la hW hS hL => by
  refine kk hO H locs la ⟨hW.1, fun a i ha => ?_, fun g' k' hd => ?_⟩ hS hL
  · unfold z_sM
    split
    · exact hw
    · exact hW.2.1 a i ha
  · refine z_hold_move (M := M) hd (fun a i ho => ?_) rfl (hW.2.2 g' k' hd)
    unfold z_sM
    rw [if_neg]
    rintro ⟨rfl, rfl⟩
    have h : z_ow a 5 = (a, 99) := by
      unfold z_ow
      rw [if_pos hg]
      rfl
    rw [h] at ho
    cases ho
    unfold z_dm at hd
    omega
end ZK
