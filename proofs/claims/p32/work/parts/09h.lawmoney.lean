/-! ===== contracts that tell what holds of the memory then; the law's relation ===== -/
def z_rmP (fr lo mc ms : Nat) : Room := { frames := fr, cells := mc, slots := ms, locals := lo }
def z_QP (G : z_G) (v : Option Value) (P : z_M → Prop) : Array Value → State → Outcome → State → Prop := fun _ st oc t => ∃ M1, P M1 ∧ oc = .returned v ∧ z_Wd G M1 t.heap ∧ va_F (z_A G) st t
def z_ConP (G : z_G) (y : MethodName) (cc : ByteArray) (maxL : Nat) (ret : Option FieldType) (fr lo mc ms : Nat) (args : List Value) (M : z_M) (v : Option Value) (P : z_M → Prop) : Prop :=
  Met (z_l G) y [Cond.code y cc maxL ret] (z_rmP fr lo mc ms) (z_Pc G args M) (z_QP G v P) mc ms (z_A G)
def z_QmP (G : z_G) (Z : z_Z) (v : Option Value) (P : z_M → Prop) (mc ms : Nat) : State → Prop := MQ (z_w Z) (z_QP G v P) (z_a Z) (z_s Z) mc ms (z_A G)
theorem z_conP {G : z_G} {y : MethodName} {cc : ByteArray} {maxL : Nat} {ret : Option FieldType} {fr lo mc ms : Nat} {args : List Value} {M : z_M} {v : Option Value} {P : z_M → Prop} {ls : List (Option Value)} (hy : plainName y.cls = true) (hn : (lg_sl args).length ≤ maxL) (hls : z_ini args maxL = ls)
    (h : ∀ Z, z_J G Z (cc, maxL, y.cls, z_rmP fr lo mc ms, ret) (z_QmP G Z v P mc ms) 0 ls [] M 0 0) : z_ConP G y cc maxL ret fr lo mc ms args M v P := by
  refine Met.ofW (cc := cc) (maxL := maxL) (ret := ret) hy rfl ?_
  intro p e s m args' below meth c s₁ B hml hv
  obtain ⟨rfl, hT, hWd⟩ := hv
  have hl := lv_entry args (n := maxL) hn
  rw [lg_entry_eq]
  refine h (p, e, s, m, args.toArray, below, meth, c) ⟨B.exec, B.bytes, hml, findClass_of_methodNamed B.named, B.notSynchronized, B.returns, hT⟩ s.heap [] _ hWd va_S.rf ?_
  rw [← hls]
  exact z_ini_LH hl
section ZCP2
variable {G : z_G} {Z : z_Z} {d : z_Md} {Q : State → Prop} {pc : Nat} {ls : List (Option Value)} {M : z_M} {k n : Nat}
variable {y : MethodName} {cc' : ByteArray} {maxL fr lo idx na mc ms : Nat} {ret : Option FieldType} {As rest st : List Value} {v : Option Value} {P : z_M → Prop}
theorem z_zretP {cc : ByteArray} {nL : Nat} {own : String} {R : Room} {r : Int} (hd : decode cc pc = .ok (.ireturn, 1)) (hr : r = 1) (hP : P M) : z_J G Z (cc, nL, own, R, some .boolean) (z_QmP G Z (some (z_I 1)) P mc ms) pc ls [z_I r] M mc ms := fun hO H locs la hW hS hL => by
  subst hr
  exact W.zret hO.1 hO.2.1 hO.2.2.2.2.2.1 rfl (fun t ht hw => ⟨M, hP, rfl, by rw [ht]; exact hW, hS.F ht⟩) hS.2.2 hd hO.2.2.2.2.1
theorem z_callSP (hC : z_ConP G y cc' maxL ret fr lo mc ms As M v P)
    (hlink : Cond.methodLink (z_own d) idx y ∈ z_W) (hstat : Cond.static y ∈ z_W) (hcode : Cond.code y cc' maxL ret ∈ z_W) (hini : Cond.initialized y.cls ∈ z_W) (hy : z_name y na)
    (hna : As.length = na) (hst : st = As.reverse ++ rest) (hfit : z_fit d fr lo maxL) (hk : k + mc ≤ (z_R d).cells ∧ n + ms ≤ (z_R d).slots) (hcat : (rest.map fun v => v.category).sum ≤ 8)
    (hd : decode (z_cc d) pc = .ok (.invokestatic idx, 3)) (kk : ∀ M1, P M1 → z_J G Z d Q (pc + 3) ls (v.toList ++ rest) M1 (k + mc) (n + ms)) : z_J G Z d Q pc ls st M k n := fun hO H locs la hW hS hL => by
  subst hst
  have hts : ∀ w ∈ z_W, w.before (z_a Z) (z_s Z) = true := fun w hw => z_tw hO hw _
  intro T0 hT0 X
  obtain ⟨v', st₀, t, T', L, h0, X', hL', e1, e2, ⟨M1, hP, hv, hWd, hF⟩, stp⟩ := va_runS (Ts := z_W) (own := z_own d) (n := na) (bytes := cc') (maxL := maxL) (ret := ret) (index := idx) (g := F0 (z_m Z) pc la (As.reverse ++ rest)) (rest := rest) ⟨hO.1, hO.2.1, hO.2.2.1, hO.2.2.2.1, hts⟩ hC
      ⟨⟨rfl, rfl, hfit.1, hfit.2, z_ws1 hO hcode, List.mem_singleton_self _, hts _ hcode, hts _ hini, hy.1, z_nm hy, hts _ hlink⟩, hts _ hstat⟩
      ⟨z_blind, z_PcU hO hW hS⟩ rfl hna hL.1 rfl (lv_room hcat) hd hk T0 hT0 X
  cases hv
  obtain ⟨k1, k2, k3⟩ := vx_keep (A1 := z_A G) h0 e1 hS (fun q _ h => h) (fun q h => h) hL' hF
  obtain ⟨t2, a1, b1⟩ := kk M1 hP hO T'.heap (locs ++ L) la (by rw [e1]; exact hWd) k3 hL T' rfl X'
  exact ⟨t2, stp t2 a1, b1⟩
end ZCP2
/-- what holds of the class's memory -/
def z_LC (M : z_M) (g : Nat) (N : Int) : Prop := g < 7 ∧ M 7 2 = (g : Int) ∧ M 7 0 = (g : Int) ∧ 0 ≤ M 7 1 ∧ M 7 1 ≤ 6 ∧ z_W7 M ∧ z_BI (M g) N
/-- and of the law's books beside it -/
def z_LR (M : z_M) (g : Nat) (N : Int) : Prop := z_LC M g N ∧ M 40 = M g ∧ M g 0 ≤ 4 ∧ M g 1 ≤ 4
/-- a turn of the law keeps it -/
def z_PS (M : z_M) (N : Int) (M1 : z_M) : Prop := (∃ g, z_LR M1 g (N + 1)) ∧ (M 7 1 ≤ M1 7 1 ∨ 1 ≤ M1 7 1)
theorem z_LC_row {M M2 : z_M} {g : Nat} {N : Int} (h : z_LC M g N) (e : ∀ r, r < 7 → M2 r = M r) (e7 : ∀ i, 0 ≤ i → i ≤ 2 → M2 7 i = M 7 i) : z_LC M2 g N := by
  obtain ⟨h1, h2, h3, h4, h5, h6, h7⟩ := h
  refine ⟨h1, (e7 2 (by decide) (by decide)).trans h2, (e7 0 (by decide) (by decide)).trans h3, ?_, ?_, fun a ha i hi => ?_, ?_⟩
  · rw [e7 1 (by decide) (by decide)]; exact h4
  · rw [e7 1 (by decide) (by decide)]; exact h5
  · rw [e a ha]; exact h6 a ha i hi
  · rw [e g h1]; exact h7
theorem z_LC_sR {M : z_M} {g : Nat} {N : Int} {r : Nat} {x : Int → Int} (h : z_LC M g N) (hr : 7 < r) : z_LC (z_sR M r x) g N :=
  z_LC_row h (fun a ha => z_sR_ne _ _ (by omega)) (fun i _ _ => congrFun (z_sR_ne _ _ (by omega)) i)
theorem z_PS_id {M : z_M} {g : Nat} {N : Int} (h : z_LR M g N) (hN : N + 1 ≤ 600) : z_PS M N M := by
  obtain ⟨⟨h1, h2, h3, h4, h5, h6, h7⟩, h8, h9, h10⟩ := h
  exact ⟨⟨g, ⟨h1, h2, h3, h4, h5, h6, z_BI_mono h7 hN⟩, h8, h9, h10⟩, Or.inl (Int.le_refl _)⟩
theorem z_sg_7 (g : Nat) : 7 ≠ z_sg g := by have := z_sg_lt g; omega
/-- behind a call that saves, row q the new state -/
theorem z_LR_sv {M M1 : z_M} {g : Nat} {N : Int} {o : Int → Int} (h : z_LC M g N) (e : ∀ r, r < 7 → r ≠ z_sg g → M1 r = M r) (eq : M1 (z_sg g) = o) (e40 : M1 40 = o) (e2 : M1 7 2 = (z_sg g : Nat)) (e0 : M1 7 0 = (z_sg g : Nat)) (e1 : M1 7 1 = z_mn (M 7 1 + 1) 6) (hb : z_BI o (N + 1)) (o0 : o 0 ≤ 4) (o1 : o 1 ≤ 4) : (∃ q, z_LR M1 q (N + 1)) ∧ 1 ≤ M1 7 1 := by
  obtain ⟨h1, h2, h3, h4, h5, h6, h7⟩ := h
  have hq := z_sg_lt g
  have hm : 1 ≤ z_mn (M 7 1 + 1) 6 ∧ z_mn (M 7 1 + 1) 6 ≤ 6 := by unfold z_mn; split <;> omega
  refine ⟨⟨z_sg g, ⟨hq, e2, e0, by omega, by omega, fun a ha i hi => ?_, by rw [eq]; exact hb⟩, by rw [eq, e40], by rw [eq]; exact o0, by rw [eq]; exact o1⟩, by omega⟩
  by_cases c : a = z_sg g
  · subst c
    rw [eq]
    exact (z_BI_s hb).2.2.2 i hi
  · rw [e a ha c]
    exact h6 a ha i hi
theorem z_PS_sv {M0 M : z_M} {g : Nat} {N : Int} {o : Int → Int} (h : z_LC M g N) (e40 : M 40 = o) (hb : z_BI o (N + 1)) (o0 : o 0 ≤ 4) (o1 : o 1 ≤ 4) : z_PS M0 N (z_sR (z_SC M g) (z_sg g) o) := by
  have hq := z_sg_lt g
  have k : ∀ i, z_sR (z_SC M g) (z_sg g) o 7 i = z_SC M g 7 i := fun i => congrFun (z_sR_ne _ _ (by omega)) i
  have h2 := z_LR_sv (M1 := z_sR (z_SC M g) (z_sg g) o) (o := o) h (fun r hr hne => by rw [z_sR_ne _ _ hne, z_SC_row (by omega) hne]) (z_sR_self _ _ _) (by rw [z_sR_ne _ _ (by omega), z_SC_row (by omega) (by omega)]; exact e40)
    (by rw [k]; exact z_SC_72 _ _) (by rw [k]; unfold z_SC; rw [z_sM_ne _ _ _ (by decide), z_sM_self]) (by rw [k]; unfold z_SC; rw [z_sM_self]) hb o0 o1
  exact ⟨h2.1, Or.inr h2.2⟩
theorem tL_money0 {G : z_G} {M : z_M} {g : Nat} {N x y : Int} (h : z_LR M g N) (hN : N + 1 ≤ 600) (b0 : 0 < M g 0) : z_ConP G yL_money cL_money 10 (some .boolean) 8 148 0 0 [.ref (z_ad G 0 20), z_I 0, z_I x, z_I y, .ref (z_ad G 0 40), .ref (z_ad G 0 46)] M (some (z_I 1)) (z_PS M N) := by
  refine z_conP (ls := [some (.ref (z_ad G 0 20)), some (z_I 0), some (z_I x), some (z_I y), some (.ref (z_ad G 0 40)), some (.ref (z_ad G 0 46)), none, none, none, none]) (by decide +kernel) (Nat.le_of_ble_eq_true rfl) rfl ?_
  intro Z
  refine z_rng fun hr => ?_
  have h0 := h
  obtain ⟨⟨hg, hn, hn0, s0, s1, ho, hb⟩, hE, h4, h5⟩ := h0
  have hh := z_BI_h hb
  have y_rb : ∀ i, z_rg (M g i) := fun i => hr g i (by omega)
  have hq7 := z_sg_lt g
  refine z_iloadn dL_money_0 rfl ?_
  refine z_aload dL_money_1 rfl ?_
  refine z_iconst dL_money_3 ?_
  refine z_lld (R := 40) (j := 0) al_c (Or.inl (by decide)) (congrFun hE _) (by omega) (by omega) (Nat.le_of_ble_eq_true rfl) (by omega) dL_money_4 ?_
  refine kL_65 (tL_at (by omega) (by omega)) rfl ⟨(Nat.le_of_ble_eq_true rfl), (Nat.le_of_ble_eq_true rfl)⟩ (Nat.le_of_ble_eq_true rfl) dL_money_5 ?_
  obtain ⟨p, y_p⟩ : ∃ p, z_atv x (M g 0) = p := ⟨_, rfl⟩
  have y_p2 := z_atv_rg (x := x) (n := M g 0) b0
  rw [y_p] at y_p2
  refine z_top (v' := p) (y_p) ?_
  refine z_istore_6 dL_money_8 (Nat.le_of_ble_eq_true rfl) rfl ?_
  refine z_iloadn dL_money_10 rfl ?_
  refine z_iconst dL_money_11 ?_
  refine z_ishr (z_ivE _) dL_money_12 ?_
  refine z_aload dL_money_13 rfl ?_
  refine z_iconst dL_money_15 ?_
  refine z_lld (R := 40) (j := 0) al_c (Or.inl (by decide)) (congrFun hE _) (by omega) (by omega) (Nat.le_of_ble_eq_true rfl) (by omega) dL_money_16 ?_
  refine kL_65 (tL_at (by omega) (by omega)) rfl ⟨(Nat.le_of_ble_eq_true rfl), (Nat.le_of_ble_eq_true rfl)⟩ (Nat.le_of_ble_eq_true rfl) dL_money_17 ?_
  obtain ⟨q, y_q⟩ : ∃ q, z_atv (z_iv (Int32.ofInt x >>> (Int32.ofInt 3 &&& 31))) (M g 0) = q := ⟨_, rfl⟩
  have y_q2 := z_atv_rg (x := z_iv (Int32.ofInt x >>> (Int32.ofInt 3 &&& 31))) (n := M g 0) b0
  rw [y_q] at y_q2
  have f_p := z_BI_P hb p y_p2.1 (by omega)
  have f_q := z_BI_P hb q y_q2.1 (by omega)
  unfold z_PI at f_p f_q
  have f_bp := z_BI_bal hb (p := p) y_p2.1 (by omega)
  have f_bq := z_BI_bal hb (p := q) y_q2.1 (by omega)
  have f_po := z_BI_one hb (p := p) (w := 5) (Or.inr rfl) y_p2.1 (by omega)
  have f_res := z_BI_res hb
  refine z_top (v' := q) (y_q) ?_
  refine z_istore_7 dL_money_20 (Nat.le_of_ble_eq_true rfl) rfl ?_
  refine z_iloadn dL_money_22 rfl ?_
  refine z_if_ne (tgt := 149) (by first | exact y_rb _ | omega | (exact hr _ _ (by decide))) dL_money_23 (by decide) (fun h23 => ?_) (fun h23 => ?_)
  · exact absurd h23 (by decide)
  · refine z_iloadn dL_money_26 rfl ?_
    refine z_aload dL_money_27 rfl ?_
    refine z_bipush dL_money_29 (by decide) ?_
    refine z_iload dL_money_31 rfl ?_
    refine z_imul dL_money_33 ?_
    refine z_lld (R := 40) (j := 14 + 6 * q) al_pe (Or.inl (by decide)) (congrFun hE _) (by omega) (by omega) (Nat.le_of_ble_eq_true rfl) (by omega) dL_money_34 ?_
    refine z_iconst dL_money_35 ?_
    refine z_iadd dL_money_36 ?_
    refine kL_65 (tL_at (by omega) (by omega)) rfl ⟨(Nat.le_of_ble_eq_true rfl), (Nat.le_of_ble_eq_true rfl)⟩ (Nat.le_of_ble_eq_true rfl) dL_money_37 ?_
    obtain ⟨v, y_v⟩ : ∃ v, z_atv y (M g (14 + 6 * q) + 1) = v := ⟨_, rfl⟩
    have y_v2 := z_atv_rg (x := y) (n := M g (14 + 6 * q) + 1) (by omega)
    rw [y_v] at y_v2
    refine z_top (v' := v) y_v ?_
    refine z_istore_8 dL_money_40 (Nat.le_of_ble_eq_true rfl) rfl ?_
    refine z_aload dL_money_42 rfl ?_
    refine z_bipush dL_money_44 (by decide) ?_
    refine z_iload dL_money_46 rfl ?_
    refine z_imul dL_money_48 ?_
    refine z_iconst dL_money_49 ?_
    refine z_iadd dL_money_50 ?_
    refine z_lld (R := 40) (j := 14 + 6 * p + 3) al_pe (Or.inl (by decide)) (congrFun hE _) (by omega) (by omega) (Nat.le_of_ble_eq_true rfl) (by omega) dL_money_51 ?_
    refine z_iload dL_money_52 rfl ?_
    refine z_icmp_eq (tgt := 64) (by first | exact y_rb _ | omega | (exact hr _ _ (by decide))) (by first | exact y_rb _ | omega | (exact hr _ _ (by decide))) dL_money_54 (by decide) (fun h54 => ?_) (fun h54 => ?_)
    · refine z_iconst dL_money_64 ?_
      exact z_zretP dL_money_65 rfl (z_PS_id h hN)
    · refine z_iload dL_money_57 rfl ?_
      refine z_ldc (i := 100000) wk_L_89 dL_money_59 ?_
      refine z_icmp_le (tgt := 66) (by first | exact y_rb _ | omega | (exact hr _ _ (by decide))) (by first | exact y_rb _ | omega | (exact hr _ _ (by decide))) dL_money_61 (by decide) (fun h61 => ?_) (fun h61 => ?_)
      · refine z_aload dL_money_66 rfl ?_
        refine z_bipush dL_money_68 (by decide) ?_
        refine z_iload dL_money_70 rfl ?_
        refine z_imul dL_money_72 ?_
        refine z_iconst dL_money_73 ?_
        refine z_iadd dL_money_74 ?_
        refine z_lld (R := 40) (j := 14 + 6 * p + 3) al_pe (Or.inl (by decide)) (congrFun hE _) (by omega) (by omega) (Nat.le_of_ble_eq_true rfl) (by omega) dL_money_75 ?_
        refine z_istore_9 dL_money_76 (Nat.le_of_ble_eq_true rfl) rfl ?_
        have f_bo := z_BI_bal hb (p := M g (14 + 6 * p + 3)) (by omega) (by omega)
        refine z_aload dL_money_78 rfl ?_
        refine z_bipush dL_money_80 (by decide) ?_
        refine z_iload dL_money_82 rfl ?_
        refine z_imul dL_money_84 ?_
        refine z_dup2 dL_money_85 rfl rfl ?_
        refine z_lld (R := 40) (j := 14 + 6 * q) al_pe (Or.inl (by decide)) (congrFun hE _) (by omega) (by omega) (Nat.le_of_ble_eq_true rfl) (by omega) dL_money_86 ?_
        refine z_iload dL_money_87 rfl ?_
        refine z_isub dL_money_89 ?_
        refine z_lst (R := 40) (j := 14 + 6 * q) al_pe (Or.inl (by decide)) (by omega) (by omega) (Nat.le_of_ble_eq_true rfl) (by omega) (by first | exact y_rb _ | omega | (exact hr _ _ (by decide))) dL_money_90 ?_
        refine z_rng fun hr => ?_
        refine z_aload dL_money_91 rfl ?_
        refine z_bipush dL_money_93 (by decide) ?_
        refine z_iload dL_money_95 rfl ?_
        refine z_imul dL_money_97 ?_
        refine z_dup2 dL_money_98 rfl rfl ?_
        refine z_lld (R := 40) (j := 14 + 6 * M g (14 + 6 * p + 3)) al_pe (Or.inl (by decide)) ((z_sM_ne _ _ _ (by omega)).trans (congrFun hE _)) (by omega) (by omega) (Nat.le_of_ble_eq_true rfl) (by omega) dL_money_99 ?_
        refine z_iload dL_money_100 rfl ?_
        refine z_iadd dL_money_102 ?_
        refine z_lst (R := 40) (j := 14 + 6 * M g (14 + 6 * p + 3)) al_pe (Or.inl (by decide)) (by omega) (by omega) (Nat.le_of_ble_eq_true rfl) (by omega) (by first | exact y_rb _ | omega | (exact hr _ _ (by decide))) dL_money_103 ?_
        refine z_rng fun hr => ?_
        refine z_aload dL_money_104 rfl ?_
        refine z_bipush dL_money_106 (by decide) ?_
        refine z_iload dL_money_108 rfl ?_
        refine z_imul dL_money_110 ?_
        refine z_iconst dL_money_111 ?_
        refine z_iadd dL_money_112 ?_
        refine z_iload dL_money_113 rfl ?_
        refine z_lst (R := 40) (j := 14 + 6 * p + 3) al_pe (Or.inl (by decide)) (by omega) (by omega) (Nat.le_of_ble_eq_true rfl) (by omega) (by first | exact y_rb _ | omega | (exact hr _ _ (by decide))) dL_money_115 ?_
        refine z_rng fun hr => ?_
        refine z_aload dL_money_116 rfl ?_
        refine z_bipush dL_money_118 (by decide) ?_
        refine z_iload dL_money_120 rfl ?_
        refine z_imul dL_money_122 ?_
        refine z_iconst dL_money_123 ?_
        refine z_iadd dL_money_124 ?_
        refine z_iload dL_money_125 rfl ?_
        refine z_lst (R := 40) (j := 14 + 6 * p + 4) al_pe (Or.inl (by decide)) (by omega) (by omega) (Nat.le_of_ble_eq_true rfl) (by omega) (by first | exact y_rb _ | omega | (exact hr _ _ (by decide))) dL_money_127 ?_
        refine z_rng fun hr => ?_
        refine z_mem (M' := z_sR M 40 (z_sold (M g) p q v)) (by simp only [z_sM_R, z_sR_R, z_sR_self]; rw [hE]; first | rfl | (congr 1; unfold z_sold; funext j; simp only [z_uf]; (repeat' split) <;> first | rfl | omega)) ?_
        have y_lc : z_LC (z_sR M 40 (z_sold (M g) p q v)) g N := z_LC_sR h.1 (by decide)
        have y_g : z_sR M 40 (z_sold (M g) p q v) g = M g := z_sR_ne _ _ (by omega)
        have y_40 : z_sR M 40 (z_sold (M g) p q v) 40 = z_sold (M g) p q v := z_sR_self _ _ _
        refine z_rng fun hr => ?_
        generalize z_sR M 40 (z_sold (M g) p q v) = M2 at *
        obtain ⟨-, hn', hn0', s0', s1', ho', hb'⟩ := id y_lc
        have y_hc : z_c_sell (M g) p q v = 0 := by unfold z_c_sell; rw [if_neg (by omega), if_neg (by omega), if_neg (by omega)]
        have y_k := z_k_sold hb hN (x := p) (t := q) (p := v) (by omega) (by omega) (by omega) (by omega) (by omega) (by omega) (by omega)
        refine z_aloadn dL_money_128 rfl ?_
        refine z_iload dL_money_129 rfl ?_
        refine z_iload dL_money_131 rfl ?_
        refine z_iload dL_money_133 rfl ?_
        refine kL_90 (tX6_sell hg hn' hn0' s0' s1' ho' hb' (x := p) (t := q) (p := v) (by omega) (by omega) (by omega) (by rw [y_g]; exact y_hc)) rfl ⟨(Nat.le_of_ble_eq_true rfl), (Nat.le_of_ble_eq_true rfl)⟩ (Nat.le_of_ble_eq_true rfl) dL_money_135 ?_
        refine z_rng fun hr => ?_
        refine z_top (v' := M g (14 + 6 * p + 3)) (by rw [y_g]) ?_
        refine z_iload dL_money_138 rfl ?_
        refine z_icmp_ne (tgt := 147) (by first | exact y_rb _ | omega | (exact hr _ _ (by decide))) (by first | exact y_rb _ | omega | (exact hr _ _ (by decide))) dL_money_140 (by decide) (fun h140 => ?_) (fun h140 => ?_)
        · exfalso; omega
        · refine z_iconst dL_money_143 ?_
          refine z_goto (tgt := 148) dL_money_144 (by decide) ?_
          exact z_zretP dL_money_148 rfl (by rw [y_g]; exact z_PS_sv y_lc y_40 y_k (by unfold z_sold; simp only [z_uf]; (repeat' split) <;> omega) (by unfold z_sold; simp only [z_uf]; (repeat' split) <;> omega))
      · refine z_iconst dL_money_64 ?_
        exact z_zretP dL_money_65 rfl (z_PS_id h hN)
theorem tL_money1 {G : z_G} {M : z_M} {g : Nat} {N x y : Int} (h : z_LR M g N) (hN : N + 1 ≤ 600) (b0 : 0 < M g 0) : z_ConP G yL_money cL_money 10 (some .boolean) 8 148 0 0 [.ref (z_ad G 0 20), z_I 1, z_I x, z_I y, .ref (z_ad G 0 40), .ref (z_ad G 0 46)] M (some (z_I 1)) (z_PS M N) := by
  refine z_conP (ls := [some (.ref (z_ad G 0 20)), some (z_I 1), some (z_I x), some (z_I y), some (.ref (z_ad G 0 40)), some (.ref (z_ad G 0 46)), none, none, none, none]) (by decide +kernel) (Nat.le_of_ble_eq_true rfl) rfl ?_
  intro Z
  refine z_rng fun hr => ?_
  have h0 := h
  obtain ⟨⟨hg, hn, hn0, s0, s1, ho, hb⟩, hE, h4, h5⟩ := h0
  have hh := z_BI_h hb
  have y_rb : ∀ i, z_rg (M g i) := fun i => hr g i (by omega)
  have hq7 := z_sg_lt g
  refine z_iloadn dL_money_0 rfl ?_
  refine z_aload dL_money_1 rfl ?_
  refine z_iconst dL_money_3 ?_
  refine z_lld (R := 40) (j := 0) al_c (Or.inl (by decide)) (congrFun hE _) (by omega) (by omega) (Nat.le_of_ble_eq_true rfl) (by omega) dL_money_4 ?_
  refine kL_65 (tL_at (by omega) (by omega)) rfl ⟨(Nat.le_of_ble_eq_true rfl), (Nat.le_of_ble_eq_true rfl)⟩ (Nat.le_of_ble_eq_true rfl) dL_money_5 ?_
  obtain ⟨p, y_p⟩ : ∃ p, z_atv x (M g 0) = p := ⟨_, rfl⟩
  have y_p2 := z_atv_rg (x := x) (n := M g 0) b0
  rw [y_p] at y_p2
  refine z_top (v' := p) (y_p) ?_
  refine z_istore_6 dL_money_8 (Nat.le_of_ble_eq_true rfl) rfl ?_
  refine z_iloadn dL_money_10 rfl ?_
  refine z_iconst dL_money_11 ?_
  refine z_ishr (z_ivE _) dL_money_12 ?_
  refine z_aload dL_money_13 rfl ?_
  refine z_iconst dL_money_15 ?_
  refine z_lld (R := 40) (j := 0) al_c (Or.inl (by decide)) (congrFun hE _) (by omega) (by omega) (Nat.le_of_ble_eq_true rfl) (by omega) dL_money_16 ?_
  refine kL_65 (tL_at (by omega) (by omega)) rfl ⟨(Nat.le_of_ble_eq_true rfl), (Nat.le_of_ble_eq_true rfl)⟩ (Nat.le_of_ble_eq_true rfl) dL_money_17 ?_
  obtain ⟨q, y_q⟩ : ∃ q, z_atv (z_iv (Int32.ofInt x >>> (Int32.ofInt 3 &&& 31))) (M g 0) = q := ⟨_, rfl⟩
  have y_q2 := z_atv_rg (x := z_iv (Int32.ofInt x >>> (Int32.ofInt 3 &&& 31))) (n := M g 0) b0
  rw [y_q] at y_q2
  have f_p := z_BI_P hb p y_p2.1 (by omega)
  have f_q := z_BI_P hb q y_q2.1 (by omega)
  unfold z_PI at f_p f_q
  have f_bp := z_BI_bal hb (p := p) y_p2.1 (by omega)
  have f_bq := z_BI_bal hb (p := q) y_q2.1 (by omega)
  have f_po := z_BI_one hb (p := p) (w := 5) (Or.inr rfl) y_p2.1 (by omega)
  have f_res := z_BI_res hb
  refine z_top (v' := q) (y_q) ?_
  refine z_istore_7 dL_money_20 (Nat.le_of_ble_eq_true rfl) rfl ?_
  refine z_iloadn dL_money_22 rfl ?_
  refine z_if_ne (tgt := 149) (by first | exact y_rb _ | omega | (exact hr _ _ (by decide))) dL_money_23 (by decide) (fun h23 => ?_) (fun h23 => ?_)
  · refine z_iloadn dL_money_149 rfl ?_
    refine z_iconst dL_money_150 ?_
    refine z_icmp_ne (tgt := 285) (by first | exact y_rb _ | omega | (exact hr _ _ (by decide))) (by first | exact y_rb _ | omega | (exact hr _ _ (by decide))) dL_money_151 (by decide) (fun h151 => ?_) (fun h151 => ?_)
    · exact absurd h151 (by decide)
    · refine z_aload dL_money_154 rfl ?_
      refine z_bipush dL_money_156 (by decide) ?_
      refine z_iload dL_money_158 rfl ?_
      refine z_imul dL_money_160 ?_
      refine z_iconst dL_money_161 ?_
      refine z_iadd dL_money_162 ?_
      refine z_lld (R := 40) (j := 14 + 6 * p + 4) al_pe (Or.inl (by decide)) (congrFun hE _) (by omega) (by omega) (Nat.le_of_ble_eq_true rfl) (by omega) dL_money_163 ?_
      refine z_aload dL_money_164 rfl ?_
      refine z_bipush dL_money_166 (by decide) ?_
      refine z_iload dL_money_168 rfl ?_
      refine z_imul dL_money_170 ?_
      refine z_iconst dL_money_171 ?_
      refine z_iadd dL_money_172 ?_
      refine z_lld (R := 40) (j := 14 + 6 * p + 4) al_pe (Or.inl (by decide)) (congrFun hE _) (by omega) (by omega) (Nat.le_of_ble_eq_true rfl) (by omega) dL_money_173 ?_
      refine z_bipush dL_money_174 (by decide) ?_
      refine z_idiv (by omega) (by omega) (by omega) (by omega) dL_money_176 ?_
      refine z_iadd dL_money_177 ?_
      obtain ⟨v, y_v⟩ : ∃ v, z_bbp (M g) p = v := ⟨_, rfl⟩
      have y_vE : v = M g (14 + 6 * p + 4) + M g (14 + 6 * p + 4) / 10 := y_v.symm
      refine z_top (v' := v) y_v ?_
      refine z_istore_8 dL_money_178 (Nat.le_of_ble_eq_true rfl) rfl ?_
      refine z_aload dL_money_180 rfl ?_
      refine z_bipush dL_money_182 (by decide) ?_
      refine z_iload dL_money_184 rfl ?_
      refine z_imul dL_money_186 ?_
      refine z_iconst dL_money_187 ?_
      refine z_iadd dL_money_188 ?_
      refine z_lld (R := 40) (j := 14 + 6 * p + 3) al_pe (Or.inl (by decide)) (congrFun hE _) (by omega) (by omega) (Nat.le_of_ble_eq_true rfl) (by omega) dL_money_189 ?_
      refine z_iload dL_money_190 rfl ?_
      refine z_icmp_eq (tgt := 208) (by first | exact y_rb _ | omega | (exact hr _ _ (by decide))) (by first | exact y_rb _ | omega | (exact hr _ _ (by decide))) dL_money_192 (by decide) (fun h192 => ?_) (fun h192 => ?_)
      · refine z_iconst dL_money_208 ?_
        exact z_zretP dL_money_209 rfl (z_PS_id h hN)
      · refine z_aload dL_money_195 rfl ?_
        refine z_bipush dL_money_197 (by decide) ?_
        refine z_iload dL_money_199 rfl ?_
        refine z_imul dL_money_201 ?_
        refine z_lld (R := 40) (j := 14 + 6 * p) al_pe (Or.inl (by decide)) (congrFun hE _) (by omega) (by omega) (Nat.le_of_ble_eq_true rfl) (by omega) dL_money_202 ?_
        refine z_iload dL_money_203 rfl ?_
        refine z_icmp_ge (tgt := 210) (by first | exact y_rb _ | omega | (exact hr _ _ (by decide))) (by first | exact y_rb _ | omega | (exact hr _ _ (by decide))) dL_money_205 (by decide) (fun h205 => ?_) (fun h205 => ?_)
        · have f_bo := z_BI_bal hb (p := M g (14 + 6 * p + 3)) (by omega) (by omega)
          refine z_aload dL_money_210 rfl ?_
          refine z_bipush dL_money_212 (by decide) ?_
          refine z_iload dL_money_214 rfl ?_
          refine z_imul dL_money_216 ?_
          refine z_dup2 dL_money_217 rfl rfl ?_
          refine z_lld (R := 40) (j := 14 + 6 * p) al_pe (Or.inl (by decide)) (congrFun hE _) (by omega) (by omega) (Nat.le_of_ble_eq_true rfl) (by omega) dL_money_218 ?_
          refine z_iload dL_money_219 rfl ?_
          refine z_isub dL_money_221 ?_
          refine z_lst (R := 40) (j := 14 + 6 * p) al_pe (Or.inl (by decide)) (by omega) (by omega) (Nat.le_of_ble_eq_true rfl) (by omega) (by first | exact y_rb _ | omega | (exact hr _ _ (by decide))) dL_money_222 ?_
          refine z_rng fun hr => ?_
          refine z_aload dL_money_223 rfl ?_
          refine z_bipush dL_money_225 (by decide) ?_
          refine z_aload dL_money_227 rfl ?_
          refine z_bipush dL_money_229 (by decide) ?_
          refine z_iload dL_money_231 rfl ?_
          refine z_imul dL_money_233 ?_
          refine z_iconst dL_money_234 ?_
          refine z_iadd dL_money_235 ?_
          refine z_lld (R := 40) (j := 14 + 6 * p + 3) al_pe (Or.inl (by decide)) ((z_sM_ne _ _ _ (by omega)).trans (congrFun hE _)) (by omega) (by omega) (Nat.le_of_ble_eq_true rfl) (by omega) dL_money_236 ?_
          refine z_imul dL_money_237 ?_
          refine z_dup2 dL_money_238 rfl rfl ?_
          refine z_lld (R := 40) (j := 14 + 6 * M g (14 + 6 * p + 3)) al_pe (Or.inl (by decide)) ((z_sM_ne _ _ _ (by omega)).trans (congrFun hE _)) (by omega) (by omega) (Nat.le_of_ble_eq_true rfl) (by omega) dL_money_239 ?_
          refine z_iload dL_money_240 rfl ?_
          refine z_iadd dL_money_242 ?_
          refine z_lst (R := 40) (j := 14 + 6 * M g (14 + 6 * p + 3)) al_pe (Or.inl (by decide)) (by omega) (by omega) (Nat.le_of_ble_eq_true rfl) (by omega) (by first | exact y_rb _ | omega | (exact hr _ _ (by decide))) dL_money_243 ?_
          refine z_rng fun hr => ?_
          refine z_aload dL_money_244 rfl ?_
          refine z_bipush dL_money_246 (by decide) ?_
          refine z_iload dL_money_248 rfl ?_
          refine z_imul dL_money_250 ?_
          refine z_iconst dL_money_251 ?_
          refine z_iadd dL_money_252 ?_
          refine z_iload dL_money_253 rfl ?_
          refine z_lst (R := 40) (j := 14 + 6 * p + 3) al_pe (Or.inl (by decide)) (by omega) (by omega) (Nat.le_of_ble_eq_true rfl) (by omega) (by first | exact y_rb _ | omega | (exact hr _ _ (by decide))) dL_money_255 ?_
          refine z_rng fun hr => ?_
          refine z_aload dL_money_256 rfl ?_
          refine z_bipush dL_money_258 (by decide) ?_
          refine z_iload dL_money_260 rfl ?_
          refine z_imul dL_money_262 ?_
          refine z_iconst dL_money_263 ?_
          refine z_iadd dL_money_264 ?_
          refine z_iload dL_money_265 rfl ?_
          refine z_lst (R := 40) (j := 14 + 6 * p + 4) al_pe (Or.inl (by decide)) (by omega) (by omega) (Nat.le_of_ble_eq_true rfl) (by omega) (by first | exact y_rb _ | omega | (exact hr _ _ (by decide))) dL_money_267 ?_
          refine z_rng fun hr => ?_
          refine z_mem (M' := z_sR M 40 (z_sold (M g) p p v)) (by simp only [z_sM_R, z_sR_R, z_sR_self]; rw [hE]; first | rfl | (congr 1; unfold z_sold; funext j; simp only [z_uf]; (repeat' split) <;> first | rfl | omega)) ?_
          have y_lc : z_LC (z_sR M 40 (z_sold (M g) p p v)) g N := z_LC_sR h.1 (by decide)
          have y_g : z_sR M 40 (z_sold (M g) p p v) g = M g := z_sR_ne _ _ (by omega)
          have y_40 : z_sR M 40 (z_sold (M g) p p v) 40 = z_sold (M g) p p v := z_sR_self _ _ _
          refine z_rng fun hr => ?_
          generalize z_sR M 40 (z_sold (M g) p p v) = M2 at *
          obtain ⟨-, hn', hn0', s0', s1', ho', hb'⟩ := id y_lc
          have y_hc : z_c_buyBack (M g) p = 0 := by unfold z_c_buyBack; rw [y_v, if_neg (by omega), if_neg (by omega)]
          have y_k := z_k_sold hb hN (x := p) (t := p) (p := v) (by omega) (by omega) (by omega) (by omega) (by omega) (by omega) (by omega)
          refine z_aloadn dL_money_268 rfl ?_
          refine z_iload dL_money_269 rfl ?_
          refine kL_93 (tX6_buyBack hg hn' hn0' s0' s1' ho' hb' (x := p) (by omega) (by rw [y_g]; exact y_hc)) rfl ⟨(Nat.le_of_ble_eq_true rfl), (Nat.le_of_ble_eq_true rfl)⟩ (Nat.le_of_ble_eq_true rfl) dL_money_271 ?_
          refine z_rng fun hr => ?_
          refine z_top (v' := v) (by rw [y_g]; exact y_v) ?_
          refine z_iload dL_money_274 rfl ?_
          refine z_icmp_ne (tgt := 283) (by first | exact y_rb _ | omega | (exact hr _ _ (by decide))) (by first | exact y_rb _ | omega | (exact hr _ _ (by decide))) dL_money_276 (by decide) (fun h276 => ?_) (fun h276 => ?_)
          · exfalso; omega
          · refine z_iconst dL_money_279 ?_
            refine z_goto (tgt := 284) dL_money_280 (by decide) ?_
            exact z_zretP dL_money_284 rfl (by rw [y_g, y_v]; exact z_PS_sv y_lc y_40 y_k (by unfold z_sold; simp only [z_uf]; (repeat' split) <;> omega) (by unfold z_sold; simp only [z_uf]; (repeat' split) <;> omega))
        · refine z_iconst dL_money_208 ?_
          exact z_zretP dL_money_209 rfl (z_PS_id h hN)
  · exact absurd h23 (by decide)
theorem tL_money2 {G : z_G} {M : z_M} {g : Nat} {N x y : Int} (h : z_LR M g N) (hN : N + 1 ≤ 600) (b0 : 0 < M g 0) : z_ConP G yL_money cL_money 10 (some .boolean) 8 148 0 0 [.ref (z_ad G 0 20), z_I 2, z_I x, z_I y, .ref (z_ad G 0 40), .ref (z_ad G 0 46)] M (some (z_I 1)) (z_PS M N) := by
  refine z_conP (ls := [some (.ref (z_ad G 0 20)), some (z_I 2), some (z_I x), some (z_I y), some (.ref (z_ad G 0 40)), some (.ref (z_ad G 0 46)), none, none, none, none]) (by decide +kernel) (Nat.le_of_ble_eq_true rfl) rfl ?_
  intro Z
  refine z_rng fun hr => ?_
  have h0 := h
  obtain ⟨⟨hg, hn, hn0, s0, s1, ho, hb⟩, hE, h4, h5⟩ := h0
  have hh := z_BI_h hb
  have y_rb : ∀ i, z_rg (M g i) := fun i => hr g i (by omega)
  have hq7 := z_sg_lt g
  refine z_iloadn dL_money_0 rfl ?_
  refine z_aload dL_money_1 rfl ?_
  refine z_iconst dL_money_3 ?_
  refine z_lld (R := 40) (j := 0) al_c (Or.inl (by decide)) (congrFun hE _) (by omega) (by omega) (Nat.le_of_ble_eq_true rfl) (by omega) dL_money_4 ?_
  refine kL_65 (tL_at (by omega) (by omega)) rfl ⟨(Nat.le_of_ble_eq_true rfl), (Nat.le_of_ble_eq_true rfl)⟩ (Nat.le_of_ble_eq_true rfl) dL_money_5 ?_
  obtain ⟨p, y_p⟩ : ∃ p, z_atv x (M g 0) = p := ⟨_, rfl⟩
  have y_p2 := z_atv_rg (x := x) (n := M g 0) b0
  rw [y_p] at y_p2
  refine z_top (v' := p) (y_p) ?_
  refine z_istore_6 dL_money_8 (Nat.le_of_ble_eq_true rfl) rfl ?_
  refine z_iloadn dL_money_10 rfl ?_
  refine z_iconst dL_money_11 ?_
  refine z_ishr (z_ivE _) dL_money_12 ?_
  refine z_aload dL_money_13 rfl ?_
  refine z_iconst dL_money_15 ?_
  refine z_lld (R := 40) (j := 0) al_c (Or.inl (by decide)) (congrFun hE _) (by omega) (by omega) (Nat.le_of_ble_eq_true rfl) (by omega) dL_money_16 ?_
  refine kL_65 (tL_at (by omega) (by omega)) rfl ⟨(Nat.le_of_ble_eq_true rfl), (Nat.le_of_ble_eq_true rfl)⟩ (Nat.le_of_ble_eq_true rfl) dL_money_17 ?_
  obtain ⟨q, y_q⟩ : ∃ q, z_atv (z_iv (Int32.ofInt x >>> (Int32.ofInt 3 &&& 31))) (M g 0) = q := ⟨_, rfl⟩
  have y_q2 := z_atv_rg (x := z_iv (Int32.ofInt x >>> (Int32.ofInt 3 &&& 31))) (n := M g 0) b0
  rw [y_q] at y_q2
  have f_p := z_BI_P hb p y_p2.1 (by omega)
  have f_q := z_BI_P hb q y_q2.1 (by omega)
  unfold z_PI at f_p f_q
  have f_bp := z_BI_bal hb (p := p) y_p2.1 (by omega)
  have f_bq := z_BI_bal hb (p := q) y_q2.1 (by omega)
  have f_po := z_BI_one hb (p := p) (w := 5) (Or.inr rfl) y_p2.1 (by omega)
  have f_res := z_BI_res hb
  refine z_top (v' := q) (y_q) ?_
  refine z_istore_7 dL_money_20 (Nat.le_of_ble_eq_true rfl) rfl ?_
  refine z_iloadn dL_money_22 rfl ?_
  refine z_if_ne (tgt := 149) (by first | exact y_rb _ | omega | (exact hr _ _ (by decide))) dL_money_23 (by decide) (fun h23 => ?_) (fun h23 => ?_)
  · refine z_iloadn dL_money_149 rfl ?_
    refine z_iconst dL_money_150 ?_
    refine z_icmp_ne (tgt := 285) (by first | exact y_rb _ | omega | (exact hr _ _ (by decide))) (by first | exact y_rb _ | omega | (exact hr _ _ (by decide))) dL_money_151 (by decide) (fun h151 => ?_) (fun h151 => ?_)
    · refine z_iloadn dL_money_285 rfl ?_
      refine z_iconst dL_money_286 ?_
      refine z_icmp_ne (tgt := 391) (by first | exact y_rb _ | omega | (exact hr _ _ (by decide))) (by first | exact y_rb _ | omega | (exact hr _ _ (by decide))) dL_money_287 (by decide) (fun h287 => ?_) (fun h287 => ?_)
      · exact absurd h287 (by decide)
      · refine z_aload dL_money_290 rfl ?_
        refine z_iconst dL_money_292 ?_
        refine z_lld (R := 40) (j := 3) al_c (Or.inl (by decide)) (congrFun hE _) (by omega) (by omega) (Nat.le_of_ble_eq_true rfl) (by omega) dL_money_293 ?_
        refine z_if_ne (tgt := 299) (by first | exact y_rb _ | omega | (exact hr _ _ (by decide))) dL_money_294 (by decide) (fun h294 => ?_) (fun h294 => ?_)
        · refine z_iconst dL_money_299 ?_
          refine z_iloadn dL_money_300 rfl ?_
          refine z_aload dL_money_301 rfl ?_
          refine z_iconst dL_money_303 ?_
          refine z_lld (R := 40) (j := 3) al_c (Or.inl (by decide)) (congrFun hE _) (by omega) (by omega) (Nat.le_of_ble_eq_true rfl) (by omega) dL_money_304 ?_
          refine z_sipush dL_money_305 (by decide) ?_
          refine z_icmp_ge (tgt := 318) (by first | exact y_rb _ | omega | (exact hr _ _ (by decide))) (by first | exact y_rb _ | omega | (exact hr _ _ (by decide))) dL_money_308 (by decide) (fun h308 => ?_) (fun h308 => ?_)
          · refine z_sipush dL_money_318 (by decide) ?_
            refine z_top (v' := if M g 3 < 3000 then M g 3 else 3000) (by first | rw [if_pos (by omega)] | rw [if_neg (by omega)]) ?_
            refine kL_65 (tL_at (by split <;> omega) (by split <;> omega)) rfl ⟨(Nat.le_of_ble_eq_true rfl), (Nat.le_of_ble_eq_true rfl)⟩ (Nat.le_of_ble_eq_true rfl) dL_money_321 ?_
            refine z_iadd dL_money_324 ?_
            obtain ⟨v, y_v⟩ : ∃ v, 1 + z_atv y (if M g 3 < 3000 then M g 3 else 3000) = v := ⟨_, rfl⟩
            have y_v2 := z_atv_rg (x := y) (n := if M g 3 < 3000 then M g 3 else 3000) (by split <;> omega)
            have y_v3 : 1 ≤ v ∧ v ≤ M g 3 ∧ v ≤ 3000 := by
              rw [← y_v]
              generalize z_atv y (if M g 3 < 3000 then M g 3 else 3000) = w at *
              split at y_v2 <;> omega
            refine z_top (v' := v) y_v ?_
            refine z_istore_8 dL_money_325 (Nat.le_of_ble_eq_true rfl) rfl ?_
            refine z_aload dL_money_327 rfl ?_
            refine z_iconst dL_money_329 ?_
            refine z_dup2 dL_money_330 rfl rfl ?_
            refine z_lld (R := 40) (j := 3) al_c (Or.inl (by decide)) (congrFun hE _) (by omega) (by omega) (Nat.le_of_ble_eq_true rfl) (by omega) dL_money_331 ?_
            refine z_iload dL_money_332 rfl ?_
            refine z_isub dL_money_334 ?_
            refine z_lst (R := 40) (j := 3) al_c (Or.inl (by decide)) (by omega) (by omega) (Nat.le_of_ble_eq_true rfl) (by omega) (by first | exact y_rb _ | omega | (exact hr _ _ (by decide))) dL_money_335 ?_
            refine z_rng fun hr => ?_
            refine z_aload dL_money_336 rfl ?_
            refine z_bipush dL_money_338 (by decide) ?_
            refine z_iload dL_money_340 rfl ?_
            refine z_imul dL_money_342 ?_
            refine z_dup2 dL_money_343 rfl rfl ?_
            refine z_lld (R := 40) (j := 14 + 6 * p) al_pe (Or.inl (by decide)) ((z_sM_ne _ _ _ (by omega)).trans (congrFun hE _)) (by omega) (by omega) (Nat.le_of_ble_eq_true rfl) (by omega) dL_money_344 ?_
            refine z_iload dL_money_345 rfl ?_
            refine z_iadd dL_money_347 ?_
            refine z_lst (R := 40) (j := 14 + 6 * p) al_pe (Or.inl (by decide)) (by omega) (by omega) (Nat.le_of_ble_eq_true rfl) (by omega) (by first | exact y_rb _ | omega | (exact hr _ _ (by decide))) dL_money_348 ?_
            refine z_rng fun hr => ?_
            refine z_aload dL_money_349 rfl ?_
            refine z_bipush dL_money_351 (by decide) ?_
            refine z_iload dL_money_353 rfl ?_
            refine z_imul dL_money_355 ?_
            refine z_iconst dL_money_356 ?_
            refine z_iadd dL_money_357 ?_
            refine z_dup2 dL_money_358 rfl rfl ?_
            refine z_lld (R := 40) (j := 14 + 6 * p + 1) al_pe (Or.inl (by decide)) ((z_sM_ne _ _ _ (by omega)).trans ((z_sM_ne _ _ _ (by omega)).trans (congrFun hE _))) (by omega) (by omega) (Nat.le_of_ble_eq_true rfl) (by omega) dL_money_359 ?_
            refine z_iload dL_money_360 rfl ?_
            refine z_iadd dL_money_362 ?_
            refine z_lst (R := 40) (j := 14 + 6 * p + 1) al_pe (Or.inl (by decide)) (by omega) (by omega) (Nat.le_of_ble_eq_true rfl) (by omega) (by first | exact y_rb _ | omega | (exact hr _ _ (by decide))) dL_money_363 ?_
            refine z_rng fun hr => ?_
            refine z_mem (M' := z_sR M 40 (z_o_advance (M g) p v)) (by simp only [z_sM_R, z_sR_R, z_sR_self]; rw [hE]; first | rfl | (congr 1; unfold z_o_advance; funext j; simp only [z_uf]; (repeat' split) <;> first | rfl | omega)) ?_
            have y_lc : z_LC (z_sR M 40 (z_o_advance (M g) p v)) g N := z_LC_sR h.1 (by decide)
            have y_g : z_sR M 40 (z_o_advance (M g) p v) g = M g := z_sR_ne _ _ (by omega)
            have y_40 : z_sR M 40 (z_o_advance (M g) p v) 40 = z_o_advance (M g) p v := z_sR_self _ _ _
            refine z_rng fun hr => ?_
            generalize z_sR M 40 (z_o_advance (M g) p v) = M2 at *
            obtain ⟨-, hn', hn0', s0', s1', ho', hb'⟩ := id y_lc
            have y_hc : z_c_advance (M g) p v = 0 := by unfold z_c_advance; rw [if_neg (by omega), if_neg (by omega), if_neg (by omega)]
            have y_k := z_k_advance hb hN y_hc
            have y_ov : z_o_advance (M g) p v (14 + 6 * p + 1) = M g (14 + 6 * p + 1) + v := z_uf_self _ _ _
            refine z_aloadn dL_money_364 rfl ?_
            refine z_iload dL_money_365 rfl ?_
            refine z_iload dL_money_367 rfl ?_
            refine kL_96 (tX6_advance hg hn' hn0' s0' s1' ho' hb' (x := p) (a := v) (by omega) (by omega) (by rw [y_g]; exact y_hc)) rfl ⟨(Nat.le_of_ble_eq_true rfl), (Nat.le_of_ble_eq_true rfl)⟩ (Nat.le_of_ble_eq_true rfl) dL_money_369 ?_
            refine z_rng fun hr => ?_
            refine z_top (v' := M g (14 + 6 * p + 1) + v) (by rw [y_g]) ?_
            refine z_aload dL_money_372 rfl ?_
            refine z_bipush dL_money_374 (by decide) ?_
            refine z_iload dL_money_376 rfl ?_
            refine z_imul dL_money_378 ?_
            refine z_iconst dL_money_379 ?_
            refine z_iadd dL_money_380 ?_
            refine z_lld (R := 40) (j := 14 + 6 * p + 1) al_pe (Or.inl (by decide)) ((congrFun (z_sR_ne _ _ (by omega)) _).trans ((congrFun (z_SC_row (by decide) (by omega)) _).trans ((congrFun y_40 _).trans y_ov))) (by omega) (by omega) (Nat.le_of_ble_eq_true rfl) (by omega) dL_money_381 ?_
            refine z_icmp_ne (tgt := 389) (by first | exact y_rb _ | omega | (exact hr _ _ (by decide))) (by first | exact y_rb _ | omega | (exact hr _ _ (by decide))) dL_money_382 (by decide) (fun h382 => ?_) (fun h382 => ?_)
            · exfalso; omega
            · refine z_iconst dL_money_385 ?_
              refine z_goto (tgt := 390) dL_money_386 (by decide) ?_
              exact z_zretP dL_money_390 rfl (by rw [y_g]; exact z_PS_sv y_lc y_40 y_k (by unfold z_o_advance; simp only [z_uf]; (repeat' split) <;> omega) (by unfold z_o_advance; simp only [z_uf]; (repeat' split) <;> omega))
          · refine z_aload dL_money_311 rfl ?_
            refine z_iconst dL_money_313 ?_
            refine z_lld (R := 40) (j := 3) al_c (Or.inl (by decide)) (congrFun hE _) (by omega) (by omega) (Nat.le_of_ble_eq_true rfl) (by omega) dL_money_314 ?_
            refine z_goto (tgt := 321) dL_money_315 (by decide) ?_
            refine z_top (v' := if M g 3 < 3000 then M g 3 else 3000) (by first | rw [if_pos (by omega)] | rw [if_neg (by omega)]) ?_
            refine kL_65 (tL_at (by split <;> omega) (by split <;> omega)) rfl ⟨(Nat.le_of_ble_eq_true rfl), (Nat.le_of_ble_eq_true rfl)⟩ (Nat.le_of_ble_eq_true rfl) dL_money_321 ?_
            refine z_iadd dL_money_324 ?_
            obtain ⟨v, y_v⟩ : ∃ v, 1 + z_atv y (if M g 3 < 3000 then M g 3 else 3000) = v := ⟨_, rfl⟩
            have y_v2 := z_atv_rg (x := y) (n := if M g 3 < 3000 then M g 3 else 3000) (by split <;> omega)
            have y_v3 : 1 ≤ v ∧ v ≤ M g 3 ∧ v ≤ 3000 := by
              rw [← y_v]
              generalize z_atv y (if M g 3 < 3000 then M g 3 else 3000) = w at *
              split at y_v2 <;> omega
            refine z_top (v' := v) y_v ?_
            refine z_istore_8 dL_money_325 (Nat.le_of_ble_eq_true rfl) rfl ?_
            refine z_aload dL_money_327 rfl ?_
            refine z_iconst dL_money_329 ?_
            refine z_dup2 dL_money_330 rfl rfl ?_
            refine z_lld (R := 40) (j := 3) al_c (Or.inl (by decide)) (congrFun hE _) (by omega) (by omega) (Nat.le_of_ble_eq_true rfl) (by omega) dL_money_331 ?_
            refine z_iload dL_money_332 rfl ?_
            refine z_isub dL_money_334 ?_
            refine z_lst (R := 40) (j := 3) al_c (Or.inl (by decide)) (by omega) (by omega) (Nat.le_of_ble_eq_true rfl) (by omega) (by first | exact y_rb _ | omega | (exact hr _ _ (by decide))) dL_money_335 ?_
            refine z_rng fun hr => ?_
            refine z_aload dL_money_336 rfl ?_
            refine z_bipush dL_money_338 (by decide) ?_
            refine z_iload dL_money_340 rfl ?_
            refine z_imul dL_money_342 ?_
            refine z_dup2 dL_money_343 rfl rfl ?_
            refine z_lld (R := 40) (j := 14 + 6 * p) al_pe (Or.inl (by decide)) ((z_sM_ne _ _ _ (by omega)).trans (congrFun hE _)) (by omega) (by omega) (Nat.le_of_ble_eq_true rfl) (by omega) dL_money_344 ?_
            refine z_iload dL_money_345 rfl ?_
            refine z_iadd dL_money_347 ?_
            refine z_lst (R := 40) (j := 14 + 6 * p) al_pe (Or.inl (by decide)) (by omega) (by omega) (Nat.le_of_ble_eq_true rfl) (by omega) (by first | exact y_rb _ | omega | (exact hr _ _ (by decide))) dL_money_348 ?_
            refine z_rng fun hr => ?_
            refine z_aload dL_money_349 rfl ?_
            refine z_bipush dL_money_351 (by decide) ?_
            refine z_iload dL_money_353 rfl ?_
            refine z_imul dL_money_355 ?_
            refine z_iconst dL_money_356 ?_
            refine z_iadd dL_money_357 ?_
            refine z_dup2 dL_money_358 rfl rfl ?_
            refine z_lld (R := 40) (j := 14 + 6 * p + 1) al_pe (Or.inl (by decide)) ((z_sM_ne _ _ _ (by omega)).trans ((z_sM_ne _ _ _ (by omega)).trans (congrFun hE _))) (by omega) (by omega) (Nat.le_of_ble_eq_true rfl) (by omega) dL_money_359 ?_
            refine z_iload dL_money_360 rfl ?_
            refine z_iadd dL_money_362 ?_
            refine z_lst (R := 40) (j := 14 + 6 * p + 1) al_pe (Or.inl (by decide)) (by omega) (by omega) (Nat.le_of_ble_eq_true rfl) (by omega) (by first | exact y_rb _ | omega | (exact hr _ _ (by decide))) dL_money_363 ?_
            refine z_rng fun hr => ?_
            refine z_mem (M' := z_sR M 40 (z_o_advance (M g) p v)) (by simp only [z_sM_R, z_sR_R, z_sR_self]; rw [hE]; first | rfl | (congr 1; unfold z_o_advance; funext j; simp only [z_uf]; (repeat' split) <;> first | rfl | omega)) ?_
            have y_lc : z_LC (z_sR M 40 (z_o_advance (M g) p v)) g N := z_LC_sR h.1 (by decide)
            have y_g : z_sR M 40 (z_o_advance (M g) p v) g = M g := z_sR_ne _ _ (by omega)
            have y_40 : z_sR M 40 (z_o_advance (M g) p v) 40 = z_o_advance (M g) p v := z_sR_self _ _ _
            refine z_rng fun hr => ?_
            generalize z_sR M 40 (z_o_advance (M g) p v) = M2 at *
            obtain ⟨-, hn', hn0', s0', s1', ho', hb'⟩ := id y_lc
            have y_hc : z_c_advance (M g) p v = 0 := by unfold z_c_advance; rw [if_neg (by omega), if_neg (by omega), if_neg (by omega)]
            have y_k := z_k_advance hb hN y_hc
            have y_ov : z_o_advance (M g) p v (14 + 6 * p + 1) = M g (14 + 6 * p + 1) + v := z_uf_self _ _ _
            refine z_aloadn dL_money_364 rfl ?_
            refine z_iload dL_money_365 rfl ?_
            refine z_iload dL_money_367 rfl ?_
            refine kL_96 (tX6_advance hg hn' hn0' s0' s1' ho' hb' (x := p) (a := v) (by omega) (by omega) (by rw [y_g]; exact y_hc)) rfl ⟨(Nat.le_of_ble_eq_true rfl), (Nat.le_of_ble_eq_true rfl)⟩ (Nat.le_of_ble_eq_true rfl) dL_money_369 ?_
            refine z_rng fun hr => ?_
            refine z_top (v' := M g (14 + 6 * p + 1) + v) (by rw [y_g]) ?_
            refine z_aload dL_money_372 rfl ?_
            refine z_bipush dL_money_374 (by decide) ?_
            refine z_iload dL_money_376 rfl ?_
            refine z_imul dL_money_378 ?_
            refine z_iconst dL_money_379 ?_
            refine z_iadd dL_money_380 ?_
            refine z_lld (R := 40) (j := 14 + 6 * p + 1) al_pe (Or.inl (by decide)) ((congrFun (z_sR_ne _ _ (by omega)) _).trans ((congrFun (z_SC_row (by decide) (by omega)) _).trans ((congrFun y_40 _).trans y_ov))) (by omega) (by omega) (Nat.le_of_ble_eq_true rfl) (by omega) dL_money_381 ?_
            refine z_icmp_ne (tgt := 389) (by first | exact y_rb _ | omega | (exact hr _ _ (by decide))) (by first | exact y_rb _ | omega | (exact hr _ _ (by decide))) dL_money_382 (by decide) (fun h382 => ?_) (fun h382 => ?_)
            · exfalso; omega
            · refine z_iconst dL_money_385 ?_
              refine z_goto (tgt := 390) dL_money_386 (by decide) ?_
              exact z_zretP dL_money_390 rfl (by rw [y_g]; exact z_PS_sv y_lc y_40 y_k (by unfold z_o_advance; simp only [z_uf]; (repeat' split) <;> omega) (by unfold z_o_advance; simp only [z_uf]; (repeat' split) <;> omega))
        · refine z_iconst dL_money_297 ?_
          exact z_zretP dL_money_298 rfl (z_PS_id h hN)
    · exact absurd h151 (by decide)
  · exact absurd h23 (by decide)
theorem tL_money3 {G : z_G} {M : z_M} {g : Nat} {N x y : Int} (h : z_LR M g N) (hN : N + 1 ≤ 600) (b0 : 0 < M g 0) : z_ConP G yL_money cL_money 10 (some .boolean) 8 148 0 0 [.ref (z_ad G 0 20), z_I 3, z_I x, z_I y, .ref (z_ad G 0 40), .ref (z_ad G 0 46)] M (some (z_I 1)) (z_PS M N) := by
  refine z_conP (ls := [some (.ref (z_ad G 0 20)), some (z_I 3), some (z_I x), some (z_I y), some (.ref (z_ad G 0 40)), some (.ref (z_ad G 0 46)), none, none, none, none]) (by decide +kernel) (Nat.le_of_ble_eq_true rfl) rfl ?_
  intro Z
  refine z_rng fun hr => ?_
  have h0 := h
  obtain ⟨⟨hg, hn, hn0, s0, s1, ho, hb⟩, hE, h4, h5⟩ := h0
  have hh := z_BI_h hb
  have y_rb : ∀ i, z_rg (M g i) := fun i => hr g i (by omega)
  have hq7 := z_sg_lt g
  refine z_iloadn dL_money_0 rfl ?_
  refine z_aload dL_money_1 rfl ?_
  refine z_iconst dL_money_3 ?_
  refine z_lld (R := 40) (j := 0) al_c (Or.inl (by decide)) (congrFun hE _) (by omega) (by omega) (Nat.le_of_ble_eq_true rfl) (by omega) dL_money_4 ?_
  refine kL_65 (tL_at (by omega) (by omega)) rfl ⟨(Nat.le_of_ble_eq_true rfl), (Nat.le_of_ble_eq_true rfl)⟩ (Nat.le_of_ble_eq_true rfl) dL_money_5 ?_
  obtain ⟨p, y_p⟩ : ∃ p, z_atv x (M g 0) = p := ⟨_, rfl⟩
  have y_p2 := z_atv_rg (x := x) (n := M g 0) b0
  rw [y_p] at y_p2
  refine z_top (v' := p) (y_p) ?_
  refine z_istore_6 dL_money_8 (Nat.le_of_ble_eq_true rfl) rfl ?_
  refine z_iloadn dL_money_10 rfl ?_
  refine z_iconst dL_money_11 ?_
  refine z_ishr (z_ivE _) dL_money_12 ?_
  refine z_aload dL_money_13 rfl ?_
  refine z_iconst dL_money_15 ?_
  refine z_lld (R := 40) (j := 0) al_c (Or.inl (by decide)) (congrFun hE _) (by omega) (by omega) (Nat.le_of_ble_eq_true rfl) (by omega) dL_money_16 ?_
  refine kL_65 (tL_at (by omega) (by omega)) rfl ⟨(Nat.le_of_ble_eq_true rfl), (Nat.le_of_ble_eq_true rfl)⟩ (Nat.le_of_ble_eq_true rfl) dL_money_17 ?_
  obtain ⟨q, y_q⟩ : ∃ q, z_atv (z_iv (Int32.ofInt x >>> (Int32.ofInt 3 &&& 31))) (M g 0) = q := ⟨_, rfl⟩
  have y_q2 := z_atv_rg (x := z_iv (Int32.ofInt x >>> (Int32.ofInt 3 &&& 31))) (n := M g 0) b0
  rw [y_q] at y_q2
  have f_p := z_BI_P hb p y_p2.1 (by omega)
  have f_q := z_BI_P hb q y_q2.1 (by omega)
  unfold z_PI at f_p f_q
  have f_bp := z_BI_bal hb (p := p) y_p2.1 (by omega)
  have f_bq := z_BI_bal hb (p := q) y_q2.1 (by omega)
  have f_po := z_BI_one hb (p := p) (w := 5) (Or.inr rfl) y_p2.1 (by omega)
  have f_res := z_BI_res hb
  refine z_top (v' := q) (y_q) ?_
  refine z_istore_7 dL_money_20 (Nat.le_of_ble_eq_true rfl) rfl ?_
  refine z_iloadn dL_money_22 rfl ?_
  refine z_if_ne (tgt := 149) (by first | exact y_rb _ | omega | (exact hr _ _ (by decide))) dL_money_23 (by decide) (fun h23 => ?_) (fun h23 => ?_)
  · refine z_iloadn dL_money_149 rfl ?_
    refine z_iconst dL_money_150 ?_
    refine z_icmp_ne (tgt := 285) (by first | exact y_rb _ | omega | (exact hr _ _ (by decide))) (by first | exact y_rb _ | omega | (exact hr _ _ (by decide))) dL_money_151 (by decide) (fun h151 => ?_) (fun h151 => ?_)
    · refine z_iloadn dL_money_285 rfl ?_
      refine z_iconst dL_money_286 ?_
      refine z_icmp_ne (tgt := 391) (by first | exact y_rb _ | omega | (exact hr _ _ (by decide))) (by first | exact y_rb _ | omega | (exact hr _ _ (by decide))) dL_money_287 (by decide) (fun h287 => ?_) (fun h287 => ?_)
      · refine z_aload dL_money_391 rfl ?_
        refine z_bipush dL_money_393 (by decide) ?_
        refine z_iload dL_money_395 rfl ?_
        refine z_imul dL_money_397 ?_
        refine z_lld (R := 40) (j := 14 + 6 * p) al_pe (Or.inl (by decide)) (congrFun hE _) (by omega) (by omega) (Nat.le_of_ble_eq_true rfl) (by omega) dL_money_398 ?_
        refine z_if_ne (tgt := 404) (by first | exact y_rb _ | omega | (exact hr _ _ (by decide))) dL_money_399 (by decide) (fun h399 => ?_) (fun h399 => ?_)
        · refine z_iconst dL_money_404 ?_
          refine z_iloadn dL_money_405 rfl ?_
          refine z_aload dL_money_406 rfl ?_
          refine z_bipush dL_money_408 (by decide) ?_
          refine z_iload dL_money_410 rfl ?_
          refine z_imul dL_money_412 ?_
          refine z_lld (R := 40) (j := 14 + 6 * p) al_pe (Or.inl (by decide)) (congrFun hE _) (by omega) (by omega) (Nat.le_of_ble_eq_true rfl) (by omega) dL_money_413 ?_
          refine z_sipush dL_money_414 (by decide) ?_
          refine z_icmp_ge (tgt := 431) (by first | exact y_rb _ | omega | (exact hr _ _ (by decide))) (by first | exact y_rb _ | omega | (exact hr _ _ (by decide))) dL_money_417 (by decide) (fun h417 => ?_) (fun h417 => ?_)
          · refine z_sipush dL_money_431 (by decide) ?_
            refine z_top (v' := if M g (14 + 6 * p) < 3000 then M g (14 + 6 * p) else 3000) (by first | rw [if_pos (by omega)] | rw [if_neg (by omega)]) ?_
            refine kL_65 (tL_at (by split <;> omega) (by split <;> omega)) rfl ⟨(Nat.le_of_ble_eq_true rfl), (Nat.le_of_ble_eq_true rfl)⟩ (Nat.le_of_ble_eq_true rfl) dL_money_434 ?_
            refine z_iadd dL_money_437 ?_
            obtain ⟨v, y_v⟩ : ∃ v, 1 + z_atv y (if M g (14 + 6 * p) < 3000 then M g (14 + 6 * p) else 3000) = v := ⟨_, rfl⟩
            have y_v2 := z_atv_rg (x := y) (n := if M g (14 + 6 * p) < 3000 then M g (14 + 6 * p) else 3000) (by split <;> omega)
            have y_v3 : 1 ≤ v ∧ v ≤ M g (14 + 6 * p) ∧ v ≤ 3000 := by
              rw [← y_v]
              generalize z_atv y (if M g (14 + 6 * p) < 3000 then M g (14 + 6 * p) else 3000) = w at *
              split at y_v2 <;> omega
            refine z_top (v' := v) y_v ?_
            refine z_istore_8 dL_money_438 (Nat.le_of_ble_eq_true rfl) rfl ?_
            refine z_aload dL_money_440 rfl ?_
            refine z_bipush dL_money_442 (by decide) ?_
            refine z_iload dL_money_444 rfl ?_
            refine z_imul dL_money_446 ?_
            refine z_dup2 dL_money_447 rfl rfl ?_
            refine z_lld (R := 40) (j := 14 + 6 * p) al_pe (Or.inl (by decide)) (congrFun hE _) (by omega) (by omega) (Nat.le_of_ble_eq_true rfl) (by omega) dL_money_448 ?_
            refine z_iload dL_money_449 rfl ?_
            refine z_isub dL_money_451 ?_
            refine z_lst (R := 40) (j := 14 + 6 * p) al_pe (Or.inl (by decide)) (by omega) (by omega) (Nat.le_of_ble_eq_true rfl) (by omega) (by first | exact y_rb _ | omega | (exact hr _ _ (by decide))) dL_money_452 ?_
            refine z_rng fun hr => ?_
            refine z_aload dL_money_453 rfl ?_
            refine z_bipush dL_money_455 (by decide) ?_
            refine z_iload dL_money_457 rfl ?_
            refine z_imul dL_money_459 ?_
            refine z_iconst dL_money_460 ?_
            refine z_iadd dL_money_461 ?_
            refine z_dup2 dL_money_462 rfl rfl ?_
            refine z_lld (R := 40) (j := 14 + 6 * p + 5) al_pe (Or.inl (by decide)) ((z_sM_ne _ _ _ (by omega)).trans (congrFun hE _)) (by omega) (by omega) (Nat.le_of_ble_eq_true rfl) (by omega) dL_money_463 ?_
            refine z_iload dL_money_464 rfl ?_
            refine z_iadd dL_money_466 ?_
            refine z_lst (R := 40) (j := 14 + 6 * p + 5) al_pe (Or.inl (by decide)) (by omega) (by omega) (Nat.le_of_ble_eq_true rfl) (by omega) (by first | exact y_rb _ | omega | (exact hr _ _ (by decide))) dL_money_467 ?_
            refine z_rng fun hr => ?_
            refine z_aload dL_money_468 rfl ?_
            refine z_iconst dL_money_470 ?_
            refine z_dup2 dL_money_471 rfl rfl ?_
            refine z_lld (R := 40) (j := 5) al_c (Or.inl (by decide)) ((z_sM_ne _ _ _ (by omega)).trans ((z_sM_ne _ _ _ (by omega)).trans (congrFun hE _))) (by omega) (by omega) (Nat.le_of_ble_eq_true rfl) (by omega) dL_money_472 ?_
            refine z_iload dL_money_473 rfl ?_
            refine z_iadd dL_money_475 ?_
            refine z_lst (R := 40) (j := 5) al_c (Or.inl (by decide)) (by omega) (by omega) (Nat.le_of_ble_eq_true rfl) (by omega) (by first | exact y_rb _ | omega | (exact hr _ _ (by decide))) dL_money_476 ?_
            refine z_rng fun hr => ?_
            refine z_mem (M' := z_sR M 40 (z_o_withdraw (M g) p v)) (by simp only [z_sM_R, z_sR_R, z_sR_self]; rw [hE]; first | rfl | (congr 1; unfold z_o_withdraw; funext j; simp only [z_uf]; (repeat' split) <;> first | rfl | omega)) ?_
            have y_lc : z_LC (z_sR M 40 (z_o_withdraw (M g) p v)) g N := z_LC_sR h.1 (by decide)
            have y_g : z_sR M 40 (z_o_withdraw (M g) p v) g = M g := z_sR_ne _ _ (by omega)
            have y_40 : z_sR M 40 (z_o_withdraw (M g) p v) 40 = z_o_withdraw (M g) p v := z_sR_self _ _ _
            refine z_rng fun hr => ?_
            generalize z_sR M 40 (z_o_withdraw (M g) p v) = M2 at *
            obtain ⟨-, hn', hn0', s0', s1', ho', hb'⟩ := id y_lc
            have y_hc : z_c_withdraw (M g) p v = 0 := by unfold z_c_withdraw; rw [if_neg (by omega), if_neg (by omega), if_neg (by omega)]
            have y_k := z_k_withdraw hb hN y_hc
            have y_ov : z_o_withdraw (M g) p v (14 + 6 * p) = M g (14 + 6 * p) - v := (z_uf_ne _ _ (by omega)).trans ((z_uf_ne _ _ (by omega)).trans (z_uf_self _ _ _))
            refine z_aloadn dL_money_477 rfl ?_
            refine z_iload dL_money_478 rfl ?_
            refine z_iload dL_money_480 rfl ?_
            refine kL_99 (tX6_withdraw hg hn' hn0' s0' s1' ho' hb' (x := p) (a := v) (by omega) (by omega) (by rw [y_g]; exact y_hc)) rfl ⟨(Nat.le_of_ble_eq_true rfl), (Nat.le_of_ble_eq_true rfl)⟩ (Nat.le_of_ble_eq_true rfl) dL_money_482 ?_
            refine z_rng fun hr => ?_
            refine z_top (v' := M g (14 + 6 * p) - v) (by rw [y_g]) ?_
            refine z_aload dL_money_485 rfl ?_
            refine z_bipush dL_money_487 (by decide) ?_
            refine z_iload dL_money_489 rfl ?_
            refine z_imul dL_money_491 ?_
            refine z_lld (R := 40) (j := 14 + 6 * p) al_pe (Or.inl (by decide)) ((congrFun (z_sR_ne _ _ (by omega)) _).trans ((congrFun (z_SC_row (by decide) (by omega)) _).trans ((congrFun y_40 _).trans y_ov))) (by omega) (by omega) (Nat.le_of_ble_eq_true rfl) (by omega) dL_money_492 ?_
            refine z_icmp_ne (tgt := 500) (by first | exact y_rb _ | omega | (exact hr _ _ (by decide))) (by first | exact y_rb _ | omega | (exact hr _ _ (by decide))) dL_money_493 (by decide) (fun h493 => ?_) (fun h493 => ?_)
            · exfalso; omega
            · refine z_iconst dL_money_496 ?_
              refine z_goto (tgt := 501) dL_money_497 (by decide) ?_
              exact z_zretP dL_money_501 rfl (by rw [y_g]; exact z_PS_sv y_lc y_40 y_k (by unfold z_o_withdraw; simp only [z_uf]; (repeat' split) <;> omega) (by unfold z_o_withdraw; simp only [z_uf]; (repeat' split) <;> omega))
          · refine z_aload dL_money_420 rfl ?_
            refine z_bipush dL_money_422 (by decide) ?_
            refine z_iload dL_money_424 rfl ?_
            refine z_imul dL_money_426 ?_
            refine z_lld (R := 40) (j := 14 + 6 * p) al_pe (Or.inl (by decide)) (congrFun hE _) (by omega) (by omega) (Nat.le_of_ble_eq_true rfl) (by omega) dL_money_427 ?_
            refine z_goto (tgt := 434) dL_money_428 (by decide) ?_
            refine z_top (v' := if M g (14 + 6 * p) < 3000 then M g (14 + 6 * p) else 3000) (by first | rw [if_pos (by omega)] | rw [if_neg (by omega)]) ?_
            refine kL_65 (tL_at (by split <;> omega) (by split <;> omega)) rfl ⟨(Nat.le_of_ble_eq_true rfl), (Nat.le_of_ble_eq_true rfl)⟩ (Nat.le_of_ble_eq_true rfl) dL_money_434 ?_
            refine z_iadd dL_money_437 ?_
            obtain ⟨v, y_v⟩ : ∃ v, 1 + z_atv y (if M g (14 + 6 * p) < 3000 then M g (14 + 6 * p) else 3000) = v := ⟨_, rfl⟩
            have y_v2 := z_atv_rg (x := y) (n := if M g (14 + 6 * p) < 3000 then M g (14 + 6 * p) else 3000) (by split <;> omega)
            have y_v3 : 1 ≤ v ∧ v ≤ M g (14 + 6 * p) ∧ v ≤ 3000 := by
              rw [← y_v]
              generalize z_atv y (if M g (14 + 6 * p) < 3000 then M g (14 + 6 * p) else 3000) = w at *
              split at y_v2 <;> omega
            refine z_top (v' := v) y_v ?_
            refine z_istore_8 dL_money_438 (Nat.le_of_ble_eq_true rfl) rfl ?_
            refine z_aload dL_money_440 rfl ?_
            refine z_bipush dL_money_442 (by decide) ?_
            refine z_iload dL_money_444 rfl ?_
            refine z_imul dL_money_446 ?_
            refine z_dup2 dL_money_447 rfl rfl ?_
            refine z_lld (R := 40) (j := 14 + 6 * p) al_pe (Or.inl (by decide)) (congrFun hE _) (by omega) (by omega) (Nat.le_of_ble_eq_true rfl) (by omega) dL_money_448 ?_
            refine z_iload dL_money_449 rfl ?_
            refine z_isub dL_money_451 ?_
            refine z_lst (R := 40) (j := 14 + 6 * p) al_pe (Or.inl (by decide)) (by omega) (by omega) (Nat.le_of_ble_eq_true rfl) (by omega) (by first | exact y_rb _ | omega | (exact hr _ _ (by decide))) dL_money_452 ?_
            refine z_rng fun hr => ?_
            refine z_aload dL_money_453 rfl ?_
            refine z_bipush dL_money_455 (by decide) ?_
            refine z_iload dL_money_457 rfl ?_
            refine z_imul dL_money_459 ?_
            refine z_iconst dL_money_460 ?_
            refine z_iadd dL_money_461 ?_
            refine z_dup2 dL_money_462 rfl rfl ?_
            refine z_lld (R := 40) (j := 14 + 6 * p + 5) al_pe (Or.inl (by decide)) ((z_sM_ne _ _ _ (by omega)).trans (congrFun hE _)) (by omega) (by omega) (Nat.le_of_ble_eq_true rfl) (by omega) dL_money_463 ?_
            refine z_iload dL_money_464 rfl ?_
            refine z_iadd dL_money_466 ?_
            refine z_lst (R := 40) (j := 14 + 6 * p + 5) al_pe (Or.inl (by decide)) (by omega) (by omega) (Nat.le_of_ble_eq_true rfl) (by omega) (by first | exact y_rb _ | omega | (exact hr _ _ (by decide))) dL_money_467 ?_
            refine z_rng fun hr => ?_
            refine z_aload dL_money_468 rfl ?_
            refine z_iconst dL_money_470 ?_
            refine z_dup2 dL_money_471 rfl rfl ?_
            refine z_lld (R := 40) (j := 5) al_c (Or.inl (by decide)) ((z_sM_ne _ _ _ (by omega)).trans ((z_sM_ne _ _ _ (by omega)).trans (congrFun hE _))) (by omega) (by omega) (Nat.le_of_ble_eq_true rfl) (by omega) dL_money_472 ?_
            refine z_iload dL_money_473 rfl ?_
            refine z_iadd dL_money_475 ?_
            refine z_lst (R := 40) (j := 5) al_c (Or.inl (by decide)) (by omega) (by omega) (Nat.le_of_ble_eq_true rfl) (by omega) (by first | exact y_rb _ | omega | (exact hr _ _ (by decide))) dL_money_476 ?_
            refine z_rng fun hr => ?_
            refine z_mem (M' := z_sR M 40 (z_o_withdraw (M g) p v)) (by simp only [z_sM_R, z_sR_R, z_sR_self]; rw [hE]; first | rfl | (congr 1; unfold z_o_withdraw; funext j; simp only [z_uf]; (repeat' split) <;> first | rfl | omega)) ?_
            have y_lc : z_LC (z_sR M 40 (z_o_withdraw (M g) p v)) g N := z_LC_sR h.1 (by decide)
            have y_g : z_sR M 40 (z_o_withdraw (M g) p v) g = M g := z_sR_ne _ _ (by omega)
            have y_40 : z_sR M 40 (z_o_withdraw (M g) p v) 40 = z_o_withdraw (M g) p v := z_sR_self _ _ _
            refine z_rng fun hr => ?_
            generalize z_sR M 40 (z_o_withdraw (M g) p v) = M2 at *
            obtain ⟨-, hn', hn0', s0', s1', ho', hb'⟩ := id y_lc
            have y_hc : z_c_withdraw (M g) p v = 0 := by unfold z_c_withdraw; rw [if_neg (by omega), if_neg (by omega), if_neg (by omega)]
            have y_k := z_k_withdraw hb hN y_hc
            have y_ov : z_o_withdraw (M g) p v (14 + 6 * p) = M g (14 + 6 * p) - v := (z_uf_ne _ _ (by omega)).trans ((z_uf_ne _ _ (by omega)).trans (z_uf_self _ _ _))
            refine z_aloadn dL_money_477 rfl ?_
            refine z_iload dL_money_478 rfl ?_
            refine z_iload dL_money_480 rfl ?_
            refine kL_99 (tX6_withdraw hg hn' hn0' s0' s1' ho' hb' (x := p) (a := v) (by omega) (by omega) (by rw [y_g]; exact y_hc)) rfl ⟨(Nat.le_of_ble_eq_true rfl), (Nat.le_of_ble_eq_true rfl)⟩ (Nat.le_of_ble_eq_true rfl) dL_money_482 ?_
            refine z_rng fun hr => ?_
            refine z_top (v' := M g (14 + 6 * p) - v) (by rw [y_g]) ?_
            refine z_aload dL_money_485 rfl ?_
            refine z_bipush dL_money_487 (by decide) ?_
            refine z_iload dL_money_489 rfl ?_
            refine z_imul dL_money_491 ?_
            refine z_lld (R := 40) (j := 14 + 6 * p) al_pe (Or.inl (by decide)) ((congrFun (z_sR_ne _ _ (by omega)) _).trans ((congrFun (z_SC_row (by decide) (by omega)) _).trans ((congrFun y_40 _).trans y_ov))) (by omega) (by omega) (Nat.le_of_ble_eq_true rfl) (by omega) dL_money_492 ?_
            refine z_icmp_ne (tgt := 500) (by first | exact y_rb _ | omega | (exact hr _ _ (by decide))) (by first | exact y_rb _ | omega | (exact hr _ _ (by decide))) dL_money_493 (by decide) (fun h493 => ?_) (fun h493 => ?_)
            · exfalso; omega
            · refine z_iconst dL_money_496 ?_
              refine z_goto (tgt := 501) dL_money_497 (by decide) ?_
              exact z_zretP dL_money_501 rfl (by rw [y_g]; exact z_PS_sv y_lc y_40 y_k (by unfold z_o_withdraw; simp only [z_uf]; (repeat' split) <;> omega) (by unfold z_o_withdraw; simp only [z_uf]; (repeat' split) <;> omega))
        · refine z_iconst dL_money_402 ?_
          exact z_zretP dL_money_403 rfl (z_PS_id h hN)
      · exact absurd h287 (by decide)
    · exact absurd h151 (by decide)
  · exact absurd h23 (by decide)
