/-! ===== calls with room used ===== -/
theorem wk_aI : Cond.arrayClass .int ∈ z_W := z_wi 86 (by decide +kernel) (by decide +kernel)
section ZLJ
variable {G : z_G} {Z : z_Z} {d : z_Md} {Q : State → Prop} {pc : Nat} {ls : List (Option Value)} {rest : List Value} {M M1 : z_M} {k n : Nat}
theorem jL_55 {a1 : Value} {r : Int} (hC : KX6_count G [.ref (z_ad G 0 20), a1] M (.inl (some (z_I r))) M1) (ho : z_own d = RL) (hfit : z_fit d 7 112 2) (hk : k ≤ (z_R d).cells ∧ n ≤ (z_R d).slots) (hcat : (rest.map fun v => v.category).sum ≤ 8) (hd : decode (z_cc d) pc = .ok (.invokevirtual 55, 3)) (kk : z_J G Z d Q (pc + 3) ls (z_I r :: rest) M1 k n) : z_J G Z d Q pc ls (a1 :: .ref (z_ad G 0 20) :: rest) M k n :=
  z_callV hC (by rw [ho]; exact wmL_55) wi_X6_count ws_X6_count wc_X6_count wn_X6 n_X6_count (Or.inl (by decide)) rfl rfl rfl rfl hfit hk hcat hd kk
theorem jL_65 {a1 a2 : Value} {r : Int} (hC : KL_at G [a1, a2] M (.inl (some (z_I r))) M1) (ho : z_own d = RL) (hfit : z_fit d 0 0 2) (hk : k ≤ (z_R d).cells ∧ n ≤ (z_R d).slots) (hcat : (rest.map fun v => v.category).sum ≤ 8) (hd : decode (z_cc d) pc = .ok (.invokestatic 65, 3)) (kk : z_J G Z d Q (pc + 3) ls (z_I r :: rest) M1 k n) : z_J G Z d Q pc ls (a2 :: a1 :: rest) M k n :=
  z_callS hC (by rw [ho]; exact wmL_65) wt_L_at wc_L_at wn_L n_L_at rfl rfl hfit hk hcat hd kk
theorem jL_68 {a1 a2 : Value} {r : Int} (hC : KX6_fairest G [.ref (z_ad G 0 20), a1, a2] M (.inl (some (z_I r))) M1) (ho : z_own d = RL) (hfit : z_fit d 7 123 3) (hk : k ≤ (z_R d).cells ∧ n ≤ (z_R d).slots) (hcat : (rest.map fun v => v.category).sum ≤ 8) (hd : decode (z_cc d) pc = .ok (.invokevirtual 68, 3)) (kk : z_J G Z d Q (pc + 3) ls (z_I r :: rest) M1 k n) : z_J G Z d Q pc ls (a2 :: a1 :: .ref (z_ad G 0 20) :: rest) M k n :=
  z_callV hC (by rw [ho]; exact wmL_68) wi_X6_fairest ws_X6_fairest wc_X6_fairest wn_X6 n_X6_fairest (Or.inl (by decide)) rfl rfl rfl rfl hfit hk hcat hd kk
theorem jL_71 {a1 a2 a3 : Value} {r : Int} (hC : KL_fair G [a1, a2, a3] M (.inl (some (z_I r))) M1) (ho : z_own d = RL) (hfit : z_fit d 1 21 13) (hk : k ≤ (z_R d).cells ∧ n ≤ (z_R d).slots) (hcat : (rest.map fun v => v.category).sum ≤ 8) (hd : decode (z_cc d) pc = .ok (.invokestatic 71, 3)) (kk : z_J G Z d Q (pc + 3) ls (z_I r :: rest) M1 k n) : z_J G Z d Q pc ls (a3 :: a2 :: a1 :: rest) M k n :=
  z_callS hC (by rw [ho]; exact wmL_71) wt_L_fair wc_L_fair wn_L n_L_fair rfl rfl hfit hk hcat hd kk
theorem jL_75 {a1 a2 : Value} (hC : KL_same G [a1, a2] M (.inl none) M1) (ho : z_own d = RL) (hfit : z_fit d 0 0 3) (hk : k ≤ (z_R d).cells ∧ n ≤ (z_R d).slots) (hcat : (rest.map fun v => v.category).sum ≤ 8) (hd : decode (z_cc d) pc = .ok (.invokestatic 75, 3)) (kk : z_J G Z d Q (pc + 3) ls (rest) M1 k n) : z_J G Z d Q pc ls (a2 :: a1 :: rest) M k n :=
  z_callS hC (by rw [ho]; exact wmL_75) wt_L_same wc_L_same wn_L n_L_same rfl rfl hfit hk hcat hd kk
theorem jL_79 {a1 a2 a3 a4 a5 a6 a7 a8 a9 : Value} {r : Int} (hC : KL_comes G [a1, a2, a3, a4, a5, a6, a7, a8, a9] M (.inl (some (z_I r))) M1) (ho : z_own d = RL) (hfit : z_fit d 2 50 16) (hk : k ≤ (z_R d).cells ∧ n ≤ (z_R d).slots) (hcat : (rest.map fun v => v.category).sum ≤ 8) (hd : decode (z_cc d) pc = .ok (.invokestatic 79, 3)) (kk : z_J G Z d Q (pc + 3) ls (z_I r :: rest) M1 k n) : z_J G Z d Q pc ls (a9 :: a8 :: a7 :: a6 :: a5 :: a4 :: a3 :: a2 :: a1 :: rest) M k n :=
  z_callS hC (by rw [ho]; exact wmL_79) wt_L_comes wc_L_comes wn_L n_L_comes rfl rfl hfit hk hcat hd kk
theorem jL_83 {a1 a2 a3 : Value} {r : Int} (hC : KX6_ifPaid G [.ref (z_ad G 0 20), a1, a2, a3] M (.inl (some (z_I r))) M1) (ho : z_own d = RL) (hfit : z_fit d 7 115 4) (hk : k ≤ (z_R d).cells ∧ n ≤ (z_R d).slots) (hcat : (rest.map fun v => v.category).sum ≤ 8) (hd : decode (z_cc d) pc = .ok (.invokevirtual 83, 3)) (kk : z_J G Z d Q (pc + 3) ls (z_I r :: rest) M1 k n) : z_J G Z d Q pc ls (a3 :: a2 :: a1 :: .ref (z_ad G 0 20) :: rest) M k n :=
  z_callV hC (by rw [ho]; exact wmL_83) wi_X6_ifPaid ws_X6_ifPaid wc_X6_ifPaid wn_X6 n_X6_ifPaid (Or.inl (by decide)) rfl rfl rfl rfl hfit hk hcat hd kk
theorem jL_86 {a1 a2 : Value} {r : Int} (hC : KX6_bestPiece G [.ref (z_ad G 0 20), a1, a2] M (.inl (some (z_I r))) M1) (ho : z_own d = RL) (hfit : z_fit d 7 137 3) (hk : k ≤ (z_R d).cells ∧ n ≤ (z_R d).slots) (hcat : (rest.map fun v => v.category).sum ≤ 8) (hd : decode (z_cc d) pc = .ok (.invokevirtual 86, 3)) (kk : z_J G Z d Q (pc + 3) ls (z_I r :: rest) M1 k n) : z_J G Z d Q pc ls (a2 :: a1 :: .ref (z_ad G 0 20) :: rest) M k n :=
  z_callV hC (by rw [ho]; exact wmL_86) wi_X6_bestPiece ws_X6_bestPiece wc_X6_bestPiece wn_X6 n_X6_bestPiece (Or.inl (by decide)) rfl rfl rfl rfl hfit hk hcat hd kk
theorem jL_149 {a1 a2 a3 a4 a5 a6 a7 a8 : Value} {r : Int} (hC : KL_told G [a1, a2, a3, a4, a5, a6, a7, a8] M (.inl (some (z_I r))) M1) (ho : z_own d = RL) (hfit : z_fit d 9 165 13) (hk : k ≤ (z_R d).cells ∧ n ≤ (z_R d).slots) (hcat : (rest.map fun v => v.category).sum ≤ 8) (hd : decode (z_cc d) pc = .ok (.invokestatic 149, 3)) (kk : z_J G Z d Q (pc + 3) ls (z_I r :: rest) M1 k n) : z_J G Z d Q pc ls (a8 :: a7 :: a6 :: a5 :: a4 :: a3 :: a2 :: a1 :: rest) M k n :=
  z_callS hC (by rw [ho]; exact wmL_149) wt_L_told wc_L_told wn_L n_L_told rfl rfl hfit hk hcat hd kk
theorem jL_153 {a1 a2 : Value} {r : Int} (hC : KL_cell G [a1, a2] M (.inl (some (z_I r))) M1) (ho : z_own d = RL) (hfit : z_fit d 0 0 2) (hk : k ≤ (z_R d).cells ∧ n ≤ (z_R d).slots) (hcat : (rest.map fun v => v.category).sum ≤ 8) (hd : decode (z_cc d) pc = .ok (.invokestatic 153, 3)) (kk : z_J G Z d Q (pc + 3) ls (z_I r :: rest) M1 k n) : z_J G Z d Q pc ls (a2 :: a1 :: rest) M k n :=
  z_callS hC (by rw [ho]; exact wmL_153) wt_L_cell wc_L_cell wn_L n_L_cell rfl rfl hfit hk hcat hd kk
end ZLJ
/-! ===== act; the copies that ahead makes ===== -/
theorem tL_act {G : z_G} {M : z_M} {g : Nat} {N a x y : Int} (h : z_LR M g N) (hN : N + 1 ≤ 600) (a0 : 0 ≤ a) (a1 : a ≤ 24) : z_ConP G yL_act cL_act 15 (some .boolean) 9 177 0 0 [.ref (z_ad G 0 20), z_I a, z_I x, z_I y, .ref (z_ad G 0 40), .ref (z_ad G 0 41), .ref (z_ad G 0 42), .ref (z_ad G 0 43), .ref (z_ad G 0 44), .ref (z_ad G 0 45), .ref (z_ad G 0 46)] M (some (z_I 1)) (z_PA M N a (M g 0)) := by
  have hh := z_BI_h h.1.2.2.2.2.2.2
  by_cases c0 : a = 0 ∨ M g 0 = 0
  · exact tL_act_pen h hN a0 a1 c0
  by_cases c1 : a = 1
  · exact tL_act_set h hN a0 a1 (by omega) c1
  by_cases c2 : a = 2
  · exact tL_act_year h hN a0 a1 (by omega) c2
  by_cases c3 : a < 7
  · exact tL_act_money h hN a0 a1 (by omega) ⟨by omega, c3⟩
  by_cases c4 : a < 9 ∨ M g 1 = 0
  · exact tL_act_order h hN a0 a1 (by omega) (by omega) c4
  by_cases c5 : a < 14
  · exact tL_act_draft h hN a0 a1 (by omega) ⟨by omega, c5⟩ (by omega)
  by_cases c6 : a = 14
  · exact tL_act_revise h hN a0 a1 (by omega) c6 (by omega)
  by_cases c7 : a < 17
  · exact tL_act_parts h hN a0 a1 (by omega) ⟨by omega, c7⟩ (by omega)
  by_cases c8 : a < 20
  · exact tL_act_accept h hN a0 a1 (by omega) ⟨by omega, c8⟩ (by omega)
  by_cases c9 : a = 20
  · exact tL_act_kill h hN a0 a1 (by omega) c9 (by omega)
  by_cases c10 : a < 24
  · exact tL_act_royalty h hN a0 a1 (by omega) ⟨by omega, c10⟩ (by omega)
  · exact tL_act_dispute h hN a0 a1 (by omega) (by omega) (by omega)
/-- the same, with the law's copies at a -/
def z_Gx (G : z_G) (a : Nat) : z_G := (G.1, G.2.1, G.2.2.1, G.2.2.2.1, G.2.2.2.2.1, G.2.2.2.2.2.1, G.2.2.2.2.2.2.1, G.2.2.2.2.2.2.2.1, a, G.2.2.2.2.2.2.2.2.2)
theorem z_ad_40 {G : z_G} {a g k : Nat} (h : k < 40) : z_ad (z_Gx G a) g k = z_ad G g k := by
  unfold z_ad
  rw [if_neg (by omega), if_neg (by omega)]
  rfl
theorem z_ad_bx {G : z_G} {a g k : Nat} (h : z_dmb g k) : z_ad (z_Gx G a) g k = z_ad G g k := (z_ad_b h).trans (z_ad_b (G := G) h).symm
theorem z_ob_40 {g k : Nat} {ci : Nat} {fs : List z_F} (h : z_ob g k = some (ci, fs)) (j : Nat) {a : Nat} {i : Int} (hf : fs[j]? = some (1, a, i)) : i < 40 := by
  have hm := List.mem_of_getElem? hf
  unfold z_ob at h
  split at h <;> cases h <;> simp only [List.mem_cons, Prod.mk.injEq, List.not_mem_nil, or_false] at hm <;> omega
theorem z_fv_x {G : z_G} {a : Nat} {M : z_M} {t b : Nat} {i : Int} (h : t = 1 → i < 40) : z_fv (z_Gx G a) M (t, b, i) = z_fv G M (t, b, i) := by
  match t, h with
  | 0, _ => rfl
  | 1, h =>
    show Value.ref (z_ad (z_Gx G a) b i.toNat) = Value.ref (z_ad G b i.toNat)
    rw [z_ad_40 (by have := h rfl; omega)]
  | 2, _ =>
    show Value.ref (z_ad (z_Gx G a) (M b i).toNat 0) = Value.ref (z_ad G (M b i).toNat 0)
    rw [z_ad_40 (by omega)]
  | _ + 3, _ => rfl
theorem z_hold_x {G : z_G} {a : Nat} {M : z_M} {H : Heap} {g k : Nat} (hd : z_dmb g k) : z_hold (z_Gx G a) M H g k ↔ z_hold G M H g k := by
  have ev : ∀ t b ix j, z_ev (z_Gx G a) M t b ix j = z_ev G M t b ix j := fun t b ix j => by
    unfold z_ev
    split
    · rfl
    · split
      · rfl
      · rw [z_ad_40 (by omega)]
  have fv : ∀ {ci : Nat} {fs : List z_F}, z_ob g k = some (ci, fs) → ∀ j, j < fs.length → z_fv (z_Gx G a) M (fs.getD j (0, 0, 0)) = z_fv G M (fs.getD j (0, 0, 0)) := fun ho j hj => by
    rename_i ci fs
    have e : fs[j]? = some fs[j] := List.getElem?_eq_getElem hj
    rw [z_fdat e]
    rcases hfj : fs[j] with ⟨t, b, i⟩
    exact z_fv_x fun ht => z_ob_40 ho j (a := b) (i := i) (by rw [e, hfj, ht])
  constructor
  · rintro ⟨h1, h2⟩
    refine ⟨fun ci fs ho => ?_, fun t b n ix hal => ?_⟩
    · have q := h1 ci fs ho
      rw [z_ad_bx hd] at q
      exact q.to fun j hj => fv ho j hj
    · have q := h2 t b n ix hal
      rw [z_ad_bx hd] at q
      rw [q]
      exact congrArg some (z_arrV_eq fun j _ => ev t b ix j)
  · rintro ⟨h1, h2⟩
    refine ⟨fun ci fs ho => ?_, fun t b n ix hal => ?_⟩
    · have q := h1 ci fs ho
      rw [z_ad_bx hd]
      exact q.to fun j hj => (fv ho j hj).symm
    · have q := h2 t b n ix hal
      rw [z_ad_bx hd, q]
      exact congrArg some (z_arrV_eq fun j _ => (ev t b ix j).symm)
theorem z_ow_41 {i : Int} {g k : Nat} (hd : z_dmb g k) : z_ow 41 i ≠ (g, k) := by
  intro h
  have e : z_ow 41 i = z_owl 1 i := rfl
  rw [e] at h
  unfold z_dmb at hd
  unfold z_owl at h
  (repeat' split at h) <;> (have h1 := congrArg Prod.fst h; have h2 := congrArg Prod.snd h; dsimp only at h1 h2; omega)
theorem z_Wd_x {G : z_G} {M : z_M} {H : Heap} {a : Nat} (hW : z_Wd G M H) (ha : z_b G + 148 ≤ a) (hs : H.size = a + 4) (hc : ∀ i n, ([24, 20, 16, 8] : List Nat)[i]? = some n → H[a + i]? = some (arrV (z_cI G) n (fun _ => z_I 0))) : z_Wd (z_Gx G a) (z_sR M 41 (fun _ => 0)) H := by
  refine ⟨⟨hW.1.1, fun _ => Nat.le_of_eq hs.symm⟩, fun b i hb => ?_, fun g k hd => ?_⟩
  · unfold z_sR
    split
    · exact ⟨by show (-2147483648 : Int) ≤ 0; decide, by show (0 : Int) ≤ 2147483647; decide⟩
    · exact hW.2.1 b i hb
  · rcases hd with hd | ⟨-, rfl, hk⟩
    · refine (z_hold_x hd).mpr (z_hold_move (M := M) (Or.inl hd) (fun b i ho => ?_) rfl (hW.2.2 g k (Or.inl hd)))
      unfold z_sR
      rw [if_neg]
      rintro rfl
      exact z_ow_41 hd ho
    · have key : ∀ (i n : Nat) (ix : Int → Int), z_ad (z_Gx G a) 1 k = a + i → z_al 1 k = some (0, 41, n, ix) → z_ob 1 k = none → ([24, 20, 16, 8] : List Nat)[i]? = some n → z_hold (z_Gx G a) (z_sR M 41 (fun _ => 0)) H 1 k := fun i n ix e1 e2 e3 e4 => by
        refine ⟨fun ci fs ho => ?_, fun t b n' ix' hal => ?_⟩
        · rw [e3] at ho; cases ho
        · rw [e2] at hal
          cases hal
          rw [e1, hc i n e4]
          refine congrArg some (z_arrV_eq fun j _ => ?_)
          show z_I 0 = z_I (z_sR M 41 (fun _ => 0) 41 (ix j))
          rw [z_sR_self]
      rcases hk with rfl | rfl | rfl | rfl
      · exact key 0 24 _ rfl rfl rfl rfl
      · exact key 1 20 _ rfl rfl rfl rfl
      · exact key 2 16 _ rfl rfl rfl rfl
      · exact key 3 8 _ rfl rfl rfl rfl
theorem z_Wd_xb {G : z_G} {M : z_M} {H : Heap} {a : Nat} (hx : z_x G = 0) (hW : z_Wd (z_Gx G a) M H) : z_Wd G M H := by
  have hn : ¬ z_on G := by unfold z_on; omega
  refine ⟨⟨hW.1.1, fun h => absurd h hn⟩, hW.2.1, fun g k hd => ?_⟩
  rcases hd with hd | ⟨h, -⟩
  · exact (z_hold_x hd).mp (hW.2.2 g k (Or.inl hd))
  · exact absurd h hn
/-- while the copies are made: the last cells of the heap are rows of 0 -/
def z_JN (G : z_G) (Z : z_Z) (d : z_Md) (Q : State → Prop) (pc : Nat) (ls : List (Option Value)) (st : List Value) (M : z_M) (a : Nat) (L : List Nat) (k n : Nat) : Prop :=
  z_Ok G Z d → z_b G + 148 ≤ a → ∀ (H : Heap) (locs : List Loc) (la : Array Slot), z_Wd G M H → H.size = a + L.length → (∀ i n, L[i]? = some n → H[a + i]? = some (arrV (z_cI G) n (fun _ => z_I 0))) → va_S (z_A G) (z_s Z).heap H locs → z_LH la (z_nL d) ls →
    W (z_p Z) (z_l G) (z_e Z) (z_R d) (z_s Z) (z_m Z) (z_a Z) (z_w Z) (z_h Z) (z_c Z) H locs k n Q (F0 (z_m Z) pc la st)
section ZNW
variable {G : z_G} {Z : z_Z} {d : z_Md} {Q : State → Prop} {pc : Nat} {ls : List (Option Value)} {st : List Value} {M : z_M} {a k n : Nat} {L : List Nat}
theorem z_nstart (kk : ∀ a, z_JN G Z d Q pc ls st M a [] k n) : z_J G Z d Q pc ls st M k n := fun hO H locs la hW hS hL => kk H.size hO hW.1.1 H locs la hW rfl (fun i n hi => by cases hi) hS hL
theorem z_nbipush {i : Int} (hd : decode (z_cc d) pc = .ok (.bipush i, 2)) (hv : (Int8.ofInt i).toInt32 = Int32.ofInt i) (kk : z_JN G Z d Q (pc + 2) ls (z_I i :: st) M a L k n) : z_JN G Z d Q pc ls st M a L k n := fun hO ha H locs la hW hs hc hS hL => lv_bipush hO.1 hO.2.1 hd hv (kk hO ha H locs la hW hs hc hS hL)
theorem z_nastore {j v : Nat} (hd : decode (z_cc d) pc = .ok (.astore j, 2)) (hn : j < z_nL d) (hp : z_pre ls j = true) (kk : z_JN G Z d Q (pc + 2) (ls.set j (some (.ref v))) st M a L k n) : z_JN G Z d Q pc ls (.ref v :: st) M a L k n := fun hO ha H locs la hW hs hc hS hL => lv_astore hO.1 hO.2.1 hd (z_LH_has hL) hn rfl (fun la' hl' => kk hO ha H locs la' hW hs hc hS (z_LH_set1 hp hl'))
theorem z_nnew {N : Nat} (harr : Cond.arrayClass .int ∈ z_W) (hN : N ≤ 6000) (hk : k + 1 ≤ (z_R d).cells ∧ n + N ≤ (z_R d).slots) (hd : decode (z_cc d) pc = .ok (.newarray .int, 2))
    (kk : z_JN G Z d Q (pc + 2) ls (.ref (a + L.length) :: st) M a (L ++ [N]) (k + 1) (n + N)) : z_JN G Z d Q pc ls (z_I (N : Int) :: st) M a L k n := fun hO ha H locs la hW hs hc hS hL => by
  rw [← hs] at kk
  refine va_newaK (atype := .int) hO.1 hO.2.1 (z_tw hO harr _) rfl hd rfl (fun h => ?_) (N := N) (by rw [z_clamp (by omega) (by omega)]; omega) (by show N * 4 ≤ _; omega) hk.1 hk.2 rfl fun H1 cA e1 z1 o1 hAr hNm => ?_
  · exact z_vp (n := 6001) (i := N) (by omega) (by omega) (by omega) (Or.inl h)
  · have h2 := (hO.2.2.2.2.2.2.2.2.1.2 0 _ rfl).2
    cases Option.some.inj (hNm.symm.trans h2)
    refine kk hO ha H1 locs la (z_Wd_keep hW (by omega) o1) (by rw [z1, hs, List.length_append]; rfl) (fun i m hi => ?_) ⟨Nat.le_trans hS.1 (by omega), fun x h1 h2 => (o1 x (Nat.lt_of_lt_of_le h1 hS.1)).trans (hS.2.1 x h1 h2), hS.2.2⟩ hL
    by_cases c : i < L.length
    · rw [List.getElem?_append_left c] at hi
      rw [o1 _ (by omega)]
      exact hc i m hi
    · have hl := (List.getElem?_eq_some_iff.mp hi).1
      rw [List.length_append] at hl
      have ei : i = L.length := by simp only [List.length_cons, List.length_nil] at hl; omega
      subst ei
      rw [List.getElem?_append_right (Nat.le_refl _), Nat.sub_self] at hi
      cases hi
      rw [← hs]
      exact e1
theorem z_ndone (kk : z_on (z_Gx G a) → z_J (z_Gx G a) Z d Q pc ls st (z_sR M 41 (fun _ => 0)) k n) : z_JN G Z d Q pc ls st M a [24, 20, 16, 8] k n := fun hO ha H locs la hW hs hc hS hL =>
  kk ha hO H locs la (z_Wd_x hW ha hs hc) hS hL
/-- the end of a method that made copies -/
theorem z_zretX {cc : ByteArray} {nL : Nat} {own : String} {R : Room} {r : Int} {mc ms : Nat} {P : z_M → Prop} (hx : z_x G = 0) (hd : decode cc pc = .ok (.ireturn, 1)) (hr : r = 1) (hP : P M) : z_J (z_Gx G a) Z (cc, nL, own, R, some .boolean) (z_QmP G Z (some (z_I 1)) P mc ms) pc ls [z_I r] M mc ms := fun hO H locs la hW hS hL => by
  subst hr
  exact W.zret hO.1 hO.2.1 hO.2.2.2.2.2.1 rfl (fun t ht hw => ⟨M, hP, rfl, by rw [ht]; exact z_Wd_xb hx hW, hS.F ht⟩) hS.2.2 hd hO.2.2.2.2.1
end ZNW
theorem z_fcp_s (ix s r : Int → Int) (n : Nat) : z_fcp ix s r (n + 1) = z_uf (z_fcp ix s r n) (ix n) (s (ix n)) := rfl
theorem z_fcp_keep {ix s r : Int → Int} {j : Int} (h : r j = s j) : ∀ n : Nat, z_fcp ix s r n j = s j := by
  intro n
  induction n with
  | zero => exact h
  | succ n ih =>
    rw [z_fcp_s]
    unfold z_uf
    split
    · rename_i c; rw [c]
    · exact ih
theorem z_fcp_at {ix s r : Int → Int} {j : Int} {i : Nat} (hi : ix i = j) : ∀ n : Nat, i < n → z_fcp ix s r n j = s j := by
  intro n
  induction n with
  | zero => intro h; omega
  | succ n ih =>
    intro h
    rw [z_fcp_s]
    unfold z_uf
    split
    · rename_i c; rw [c]
    · rename_i c
      exact ih (by
        rcases Nat.lt_or_ge i n with q | q
        · exact q
        · exact absurd (by rw [← hi, show i = n by omega]) c)
/-- row 41 behind the four copies -/
def z_cps (s r : Int → Int) : Int → Int := z_fcp (fun p => p) s (z_fcp (fun p => 666 + 12 * (p / 4) + p % 4) s (z_fcp (fun p => 86 + p) s (z_fcp (fun p => 14 + p) s r 24) 20) 16) 8
theorem z_cps_ow {G : z_G} {s r : Int → Int} (hneg : ∀ i, i < 0 → r i = s i) {i : Int} {g k : Nat} (hd : z_dm G g k) (ho : z_ow 41 i = (g, k)) : z_cps s r i = s i := by
  have e : z_ow 41 i = z_owl 1 i := rfl
  rcases hd with hd | ⟨-, rfl, hk⟩
  · exact absurd ho (z_ow_41 hd)
  rw [e] at ho
  unfold z_owl at ho
  have a1 : 0 ≤ i → i < 8 → z_cps s r i = s i := fun h0 h1 => z_fcp_at (i := i.toNat) (by show ((i.toNat : Nat) : Int) = i; omega) 8 (by omega)
  have a2 : 14 ≤ i → i < 38 → z_cps s r i = s i := fun h0 h1 => z_fcp_keep (z_fcp_keep (z_fcp_keep (z_fcp_at (i := (i - 14).toNat) (by show 14 + (((i - 14).toNat : Nat) : Int) = i; omega) 24 (by omega)) _) _) _
  have a3 : 86 ≤ i → i < 106 → z_cps s r i = s i := fun h0 h1 => z_fcp_keep (z_fcp_keep (z_fcp_at (i := (i - 86).toNat) (by show 86 + (((i - 86).toNat : Nat) : Int) = i; omega) 20 (by omega)) _) _
  have a4 : 666 ≤ i → i < 714 → (i - 666) % 12 < 4 → z_cps s r i = s i := fun h0 h1 h2 => z_fcp_keep (z_fcp_at (i := (4 * ((i - 666) / 12) + (i - 666) % 12).toNat) (by show 666 + 12 * ((((4 * ((i - 666) / 12) + (i - 666) % 12).toNat : Nat) : Int) / 4) + (((4 * ((i - 666) / 12) + (i - 666) % 12).toNat : Nat) : Int) % 4 = i; omega) 16 (by omega)) _
  have a5 : i < 0 → z_cps s r i = s i := fun h0 => z_fcp_keep (z_fcp_keep (z_fcp_keep (z_fcp_keep (hneg i h0) _) _) _) _
  (repeat' split at ho) <;> (have h1 := congrArg Prod.fst ho; have h2 := congrArg Prod.snd ho; dsimp only at h1 h2; first | (exfalso; omega; done) | exact a2 (by omega) (by omega) | exact a3 (by omega) (by omega) | exact a4 (by omega) (by omega) (by omega) | (rcases Int.lt_or_le i 0 with q | q; exact a5 q; exact a1 q (by omega)))
theorem z_bst_s (b : Int → Int) (p t : Int) (n : Nat) : z_bst b p t (n + 1) = if (z_bst b p t n).2 < (if b (86 + 5 * n + 2) = 3 then z_paid b n t p else -1) then ((n : Int), if b (86 + 5 * n + 2) = 3 then z_paid b n t p else -1) else z_bst b p t n := rfl
theorem z_bst_ge {b : Int → Int} {p t : Int} : ∀ n : Nat, -1 ≤ (z_bst b p t n).2 := by
  intro n
  induction n with
  | zero => exact Int.le_refl _
  | succ n ih =>
    rw [z_bst_s]
    generalize (if b (86 + 5 * (n : Int) + 2) = 3 then z_paid b n t p else -1) = v
    by_cases c : (z_bst b p t n).2 < v
    · rw [if_pos c]
      show -1 ≤ v
      omega
    · rw [if_neg c]
      exact ih
theorem z_LR_mem {M M2 : z_M} {g : Nat} {N : Int} (h : z_LR M g N) (e : ∀ r, r < 7 ∨ r = 40 → M2 r = M r) (e7 : ∀ i, 0 ≤ i → i ≤ 2 → M2 7 i = M 7 i) : z_LR M2 g N :=
  ⟨z_LC_row h.1 (fun r hr => e r (Or.inl hr)) e7, by rw [e 40 (Or.inr rfl), e g (Or.inl h.1.1)]; exact h.2.1, by rw [e g (Or.inl h.1.1)]; exact h.2.2.1, by rw [e g (Or.inl h.1.1)]; exact h.2.2.2⟩
theorem z_fiM_r {M : z_M} {g : Nat} {k : Int} {r : Nat} (h : r ≠ 7 ∧ r ≠ 12 ∧ r ≠ 13 ∧ r ≠ 14 ∧ r ≠ 15) : z_fiM M g k r = M r := by
  show z_sR (z_sR (z_sR (z_sR (z_sR M 7 _) 12 _) 13 _) 14 _) 15 _ r = M r
  rw [z_sR_ne _ _ h.2.2.2.2, z_sR_ne _ _ h.2.2.2.1, z_sR_ne _ _ h.2.2.1, z_sR_ne _ _ h.2.1, z_sR_ne _ _ h.1]
theorem z_fiM_7i {M : z_M} {g : Nat} {k i : Int} (h : i < 12) : z_fiM M g k 7 i = M 7 i := by
  show z_uf (z_uf (M 7) 12 _) 13 _ i = M 7 i
  rw [z_uf_ne _ _ (by omega), z_uf_ne _ _ (by omega)]
/-- what ahead keeps -/
def z_PH (M : z_M) (N : Int) (M1 : z_M) : Prop := (∃ g, z_LR M1 g N) ∧ M1 7 1 = M 7 1
def z_AI (M : z_M) (g : Nat) (N : Int) (X : z_M) : Prop := z_LR X g N ∧ X g = M g ∧ X 7 1 = M 7 1 ∧ ∀ i, i < 0 → X 41 i = 0
theorem z_AI_mem {M X X2 : z_M} {g : Nat} {N : Int} (h : z_AI M g N X) (e : ∀ r, r < 7 ∨ r = 40 → X2 r = X r) (e7 : ∀ i, 0 ≤ i → i ≤ 2 → X2 7 i = X 7 i) (e41 : ∀ i, i < 0 → X2 41 i = 0) : z_AI M g N X2 :=
  ⟨z_LR_mem h.1 e e7, (e g (Or.inl h.1.1.1)).trans h.2.1, (e7 1 (by decide) (by decide)).trans h.2.2.1, e41⟩
