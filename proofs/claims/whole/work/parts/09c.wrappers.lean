/-! ===== the law's wrappers ===== -/
theorem wlL_19 : Cond.classLink RL 19 "java/lang/IndexOutOfBoundsException" ∈ z_W := z_wi 749 (by decide +kernel) (by decide +kernel)
theorem wkL_19 : Cond.castable "java/lang/IndexOutOfBoundsException" "java/lang/IndexOutOfBoundsException" ∈ z_W := z_wi 617 (by decide +kernel) (by decide +kernel)
theorem wlL_21 : Cond.classLink RL 21 "java/lang/IllegalArgumentException" ∈ z_W := z_wi 750 (by decide +kernel) (by decide +kernel)
theorem wkL_21 : Cond.castable "java/lang/IllegalArgumentException" "java/lang/IllegalArgumentException" ∈ z_W := z_wi 476 (by decide +kernel) (by decide +kernel)
theorem wlL_13 : Cond.classLink RL 13 "java/lang/IllegalStateException" ∈ z_W := z_wi 725 (by decide +kernel) (by decide +kernel)
theorem wkL_13 : Cond.castable "java/lang/IllegalStateException" "java/lang/IllegalStateException" ∈ z_W := z_wi 732 (by decide +kernel) (by decide +kernel)
def hL_addPen : List (Nat × Nat × Nat × Nat) := [(0, 8, 11, 13)]
theorem wc_L_addPen : Cond.codeWith yL_addPen cL_addPen 3 (some .int) hL_addPen ∈ z_W := z_wi 724 (by decide +kernel) (by decide +kernel)
theorem wt_L_addPen : Cond.static yL_addPen ∈ z_W := z_wi 723 (by decide +kernel) (by decide +kernel)
theorem n_L_addPen : z_name yL_addPen 2 := ⟨⟨by decide +kernel, by decide +kernel⟩, by decide +kernel⟩
abbrev KL_addPen (G : z_G) (args : List Value) (M : z_M) (r : Int) (M1 : z_M) : Prop := z_ConL G yL_addPen cL_addPen 3 hL_addPen 7 145 args M r M1
theorem tL_addPen {G : z_G} {M M1 : z_M} {r : Int} (hC : KX6_addPen G [.ref (z_ad G 0 20)] M (.inl (some (z_I r))) M1) : KL_addPen G [.ref (z_ad G 0 20), .ref (z_ad G 0 60)] M 0 (z_sM M1 32 0 (z_iw r)) := by
  refine z_conL (ls := [some (.ref (z_ad G 0 20)), some (.ref (z_ad G 0 60)), none]) (by decide +kernel) (Nat.le_of_ble_eq_true rfl) rfl ?_
  intro Z htb
  refine z_aloadn dL_addPen_0 rfl ?_
  refine z_iconst dL_addPen_1 ?_
  refine z_aloadn dL_addPen_2 rfl ?_
  refine kL_7 hC rfl ⟨(Nat.le_of_ble_eq_true rfl), (Nat.le_of_ble_eq_true rfl)⟩ (Nat.le_of_ble_eq_true rfl) dL_addPen_3 ?_
  refine z_iwr ?_
  refine z_i2l (z_iw_rg1 r) dL_addPen_6 ?_
  refine z_last (z_iw_rg1 r) dL_addPen_7 ?_
  refine z_goto (tgt := 14) dL_addPen_8 rfl ?_
  refine z_iconst dL_addPen_14 ?_
  exact z_retL (Nat.le_of_ble_eq_true rfl) (Nat.le_of_ble_eq_true rfl) dL_addPen_15 rfl rfl
theorem tL_addPen_x1 {G : z_G} {M M1 : z_M} (hC : KX6_addPen G [.ref (z_ad G 0 20)] M (.inr "java/lang/IllegalStateException") M1) : KL_addPen G [.ref (z_ad G 0 20), .ref (z_ad G 0 60)] M 1 M1 := by
  refine z_conL (ls := [some (.ref (z_ad G 0 20)), some (.ref (z_ad G 0 60)), none]) (by decide +kernel) (Nat.le_of_ble_eq_true rfl) rfl ?_
  intro Z htb
  refine z_aloadn dL_addPen_0 rfl ?_
  refine z_iconst dL_addPen_1 ?_
  refine z_aloadn dL_addPen_2 rfl ?_
  refine z_callVc (pre := []) (x := ⟨0, 8, 11, 13⟩) (suf := []) htb hC (fun _ h => absurd h List.not_mem_nil) rfl (by decide) wlL_13 wkL_13 wmL_7 wi_X6_addPen ws_X6_addPen wc_X6_addPen wn_X6 n_X6_addPen (by decide) rfl rfl rfl rfl ⟨(Nat.le_of_ble_eq_true rfl), (Nat.le_of_ble_eq_true rfl)⟩ ⟨(Nat.le_of_ble_eq_true rfl), (Nat.le_of_ble_eq_true rfl)⟩ (Nat.le_of_ble_eq_true rfl) dL_addPen_3 ?_
  intro q
  refine z_astoren_2 dL_addPen_11 (Nat.le_of_ble_eq_true rfl) rfl ?_
  refine z_iconst dL_addPen_12 ?_
  exact z_retL (Nat.le_of_ble_eq_true rfl) (Nat.le_of_ble_eq_true rfl) dL_addPen_13 rfl rfl
def hL_sell : List (Nat × Nat × Nat × Nat) := [(0, 12, 15, 19), (0, 12, 19, 21), (0, 12, 23, 13)]
theorem wc_L_sell : Cond.codeWith yL_sell cL_sell 6 (some .int) hL_sell ∈ z_W := z_wi 748 (by decide +kernel) (by decide +kernel)
theorem wt_L_sell : Cond.static yL_sell ∈ z_W := z_wi 747 (by decide +kernel) (by decide +kernel)
theorem n_L_sell : z_name yL_sell 5 := ⟨⟨by decide +kernel, by decide +kernel⟩, by decide +kernel⟩
abbrev KL_sell (G : z_G) (args : List Value) (M : z_M) (r : Int) (M1 : z_M) : Prop := z_ConL G yL_sell cL_sell 6 hL_sell 8 148 args M r M1
theorem tL_sell {G : z_G} {M M1 : z_M} {a1 a2 a3 : Int} {r : Int} (hC : KX6_sell G [.ref (z_ad G 0 20), z_I a1, z_I a2, z_I a3] M (.inl (some (z_I r))) M1) : KL_sell G [.ref (z_ad G 0 20), z_I a1, z_I a2, z_I a3, .ref (z_ad G 0 60)] M 0 (z_sM M1 32 0 (z_iw r)) := by
  refine z_conL (ls := [some (.ref (z_ad G 0 20)), some (z_I a1), some (z_I a2), some (z_I a3), some (.ref (z_ad G 0 60)), none]) (by decide +kernel) (Nat.le_of_ble_eq_true rfl) rfl ?_
  intro Z htb
  refine z_aload dL_sell_0 rfl ?_
  refine z_iconst dL_sell_2 ?_
  refine z_aloadn dL_sell_3 rfl ?_
  refine z_iloadn dL_sell_4 rfl ?_
  refine z_iloadn dL_sell_5 rfl ?_
  refine z_iloadn dL_sell_6 rfl ?_
  refine kL_15 hC rfl ⟨(Nat.le_of_ble_eq_true rfl), (Nat.le_of_ble_eq_true rfl)⟩ (Nat.le_of_ble_eq_true rfl) dL_sell_7 ?_
  refine z_iwr ?_
  refine z_i2l (z_iw_rg1 r) dL_sell_10 ?_
  refine z_last (z_iw_rg1 r) dL_sell_11 ?_
  refine z_goto (tgt := 27) dL_sell_12 rfl ?_
  refine z_iconst dL_sell_27 ?_
  exact z_retL (Nat.le_of_ble_eq_true rfl) (Nat.le_of_ble_eq_true rfl) dL_sell_28 rfl rfl
theorem tL_sell_x1 {G : z_G} {M M1 : z_M} {a1 a2 a3 : Int} (hC : KX6_sell G [.ref (z_ad G 0 20), z_I a1, z_I a2, z_I a3] M (.inr "java/lang/IndexOutOfBoundsException") M1) : KL_sell G [.ref (z_ad G 0 20), z_I a1, z_I a2, z_I a3, .ref (z_ad G 0 60)] M 1 M1 := by
  refine z_conL (ls := [some (.ref (z_ad G 0 20)), some (z_I a1), some (z_I a2), some (z_I a3), some (.ref (z_ad G 0 60)), none]) (by decide +kernel) (Nat.le_of_ble_eq_true rfl) rfl ?_
  intro Z htb
  refine z_aload dL_sell_0 rfl ?_
  refine z_iconst dL_sell_2 ?_
  refine z_aloadn dL_sell_3 rfl ?_
  refine z_iloadn dL_sell_4 rfl ?_
  refine z_iloadn dL_sell_5 rfl ?_
  refine z_iloadn dL_sell_6 rfl ?_
  refine z_callVc (pre := []) (x := ⟨0, 12, 15, 19⟩) (suf := [⟨0, 12, 19, 21⟩, ⟨0, 12, 23, 13⟩]) htb hC (fun _ h => absurd h List.not_mem_nil) rfl (by decide) wlL_19 wkL_19 wmL_15 wi_X6_sell ws_X6_sell wc_X6_sell wn_X6 n_X6_sell (by decide) rfl rfl rfl rfl ⟨(Nat.le_of_ble_eq_true rfl), (Nat.le_of_ble_eq_true rfl)⟩ ⟨(Nat.le_of_ble_eq_true rfl), (Nat.le_of_ble_eq_true rfl)⟩ (Nat.le_of_ble_eq_true rfl) dL_sell_7 ?_
  intro q
  refine z_astore_5 dL_sell_15 (Nat.le_of_ble_eq_true rfl) rfl ?_
  refine z_iconst dL_sell_17 ?_
  exact z_retL (Nat.le_of_ble_eq_true rfl) (Nat.le_of_ble_eq_true rfl) dL_sell_18 rfl rfl
theorem tL_sell_x2 {G : z_G} {M M1 : z_M} {a1 a2 a3 : Int} (hC : KX6_sell G [.ref (z_ad G 0 20), z_I a1, z_I a2, z_I a3] M (.inr "java/lang/IllegalArgumentException") M1) : KL_sell G [.ref (z_ad G 0 20), z_I a1, z_I a2, z_I a3, .ref (z_ad G 0 60)] M 2 M1 := by
  refine z_conL (ls := [some (.ref (z_ad G 0 20)), some (z_I a1), some (z_I a2), some (z_I a3), some (.ref (z_ad G 0 60)), none]) (by decide +kernel) (Nat.le_of_ble_eq_true rfl) rfl ?_
  intro Z htb
  refine z_aload dL_sell_0 rfl ?_
  refine z_iconst dL_sell_2 ?_
  refine z_aloadn dL_sell_3 rfl ?_
  refine z_iloadn dL_sell_4 rfl ?_
  refine z_iloadn dL_sell_5 rfl ?_
  refine z_iloadn dL_sell_6 rfl ?_
  refine z_callVc (pre := [⟨0, 12, 15, 19⟩]) (x := ⟨0, 12, 19, 21⟩) (suf := [⟨0, 12, 23, 13⟩]) htb hC (by
    intro z hz
    simp only [List.mem_cons, List.not_mem_nil, or_false] at hz
    rcases hz with rfl
    · exact Or.inr ⟨by decide, _, wlL_19, by decide +kernel⟩) rfl (by decide) wlL_21 wkL_21 wmL_15 wi_X6_sell ws_X6_sell wc_X6_sell wn_X6 n_X6_sell (by decide) rfl rfl rfl rfl ⟨(Nat.le_of_ble_eq_true rfl), (Nat.le_of_ble_eq_true rfl)⟩ ⟨(Nat.le_of_ble_eq_true rfl), (Nat.le_of_ble_eq_true rfl)⟩ (Nat.le_of_ble_eq_true rfl) dL_sell_7 ?_
  intro q
  refine z_astore_5 dL_sell_19 (Nat.le_of_ble_eq_true rfl) rfl ?_
  refine z_iconst dL_sell_21 ?_
  exact z_retL (Nat.le_of_ble_eq_true rfl) (Nat.le_of_ble_eq_true rfl) dL_sell_22 rfl rfl
theorem tL_sell_x3 {G : z_G} {M M1 : z_M} {a1 a2 a3 : Int} (hC : KX6_sell G [.ref (z_ad G 0 20), z_I a1, z_I a2, z_I a3] M (.inr "java/lang/IllegalStateException") M1) : KL_sell G [.ref (z_ad G 0 20), z_I a1, z_I a2, z_I a3, .ref (z_ad G 0 60)] M 3 M1 := by
  refine z_conL (ls := [some (.ref (z_ad G 0 20)), some (z_I a1), some (z_I a2), some (z_I a3), some (.ref (z_ad G 0 60)), none]) (by decide +kernel) (Nat.le_of_ble_eq_true rfl) rfl ?_
  intro Z htb
  refine z_aload dL_sell_0 rfl ?_
  refine z_iconst dL_sell_2 ?_
  refine z_aloadn dL_sell_3 rfl ?_
  refine z_iloadn dL_sell_4 rfl ?_
  refine z_iloadn dL_sell_5 rfl ?_
  refine z_iloadn dL_sell_6 rfl ?_
  refine z_callVc (pre := [⟨0, 12, 15, 19⟩, ⟨0, 12, 19, 21⟩]) (x := ⟨0, 12, 23, 13⟩) (suf := []) htb hC (by
    intro z hz
    simp only [List.mem_cons, List.not_mem_nil, or_false] at hz
    rcases hz with rfl | rfl
    · exact Or.inr ⟨by decide, _, wlL_19, by decide +kernel⟩
    · exact Or.inr ⟨by decide, _, wlL_21, by decide +kernel⟩) rfl (by decide) wlL_13 wkL_13 wmL_15 wi_X6_sell ws_X6_sell wc_X6_sell wn_X6 n_X6_sell (by decide) rfl rfl rfl rfl ⟨(Nat.le_of_ble_eq_true rfl), (Nat.le_of_ble_eq_true rfl)⟩ ⟨(Nat.le_of_ble_eq_true rfl), (Nat.le_of_ble_eq_true rfl)⟩ (Nat.le_of_ble_eq_true rfl) dL_sell_7 ?_
  intro q
  refine z_astore_5 dL_sell_23 (Nat.le_of_ble_eq_true rfl) rfl ?_
  refine z_iconst dL_sell_25 ?_
  exact z_retL (Nat.le_of_ble_eq_true rfl) (Nat.le_of_ble_eq_true rfl) dL_sell_26 rfl rfl
def hL_buyBack : List (Nat × Nat × Nat × Nat) := [(0, 9, 12, 19), (0, 9, 15, 13)]
theorem wc_L_buyBack : Cond.codeWith yL_buyBack cL_buyBack 4 (some .int) hL_buyBack ∈ z_W := z_wi 767 (by decide +kernel) (by decide +kernel)
theorem wt_L_buyBack : Cond.static yL_buyBack ∈ z_W := z_wi 766 (by decide +kernel) (by decide +kernel)
theorem n_L_buyBack : z_name yL_buyBack 3 := ⟨⟨by decide +kernel, by decide +kernel⟩, by decide +kernel⟩
abbrev KL_buyBack (G : z_G) (args : List Value) (M : z_M) (r : Int) (M1 : z_M) : Prop := z_ConL G yL_buyBack cL_buyBack 4 hL_buyBack 8 146 args M r M1
theorem tL_buyBack {G : z_G} {M M1 : z_M} {a1 : Int} {r : Int} (hC : KX6_buyBack G [.ref (z_ad G 0 20), z_I a1] M (.inl (some (z_I r))) M1) : KL_buyBack G [.ref (z_ad G 0 20), z_I a1, .ref (z_ad G 0 60)] M 0 (z_sM M1 32 0 (z_iw r)) := by
  refine z_conL (ls := [some (.ref (z_ad G 0 20)), some (z_I a1), some (.ref (z_ad G 0 60)), none]) (by decide +kernel) (Nat.le_of_ble_eq_true rfl) rfl ?_
  intro Z htb
  refine z_aloadn dL_buyBack_0 rfl ?_
  refine z_iconst dL_buyBack_1 ?_
  refine z_aloadn dL_buyBack_2 rfl ?_
  refine z_iloadn dL_buyBack_3 rfl ?_
  refine kL_23 hC rfl ⟨(Nat.le_of_ble_eq_true rfl), (Nat.le_of_ble_eq_true rfl)⟩ (Nat.le_of_ble_eq_true rfl) dL_buyBack_4 ?_
  refine z_iwr ?_
  refine z_i2l (z_iw_rg1 r) dL_buyBack_7 ?_
  refine z_last (z_iw_rg1 r) dL_buyBack_8 ?_
  refine z_goto (tgt := 18) dL_buyBack_9 rfl ?_
  refine z_iconst dL_buyBack_18 ?_
  exact z_retL (Nat.le_of_ble_eq_true rfl) (Nat.le_of_ble_eq_true rfl) dL_buyBack_19 rfl rfl
theorem tL_buyBack_x1 {G : z_G} {M M1 : z_M} {a1 : Int} (hC : KX6_buyBack G [.ref (z_ad G 0 20), z_I a1] M (.inr "java/lang/IndexOutOfBoundsException") M1) : KL_buyBack G [.ref (z_ad G 0 20), z_I a1, .ref (z_ad G 0 60)] M 1 M1 := by
  refine z_conL (ls := [some (.ref (z_ad G 0 20)), some (z_I a1), some (.ref (z_ad G 0 60)), none]) (by decide +kernel) (Nat.le_of_ble_eq_true rfl) rfl ?_
  intro Z htb
  refine z_aloadn dL_buyBack_0 rfl ?_
  refine z_iconst dL_buyBack_1 ?_
  refine z_aloadn dL_buyBack_2 rfl ?_
  refine z_iloadn dL_buyBack_3 rfl ?_
  refine z_callVc (pre := []) (x := ⟨0, 9, 12, 19⟩) (suf := [⟨0, 9, 15, 13⟩]) htb hC (fun _ h => absurd h List.not_mem_nil) rfl (by decide) wlL_19 wkL_19 wmL_23 wi_X6_buyBack ws_X6_buyBack wc_X6_buyBack wn_X6 n_X6_buyBack (by decide) rfl rfl rfl rfl ⟨(Nat.le_of_ble_eq_true rfl), (Nat.le_of_ble_eq_true rfl)⟩ ⟨(Nat.le_of_ble_eq_true rfl), (Nat.le_of_ble_eq_true rfl)⟩ (Nat.le_of_ble_eq_true rfl) dL_buyBack_4 ?_
  intro q
  refine z_astoren_3 dL_buyBack_12 (Nat.le_of_ble_eq_true rfl) rfl ?_
  refine z_iconst dL_buyBack_13 ?_
  exact z_retL (Nat.le_of_ble_eq_true rfl) (Nat.le_of_ble_eq_true rfl) dL_buyBack_14 rfl rfl
theorem tL_buyBack_x2 {G : z_G} {M M1 : z_M} {a1 : Int} (hC : KX6_buyBack G [.ref (z_ad G 0 20), z_I a1] M (.inr "java/lang/IllegalStateException") M1) : KL_buyBack G [.ref (z_ad G 0 20), z_I a1, .ref (z_ad G 0 60)] M 2 M1 := by
  refine z_conL (ls := [some (.ref (z_ad G 0 20)), some (z_I a1), some (.ref (z_ad G 0 60)), none]) (by decide +kernel) (Nat.le_of_ble_eq_true rfl) rfl ?_
  intro Z htb
  refine z_aloadn dL_buyBack_0 rfl ?_
  refine z_iconst dL_buyBack_1 ?_
  refine z_aloadn dL_buyBack_2 rfl ?_
  refine z_iloadn dL_buyBack_3 rfl ?_
  refine z_callVc (pre := [⟨0, 9, 12, 19⟩]) (x := ⟨0, 9, 15, 13⟩) (suf := []) htb hC (by
    intro z hz
    simp only [List.mem_cons, List.not_mem_nil, or_false] at hz
    rcases hz with rfl
    · exact Or.inr ⟨by decide, _, wlL_19, by decide +kernel⟩) rfl (by decide) wlL_13 wkL_13 wmL_23 wi_X6_buyBack ws_X6_buyBack wc_X6_buyBack wn_X6 n_X6_buyBack (by decide) rfl rfl rfl rfl ⟨(Nat.le_of_ble_eq_true rfl), (Nat.le_of_ble_eq_true rfl)⟩ ⟨(Nat.le_of_ble_eq_true rfl), (Nat.le_of_ble_eq_true rfl)⟩ (Nat.le_of_ble_eq_true rfl) dL_buyBack_4 ?_
  intro q
  refine z_astoren_3 dL_buyBack_15 (Nat.le_of_ble_eq_true rfl) rfl ?_
  refine z_iconst dL_buyBack_16 ?_
  exact z_retL (Nat.le_of_ble_eq_true rfl) (Nat.le_of_ble_eq_true rfl) dL_buyBack_17 rfl rfl
def hL_advance : List (Nat × Nat × Nat × Nat) := [(0, 10, 13, 19), (0, 10, 17, 21), (0, 10, 21, 13)]
theorem wc_L_advance : Cond.codeWith yL_advance cL_advance 5 (some .int) hL_advance ∈ z_W := z_wi 775 (by decide +kernel) (by decide +kernel)
theorem wt_L_advance : Cond.static yL_advance ∈ z_W := z_wi 774 (by decide +kernel) (by decide +kernel)
theorem n_L_advance : z_name yL_advance 4 := ⟨⟨by decide +kernel, by decide +kernel⟩, by decide +kernel⟩
abbrev KL_advance (G : z_G) (args : List Value) (M : z_M) (r : Int) (M1 : z_M) : Prop := z_ConL G yL_advance cL_advance 5 hL_advance 8 146 args M r M1
theorem tL_advance {G : z_G} {M M1 : z_M} {a1 a2 : Int} {r : Int} (hC : KX6_advance G [.ref (z_ad G 0 20), z_I a1, z_I a2] M (.inl (some (z_I r))) M1) : KL_advance G [.ref (z_ad G 0 20), z_I a1, z_I a2, .ref (z_ad G 0 60)] M 0 (z_sM M1 32 0 (z_iw r)) := by
  refine z_conL (ls := [some (.ref (z_ad G 0 20)), some (z_I a1), some (z_I a2), some (.ref (z_ad G 0 60)), none]) (by decide +kernel) (Nat.le_of_ble_eq_true rfl) rfl ?_
  intro Z htb
  refine z_aloadn dL_advance_0 rfl ?_
  refine z_iconst dL_advance_1 ?_
  refine z_aloadn dL_advance_2 rfl ?_
  refine z_iloadn dL_advance_3 rfl ?_
  refine z_iloadn dL_advance_4 rfl ?_
  refine kL_27 hC rfl ⟨(Nat.le_of_ble_eq_true rfl), (Nat.le_of_ble_eq_true rfl)⟩ (Nat.le_of_ble_eq_true rfl) dL_advance_5 ?_
  refine z_iwr ?_
  refine z_i2l (z_iw_rg1 r) dL_advance_8 ?_
  refine z_last (z_iw_rg1 r) dL_advance_9 ?_
  refine z_goto (tgt := 25) dL_advance_10 rfl ?_
  refine z_iconst dL_advance_25 ?_
  exact z_retL (Nat.le_of_ble_eq_true rfl) (Nat.le_of_ble_eq_true rfl) dL_advance_26 rfl rfl
theorem tL_advance_x1 {G : z_G} {M M1 : z_M} {a1 a2 : Int} (hC : KX6_advance G [.ref (z_ad G 0 20), z_I a1, z_I a2] M (.inr "java/lang/IndexOutOfBoundsException") M1) : KL_advance G [.ref (z_ad G 0 20), z_I a1, z_I a2, .ref (z_ad G 0 60)] M 1 M1 := by
  refine z_conL (ls := [some (.ref (z_ad G 0 20)), some (z_I a1), some (z_I a2), some (.ref (z_ad G 0 60)), none]) (by decide +kernel) (Nat.le_of_ble_eq_true rfl) rfl ?_
  intro Z htb
  refine z_aloadn dL_advance_0 rfl ?_
  refine z_iconst dL_advance_1 ?_
  refine z_aloadn dL_advance_2 rfl ?_
  refine z_iloadn dL_advance_3 rfl ?_
  refine z_iloadn dL_advance_4 rfl ?_
  refine z_callVc (pre := []) (x := ⟨0, 10, 13, 19⟩) (suf := [⟨0, 10, 17, 21⟩, ⟨0, 10, 21, 13⟩]) htb hC (fun _ h => absurd h List.not_mem_nil) rfl (by decide) wlL_19 wkL_19 wmL_27 wi_X6_advance ws_X6_advance wc_X6_advance wn_X6 n_X6_advance (by decide) rfl rfl rfl rfl ⟨(Nat.le_of_ble_eq_true rfl), (Nat.le_of_ble_eq_true rfl)⟩ ⟨(Nat.le_of_ble_eq_true rfl), (Nat.le_of_ble_eq_true rfl)⟩ (Nat.le_of_ble_eq_true rfl) dL_advance_5 ?_
  intro q
  refine z_astore_4 dL_advance_13 (Nat.le_of_ble_eq_true rfl) rfl ?_
  refine z_iconst dL_advance_15 ?_
  exact z_retL (Nat.le_of_ble_eq_true rfl) (Nat.le_of_ble_eq_true rfl) dL_advance_16 rfl rfl
theorem tL_advance_x2 {G : z_G} {M M1 : z_M} {a1 a2 : Int} (hC : KX6_advance G [.ref (z_ad G 0 20), z_I a1, z_I a2] M (.inr "java/lang/IllegalArgumentException") M1) : KL_advance G [.ref (z_ad G 0 20), z_I a1, z_I a2, .ref (z_ad G 0 60)] M 2 M1 := by
  refine z_conL (ls := [some (.ref (z_ad G 0 20)), some (z_I a1), some (z_I a2), some (.ref (z_ad G 0 60)), none]) (by decide +kernel) (Nat.le_of_ble_eq_true rfl) rfl ?_
  intro Z htb
  refine z_aloadn dL_advance_0 rfl ?_
  refine z_iconst dL_advance_1 ?_
  refine z_aloadn dL_advance_2 rfl ?_
  refine z_iloadn dL_advance_3 rfl ?_
  refine z_iloadn dL_advance_4 rfl ?_
  refine z_callVc (pre := [⟨0, 10, 13, 19⟩]) (x := ⟨0, 10, 17, 21⟩) (suf := [⟨0, 10, 21, 13⟩]) htb hC (by
    intro z hz
    simp only [List.mem_cons, List.not_mem_nil, or_false] at hz
    rcases hz with rfl
    · exact Or.inr ⟨by decide, _, wlL_19, by decide +kernel⟩) rfl (by decide) wlL_21 wkL_21 wmL_27 wi_X6_advance ws_X6_advance wc_X6_advance wn_X6 n_X6_advance (by decide) rfl rfl rfl rfl ⟨(Nat.le_of_ble_eq_true rfl), (Nat.le_of_ble_eq_true rfl)⟩ ⟨(Nat.le_of_ble_eq_true rfl), (Nat.le_of_ble_eq_true rfl)⟩ (Nat.le_of_ble_eq_true rfl) dL_advance_5 ?_
  intro q
  refine z_astore_4 dL_advance_17 (Nat.le_of_ble_eq_true rfl) rfl ?_
  refine z_iconst dL_advance_19 ?_
  exact z_retL (Nat.le_of_ble_eq_true rfl) (Nat.le_of_ble_eq_true rfl) dL_advance_20 rfl rfl
theorem tL_advance_x3 {G : z_G} {M M1 : z_M} {a1 a2 : Int} (hC : KX6_advance G [.ref (z_ad G 0 20), z_I a1, z_I a2] M (.inr "java/lang/IllegalStateException") M1) : KL_advance G [.ref (z_ad G 0 20), z_I a1, z_I a2, .ref (z_ad G 0 60)] M 3 M1 := by
  refine z_conL (ls := [some (.ref (z_ad G 0 20)), some (z_I a1), some (z_I a2), some (.ref (z_ad G 0 60)), none]) (by decide +kernel) (Nat.le_of_ble_eq_true rfl) rfl ?_
  intro Z htb
  refine z_aloadn dL_advance_0 rfl ?_
  refine z_iconst dL_advance_1 ?_
  refine z_aloadn dL_advance_2 rfl ?_
  refine z_iloadn dL_advance_3 rfl ?_
  refine z_iloadn dL_advance_4 rfl ?_
  refine z_callVc (pre := [⟨0, 10, 13, 19⟩, ⟨0, 10, 17, 21⟩]) (x := ⟨0, 10, 21, 13⟩) (suf := []) htb hC (by
    intro z hz
    simp only [List.mem_cons, List.not_mem_nil, or_false] at hz
    rcases hz with rfl | rfl
    · exact Or.inr ⟨by decide, _, wlL_19, by decide +kernel⟩
    · exact Or.inr ⟨by decide, _, wlL_21, by decide +kernel⟩) rfl (by decide) wlL_13 wkL_13 wmL_27 wi_X6_advance ws_X6_advance wc_X6_advance wn_X6 n_X6_advance (by decide) rfl rfl rfl rfl ⟨(Nat.le_of_ble_eq_true rfl), (Nat.le_of_ble_eq_true rfl)⟩ ⟨(Nat.le_of_ble_eq_true rfl), (Nat.le_of_ble_eq_true rfl)⟩ (Nat.le_of_ble_eq_true rfl) dL_advance_5 ?_
  intro q
  refine z_astore_4 dL_advance_21 (Nat.le_of_ble_eq_true rfl) rfl ?_
  refine z_iconst dL_advance_23 ?_
  exact z_retL (Nat.le_of_ble_eq_true rfl) (Nat.le_of_ble_eq_true rfl) dL_advance_24 rfl rfl
def hL_withdraw : List (Nat × Nat × Nat × Nat) := [(0, 10, 13, 19), (0, 10, 17, 21), (0, 10, 21, 13)]
theorem wc_L_withdraw : Cond.codeWith yL_withdraw cL_withdraw 5 (some .int) hL_withdraw ∈ z_W := z_wi 782 (by decide +kernel) (by decide +kernel)
theorem wt_L_withdraw : Cond.static yL_withdraw ∈ z_W := z_wi 781 (by decide +kernel) (by decide +kernel)
theorem n_L_withdraw : z_name yL_withdraw 4 := ⟨⟨by decide +kernel, by decide +kernel⟩, by decide +kernel⟩
abbrev KL_withdraw (G : z_G) (args : List Value) (M : z_M) (r : Int) (M1 : z_M) : Prop := z_ConL G yL_withdraw cL_withdraw 5 hL_withdraw 8 146 args M r M1
theorem tL_withdraw {G : z_G} {M M1 : z_M} {a1 a2 : Int} {r : Int} (hC : KX6_withdraw G [.ref (z_ad G 0 20), z_I a1, z_I a2] M (.inl (some (z_I r))) M1) : KL_withdraw G [.ref (z_ad G 0 20), z_I a1, z_I a2, .ref (z_ad G 0 60)] M 0 (z_sM M1 32 0 (z_iw r)) := by
  refine z_conL (ls := [some (.ref (z_ad G 0 20)), some (z_I a1), some (z_I a2), some (.ref (z_ad G 0 60)), none]) (by decide +kernel) (Nat.le_of_ble_eq_true rfl) rfl ?_
  intro Z htb
  refine z_aloadn dL_withdraw_0 rfl ?_
  refine z_iconst dL_withdraw_1 ?_
  refine z_aloadn dL_withdraw_2 rfl ?_
  refine z_iloadn dL_withdraw_3 rfl ?_
  refine z_iloadn dL_withdraw_4 rfl ?_
  refine kL_31 hC rfl ⟨(Nat.le_of_ble_eq_true rfl), (Nat.le_of_ble_eq_true rfl)⟩ (Nat.le_of_ble_eq_true rfl) dL_withdraw_5 ?_
  refine z_iwr ?_
  refine z_i2l (z_iw_rg1 r) dL_withdraw_8 ?_
  refine z_last (z_iw_rg1 r) dL_withdraw_9 ?_
  refine z_goto (tgt := 25) dL_withdraw_10 rfl ?_
  refine z_iconst dL_withdraw_25 ?_
  exact z_retL (Nat.le_of_ble_eq_true rfl) (Nat.le_of_ble_eq_true rfl) dL_withdraw_26 rfl rfl
theorem tL_withdraw_x1 {G : z_G} {M M1 : z_M} {a1 a2 : Int} (hC : KX6_withdraw G [.ref (z_ad G 0 20), z_I a1, z_I a2] M (.inr "java/lang/IndexOutOfBoundsException") M1) : KL_withdraw G [.ref (z_ad G 0 20), z_I a1, z_I a2, .ref (z_ad G 0 60)] M 1 M1 := by
  refine z_conL (ls := [some (.ref (z_ad G 0 20)), some (z_I a1), some (z_I a2), some (.ref (z_ad G 0 60)), none]) (by decide +kernel) (Nat.le_of_ble_eq_true rfl) rfl ?_
  intro Z htb
  refine z_aloadn dL_withdraw_0 rfl ?_
  refine z_iconst dL_withdraw_1 ?_
  refine z_aloadn dL_withdraw_2 rfl ?_
  refine z_iloadn dL_withdraw_3 rfl ?_
  refine z_iloadn dL_withdraw_4 rfl ?_
  refine z_callVc (pre := []) (x := ⟨0, 10, 13, 19⟩) (suf := [⟨0, 10, 17, 21⟩, ⟨0, 10, 21, 13⟩]) htb hC (fun _ h => absurd h List.not_mem_nil) rfl (by decide) wlL_19 wkL_19 wmL_31 wi_X6_withdraw ws_X6_withdraw wc_X6_withdraw wn_X6 n_X6_withdraw (by decide) rfl rfl rfl rfl ⟨(Nat.le_of_ble_eq_true rfl), (Nat.le_of_ble_eq_true rfl)⟩ ⟨(Nat.le_of_ble_eq_true rfl), (Nat.le_of_ble_eq_true rfl)⟩ (Nat.le_of_ble_eq_true rfl) dL_withdraw_5 ?_
  intro q
  refine z_astore_4 dL_withdraw_13 (Nat.le_of_ble_eq_true rfl) rfl ?_
  refine z_iconst dL_withdraw_15 ?_
  exact z_retL (Nat.le_of_ble_eq_true rfl) (Nat.le_of_ble_eq_true rfl) dL_withdraw_16 rfl rfl
theorem tL_withdraw_x2 {G : z_G} {M M1 : z_M} {a1 a2 : Int} (hC : KX6_withdraw G [.ref (z_ad G 0 20), z_I a1, z_I a2] M (.inr "java/lang/IllegalArgumentException") M1) : KL_withdraw G [.ref (z_ad G 0 20), z_I a1, z_I a2, .ref (z_ad G 0 60)] M 2 M1 := by
  refine z_conL (ls := [some (.ref (z_ad G 0 20)), some (z_I a1), some (z_I a2), some (.ref (z_ad G 0 60)), none]) (by decide +kernel) (Nat.le_of_ble_eq_true rfl) rfl ?_
  intro Z htb
  refine z_aloadn dL_withdraw_0 rfl ?_
  refine z_iconst dL_withdraw_1 ?_
  refine z_aloadn dL_withdraw_2 rfl ?_
  refine z_iloadn dL_withdraw_3 rfl ?_
  refine z_iloadn dL_withdraw_4 rfl ?_
  refine z_callVc (pre := [⟨0, 10, 13, 19⟩]) (x := ⟨0, 10, 17, 21⟩) (suf := [⟨0, 10, 21, 13⟩]) htb hC (by
    intro z hz
    simp only [List.mem_cons, List.not_mem_nil, or_false] at hz
    rcases hz with rfl
    · exact Or.inr ⟨by decide, _, wlL_19, by decide +kernel⟩) rfl (by decide) wlL_21 wkL_21 wmL_31 wi_X6_withdraw ws_X6_withdraw wc_X6_withdraw wn_X6 n_X6_withdraw (by decide) rfl rfl rfl rfl ⟨(Nat.le_of_ble_eq_true rfl), (Nat.le_of_ble_eq_true rfl)⟩ ⟨(Nat.le_of_ble_eq_true rfl), (Nat.le_of_ble_eq_true rfl)⟩ (Nat.le_of_ble_eq_true rfl) dL_withdraw_5 ?_
  intro q
  refine z_astore_4 dL_withdraw_17 (Nat.le_of_ble_eq_true rfl) rfl ?_
  refine z_iconst dL_withdraw_19 ?_
  exact z_retL (Nat.le_of_ble_eq_true rfl) (Nat.le_of_ble_eq_true rfl) dL_withdraw_20 rfl rfl
theorem tL_withdraw_x3 {G : z_G} {M M1 : z_M} {a1 a2 : Int} (hC : KX6_withdraw G [.ref (z_ad G 0 20), z_I a1, z_I a2] M (.inr "java/lang/IllegalStateException") M1) : KL_withdraw G [.ref (z_ad G 0 20), z_I a1, z_I a2, .ref (z_ad G 0 60)] M 3 M1 := by
  refine z_conL (ls := [some (.ref (z_ad G 0 20)), some (z_I a1), some (z_I a2), some (.ref (z_ad G 0 60)), none]) (by decide +kernel) (Nat.le_of_ble_eq_true rfl) rfl ?_
  intro Z htb
  refine z_aloadn dL_withdraw_0 rfl ?_
  refine z_iconst dL_withdraw_1 ?_
  refine z_aloadn dL_withdraw_2 rfl ?_
  refine z_iloadn dL_withdraw_3 rfl ?_
  refine z_iloadn dL_withdraw_4 rfl ?_
  refine z_callVc (pre := [⟨0, 10, 13, 19⟩, ⟨0, 10, 17, 21⟩]) (x := ⟨0, 10, 21, 13⟩) (suf := []) htb hC (by
    intro z hz
    simp only [List.mem_cons, List.not_mem_nil, or_false] at hz
    rcases hz with rfl | rfl
    · exact Or.inr ⟨by decide, _, wlL_19, by decide +kernel⟩
    · exact Or.inr ⟨by decide, _, wlL_21, by decide +kernel⟩) rfl (by decide) wlL_13 wkL_13 wmL_31 wi_X6_withdraw ws_X6_withdraw wc_X6_withdraw wn_X6 n_X6_withdraw (by decide) rfl rfl rfl rfl ⟨(Nat.le_of_ble_eq_true rfl), (Nat.le_of_ble_eq_true rfl)⟩ ⟨(Nat.le_of_ble_eq_true rfl), (Nat.le_of_ble_eq_true rfl)⟩ (Nat.le_of_ble_eq_true rfl) dL_withdraw_5 ?_
  intro q
  refine z_astore_4 dL_withdraw_21 (Nat.le_of_ble_eq_true rfl) rfl ?_
  refine z_iconst dL_withdraw_23 ?_
  exact z_retL (Nat.le_of_ble_eq_true rfl) (Nat.le_of_ble_eq_true rfl) dL_withdraw_24 rfl rfl
def hL_set : List (Nat × Nat × Nat × Nat) := [(0, 10, 13, 19), (0, 10, 17, 21)]
theorem wc_L_set : Cond.codeWith yL_set cL_set 5 (some .int) hL_set ∈ z_W := z_wi 789 (by decide +kernel) (by decide +kernel)
theorem wt_L_set : Cond.static yL_set ∈ z_W := z_wi 788 (by decide +kernel) (by decide +kernel)
theorem n_L_set : z_name yL_set 4 := ⟨⟨by decide +kernel, by decide +kernel⟩, by decide +kernel⟩
abbrev KL_set (G : z_G) (args : List Value) (M : z_M) (r : Int) (M1 : z_M) : Prop := z_ConL G yL_set cL_set 5 hL_set 8 147 args M r M1
theorem tL_set {G : z_G} {M M1 : z_M} {a1 a2 : Int} {r : Int} (hC : KX6_set G [.ref (z_ad G 0 20), z_I a1, z_I a2] M (.inl (some (z_I r))) M1) : KL_set G [.ref (z_ad G 0 20), z_I a1, z_I a2, .ref (z_ad G 0 60)] M 0 (z_sM M1 32 0 (z_iw r)) := by
  refine z_conL (ls := [some (.ref (z_ad G 0 20)), some (z_I a1), some (z_I a2), some (.ref (z_ad G 0 60)), none]) (by decide +kernel) (Nat.le_of_ble_eq_true rfl) rfl ?_
  intro Z htb
  refine z_aloadn dL_set_0 rfl ?_
  refine z_iconst dL_set_1 ?_
  refine z_aloadn dL_set_2 rfl ?_
  refine z_iloadn dL_set_3 rfl ?_
  refine z_iloadn dL_set_4 rfl ?_
  refine kL_34 hC rfl ⟨(Nat.le_of_ble_eq_true rfl), (Nat.le_of_ble_eq_true rfl)⟩ (Nat.le_of_ble_eq_true rfl) dL_set_5 ?_
  refine z_iwr ?_
  refine z_i2l (z_iw_rg1 r) dL_set_8 ?_
  refine z_last (z_iw_rg1 r) dL_set_9 ?_
  refine z_goto (tgt := 21) dL_set_10 rfl ?_
  refine z_iconst dL_set_21 ?_
  exact z_retL (Nat.le_of_ble_eq_true rfl) (Nat.le_of_ble_eq_true rfl) dL_set_22 rfl rfl
theorem tL_set_x1 {G : z_G} {M M1 : z_M} {a1 a2 : Int} (hC : KX6_set G [.ref (z_ad G 0 20), z_I a1, z_I a2] M (.inr "java/lang/IndexOutOfBoundsException") M1) : KL_set G [.ref (z_ad G 0 20), z_I a1, z_I a2, .ref (z_ad G 0 60)] M 1 M1 := by
  refine z_conL (ls := [some (.ref (z_ad G 0 20)), some (z_I a1), some (z_I a2), some (.ref (z_ad G 0 60)), none]) (by decide +kernel) (Nat.le_of_ble_eq_true rfl) rfl ?_
  intro Z htb
  refine z_aloadn dL_set_0 rfl ?_
  refine z_iconst dL_set_1 ?_
  refine z_aloadn dL_set_2 rfl ?_
  refine z_iloadn dL_set_3 rfl ?_
  refine z_iloadn dL_set_4 rfl ?_
  refine z_callVc (pre := []) (x := ⟨0, 10, 13, 19⟩) (suf := [⟨0, 10, 17, 21⟩]) htb hC (fun _ h => absurd h List.not_mem_nil) rfl (by decide) wlL_19 wkL_19 wmL_34 wi_X6_set ws_X6_set wc_X6_set wn_X6 n_X6_set (by decide) rfl rfl rfl rfl ⟨(Nat.le_of_ble_eq_true rfl), (Nat.le_of_ble_eq_true rfl)⟩ ⟨(Nat.le_of_ble_eq_true rfl), (Nat.le_of_ble_eq_true rfl)⟩ (Nat.le_of_ble_eq_true rfl) dL_set_5 ?_
  intro q
  refine z_astore_4 dL_set_13 (Nat.le_of_ble_eq_true rfl) rfl ?_
  refine z_iconst dL_set_15 ?_
  exact z_retL (Nat.le_of_ble_eq_true rfl) (Nat.le_of_ble_eq_true rfl) dL_set_16 rfl rfl
theorem tL_set_x2 {G : z_G} {M M1 : z_M} {a1 a2 : Int} (hC : KX6_set G [.ref (z_ad G 0 20), z_I a1, z_I a2] M (.inr "java/lang/IllegalArgumentException") M1) : KL_set G [.ref (z_ad G 0 20), z_I a1, z_I a2, .ref (z_ad G 0 60)] M 2 M1 := by
  refine z_conL (ls := [some (.ref (z_ad G 0 20)), some (z_I a1), some (z_I a2), some (.ref (z_ad G 0 60)), none]) (by decide +kernel) (Nat.le_of_ble_eq_true rfl) rfl ?_
  intro Z htb
  refine z_aloadn dL_set_0 rfl ?_
  refine z_iconst dL_set_1 ?_
  refine z_aloadn dL_set_2 rfl ?_
  refine z_iloadn dL_set_3 rfl ?_
  refine z_iloadn dL_set_4 rfl ?_
  refine z_callVc (pre := [⟨0, 10, 13, 19⟩]) (x := ⟨0, 10, 17, 21⟩) (suf := []) htb hC (by
    intro z hz
    simp only [List.mem_cons, List.not_mem_nil, or_false] at hz
    rcases hz with rfl
    · exact Or.inr ⟨by decide, _, wlL_19, by decide +kernel⟩) rfl (by decide) wlL_21 wkL_21 wmL_34 wi_X6_set ws_X6_set wc_X6_set wn_X6 n_X6_set (by decide) rfl rfl rfl rfl ⟨(Nat.le_of_ble_eq_true rfl), (Nat.le_of_ble_eq_true rfl)⟩ ⟨(Nat.le_of_ble_eq_true rfl), (Nat.le_of_ble_eq_true rfl)⟩ (Nat.le_of_ble_eq_true rfl) dL_set_5 ?_
  intro q
  refine z_astore_4 dL_set_17 (Nat.le_of_ble_eq_true rfl) rfl ?_
  refine z_iconst dL_set_19 ?_
  exact z_retL (Nat.le_of_ble_eq_true rfl) (Nat.le_of_ble_eq_true rfl) dL_set_20 rfl rfl
def hL_order : List (Nat × Nat × Nat × Nat) := [(0, 10, 13, 19), (0, 10, 17, 21), (0, 10, 21, 13)]
theorem wc_L_order : Cond.codeWith yL_order cL_order 5 (some .int) hL_order ∈ z_W := z_wi 802 (by decide +kernel) (by decide +kernel)
theorem wt_L_order : Cond.static yL_order ∈ z_W := z_wi 801 (by decide +kernel) (by decide +kernel)
theorem n_L_order : z_name yL_order 4 := ⟨⟨by decide +kernel, by decide +kernel⟩, by decide +kernel⟩
abbrev KL_order (G : z_G) (args : List Value) (M : z_M) (r : Int) (M1 : z_M) : Prop := z_ConL G yL_order cL_order 5 hL_order 8 146 args M r M1
theorem tL_order {G : z_G} {M M1 : z_M} {a1 a2 : Int} {r : Int} (hC : KX6_order G [.ref (z_ad G 0 20), z_I a1, z_I a2] M (.inl (some (z_I r))) M1) : KL_order G [.ref (z_ad G 0 20), z_I a1, z_I a2, .ref (z_ad G 0 60)] M 0 (z_sM M1 32 0 (z_iw r)) := by
  refine z_conL (ls := [some (.ref (z_ad G 0 20)), some (z_I a1), some (z_I a2), some (.ref (z_ad G 0 60)), none]) (by decide +kernel) (Nat.le_of_ble_eq_true rfl) rfl ?_
  intro Z htb
  refine z_aloadn dL_order_0 rfl ?_
  refine z_iconst dL_order_1 ?_
  refine z_aloadn dL_order_2 rfl ?_
  refine z_iloadn dL_order_3 rfl ?_
  refine z_iloadn dL_order_4 rfl ?_
  refine kL_37 hC rfl ⟨(Nat.le_of_ble_eq_true rfl), (Nat.le_of_ble_eq_true rfl)⟩ (Nat.le_of_ble_eq_true rfl) dL_order_5 ?_
  refine z_iwr ?_
  refine z_i2l (z_iw_rg1 r) dL_order_8 ?_
  refine z_last (z_iw_rg1 r) dL_order_9 ?_
  refine z_goto (tgt := 25) dL_order_10 rfl ?_
  refine z_iconst dL_order_25 ?_
  exact z_retL (Nat.le_of_ble_eq_true rfl) (Nat.le_of_ble_eq_true rfl) dL_order_26 rfl rfl
theorem tL_order_x1 {G : z_G} {M M1 : z_M} {a1 a2 : Int} (hC : KX6_order G [.ref (z_ad G 0 20), z_I a1, z_I a2] M (.inr "java/lang/IndexOutOfBoundsException") M1) : KL_order G [.ref (z_ad G 0 20), z_I a1, z_I a2, .ref (z_ad G 0 60)] M 1 M1 := by
  refine z_conL (ls := [some (.ref (z_ad G 0 20)), some (z_I a1), some (z_I a2), some (.ref (z_ad G 0 60)), none]) (by decide +kernel) (Nat.le_of_ble_eq_true rfl) rfl ?_
  intro Z htb
  refine z_aloadn dL_order_0 rfl ?_
  refine z_iconst dL_order_1 ?_
  refine z_aloadn dL_order_2 rfl ?_
  refine z_iloadn dL_order_3 rfl ?_
  refine z_iloadn dL_order_4 rfl ?_
  refine z_callVc (pre := []) (x := ⟨0, 10, 13, 19⟩) (suf := [⟨0, 10, 17, 21⟩, ⟨0, 10, 21, 13⟩]) htb hC (fun _ h => absurd h List.not_mem_nil) rfl (by decide) wlL_19 wkL_19 wmL_37 wi_X6_order ws_X6_order wc_X6_order wn_X6 n_X6_order (by decide) rfl rfl rfl rfl ⟨(Nat.le_of_ble_eq_true rfl), (Nat.le_of_ble_eq_true rfl)⟩ ⟨(Nat.le_of_ble_eq_true rfl), (Nat.le_of_ble_eq_true rfl)⟩ (Nat.le_of_ble_eq_true rfl) dL_order_5 ?_
  intro q
  refine z_astore_4 dL_order_13 (Nat.le_of_ble_eq_true rfl) rfl ?_
  refine z_iconst dL_order_15 ?_
  exact z_retL (Nat.le_of_ble_eq_true rfl) (Nat.le_of_ble_eq_true rfl) dL_order_16 rfl rfl
theorem tL_order_x2 {G : z_G} {M M1 : z_M} {a1 a2 : Int} (hC : KX6_order G [.ref (z_ad G 0 20), z_I a1, z_I a2] M (.inr "java/lang/IllegalArgumentException") M1) : KL_order G [.ref (z_ad G 0 20), z_I a1, z_I a2, .ref (z_ad G 0 60)] M 2 M1 := by
  refine z_conL (ls := [some (.ref (z_ad G 0 20)), some (z_I a1), some (z_I a2), some (.ref (z_ad G 0 60)), none]) (by decide +kernel) (Nat.le_of_ble_eq_true rfl) rfl ?_
  intro Z htb
  refine z_aloadn dL_order_0 rfl ?_
  refine z_iconst dL_order_1 ?_
  refine z_aloadn dL_order_2 rfl ?_
  refine z_iloadn dL_order_3 rfl ?_
  refine z_iloadn dL_order_4 rfl ?_
  refine z_callVc (pre := [⟨0, 10, 13, 19⟩]) (x := ⟨0, 10, 17, 21⟩) (suf := [⟨0, 10, 21, 13⟩]) htb hC (by
    intro z hz
    simp only [List.mem_cons, List.not_mem_nil, or_false] at hz
    rcases hz with rfl
    · exact Or.inr ⟨by decide, _, wlL_19, by decide +kernel⟩) rfl (by decide) wlL_21 wkL_21 wmL_37 wi_X6_order ws_X6_order wc_X6_order wn_X6 n_X6_order (by decide) rfl rfl rfl rfl ⟨(Nat.le_of_ble_eq_true rfl), (Nat.le_of_ble_eq_true rfl)⟩ ⟨(Nat.le_of_ble_eq_true rfl), (Nat.le_of_ble_eq_true rfl)⟩ (Nat.le_of_ble_eq_true rfl) dL_order_5 ?_
  intro q
  refine z_astore_4 dL_order_17 (Nat.le_of_ble_eq_true rfl) rfl ?_
  refine z_iconst dL_order_19 ?_
  exact z_retL (Nat.le_of_ble_eq_true rfl) (Nat.le_of_ble_eq_true rfl) dL_order_20 rfl rfl
theorem tL_order_x3 {G : z_G} {M M1 : z_M} {a1 a2 : Int} (hC : KX6_order G [.ref (z_ad G 0 20), z_I a1, z_I a2] M (.inr "java/lang/IllegalStateException") M1) : KL_order G [.ref (z_ad G 0 20), z_I a1, z_I a2, .ref (z_ad G 0 60)] M 3 M1 := by
  refine z_conL (ls := [some (.ref (z_ad G 0 20)), some (z_I a1), some (z_I a2), some (.ref (z_ad G 0 60)), none]) (by decide +kernel) (Nat.le_of_ble_eq_true rfl) rfl ?_
  intro Z htb
  refine z_aloadn dL_order_0 rfl ?_
  refine z_iconst dL_order_1 ?_
  refine z_aloadn dL_order_2 rfl ?_
  refine z_iloadn dL_order_3 rfl ?_
  refine z_iloadn dL_order_4 rfl ?_
  refine z_callVc (pre := [⟨0, 10, 13, 19⟩, ⟨0, 10, 17, 21⟩]) (x := ⟨0, 10, 21, 13⟩) (suf := []) htb hC (by
    intro z hz
    simp only [List.mem_cons, List.not_mem_nil, or_false] at hz
    rcases hz with rfl | rfl
    · exact Or.inr ⟨by decide, _, wlL_19, by decide +kernel⟩
    · exact Or.inr ⟨by decide, _, wlL_21, by decide +kernel⟩) rfl (by decide) wlL_13 wkL_13 wmL_37 wi_X6_order ws_X6_order wc_X6_order wn_X6 n_X6_order (by decide) rfl rfl rfl rfl ⟨(Nat.le_of_ble_eq_true rfl), (Nat.le_of_ble_eq_true rfl)⟩ ⟨(Nat.le_of_ble_eq_true rfl), (Nat.le_of_ble_eq_true rfl)⟩ (Nat.le_of_ble_eq_true rfl) dL_order_5 ?_
  intro q
  refine z_astore_4 dL_order_21 (Nat.le_of_ble_eq_true rfl) rfl ?_
  refine z_iconst dL_order_23 ?_
  exact z_retL (Nat.le_of_ble_eq_true rfl) (Nat.le_of_ble_eq_true rfl) dL_order_24 rfl rfl
def hL_draft : List (Nat × Nat × Nat × Nat) := [(0, 10, 13, 19), (0, 10, 17, 13)]
theorem wc_L_draft : Cond.codeWith yL_draft cL_draft 5 (some .int) hL_draft ∈ z_W := z_wi 814 (by decide +kernel) (by decide +kernel)
theorem wt_L_draft : Cond.static yL_draft ∈ z_W := z_wi 813 (by decide +kernel) (by decide +kernel)
theorem n_L_draft : z_name yL_draft 4 := ⟨⟨by decide +kernel, by decide +kernel⟩, by decide +kernel⟩
abbrev KL_draft (G : z_G) (args : List Value) (M : z_M) (r : Int) (M1 : z_M) : Prop := z_ConL G yL_draft cL_draft 5 hL_draft 8 147 args M r M1
theorem tL_draft {G : z_G} {M M1 : z_M} {a1 a2 : Int} {r : Int} (hC : KX6_draft G [.ref (z_ad G 0 20), z_I a1, z_I a2] M (.inl (some (z_I r))) M1) : KL_draft G [.ref (z_ad G 0 20), z_I a1, z_I a2, .ref (z_ad G 0 60)] M 0 (z_sM M1 32 0 (z_iw r)) := by
  refine z_conL (ls := [some (.ref (z_ad G 0 20)), some (z_I a1), some (z_I a2), some (.ref (z_ad G 0 60)), none]) (by decide +kernel) (Nat.le_of_ble_eq_true rfl) rfl ?_
  intro Z htb
  refine z_aloadn dL_draft_0 rfl ?_
  refine z_iconst dL_draft_1 ?_
  refine z_aloadn dL_draft_2 rfl ?_
  refine z_iloadn dL_draft_3 rfl ?_
  refine z_iloadn dL_draft_4 rfl ?_
  refine kL_40 hC rfl ⟨(Nat.le_of_ble_eq_true rfl), (Nat.le_of_ble_eq_true rfl)⟩ (Nat.le_of_ble_eq_true rfl) dL_draft_5 ?_
  refine z_iwr ?_
  refine z_i2l (z_iw_rg1 r) dL_draft_8 ?_
  refine z_last (z_iw_rg1 r) dL_draft_9 ?_
  refine z_goto (tgt := 21) dL_draft_10 rfl ?_
  refine z_iconst dL_draft_21 ?_
  exact z_retL (Nat.le_of_ble_eq_true rfl) (Nat.le_of_ble_eq_true rfl) dL_draft_22 rfl rfl
theorem tL_draft_x1 {G : z_G} {M M1 : z_M} {a1 a2 : Int} (hC : KX6_draft G [.ref (z_ad G 0 20), z_I a1, z_I a2] M (.inr "java/lang/IndexOutOfBoundsException") M1) : KL_draft G [.ref (z_ad G 0 20), z_I a1, z_I a2, .ref (z_ad G 0 60)] M 1 M1 := by
  refine z_conL (ls := [some (.ref (z_ad G 0 20)), some (z_I a1), some (z_I a2), some (.ref (z_ad G 0 60)), none]) (by decide +kernel) (Nat.le_of_ble_eq_true rfl) rfl ?_
  intro Z htb
  refine z_aloadn dL_draft_0 rfl ?_
  refine z_iconst dL_draft_1 ?_
  refine z_aloadn dL_draft_2 rfl ?_
  refine z_iloadn dL_draft_3 rfl ?_
  refine z_iloadn dL_draft_4 rfl ?_
  refine z_callVc (pre := []) (x := ⟨0, 10, 13, 19⟩) (suf := [⟨0, 10, 17, 13⟩]) htb hC (fun _ h => absurd h List.not_mem_nil) rfl (by decide) wlL_19 wkL_19 wmL_40 wi_X6_draft ws_X6_draft wc_X6_draft wn_X6 n_X6_draft (by decide) rfl rfl rfl rfl ⟨(Nat.le_of_ble_eq_true rfl), (Nat.le_of_ble_eq_true rfl)⟩ ⟨(Nat.le_of_ble_eq_true rfl), (Nat.le_of_ble_eq_true rfl)⟩ (Nat.le_of_ble_eq_true rfl) dL_draft_5 ?_
  intro q
  refine z_astore_4 dL_draft_13 (Nat.le_of_ble_eq_true rfl) rfl ?_
  refine z_iconst dL_draft_15 ?_
  exact z_retL (Nat.le_of_ble_eq_true rfl) (Nat.le_of_ble_eq_true rfl) dL_draft_16 rfl rfl
theorem tL_draft_x2 {G : z_G} {M M1 : z_M} {a1 a2 : Int} (hC : KX6_draft G [.ref (z_ad G 0 20), z_I a1, z_I a2] M (.inr "java/lang/IllegalStateException") M1) : KL_draft G [.ref (z_ad G 0 20), z_I a1, z_I a2, .ref (z_ad G 0 60)] M 2 M1 := by
  refine z_conL (ls := [some (.ref (z_ad G 0 20)), some (z_I a1), some (z_I a2), some (.ref (z_ad G 0 60)), none]) (by decide +kernel) (Nat.le_of_ble_eq_true rfl) rfl ?_
  intro Z htb
  refine z_aloadn dL_draft_0 rfl ?_
  refine z_iconst dL_draft_1 ?_
  refine z_aloadn dL_draft_2 rfl ?_
  refine z_iloadn dL_draft_3 rfl ?_
  refine z_iloadn dL_draft_4 rfl ?_
  refine z_callVc (pre := [⟨0, 10, 13, 19⟩]) (x := ⟨0, 10, 17, 13⟩) (suf := []) htb hC (by
    intro z hz
    simp only [List.mem_cons, List.not_mem_nil, or_false] at hz
    rcases hz with rfl
    · exact Or.inr ⟨by decide, _, wlL_19, by decide +kernel⟩) rfl (by decide) wlL_13 wkL_13 wmL_40 wi_X6_draft ws_X6_draft wc_X6_draft wn_X6 n_X6_draft (by decide) rfl rfl rfl rfl ⟨(Nat.le_of_ble_eq_true rfl), (Nat.le_of_ble_eq_true rfl)⟩ ⟨(Nat.le_of_ble_eq_true rfl), (Nat.le_of_ble_eq_true rfl)⟩ (Nat.le_of_ble_eq_true rfl) dL_draft_5 ?_
  intro q
  refine z_astore_4 dL_draft_17 (Nat.le_of_ble_eq_true rfl) rfl ?_
  refine z_iconst dL_draft_19 ?_
  exact z_retL (Nat.le_of_ble_eq_true rfl) (Nat.le_of_ble_eq_true rfl) dL_draft_20 rfl rfl
def hL_revise : List (Nat × Nat × Nat × Nat) := [(0, 10, 13, 19), (0, 10, 17, 21), (0, 10, 21, 13)]
theorem wc_L_revise : Cond.codeWith yL_revise cL_revise 5 (some .int) hL_revise ∈ z_W := z_wi 827 (by decide +kernel) (by decide +kernel)
theorem wt_L_revise : Cond.static yL_revise ∈ z_W := z_wi 826 (by decide +kernel) (by decide +kernel)
theorem n_L_revise : z_name yL_revise 4 := ⟨⟨by decide +kernel, by decide +kernel⟩, by decide +kernel⟩
abbrev KL_revise (G : z_G) (args : List Value) (M : z_M) (r : Int) (M1 : z_M) : Prop := z_ConL G yL_revise cL_revise 5 hL_revise 8 147 args M r M1
theorem tL_revise {G : z_G} {M M1 : z_M} {a1 a2 : Int} {r : Int} (hC : KX6_revise G [.ref (z_ad G 0 20), z_I a1, z_I a2] M (.inl (some (z_I r))) M1) : KL_revise G [.ref (z_ad G 0 20), z_I a1, z_I a2, .ref (z_ad G 0 60)] M 0 (z_sM M1 32 0 (z_iw r)) := by
  refine z_conL (ls := [some (.ref (z_ad G 0 20)), some (z_I a1), some (z_I a2), some (.ref (z_ad G 0 60)), none]) (by decide +kernel) (Nat.le_of_ble_eq_true rfl) rfl ?_
  intro Z htb
  refine z_aloadn dL_revise_0 rfl ?_
  refine z_iconst dL_revise_1 ?_
  refine z_aloadn dL_revise_2 rfl ?_
  refine z_iloadn dL_revise_3 rfl ?_
  refine z_iloadn dL_revise_4 rfl ?_
  refine kL_43 hC rfl ⟨(Nat.le_of_ble_eq_true rfl), (Nat.le_of_ble_eq_true rfl)⟩ (Nat.le_of_ble_eq_true rfl) dL_revise_5 ?_
  refine z_iwr ?_
  refine z_i2l (z_iw_rg1 r) dL_revise_8 ?_
  refine z_last (z_iw_rg1 r) dL_revise_9 ?_
  refine z_goto (tgt := 25) dL_revise_10 rfl ?_
  refine z_iconst dL_revise_25 ?_
  exact z_retL (Nat.le_of_ble_eq_true rfl) (Nat.le_of_ble_eq_true rfl) dL_revise_26 rfl rfl
theorem tL_revise_x1 {G : z_G} {M M1 : z_M} {a1 a2 : Int} (hC : KX6_revise G [.ref (z_ad G 0 20), z_I a1, z_I a2] M (.inr "java/lang/IndexOutOfBoundsException") M1) : KL_revise G [.ref (z_ad G 0 20), z_I a1, z_I a2, .ref (z_ad G 0 60)] M 1 M1 := by
  refine z_conL (ls := [some (.ref (z_ad G 0 20)), some (z_I a1), some (z_I a2), some (.ref (z_ad G 0 60)), none]) (by decide +kernel) (Nat.le_of_ble_eq_true rfl) rfl ?_
  intro Z htb
  refine z_aloadn dL_revise_0 rfl ?_
  refine z_iconst dL_revise_1 ?_
  refine z_aloadn dL_revise_2 rfl ?_
  refine z_iloadn dL_revise_3 rfl ?_
  refine z_iloadn dL_revise_4 rfl ?_
  refine z_callVc (pre := []) (x := ⟨0, 10, 13, 19⟩) (suf := [⟨0, 10, 17, 21⟩, ⟨0, 10, 21, 13⟩]) htb hC (fun _ h => absurd h List.not_mem_nil) rfl (by decide) wlL_19 wkL_19 wmL_43 wi_X6_revise ws_X6_revise wc_X6_revise wn_X6 n_X6_revise (by decide) rfl rfl rfl rfl ⟨(Nat.le_of_ble_eq_true rfl), (Nat.le_of_ble_eq_true rfl)⟩ ⟨(Nat.le_of_ble_eq_true rfl), (Nat.le_of_ble_eq_true rfl)⟩ (Nat.le_of_ble_eq_true rfl) dL_revise_5 ?_
  intro q
  refine z_astore_4 dL_revise_13 (Nat.le_of_ble_eq_true rfl) rfl ?_
  refine z_iconst dL_revise_15 ?_
  exact z_retL (Nat.le_of_ble_eq_true rfl) (Nat.le_of_ble_eq_true rfl) dL_revise_16 rfl rfl
theorem tL_revise_x2 {G : z_G} {M M1 : z_M} {a1 a2 : Int} (hC : KX6_revise G [.ref (z_ad G 0 20), z_I a1, z_I a2] M (.inr "java/lang/IllegalArgumentException") M1) : KL_revise G [.ref (z_ad G 0 20), z_I a1, z_I a2, .ref (z_ad G 0 60)] M 2 M1 := by
  refine z_conL (ls := [some (.ref (z_ad G 0 20)), some (z_I a1), some (z_I a2), some (.ref (z_ad G 0 60)), none]) (by decide +kernel) (Nat.le_of_ble_eq_true rfl) rfl ?_
  intro Z htb
  refine z_aloadn dL_revise_0 rfl ?_
  refine z_iconst dL_revise_1 ?_
  refine z_aloadn dL_revise_2 rfl ?_
  refine z_iloadn dL_revise_3 rfl ?_
  refine z_iloadn dL_revise_4 rfl ?_
  refine z_callVc (pre := [⟨0, 10, 13, 19⟩]) (x := ⟨0, 10, 17, 21⟩) (suf := [⟨0, 10, 21, 13⟩]) htb hC (by
    intro z hz
    simp only [List.mem_cons, List.not_mem_nil, or_false] at hz
    rcases hz with rfl
    · exact Or.inr ⟨by decide, _, wlL_19, by decide +kernel⟩) rfl (by decide) wlL_21 wkL_21 wmL_43 wi_X6_revise ws_X6_revise wc_X6_revise wn_X6 n_X6_revise (by decide) rfl rfl rfl rfl ⟨(Nat.le_of_ble_eq_true rfl), (Nat.le_of_ble_eq_true rfl)⟩ ⟨(Nat.le_of_ble_eq_true rfl), (Nat.le_of_ble_eq_true rfl)⟩ (Nat.le_of_ble_eq_true rfl) dL_revise_5 ?_
  intro q
  refine z_astore_4 dL_revise_17 (Nat.le_of_ble_eq_true rfl) rfl ?_
  refine z_iconst dL_revise_19 ?_
  exact z_retL (Nat.le_of_ble_eq_true rfl) (Nat.le_of_ble_eq_true rfl) dL_revise_20 rfl rfl
theorem tL_revise_x3 {G : z_G} {M M1 : z_M} {a1 a2 : Int} (hC : KX6_revise G [.ref (z_ad G 0 20), z_I a1, z_I a2] M (.inr "java/lang/IllegalStateException") M1) : KL_revise G [.ref (z_ad G 0 20), z_I a1, z_I a2, .ref (z_ad G 0 60)] M 3 M1 := by
  refine z_conL (ls := [some (.ref (z_ad G 0 20)), some (z_I a1), some (z_I a2), some (.ref (z_ad G 0 60)), none]) (by decide +kernel) (Nat.le_of_ble_eq_true rfl) rfl ?_
  intro Z htb
  refine z_aloadn dL_revise_0 rfl ?_
  refine z_iconst dL_revise_1 ?_
  refine z_aloadn dL_revise_2 rfl ?_
  refine z_iloadn dL_revise_3 rfl ?_
  refine z_iloadn dL_revise_4 rfl ?_
  refine z_callVc (pre := [⟨0, 10, 13, 19⟩, ⟨0, 10, 17, 21⟩]) (x := ⟨0, 10, 21, 13⟩) (suf := []) htb hC (by
    intro z hz
    simp only [List.mem_cons, List.not_mem_nil, or_false] at hz
    rcases hz with rfl | rfl
    · exact Or.inr ⟨by decide, _, wlL_19, by decide +kernel⟩
    · exact Or.inr ⟨by decide, _, wlL_21, by decide +kernel⟩) rfl (by decide) wlL_13 wkL_13 wmL_43 wi_X6_revise ws_X6_revise wc_X6_revise wn_X6 n_X6_revise (by decide) rfl rfl rfl rfl ⟨(Nat.le_of_ble_eq_true rfl), (Nat.le_of_ble_eq_true rfl)⟩ ⟨(Nat.le_of_ble_eq_true rfl), (Nat.le_of_ble_eq_true rfl)⟩ (Nat.le_of_ble_eq_true rfl) dL_revise_5 ?_
  intro q
  refine z_astore_4 dL_revise_21 (Nat.le_of_ble_eq_true rfl) rfl ?_
  refine z_iconst dL_revise_23 ?_
  exact z_retL (Nat.le_of_ble_eq_true rfl) (Nat.le_of_ble_eq_true rfl) dL_revise_24 rfl rfl
def hL_share : List (Nat × Nat × Nat × Nat) := [(0, 9, 12, 19), (0, 9, 15, 21), (0, 9, 18, 13)]
theorem wc_L_share : Cond.codeWith yL_share cL_share 4 (some .int) hL_share ∈ z_W := z_wi 834 (by decide +kernel) (by decide +kernel)
theorem wt_L_share : Cond.static yL_share ∈ z_W := z_wi 833 (by decide +kernel) (by decide +kernel)
theorem n_L_share : z_name yL_share 3 := ⟨⟨by decide +kernel, by decide +kernel⟩, by decide +kernel⟩
abbrev KL_share (G : z_G) (args : List Value) (M : z_M) (r : Int) (M1 : z_M) : Prop := z_ConL G yL_share cL_share 4 hL_share 8 145 args M r M1
theorem tL_share {G : z_G} {M M1 : z_M} {a1 : Int} {r : Int} (hC : KX6_share G [.ref (z_ad G 0 20), z_I a1] M (.inl (some (z_I r))) M1) : KL_share G [.ref (z_ad G 0 20), z_I a1, .ref (z_ad G 0 60)] M 0 (z_sM M1 32 0 (z_iw r)) := by
  refine z_conL (ls := [some (.ref (z_ad G 0 20)), some (z_I a1), some (.ref (z_ad G 0 60)), none]) (by decide +kernel) (Nat.le_of_ble_eq_true rfl) rfl ?_
  intro Z htb
  refine z_aloadn dL_share_0 rfl ?_
  refine z_iconst dL_share_1 ?_
  refine z_aloadn dL_share_2 rfl ?_
  refine z_iloadn dL_share_3 rfl ?_
  refine kL_46 hC rfl ⟨(Nat.le_of_ble_eq_true rfl), (Nat.le_of_ble_eq_true rfl)⟩ (Nat.le_of_ble_eq_true rfl) dL_share_4 ?_
  refine z_iwr ?_
  refine z_i2l (z_iw_rg1 r) dL_share_7 ?_
  refine z_last (z_iw_rg1 r) dL_share_8 ?_
  refine z_goto (tgt := 21) dL_share_9 rfl ?_
  refine z_iconst dL_share_21 ?_
  exact z_retL (Nat.le_of_ble_eq_true rfl) (Nat.le_of_ble_eq_true rfl) dL_share_22 rfl rfl
theorem tL_share_x1 {G : z_G} {M M1 : z_M} {a1 : Int} (hC : KX6_share G [.ref (z_ad G 0 20), z_I a1] M (.inr "java/lang/IndexOutOfBoundsException") M1) : KL_share G [.ref (z_ad G 0 20), z_I a1, .ref (z_ad G 0 60)] M 1 M1 := by
  refine z_conL (ls := [some (.ref (z_ad G 0 20)), some (z_I a1), some (.ref (z_ad G 0 60)), none]) (by decide +kernel) (Nat.le_of_ble_eq_true rfl) rfl ?_
  intro Z htb
  refine z_aloadn dL_share_0 rfl ?_
  refine z_iconst dL_share_1 ?_
  refine z_aloadn dL_share_2 rfl ?_
  refine z_iloadn dL_share_3 rfl ?_
  refine z_callVc (pre := []) (x := ⟨0, 9, 12, 19⟩) (suf := [⟨0, 9, 15, 21⟩, ⟨0, 9, 18, 13⟩]) htb hC (fun _ h => absurd h List.not_mem_nil) rfl (by decide) wlL_19 wkL_19 wmL_46 wi_X6_share ws_X6_share wc_X6_share wn_X6 n_X6_share (by decide) rfl rfl rfl rfl ⟨(Nat.le_of_ble_eq_true rfl), (Nat.le_of_ble_eq_true rfl)⟩ ⟨(Nat.le_of_ble_eq_true rfl), (Nat.le_of_ble_eq_true rfl)⟩ (Nat.le_of_ble_eq_true rfl) dL_share_4 ?_
  intro q
  refine z_astoren_3 dL_share_12 (Nat.le_of_ble_eq_true rfl) rfl ?_
  refine z_iconst dL_share_13 ?_
  exact z_retL (Nat.le_of_ble_eq_true rfl) (Nat.le_of_ble_eq_true rfl) dL_share_14 rfl rfl
theorem tL_share_x2 {G : z_G} {M M1 : z_M} {a1 : Int} (hC : KX6_share G [.ref (z_ad G 0 20), z_I a1] M (.inr "java/lang/IllegalArgumentException") M1) : KL_share G [.ref (z_ad G 0 20), z_I a1, .ref (z_ad G 0 60)] M 2 M1 := by
  refine z_conL (ls := [some (.ref (z_ad G 0 20)), some (z_I a1), some (.ref (z_ad G 0 60)), none]) (by decide +kernel) (Nat.le_of_ble_eq_true rfl) rfl ?_
  intro Z htb
  refine z_aloadn dL_share_0 rfl ?_
  refine z_iconst dL_share_1 ?_
  refine z_aloadn dL_share_2 rfl ?_
  refine z_iloadn dL_share_3 rfl ?_
  refine z_callVc (pre := [⟨0, 9, 12, 19⟩]) (x := ⟨0, 9, 15, 21⟩) (suf := [⟨0, 9, 18, 13⟩]) htb hC (by
    intro z hz
    simp only [List.mem_cons, List.not_mem_nil, or_false] at hz
    rcases hz with rfl
    · exact Or.inr ⟨by decide, _, wlL_19, by decide +kernel⟩) rfl (by decide) wlL_21 wkL_21 wmL_46 wi_X6_share ws_X6_share wc_X6_share wn_X6 n_X6_share (by decide) rfl rfl rfl rfl ⟨(Nat.le_of_ble_eq_true rfl), (Nat.le_of_ble_eq_true rfl)⟩ ⟨(Nat.le_of_ble_eq_true rfl), (Nat.le_of_ble_eq_true rfl)⟩ (Nat.le_of_ble_eq_true rfl) dL_share_4 ?_
  intro q
  refine z_astoren_3 dL_share_15 (Nat.le_of_ble_eq_true rfl) rfl ?_
  refine z_iconst dL_share_16 ?_
  exact z_retL (Nat.le_of_ble_eq_true rfl) (Nat.le_of_ble_eq_true rfl) dL_share_17 rfl rfl
theorem tL_share_x3 {G : z_G} {M M1 : z_M} {a1 : Int} (hC : KX6_share G [.ref (z_ad G 0 20), z_I a1] M (.inr "java/lang/IllegalStateException") M1) : KL_share G [.ref (z_ad G 0 20), z_I a1, .ref (z_ad G 0 60)] M 3 M1 := by
  refine z_conL (ls := [some (.ref (z_ad G 0 20)), some (z_I a1), some (.ref (z_ad G 0 60)), none]) (by decide +kernel) (Nat.le_of_ble_eq_true rfl) rfl ?_
  intro Z htb
  refine z_aloadn dL_share_0 rfl ?_
  refine z_iconst dL_share_1 ?_
  refine z_aloadn dL_share_2 rfl ?_
  refine z_iloadn dL_share_3 rfl ?_
  refine z_callVc (pre := [⟨0, 9, 12, 19⟩, ⟨0, 9, 15, 21⟩]) (x := ⟨0, 9, 18, 13⟩) (suf := []) htb hC (by
    intro z hz
    simp only [List.mem_cons, List.not_mem_nil, or_false] at hz
    rcases hz with rfl | rfl
    · exact Or.inr ⟨by decide, _, wlL_19, by decide +kernel⟩
    · exact Or.inr ⟨by decide, _, wlL_21, by decide +kernel⟩) rfl (by decide) wlL_13 wkL_13 wmL_46 wi_X6_share ws_X6_share wc_X6_share wn_X6 n_X6_share (by decide) rfl rfl rfl rfl ⟨(Nat.le_of_ble_eq_true rfl), (Nat.le_of_ble_eq_true rfl)⟩ ⟨(Nat.le_of_ble_eq_true rfl), (Nat.le_of_ble_eq_true rfl)⟩ (Nat.le_of_ble_eq_true rfl) dL_share_4 ?_
  intro q
  refine z_astoren_3 dL_share_18 (Nat.le_of_ble_eq_true rfl) rfl ?_
  refine z_iconst dL_share_19 ?_
  exact z_retL (Nat.le_of_ble_eq_true rfl) (Nat.le_of_ble_eq_true rfl) dL_share_20 rfl rfl
def hL_accept : List (Nat × Nat × Nat × Nat) := [(0, 9, 12, 19), (0, 9, 15, 13)]
theorem wc_L_accept : Cond.codeWith yL_accept cL_accept 4 (some .int) hL_accept ∈ z_W := z_wi 856 (by decide +kernel) (by decide +kernel)
theorem wt_L_accept : Cond.static yL_accept ∈ z_W := z_wi 855 (by decide +kernel) (by decide +kernel)
theorem n_L_accept : z_name yL_accept 3 := ⟨⟨by decide +kernel, by decide +kernel⟩, by decide +kernel⟩
abbrev KL_accept (G : z_G) (args : List Value) (M : z_M) (r : Int) (M1 : z_M) : Prop := z_ConL G yL_accept cL_accept 4 hL_accept 8 147 args M r M1
theorem tL_accept {G : z_G} {M M1 : z_M} {a1 : Int} {r : Int} (hC : KX6_accept G [.ref (z_ad G 0 20), z_I a1] M (.inl (some (z_I r))) M1) : KL_accept G [.ref (z_ad G 0 20), z_I a1, .ref (z_ad G 0 60)] M 0 (z_sM M1 32 0 (z_iw r)) := by
  refine z_conL (ls := [some (.ref (z_ad G 0 20)), some (z_I a1), some (.ref (z_ad G 0 60)), none]) (by decide +kernel) (Nat.le_of_ble_eq_true rfl) rfl ?_
  intro Z htb
  refine z_aloadn dL_accept_0 rfl ?_
  refine z_iconst dL_accept_1 ?_
  refine z_aloadn dL_accept_2 rfl ?_
  refine z_iloadn dL_accept_3 rfl ?_
  refine kL_49 hC rfl ⟨(Nat.le_of_ble_eq_true rfl), (Nat.le_of_ble_eq_true rfl)⟩ (Nat.le_of_ble_eq_true rfl) dL_accept_4 ?_
  refine z_iwr ?_
  refine z_i2l (z_iw_rg1 r) dL_accept_7 ?_
  refine z_last (z_iw_rg1 r) dL_accept_8 ?_
  refine z_goto (tgt := 18) dL_accept_9 rfl ?_
  refine z_iconst dL_accept_18 ?_
  exact z_retL (Nat.le_of_ble_eq_true rfl) (Nat.le_of_ble_eq_true rfl) dL_accept_19 rfl rfl
theorem tL_accept_x1 {G : z_G} {M M1 : z_M} {a1 : Int} (hC : KX6_accept G [.ref (z_ad G 0 20), z_I a1] M (.inr "java/lang/IndexOutOfBoundsException") M1) : KL_accept G [.ref (z_ad G 0 20), z_I a1, .ref (z_ad G 0 60)] M 1 M1 := by
  refine z_conL (ls := [some (.ref (z_ad G 0 20)), some (z_I a1), some (.ref (z_ad G 0 60)), none]) (by decide +kernel) (Nat.le_of_ble_eq_true rfl) rfl ?_
  intro Z htb
  refine z_aloadn dL_accept_0 rfl ?_
  refine z_iconst dL_accept_1 ?_
  refine z_aloadn dL_accept_2 rfl ?_
  refine z_iloadn dL_accept_3 rfl ?_
  refine z_callVc (pre := []) (x := ⟨0, 9, 12, 19⟩) (suf := [⟨0, 9, 15, 13⟩]) htb hC (fun _ h => absurd h List.not_mem_nil) rfl (by decide) wlL_19 wkL_19 wmL_49 wi_X6_accept ws_X6_accept wc_X6_accept wn_X6 n_X6_accept (by decide) rfl rfl rfl rfl ⟨(Nat.le_of_ble_eq_true rfl), (Nat.le_of_ble_eq_true rfl)⟩ ⟨(Nat.le_of_ble_eq_true rfl), (Nat.le_of_ble_eq_true rfl)⟩ (Nat.le_of_ble_eq_true rfl) dL_accept_4 ?_
  intro q
  refine z_astoren_3 dL_accept_12 (Nat.le_of_ble_eq_true rfl) rfl ?_
  refine z_iconst dL_accept_13 ?_
  exact z_retL (Nat.le_of_ble_eq_true rfl) (Nat.le_of_ble_eq_true rfl) dL_accept_14 rfl rfl
theorem tL_accept_x2 {G : z_G} {M M1 : z_M} {a1 : Int} (hC : KX6_accept G [.ref (z_ad G 0 20), z_I a1] M (.inr "java/lang/IllegalStateException") M1) : KL_accept G [.ref (z_ad G 0 20), z_I a1, .ref (z_ad G 0 60)] M 2 M1 := by
  refine z_conL (ls := [some (.ref (z_ad G 0 20)), some (z_I a1), some (.ref (z_ad G 0 60)), none]) (by decide +kernel) (Nat.le_of_ble_eq_true rfl) rfl ?_
  intro Z htb
  refine z_aloadn dL_accept_0 rfl ?_
  refine z_iconst dL_accept_1 ?_
  refine z_aloadn dL_accept_2 rfl ?_
  refine z_iloadn dL_accept_3 rfl ?_
  refine z_callVc (pre := [⟨0, 9, 12, 19⟩]) (x := ⟨0, 9, 15, 13⟩) (suf := []) htb hC (by
    intro z hz
    simp only [List.mem_cons, List.not_mem_nil, or_false] at hz
    rcases hz with rfl
    · exact Or.inr ⟨by decide, _, wlL_19, by decide +kernel⟩) rfl (by decide) wlL_13 wkL_13 wmL_49 wi_X6_accept ws_X6_accept wc_X6_accept wn_X6 n_X6_accept (by decide) rfl rfl rfl rfl ⟨(Nat.le_of_ble_eq_true rfl), (Nat.le_of_ble_eq_true rfl)⟩ ⟨(Nat.le_of_ble_eq_true rfl), (Nat.le_of_ble_eq_true rfl)⟩ (Nat.le_of_ble_eq_true rfl) dL_accept_4 ?_
  intro q
  refine z_astoren_3 dL_accept_15 (Nat.le_of_ble_eq_true rfl) rfl ?_
  refine z_iconst dL_accept_16 ?_
  exact z_retL (Nat.le_of_ble_eq_true rfl) (Nat.le_of_ble_eq_true rfl) dL_accept_17 rfl rfl
def hL_kill : List (Nat × Nat × Nat × Nat) := [(0, 9, 12, 19), (0, 9, 15, 13)]
theorem wc_L_kill : Cond.codeWith yL_kill cL_kill 4 (some .int) hL_kill ∈ z_W := z_wi 877 (by decide +kernel) (by decide +kernel)
theorem wt_L_kill : Cond.static yL_kill ∈ z_W := z_wi 876 (by decide +kernel) (by decide +kernel)
theorem n_L_kill : z_name yL_kill 3 := ⟨⟨by decide +kernel, by decide +kernel⟩, by decide +kernel⟩
abbrev KL_kill (G : z_G) (args : List Value) (M : z_M) (r : Int) (M1 : z_M) : Prop := z_ConL G yL_kill cL_kill 4 hL_kill 8 146 args M r M1
theorem tL_kill {G : z_G} {M M1 : z_M} {a1 : Int} {r : Int} (hC : KX6_kill G [.ref (z_ad G 0 20), z_I a1] M (.inl (some (z_I r))) M1) : KL_kill G [.ref (z_ad G 0 20), z_I a1, .ref (z_ad G 0 60)] M 0 (z_sM M1 32 0 (z_iw r)) := by
  refine z_conL (ls := [some (.ref (z_ad G 0 20)), some (z_I a1), some (.ref (z_ad G 0 60)), none]) (by decide +kernel) (Nat.le_of_ble_eq_true rfl) rfl ?_
  intro Z htb
  refine z_aloadn dL_kill_0 rfl ?_
  refine z_iconst dL_kill_1 ?_
  refine z_aloadn dL_kill_2 rfl ?_
  refine z_iloadn dL_kill_3 rfl ?_
  refine kL_52 hC rfl ⟨(Nat.le_of_ble_eq_true rfl), (Nat.le_of_ble_eq_true rfl)⟩ (Nat.le_of_ble_eq_true rfl) dL_kill_4 ?_
  refine z_iwr ?_
  refine z_i2l (z_iw_rg1 r) dL_kill_7 ?_
  refine z_last (z_iw_rg1 r) dL_kill_8 ?_
  refine z_goto (tgt := 18) dL_kill_9 rfl ?_
  refine z_iconst dL_kill_18 ?_
  exact z_retL (Nat.le_of_ble_eq_true rfl) (Nat.le_of_ble_eq_true rfl) dL_kill_19 rfl rfl
theorem tL_kill_x1 {G : z_G} {M M1 : z_M} {a1 : Int} (hC : KX6_kill G [.ref (z_ad G 0 20), z_I a1] M (.inr "java/lang/IndexOutOfBoundsException") M1) : KL_kill G [.ref (z_ad G 0 20), z_I a1, .ref (z_ad G 0 60)] M 1 M1 := by
  refine z_conL (ls := [some (.ref (z_ad G 0 20)), some (z_I a1), some (.ref (z_ad G 0 60)), none]) (by decide +kernel) (Nat.le_of_ble_eq_true rfl) rfl ?_
  intro Z htb
  refine z_aloadn dL_kill_0 rfl ?_
  refine z_iconst dL_kill_1 ?_
  refine z_aloadn dL_kill_2 rfl ?_
  refine z_iloadn dL_kill_3 rfl ?_
  refine z_callVc (pre := []) (x := ⟨0, 9, 12, 19⟩) (suf := [⟨0, 9, 15, 13⟩]) htb hC (fun _ h => absurd h List.not_mem_nil) rfl (by decide) wlL_19 wkL_19 wmL_52 wi_X6_kill ws_X6_kill wc_X6_kill wn_X6 n_X6_kill (by decide) rfl rfl rfl rfl ⟨(Nat.le_of_ble_eq_true rfl), (Nat.le_of_ble_eq_true rfl)⟩ ⟨(Nat.le_of_ble_eq_true rfl), (Nat.le_of_ble_eq_true rfl)⟩ (Nat.le_of_ble_eq_true rfl) dL_kill_4 ?_
  intro q
  refine z_astoren_3 dL_kill_12 (Nat.le_of_ble_eq_true rfl) rfl ?_
  refine z_iconst dL_kill_13 ?_
  exact z_retL (Nat.le_of_ble_eq_true rfl) (Nat.le_of_ble_eq_true rfl) dL_kill_14 rfl rfl
theorem tL_kill_x2 {G : z_G} {M M1 : z_M} {a1 : Int} (hC : KX6_kill G [.ref (z_ad G 0 20), z_I a1] M (.inr "java/lang/IllegalStateException") M1) : KL_kill G [.ref (z_ad G 0 20), z_I a1, .ref (z_ad G 0 60)] M 2 M1 := by
  refine z_conL (ls := [some (.ref (z_ad G 0 20)), some (z_I a1), some (.ref (z_ad G 0 60)), none]) (by decide +kernel) (Nat.le_of_ble_eq_true rfl) rfl ?_
  intro Z htb
  refine z_aloadn dL_kill_0 rfl ?_
  refine z_iconst dL_kill_1 ?_
  refine z_aloadn dL_kill_2 rfl ?_
  refine z_iloadn dL_kill_3 rfl ?_
  refine z_callVc (pre := [⟨0, 9, 12, 19⟩]) (x := ⟨0, 9, 15, 13⟩) (suf := []) htb hC (by
    intro z hz
    simp only [List.mem_cons, List.not_mem_nil, or_false] at hz
    rcases hz with rfl
    · exact Or.inr ⟨by decide, _, wlL_19, by decide +kernel⟩) rfl (by decide) wlL_13 wkL_13 wmL_52 wi_X6_kill ws_X6_kill wc_X6_kill wn_X6 n_X6_kill (by decide) rfl rfl rfl rfl ⟨(Nat.le_of_ble_eq_true rfl), (Nat.le_of_ble_eq_true rfl)⟩ ⟨(Nat.le_of_ble_eq_true rfl), (Nat.le_of_ble_eq_true rfl)⟩ (Nat.le_of_ble_eq_true rfl) dL_kill_4 ?_
  intro q
  refine z_astoren_3 dL_kill_15 (Nat.le_of_ble_eq_true rfl) rfl ?_
  refine z_iconst dL_kill_16 ?_
  exact z_retL (Nat.le_of_ble_eq_true rfl) (Nat.le_of_ble_eq_true rfl) dL_kill_17 rfl rfl
def hL_royalty : List (Nat × Nat × Nat × Nat) := [(0, 10, 13, 19), (0, 10, 17, 21), (0, 10, 21, 13)]
theorem wc_L_royalty : Cond.codeWith yL_royalty cL_royalty 5 (some .int) hL_royalty ∈ z_W := z_wi 884 (by decide +kernel) (by decide +kernel)
theorem wt_L_royalty : Cond.static yL_royalty ∈ z_W := z_wi 883 (by decide +kernel) (by decide +kernel)
theorem n_L_royalty : z_name yL_royalty 4 := ⟨⟨by decide +kernel, by decide +kernel⟩, by decide +kernel⟩
abbrev KL_royalty (G : z_G) (args : List Value) (M : z_M) (r : Int) (M1 : z_M) : Prop := z_ConL G yL_royalty cL_royalty 5 hL_royalty 8 146 args M r M1
theorem tL_royalty {G : z_G} {M M1 : z_M} {a1 a2 : Int} {r : Int} (hC : KX6_royalty G [.ref (z_ad G 0 20), z_I a1, z_I a2] M (.inl (some (z_I r))) M1) : KL_royalty G [.ref (z_ad G 0 20), z_I a1, z_I a2, .ref (z_ad G 0 60)] M 0 (z_sM M1 32 0 (z_iw r)) := by
  refine z_conL (ls := [some (.ref (z_ad G 0 20)), some (z_I a1), some (z_I a2), some (.ref (z_ad G 0 60)), none]) (by decide +kernel) (Nat.le_of_ble_eq_true rfl) rfl ?_
  intro Z htb
  refine z_aloadn dL_royalty_0 rfl ?_
  refine z_iconst dL_royalty_1 ?_
  refine z_aloadn dL_royalty_2 rfl ?_
  refine z_iloadn dL_royalty_3 rfl ?_
  refine z_iloadn dL_royalty_4 rfl ?_
  refine kL_55 hC rfl ⟨(Nat.le_of_ble_eq_true rfl), (Nat.le_of_ble_eq_true rfl)⟩ (Nat.le_of_ble_eq_true rfl) dL_royalty_5 ?_
  refine z_iwr ?_
  refine z_i2l (z_iw_rg1 r) dL_royalty_8 ?_
  refine z_last (z_iw_rg1 r) dL_royalty_9 ?_
  refine z_goto (tgt := 25) dL_royalty_10 rfl ?_
  refine z_iconst dL_royalty_25 ?_
  exact z_retL (Nat.le_of_ble_eq_true rfl) (Nat.le_of_ble_eq_true rfl) dL_royalty_26 rfl rfl
theorem tL_royalty_x1 {G : z_G} {M M1 : z_M} {a1 a2 : Int} (hC : KX6_royalty G [.ref (z_ad G 0 20), z_I a1, z_I a2] M (.inr "java/lang/IndexOutOfBoundsException") M1) : KL_royalty G [.ref (z_ad G 0 20), z_I a1, z_I a2, .ref (z_ad G 0 60)] M 1 M1 := by
  refine z_conL (ls := [some (.ref (z_ad G 0 20)), some (z_I a1), some (z_I a2), some (.ref (z_ad G 0 60)), none]) (by decide +kernel) (Nat.le_of_ble_eq_true rfl) rfl ?_
  intro Z htb
  refine z_aloadn dL_royalty_0 rfl ?_
  refine z_iconst dL_royalty_1 ?_
  refine z_aloadn dL_royalty_2 rfl ?_
  refine z_iloadn dL_royalty_3 rfl ?_
  refine z_iloadn dL_royalty_4 rfl ?_
  refine z_callVc (pre := []) (x := ⟨0, 10, 13, 19⟩) (suf := [⟨0, 10, 17, 21⟩, ⟨0, 10, 21, 13⟩]) htb hC (fun _ h => absurd h List.not_mem_nil) rfl (by decide) wlL_19 wkL_19 wmL_55 wi_X6_royalty ws_X6_royalty wc_X6_royalty wn_X6 n_X6_royalty (by decide) rfl rfl rfl rfl ⟨(Nat.le_of_ble_eq_true rfl), (Nat.le_of_ble_eq_true rfl)⟩ ⟨(Nat.le_of_ble_eq_true rfl), (Nat.le_of_ble_eq_true rfl)⟩ (Nat.le_of_ble_eq_true rfl) dL_royalty_5 ?_
  intro q
  refine z_astore_4 dL_royalty_13 (Nat.le_of_ble_eq_true rfl) rfl ?_
  refine z_iconst dL_royalty_15 ?_
  exact z_retL (Nat.le_of_ble_eq_true rfl) (Nat.le_of_ble_eq_true rfl) dL_royalty_16 rfl rfl
theorem tL_royalty_x2 {G : z_G} {M M1 : z_M} {a1 a2 : Int} (hC : KX6_royalty G [.ref (z_ad G 0 20), z_I a1, z_I a2] M (.inr "java/lang/IllegalArgumentException") M1) : KL_royalty G [.ref (z_ad G 0 20), z_I a1, z_I a2, .ref (z_ad G 0 60)] M 2 M1 := by
  refine z_conL (ls := [some (.ref (z_ad G 0 20)), some (z_I a1), some (z_I a2), some (.ref (z_ad G 0 60)), none]) (by decide +kernel) (Nat.le_of_ble_eq_true rfl) rfl ?_
  intro Z htb
  refine z_aloadn dL_royalty_0 rfl ?_
  refine z_iconst dL_royalty_1 ?_
  refine z_aloadn dL_royalty_2 rfl ?_
  refine z_iloadn dL_royalty_3 rfl ?_
  refine z_iloadn dL_royalty_4 rfl ?_
  refine z_callVc (pre := [⟨0, 10, 13, 19⟩]) (x := ⟨0, 10, 17, 21⟩) (suf := [⟨0, 10, 21, 13⟩]) htb hC (by
    intro z hz
    simp only [List.mem_cons, List.not_mem_nil, or_false] at hz
    rcases hz with rfl
    · exact Or.inr ⟨by decide, _, wlL_19, by decide +kernel⟩) rfl (by decide) wlL_21 wkL_21 wmL_55 wi_X6_royalty ws_X6_royalty wc_X6_royalty wn_X6 n_X6_royalty (by decide) rfl rfl rfl rfl ⟨(Nat.le_of_ble_eq_true rfl), (Nat.le_of_ble_eq_true rfl)⟩ ⟨(Nat.le_of_ble_eq_true rfl), (Nat.le_of_ble_eq_true rfl)⟩ (Nat.le_of_ble_eq_true rfl) dL_royalty_5 ?_
  intro q
  refine z_astore_4 dL_royalty_17 (Nat.le_of_ble_eq_true rfl) rfl ?_
  refine z_iconst dL_royalty_19 ?_
  exact z_retL (Nat.le_of_ble_eq_true rfl) (Nat.le_of_ble_eq_true rfl) dL_royalty_20 rfl rfl
theorem tL_royalty_x3 {G : z_G} {M M1 : z_M} {a1 a2 : Int} (hC : KX6_royalty G [.ref (z_ad G 0 20), z_I a1, z_I a2] M (.inr "java/lang/IllegalStateException") M1) : KL_royalty G [.ref (z_ad G 0 20), z_I a1, z_I a2, .ref (z_ad G 0 60)] M 3 M1 := by
  refine z_conL (ls := [some (.ref (z_ad G 0 20)), some (z_I a1), some (z_I a2), some (.ref (z_ad G 0 60)), none]) (by decide +kernel) (Nat.le_of_ble_eq_true rfl) rfl ?_
  intro Z htb
  refine z_aloadn dL_royalty_0 rfl ?_
  refine z_iconst dL_royalty_1 ?_
  refine z_aloadn dL_royalty_2 rfl ?_
  refine z_iloadn dL_royalty_3 rfl ?_
  refine z_iloadn dL_royalty_4 rfl ?_
  refine z_callVc (pre := [⟨0, 10, 13, 19⟩, ⟨0, 10, 17, 21⟩]) (x := ⟨0, 10, 21, 13⟩) (suf := []) htb hC (by
    intro z hz
    simp only [List.mem_cons, List.not_mem_nil, or_false] at hz
    rcases hz with rfl | rfl
    · exact Or.inr ⟨by decide, _, wlL_19, by decide +kernel⟩
    · exact Or.inr ⟨by decide, _, wlL_21, by decide +kernel⟩) rfl (by decide) wlL_13 wkL_13 wmL_55 wi_X6_royalty ws_X6_royalty wc_X6_royalty wn_X6 n_X6_royalty (by decide) rfl rfl rfl rfl ⟨(Nat.le_of_ble_eq_true rfl), (Nat.le_of_ble_eq_true rfl)⟩ ⟨(Nat.le_of_ble_eq_true rfl), (Nat.le_of_ble_eq_true rfl)⟩ (Nat.le_of_ble_eq_true rfl) dL_royalty_5 ?_
  intro q
  refine z_astore_4 dL_royalty_21 (Nat.le_of_ble_eq_true rfl) rfl ?_
  refine z_iconst dL_royalty_23 ?_
  exact z_retL (Nat.le_of_ble_eq_true rfl) (Nat.le_of_ble_eq_true rfl) dL_royalty_24 rfl rfl
def hL_dispute : List (Nat × Nat × Nat × Nat) := [(0, 10, 13, 19), (0, 10, 17, 13)]
theorem wc_L_dispute : Cond.codeWith yL_dispute cL_dispute 5 (some .int) hL_dispute ∈ z_W := z_wi 900 (by decide +kernel) (by decide +kernel)
theorem wt_L_dispute : Cond.static yL_dispute ∈ z_W := z_wi 899 (by decide +kernel) (by decide +kernel)
theorem n_L_dispute : z_name yL_dispute 4 := ⟨⟨by decide +kernel, by decide +kernel⟩, by decide +kernel⟩
abbrev KL_dispute (G : z_G) (args : List Value) (M : z_M) (r : Int) (M1 : z_M) : Prop := z_ConL G yL_dispute cL_dispute 5 hL_dispute 8 146 args M r M1
theorem tL_dispute {G : z_G} {M M1 : z_M} {a1 a2 : Int} {r : Int} (hC : KX6_dispute G [.ref (z_ad G 0 20), z_I a1, z_I a2] M (.inl (some (z_I r))) M1) : KL_dispute G [.ref (z_ad G 0 20), z_I a1, z_I a2, .ref (z_ad G 0 60)] M 0 (z_sM M1 32 0 (z_iw r)) := by
  refine z_conL (ls := [some (.ref (z_ad G 0 20)), some (z_I a1), some (z_I a2), some (.ref (z_ad G 0 60)), none]) (by decide +kernel) (Nat.le_of_ble_eq_true rfl) rfl ?_
  intro Z htb
  refine z_aloadn dL_dispute_0 rfl ?_
  refine z_iconst dL_dispute_1 ?_
  refine z_aloadn dL_dispute_2 rfl ?_
  refine z_iloadn dL_dispute_3 rfl ?_
  refine z_iloadn dL_dispute_4 rfl ?_
  refine kL_58 hC rfl ⟨(Nat.le_of_ble_eq_true rfl), (Nat.le_of_ble_eq_true rfl)⟩ (Nat.le_of_ble_eq_true rfl) dL_dispute_5 ?_
  refine z_iwr ?_
  refine z_i2l (z_iw_rg1 r) dL_dispute_8 ?_
  refine z_last (z_iw_rg1 r) dL_dispute_9 ?_
  refine z_goto (tgt := 21) dL_dispute_10 rfl ?_
  refine z_iconst dL_dispute_21 ?_
  exact z_retL (Nat.le_of_ble_eq_true rfl) (Nat.le_of_ble_eq_true rfl) dL_dispute_22 rfl rfl
theorem tL_dispute_x1 {G : z_G} {M M1 : z_M} {a1 a2 : Int} (hC : KX6_dispute G [.ref (z_ad G 0 20), z_I a1, z_I a2] M (.inr "java/lang/IndexOutOfBoundsException") M1) : KL_dispute G [.ref (z_ad G 0 20), z_I a1, z_I a2, .ref (z_ad G 0 60)] M 1 M1 := by
  refine z_conL (ls := [some (.ref (z_ad G 0 20)), some (z_I a1), some (z_I a2), some (.ref (z_ad G 0 60)), none]) (by decide +kernel) (Nat.le_of_ble_eq_true rfl) rfl ?_
  intro Z htb
  refine z_aloadn dL_dispute_0 rfl ?_
  refine z_iconst dL_dispute_1 ?_
  refine z_aloadn dL_dispute_2 rfl ?_
  refine z_iloadn dL_dispute_3 rfl ?_
  refine z_iloadn dL_dispute_4 rfl ?_
  refine z_callVc (pre := []) (x := ⟨0, 10, 13, 19⟩) (suf := [⟨0, 10, 17, 13⟩]) htb hC (fun _ h => absurd h List.not_mem_nil) rfl (by decide) wlL_19 wkL_19 wmL_58 wi_X6_dispute ws_X6_dispute wc_X6_dispute wn_X6 n_X6_dispute (by decide) rfl rfl rfl rfl ⟨(Nat.le_of_ble_eq_true rfl), (Nat.le_of_ble_eq_true rfl)⟩ ⟨(Nat.le_of_ble_eq_true rfl), (Nat.le_of_ble_eq_true rfl)⟩ (Nat.le_of_ble_eq_true rfl) dL_dispute_5 ?_
  intro q
  refine z_astore_4 dL_dispute_13 (Nat.le_of_ble_eq_true rfl) rfl ?_
  refine z_iconst dL_dispute_15 ?_
  exact z_retL (Nat.le_of_ble_eq_true rfl) (Nat.le_of_ble_eq_true rfl) dL_dispute_16 rfl rfl
theorem tL_dispute_x2 {G : z_G} {M M1 : z_M} {a1 a2 : Int} (hC : KX6_dispute G [.ref (z_ad G 0 20), z_I a1, z_I a2] M (.inr "java/lang/IllegalStateException") M1) : KL_dispute G [.ref (z_ad G 0 20), z_I a1, z_I a2, .ref (z_ad G 0 60)] M 2 M1 := by
  refine z_conL (ls := [some (.ref (z_ad G 0 20)), some (z_I a1), some (z_I a2), some (.ref (z_ad G 0 60)), none]) (by decide +kernel) (Nat.le_of_ble_eq_true rfl) rfl ?_
  intro Z htb
  refine z_aloadn dL_dispute_0 rfl ?_
  refine z_iconst dL_dispute_1 ?_
  refine z_aloadn dL_dispute_2 rfl ?_
  refine z_iloadn dL_dispute_3 rfl ?_
  refine z_iloadn dL_dispute_4 rfl ?_
  refine z_callVc (pre := [⟨0, 10, 13, 19⟩]) (x := ⟨0, 10, 17, 13⟩) (suf := []) htb hC (by
    intro z hz
    simp only [List.mem_cons, List.not_mem_nil, or_false] at hz
    rcases hz with rfl
    · exact Or.inr ⟨by decide, _, wlL_19, by decide +kernel⟩) rfl (by decide) wlL_13 wkL_13 wmL_58 wi_X6_dispute ws_X6_dispute wc_X6_dispute wn_X6 n_X6_dispute (by decide) rfl rfl rfl rfl ⟨(Nat.le_of_ble_eq_true rfl), (Nat.le_of_ble_eq_true rfl)⟩ ⟨(Nat.le_of_ble_eq_true rfl), (Nat.le_of_ble_eq_true rfl)⟩ (Nat.le_of_ble_eq_true rfl) dL_dispute_5 ?_
  intro q
  refine z_astore_4 dL_dispute_17 (Nat.le_of_ble_eq_true rfl) rfl ?_
  refine z_iconst dL_dispute_19 ?_
  exact z_retL (Nat.le_of_ble_eq_true rfl) (Nat.le_of_ble_eq_true rfl) dL_dispute_20 rfl rfl
def hL_append : List (Nat × Nat × Nat × Nat) := [(0, 9, 12, 21), (0, 9, 15, 13)]
theorem wc_L_append : Cond.codeWith yL_append cL_append 4 (some .int) hL_append ∈ z_W := z_wi 914 (by decide +kernel) (by decide +kernel)
theorem wt_L_append : Cond.static yL_append ∈ z_W := z_wi 913 (by decide +kernel) (by decide +kernel)
theorem n_L_append : z_name yL_append 3 := ⟨⟨by decide +kernel, by decide +kernel⟩, by decide +kernel⟩
abbrev KL_append (G : z_G) (args : List Value) (M : z_M) (r : Int) (M1 : z_M) : Prop := z_ConL G yL_append cL_append 4 hL_append 8 133 args M r M1
theorem tL_append {G : z_G} {M M1 : z_M} {a1 : Int} {r : Int} (hC : KX6_append G [.ref (z_ad G 0 20), z_I a1] M (.inl (some (z_I r))) M1) : KL_append G [.ref (z_ad G 0 20), z_I a1, .ref (z_ad G 0 60)] M 0 (z_sM M1 32 0 (z_iw r)) := by
  refine z_conL (ls := [some (.ref (z_ad G 0 20)), some (z_I a1), some (.ref (z_ad G 0 60)), none]) (by decide +kernel) (Nat.le_of_ble_eq_true rfl) rfl ?_
  intro Z htb
  refine z_aloadn dL_append_0 rfl ?_
  refine z_iconst dL_append_1 ?_
  refine z_aloadn dL_append_2 rfl ?_
  refine z_iloadn dL_append_3 rfl ?_
  refine kL_61 hC rfl ⟨(Nat.le_of_ble_eq_true rfl), (Nat.le_of_ble_eq_true rfl)⟩ (Nat.le_of_ble_eq_true rfl) dL_append_4 ?_
  refine z_iwr ?_
  refine z_i2l (z_iw_rg1 r) dL_append_7 ?_
  refine z_last (z_iw_rg1 r) dL_append_8 ?_
  refine z_goto (tgt := 18) dL_append_9 rfl ?_
  refine z_iconst dL_append_18 ?_
  exact z_retL (Nat.le_of_ble_eq_true rfl) (Nat.le_of_ble_eq_true rfl) dL_append_19 rfl rfl
theorem tL_append_x1 {G : z_G} {M M1 : z_M} {a1 : Int} (hC : KX6_append G [.ref (z_ad G 0 20), z_I a1] M (.inr "java/lang/IllegalArgumentException") M1) : KL_append G [.ref (z_ad G 0 20), z_I a1, .ref (z_ad G 0 60)] M 1 M1 := by
  refine z_conL (ls := [some (.ref (z_ad G 0 20)), some (z_I a1), some (.ref (z_ad G 0 60)), none]) (by decide +kernel) (Nat.le_of_ble_eq_true rfl) rfl ?_
  intro Z htb
  refine z_aloadn dL_append_0 rfl ?_
  refine z_iconst dL_append_1 ?_
  refine z_aloadn dL_append_2 rfl ?_
  refine z_iloadn dL_append_3 rfl ?_
  refine z_callVc (pre := []) (x := ⟨0, 9, 12, 21⟩) (suf := [⟨0, 9, 15, 13⟩]) htb hC (fun _ h => absurd h List.not_mem_nil) rfl (by decide) wlL_21 wkL_21 wmL_61 wi_X6_append ws_X6_append wc_X6_append wn_X6 n_X6_append (by decide) rfl rfl rfl rfl ⟨(Nat.le_of_ble_eq_true rfl), (Nat.le_of_ble_eq_true rfl)⟩ ⟨(Nat.le_of_ble_eq_true rfl), (Nat.le_of_ble_eq_true rfl)⟩ (Nat.le_of_ble_eq_true rfl) dL_append_4 ?_
  intro q
  refine z_astoren_3 dL_append_12 (Nat.le_of_ble_eq_true rfl) rfl ?_
  refine z_iconst dL_append_13 ?_
  exact z_retL (Nat.le_of_ble_eq_true rfl) (Nat.le_of_ble_eq_true rfl) dL_append_14 rfl rfl
theorem tL_append_x2 {G : z_G} {M M1 : z_M} {a1 : Int} (hC : KX6_append G [.ref (z_ad G 0 20), z_I a1] M (.inr "java/lang/IllegalStateException") M1) : KL_append G [.ref (z_ad G 0 20), z_I a1, .ref (z_ad G 0 60)] M 2 M1 := by
  refine z_conL (ls := [some (.ref (z_ad G 0 20)), some (z_I a1), some (.ref (z_ad G 0 60)), none]) (by decide +kernel) (Nat.le_of_ble_eq_true rfl) rfl ?_
  intro Z htb
  refine z_aloadn dL_append_0 rfl ?_
  refine z_iconst dL_append_1 ?_
  refine z_aloadn dL_append_2 rfl ?_
  refine z_iloadn dL_append_3 rfl ?_
  refine z_callVc (pre := [⟨0, 9, 12, 21⟩]) (x := ⟨0, 9, 15, 13⟩) (suf := []) htb hC (by
    intro z hz
    simp only [List.mem_cons, List.not_mem_nil, or_false] at hz
    rcases hz with rfl
    · exact Or.inr ⟨by decide, _, wlL_21, by decide +kernel⟩) rfl (by decide) wlL_13 wkL_13 wmL_61 wi_X6_append ws_X6_append wc_X6_append wn_X6 n_X6_append (by decide) rfl rfl rfl rfl ⟨(Nat.le_of_ble_eq_true rfl), (Nat.le_of_ble_eq_true rfl)⟩ ⟨(Nat.le_of_ble_eq_true rfl), (Nat.le_of_ble_eq_true rfl)⟩ (Nat.le_of_ble_eq_true rfl) dL_append_4 ?_
  intro q
  refine z_astoren_3 dL_append_15 (Nat.le_of_ble_eq_true rfl) rfl ?_
  refine z_iconst dL_append_16 ?_
  exact z_retL (Nat.le_of_ble_eq_true rfl) (Nat.le_of_ble_eq_true rfl) dL_append_17 rfl rfl
def hL_undo : List (Nat × Nat × Nat × Nat) := [(0, 8, 11, 13)]
theorem wc_L_undo : Cond.codeWith yL_undo cL_undo 3 (some .int) hL_undo ∈ z_W := z_wi 922 (by decide +kernel) (by decide +kernel)
theorem wt_L_undo : Cond.static yL_undo ∈ z_W := z_wi 921 (by decide +kernel) (by decide +kernel)
theorem n_L_undo : z_name yL_undo 2 := ⟨⟨by decide +kernel, by decide +kernel⟩, by decide +kernel⟩
abbrev KL_undo (G : z_G) (args : List Value) (M : z_M) (r : Int) (M1 : z_M) : Prop := z_ConL G yL_undo cL_undo 3 hL_undo 7 110 args M r M1
theorem tL_undo {G : z_G} {M M1 : z_M} {r : Int} (hC : KX6_undo G [.ref (z_ad G 0 20)] M (.inl (some (z_I r))) M1) : KL_undo G [.ref (z_ad G 0 20), .ref (z_ad G 0 60)] M 0 (z_sM M1 32 0 (z_iw r)) := by
  refine z_conL (ls := [some (.ref (z_ad G 0 20)), some (.ref (z_ad G 0 60)), none]) (by decide +kernel) (Nat.le_of_ble_eq_true rfl) rfl ?_
  intro Z htb
  refine z_aloadn dL_undo_0 rfl ?_
  refine z_iconst dL_undo_1 ?_
  refine z_aloadn dL_undo_2 rfl ?_
  refine kL_64 hC rfl ⟨(Nat.le_of_ble_eq_true rfl), (Nat.le_of_ble_eq_true rfl)⟩ (Nat.le_of_ble_eq_true rfl) dL_undo_3 ?_
  refine z_iwr ?_
  refine z_i2l (z_iw_rg1 r) dL_undo_6 ?_
  refine z_last (z_iw_rg1 r) dL_undo_7 ?_
  refine z_goto (tgt := 14) dL_undo_8 rfl ?_
  refine z_iconst dL_undo_14 ?_
  exact z_retL (Nat.le_of_ble_eq_true rfl) (Nat.le_of_ble_eq_true rfl) dL_undo_15 rfl rfl
theorem tL_undo_x1 {G : z_G} {M M1 : z_M} (hC : KX6_undo G [.ref (z_ad G 0 20)] M (.inr "java/lang/IllegalStateException") M1) : KL_undo G [.ref (z_ad G 0 20), .ref (z_ad G 0 60)] M 1 M1 := by
  refine z_conL (ls := [some (.ref (z_ad G 0 20)), some (.ref (z_ad G 0 60)), none]) (by decide +kernel) (Nat.le_of_ble_eq_true rfl) rfl ?_
  intro Z htb
  refine z_aloadn dL_undo_0 rfl ?_
  refine z_iconst dL_undo_1 ?_
  refine z_aloadn dL_undo_2 rfl ?_
  refine z_callVc (pre := []) (x := ⟨0, 8, 11, 13⟩) (suf := []) htb hC (fun _ h => absurd h List.not_mem_nil) rfl (by decide) wlL_13 wkL_13 wmL_64 wi_X6_undo ws_X6_undo wc_X6_undo wn_X6 n_X6_undo (by decide) rfl rfl rfl rfl ⟨(Nat.le_of_ble_eq_true rfl), (Nat.le_of_ble_eq_true rfl)⟩ ⟨(Nat.le_of_ble_eq_true rfl), (Nat.le_of_ble_eq_true rfl)⟩ (Nat.le_of_ble_eq_true rfl) dL_undo_3 ?_
  intro q
  refine z_astoren_2 dL_undo_11 (Nat.le_of_ble_eq_true rfl) rfl ?_
  refine z_iconst dL_undo_12 ?_
  exact z_retL (Nat.le_of_ble_eq_true rfl) (Nat.le_of_ble_eq_true rfl) dL_undo_13 rfl rfl
def hL_pen : List (Nat × Nat × Nat × Nat) := [(0, 10, 13, 19), (0, 10, 17, 21)]
theorem wc_L_pen : Cond.codeWith yL_pen cL_pen 5 (some .int) hL_pen ∈ z_W := z_wi 930 (by decide +kernel) (by decide +kernel)
theorem wt_L_pen : Cond.static yL_pen ∈ z_W := z_wi 929 (by decide +kernel) (by decide +kernel)
theorem n_L_pen : z_name yL_pen 4 := ⟨⟨by decide +kernel, by decide +kernel⟩, by decide +kernel⟩
abbrev KL_pen (G : z_G) (args : List Value) (M : z_M) (r : Int) (M1 : z_M) : Prop := z_ConL G yL_pen cL_pen 5 hL_pen 8 135 args M r M1
theorem tL_pen {G : z_G} {M M1 : z_M} {a1 a2 : Int} {r : Int} (hC : KX6_pen G [.ref (z_ad G 0 20), z_I a1, z_I a2] M (.inl (some (z_I r))) M1) : KL_pen G [.ref (z_ad G 0 20), z_I a1, z_I a2, .ref (z_ad G 0 60)] M 0 (z_sM M1 32 0 (z_iw r)) := by
  refine z_conL (ls := [some (.ref (z_ad G 0 20)), some (z_I a1), some (z_I a2), some (.ref (z_ad G 0 60)), none]) (by decide +kernel) (Nat.le_of_ble_eq_true rfl) rfl ?_
  intro Z htb
  refine z_aloadn dL_pen_0 rfl ?_
  refine z_iconst dL_pen_1 ?_
  refine z_aloadn dL_pen_2 rfl ?_
  refine z_iloadn dL_pen_3 rfl ?_
  refine z_iloadn dL_pen_4 rfl ?_
  refine kL_67 hC rfl ⟨(Nat.le_of_ble_eq_true rfl), (Nat.le_of_ble_eq_true rfl)⟩ (Nat.le_of_ble_eq_true rfl) dL_pen_5 ?_
  refine z_iwr ?_
  refine z_i2l (z_iw_rg1 r) dL_pen_8 ?_
  refine z_last (z_iw_rg1 r) dL_pen_9 ?_
  refine z_goto (tgt := 21) dL_pen_10 rfl ?_
  refine z_iconst dL_pen_21 ?_
  exact z_retL (Nat.le_of_ble_eq_true rfl) (Nat.le_of_ble_eq_true rfl) dL_pen_22 rfl rfl
theorem tL_pen_x1 {G : z_G} {M M1 : z_M} {a1 a2 : Int} (hC : KX6_pen G [.ref (z_ad G 0 20), z_I a1, z_I a2] M (.inr "java/lang/IndexOutOfBoundsException") M1) : KL_pen G [.ref (z_ad G 0 20), z_I a1, z_I a2, .ref (z_ad G 0 60)] M 1 M1 := by
  refine z_conL (ls := [some (.ref (z_ad G 0 20)), some (z_I a1), some (z_I a2), some (.ref (z_ad G 0 60)), none]) (by decide +kernel) (Nat.le_of_ble_eq_true rfl) rfl ?_
  intro Z htb
  refine z_aloadn dL_pen_0 rfl ?_
  refine z_iconst dL_pen_1 ?_
  refine z_aloadn dL_pen_2 rfl ?_
  refine z_iloadn dL_pen_3 rfl ?_
  refine z_iloadn dL_pen_4 rfl ?_
  refine z_callVc (pre := []) (x := ⟨0, 10, 13, 19⟩) (suf := [⟨0, 10, 17, 21⟩]) htb hC (fun _ h => absurd h List.not_mem_nil) rfl (by decide) wlL_19 wkL_19 wmL_67 wi_X6_pen ws_X6_pen wc_X6_pen wn_X6 n_X6_pen (by decide) rfl rfl rfl rfl ⟨(Nat.le_of_ble_eq_true rfl), (Nat.le_of_ble_eq_true rfl)⟩ ⟨(Nat.le_of_ble_eq_true rfl), (Nat.le_of_ble_eq_true rfl)⟩ (Nat.le_of_ble_eq_true rfl) dL_pen_5 ?_
  intro q
  refine z_astore_4 dL_pen_13 (Nat.le_of_ble_eq_true rfl) rfl ?_
  refine z_iconst dL_pen_15 ?_
  exact z_retL (Nat.le_of_ble_eq_true rfl) (Nat.le_of_ble_eq_true rfl) dL_pen_16 rfl rfl
theorem tL_pen_x2 {G : z_G} {M M1 : z_M} {a1 a2 : Int} (hC : KX6_pen G [.ref (z_ad G 0 20), z_I a1, z_I a2] M (.inr "java/lang/IllegalArgumentException") M1) : KL_pen G [.ref (z_ad G 0 20), z_I a1, z_I a2, .ref (z_ad G 0 60)] M 2 M1 := by
  refine z_conL (ls := [some (.ref (z_ad G 0 20)), some (z_I a1), some (z_I a2), some (.ref (z_ad G 0 60)), none]) (by decide +kernel) (Nat.le_of_ble_eq_true rfl) rfl ?_
  intro Z htb
  refine z_aloadn dL_pen_0 rfl ?_
  refine z_iconst dL_pen_1 ?_
  refine z_aloadn dL_pen_2 rfl ?_
  refine z_iloadn dL_pen_3 rfl ?_
  refine z_iloadn dL_pen_4 rfl ?_
  refine z_callVc (pre := [⟨0, 10, 13, 19⟩]) (x := ⟨0, 10, 17, 21⟩) (suf := []) htb hC (by
    intro z hz
    simp only [List.mem_cons, List.not_mem_nil, or_false] at hz
    rcases hz with rfl
    · exact Or.inr ⟨by decide, _, wlL_19, by decide +kernel⟩) rfl (by decide) wlL_21 wkL_21 wmL_67 wi_X6_pen ws_X6_pen wc_X6_pen wn_X6 n_X6_pen (by decide) rfl rfl rfl rfl ⟨(Nat.le_of_ble_eq_true rfl), (Nat.le_of_ble_eq_true rfl)⟩ ⟨(Nat.le_of_ble_eq_true rfl), (Nat.le_of_ble_eq_true rfl)⟩ (Nat.le_of_ble_eq_true rfl) dL_pen_5 ?_
  intro q
  refine z_astore_4 dL_pen_17 (Nat.le_of_ble_eq_true rfl) rfl ?_
  refine z_iconst dL_pen_19 ?_
  exact z_retL (Nat.le_of_ble_eq_true rfl) (Nat.le_of_ble_eq_true rfl) dL_pen_20 rfl rfl
def hL_piece : List (Nat × Nat × Nat × Nat) := [(0, 10, 13, 19), (0, 10, 17, 21)]
theorem wc_L_piece : Cond.codeWith yL_piece cL_piece 5 (some .int) hL_piece ∈ z_W := z_wi 934 (by decide +kernel) (by decide +kernel)
theorem wt_L_piece : Cond.static yL_piece ∈ z_W := z_wi 933 (by decide +kernel) (by decide +kernel)
theorem n_L_piece : z_name yL_piece 4 := ⟨⟨by decide +kernel, by decide +kernel⟩, by decide +kernel⟩
abbrev KL_piece (G : z_G) (args : List Value) (M : z_M) (r : Int) (M1 : z_M) : Prop := z_ConL G yL_piece cL_piece 5 hL_piece 8 135 args M r M1
theorem tL_piece {G : z_G} {M M1 : z_M} {a1 a2 : Int} {r : Int} (hC : KX6_piece G [.ref (z_ad G 0 20), z_I a1, z_I a2] M (.inl (some (z_I r))) M1) : KL_piece G [.ref (z_ad G 0 20), z_I a1, z_I a2, .ref (z_ad G 0 60)] M 0 (z_sM M1 32 0 (z_iw r)) := by
  refine z_conL (ls := [some (.ref (z_ad G 0 20)), some (z_I a1), some (z_I a2), some (.ref (z_ad G 0 60)), none]) (by decide +kernel) (Nat.le_of_ble_eq_true rfl) rfl ?_
  intro Z htb
  refine z_aloadn dL_piece_0 rfl ?_
  refine z_iconst dL_piece_1 ?_
  refine z_aloadn dL_piece_2 rfl ?_
  refine z_iloadn dL_piece_3 rfl ?_
  refine z_iloadn dL_piece_4 rfl ?_
  refine kL_70 hC rfl ⟨(Nat.le_of_ble_eq_true rfl), (Nat.le_of_ble_eq_true rfl)⟩ (Nat.le_of_ble_eq_true rfl) dL_piece_5 ?_
  refine z_iwr ?_
  refine z_i2l (z_iw_rg1 r) dL_piece_8 ?_
  refine z_last (z_iw_rg1 r) dL_piece_9 ?_
  refine z_goto (tgt := 21) dL_piece_10 rfl ?_
  refine z_iconst dL_piece_21 ?_
  exact z_retL (Nat.le_of_ble_eq_true rfl) (Nat.le_of_ble_eq_true rfl) dL_piece_22 rfl rfl
theorem tL_piece_x1 {G : z_G} {M M1 : z_M} {a1 a2 : Int} (hC : KX6_piece G [.ref (z_ad G 0 20), z_I a1, z_I a2] M (.inr "java/lang/IndexOutOfBoundsException") M1) : KL_piece G [.ref (z_ad G 0 20), z_I a1, z_I a2, .ref (z_ad G 0 60)] M 1 M1 := by
  refine z_conL (ls := [some (.ref (z_ad G 0 20)), some (z_I a1), some (z_I a2), some (.ref (z_ad G 0 60)), none]) (by decide +kernel) (Nat.le_of_ble_eq_true rfl) rfl ?_
  intro Z htb
  refine z_aloadn dL_piece_0 rfl ?_
  refine z_iconst dL_piece_1 ?_
  refine z_aloadn dL_piece_2 rfl ?_
  refine z_iloadn dL_piece_3 rfl ?_
  refine z_iloadn dL_piece_4 rfl ?_
  refine z_callVc (pre := []) (x := ⟨0, 10, 13, 19⟩) (suf := [⟨0, 10, 17, 21⟩]) htb hC (fun _ h => absurd h List.not_mem_nil) rfl (by decide) wlL_19 wkL_19 wmL_70 wi_X6_piece ws_X6_piece wc_X6_piece wn_X6 n_X6_piece (by decide) rfl rfl rfl rfl ⟨(Nat.le_of_ble_eq_true rfl), (Nat.le_of_ble_eq_true rfl)⟩ ⟨(Nat.le_of_ble_eq_true rfl), (Nat.le_of_ble_eq_true rfl)⟩ (Nat.le_of_ble_eq_true rfl) dL_piece_5 ?_
  intro q
  refine z_astore_4 dL_piece_13 (Nat.le_of_ble_eq_true rfl) rfl ?_
  refine z_iconst dL_piece_15 ?_
  exact z_retL (Nat.le_of_ble_eq_true rfl) (Nat.le_of_ble_eq_true rfl) dL_piece_16 rfl rfl
theorem tL_piece_x2 {G : z_G} {M M1 : z_M} {a1 a2 : Int} (hC : KX6_piece G [.ref (z_ad G 0 20), z_I a1, z_I a2] M (.inr "java/lang/IllegalArgumentException") M1) : KL_piece G [.ref (z_ad G 0 20), z_I a1, z_I a2, .ref (z_ad G 0 60)] M 2 M1 := by
  refine z_conL (ls := [some (.ref (z_ad G 0 20)), some (z_I a1), some (z_I a2), some (.ref (z_ad G 0 60)), none]) (by decide +kernel) (Nat.le_of_ble_eq_true rfl) rfl ?_
  intro Z htb
  refine z_aloadn dL_piece_0 rfl ?_
  refine z_iconst dL_piece_1 ?_
  refine z_aloadn dL_piece_2 rfl ?_
  refine z_iloadn dL_piece_3 rfl ?_
  refine z_iloadn dL_piece_4 rfl ?_
  refine z_callVc (pre := [⟨0, 10, 13, 19⟩]) (x := ⟨0, 10, 17, 21⟩) (suf := []) htb hC (by
    intro z hz
    simp only [List.mem_cons, List.not_mem_nil, or_false] at hz
    rcases hz with rfl
    · exact Or.inr ⟨by decide, _, wlL_19, by decide +kernel⟩) rfl (by decide) wlL_21 wkL_21 wmL_70 wi_X6_piece ws_X6_piece wc_X6_piece wn_X6 n_X6_piece (by decide) rfl rfl rfl rfl ⟨(Nat.le_of_ble_eq_true rfl), (Nat.le_of_ble_eq_true rfl)⟩ ⟨(Nat.le_of_ble_eq_true rfl), (Nat.le_of_ble_eq_true rfl)⟩ (Nat.le_of_ble_eq_true rfl) dL_piece_5 ?_
  intro q
  refine z_astore_4 dL_piece_17 (Nat.le_of_ble_eq_true rfl) rfl ?_
  refine z_iconst dL_piece_19 ?_
  exact z_retL (Nat.le_of_ble_eq_true rfl) (Nat.le_of_ble_eq_true rfl) dL_piece_20 rfl rfl
def hL_between : List (Nat × Nat × Nat × Nat) := [(0, 12, 15, 19), (0, 12, 19, 21)]
theorem wc_L_between : Cond.codeWith yL_between cL_between 6 (some .int) hL_between ∈ z_W := z_wi 938 (by decide +kernel) (by decide +kernel)
theorem wt_L_between : Cond.static yL_between ∈ z_W := z_wi 937 (by decide +kernel) (by decide +kernel)
theorem n_L_between : z_name yL_between 5 := ⟨⟨by decide +kernel, by decide +kernel⟩, by decide +kernel⟩
abbrev KL_between (G : z_G) (args : List Value) (M : z_M) (r : Int) (M1 : z_M) : Prop := z_ConL G yL_between cL_between 6 hL_between 8 135 args M r M1
theorem tL_between {G : z_G} {M M1 : z_M} {a1 a2 a3 : Int} {r : Int} (hC : KX6_between G [.ref (z_ad G 0 20), z_I a1, z_I a2, z_I a3] M (.inl (some (z_I r))) M1) : KL_between G [.ref (z_ad G 0 20), z_I a1, z_I a2, z_I a3, .ref (z_ad G 0 60)] M 0 (z_sM M1 32 0 (z_iw r)) := by
  refine z_conL (ls := [some (.ref (z_ad G 0 20)), some (z_I a1), some (z_I a2), some (z_I a3), some (.ref (z_ad G 0 60)), none]) (by decide +kernel) (Nat.le_of_ble_eq_true rfl) rfl ?_
  intro Z htb
  refine z_aload dL_between_0 rfl ?_
  refine z_iconst dL_between_2 ?_
  refine z_aloadn dL_between_3 rfl ?_
  refine z_iloadn dL_between_4 rfl ?_
  refine z_iloadn dL_between_5 rfl ?_
  refine z_iloadn dL_between_6 rfl ?_
  refine kL_73 hC rfl ⟨(Nat.le_of_ble_eq_true rfl), (Nat.le_of_ble_eq_true rfl)⟩ (Nat.le_of_ble_eq_true rfl) dL_between_7 ?_
  refine z_iwr ?_
  refine z_i2l (z_iw_rg1 r) dL_between_10 ?_
  refine z_last (z_iw_rg1 r) dL_between_11 ?_
  refine z_goto (tgt := 23) dL_between_12 rfl ?_
  refine z_iconst dL_between_23 ?_
  exact z_retL (Nat.le_of_ble_eq_true rfl) (Nat.le_of_ble_eq_true rfl) dL_between_24 rfl rfl
theorem tL_between_x1 {G : z_G} {M M1 : z_M} {a1 a2 a3 : Int} (hC : KX6_between G [.ref (z_ad G 0 20), z_I a1, z_I a2, z_I a3] M (.inr "java/lang/IndexOutOfBoundsException") M1) : KL_between G [.ref (z_ad G 0 20), z_I a1, z_I a2, z_I a3, .ref (z_ad G 0 60)] M 1 M1 := by
  refine z_conL (ls := [some (.ref (z_ad G 0 20)), some (z_I a1), some (z_I a2), some (z_I a3), some (.ref (z_ad G 0 60)), none]) (by decide +kernel) (Nat.le_of_ble_eq_true rfl) rfl ?_
  intro Z htb
  refine z_aload dL_between_0 rfl ?_
  refine z_iconst dL_between_2 ?_
  refine z_aloadn dL_between_3 rfl ?_
  refine z_iloadn dL_between_4 rfl ?_
  refine z_iloadn dL_between_5 rfl ?_
  refine z_iloadn dL_between_6 rfl ?_
  refine z_callVc (pre := []) (x := ⟨0, 12, 15, 19⟩) (suf := [⟨0, 12, 19, 21⟩]) htb hC (fun _ h => absurd h List.not_mem_nil) rfl (by decide) wlL_19 wkL_19 wmL_73 wi_X6_between ws_X6_between wc_X6_between wn_X6 n_X6_between (by decide) rfl rfl rfl rfl ⟨(Nat.le_of_ble_eq_true rfl), (Nat.le_of_ble_eq_true rfl)⟩ ⟨(Nat.le_of_ble_eq_true rfl), (Nat.le_of_ble_eq_true rfl)⟩ (Nat.le_of_ble_eq_true rfl) dL_between_7 ?_
  intro q
  refine z_astore_5 dL_between_15 (Nat.le_of_ble_eq_true rfl) rfl ?_
  refine z_iconst dL_between_17 ?_
  exact z_retL (Nat.le_of_ble_eq_true rfl) (Nat.le_of_ble_eq_true rfl) dL_between_18 rfl rfl
theorem tL_between_x2 {G : z_G} {M M1 : z_M} {a1 a2 a3 : Int} (hC : KX6_between G [.ref (z_ad G 0 20), z_I a1, z_I a2, z_I a3] M (.inr "java/lang/IllegalArgumentException") M1) : KL_between G [.ref (z_ad G 0 20), z_I a1, z_I a2, z_I a3, .ref (z_ad G 0 60)] M 2 M1 := by
  refine z_conL (ls := [some (.ref (z_ad G 0 20)), some (z_I a1), some (z_I a2), some (z_I a3), some (.ref (z_ad G 0 60)), none]) (by decide +kernel) (Nat.le_of_ble_eq_true rfl) rfl ?_
  intro Z htb
  refine z_aload dL_between_0 rfl ?_
  refine z_iconst dL_between_2 ?_
  refine z_aloadn dL_between_3 rfl ?_
  refine z_iloadn dL_between_4 rfl ?_
  refine z_iloadn dL_between_5 rfl ?_
  refine z_iloadn dL_between_6 rfl ?_
  refine z_callVc (pre := [⟨0, 12, 15, 19⟩]) (x := ⟨0, 12, 19, 21⟩) (suf := []) htb hC (by
    intro z hz
    simp only [List.mem_cons, List.not_mem_nil, or_false] at hz
    rcases hz with rfl
    · exact Or.inr ⟨by decide, _, wlL_19, by decide +kernel⟩) rfl (by decide) wlL_21 wkL_21 wmL_73 wi_X6_between ws_X6_between wc_X6_between wn_X6 n_X6_between (by decide) rfl rfl rfl rfl ⟨(Nat.le_of_ble_eq_true rfl), (Nat.le_of_ble_eq_true rfl)⟩ ⟨(Nat.le_of_ble_eq_true rfl), (Nat.le_of_ble_eq_true rfl)⟩ (Nat.le_of_ble_eq_true rfl) dL_between_7 ?_
  intro q
  refine z_astore_5 dL_between_19 (Nat.le_of_ble_eq_true rfl) rfl ?_
  refine z_iconst dL_between_21 ?_
  exact z_retL (Nat.le_of_ble_eq_true rfl) (Nat.le_of_ble_eq_true rfl) dL_between_22 rfl rfl
def hL_count : List (Nat × Nat × Nat × Nat) := [(0, 9, 12, 21)]
theorem wc_L_count : Cond.codeWith yL_count cL_count 4 (some .int) hL_count ∈ z_W := z_wi 942 (by decide +kernel) (by decide +kernel)
theorem wt_L_count : Cond.static yL_count ∈ z_W := z_wi 941 (by decide +kernel) (by decide +kernel)
theorem n_L_count : z_name yL_count 3 := ⟨⟨by decide +kernel, by decide +kernel⟩, by decide +kernel⟩
abbrev KL_count (G : z_G) (args : List Value) (M : z_M) (r : Int) (M1 : z_M) : Prop := z_ConL G yL_count cL_count 4 hL_count 8 133 args M r M1
theorem tL_count {G : z_G} {M M1 : z_M} {a1 : Int} {r : Int} (hC : KX6_count G [.ref (z_ad G 0 20), z_I a1] M (.inl (some (z_I r))) M1) : KL_count G [.ref (z_ad G 0 20), z_I a1, .ref (z_ad G 0 60)] M 0 (z_sM M1 32 0 (z_iw r)) := by
  refine z_conL (ls := [some (.ref (z_ad G 0 20)), some (z_I a1), some (.ref (z_ad G 0 60)), none]) (by decide +kernel) (Nat.le_of_ble_eq_true rfl) rfl ?_
  intro Z htb
  refine z_aloadn dL_count_0 rfl ?_
  refine z_iconst dL_count_1 ?_
  refine z_aloadn dL_count_2 rfl ?_
  refine z_iloadn dL_count_3 rfl ?_
  refine kL_76 hC rfl ⟨(Nat.le_of_ble_eq_true rfl), (Nat.le_of_ble_eq_true rfl)⟩ (Nat.le_of_ble_eq_true rfl) dL_count_4 ?_
  refine z_iwr ?_
  refine z_i2l (z_iw_rg1 r) dL_count_7 ?_
  refine z_last (z_iw_rg1 r) dL_count_8 ?_
  refine z_goto (tgt := 15) dL_count_9 rfl ?_
  refine z_iconst dL_count_15 ?_
  exact z_retL (Nat.le_of_ble_eq_true rfl) (Nat.le_of_ble_eq_true rfl) dL_count_16 rfl rfl
theorem tL_count_x1 {G : z_G} {M M1 : z_M} {a1 : Int} (hC : KX6_count G [.ref (z_ad G 0 20), z_I a1] M (.inr "java/lang/IllegalArgumentException") M1) : KL_count G [.ref (z_ad G 0 20), z_I a1, .ref (z_ad G 0 60)] M 1 M1 := by
  refine z_conL (ls := [some (.ref (z_ad G 0 20)), some (z_I a1), some (.ref (z_ad G 0 60)), none]) (by decide +kernel) (Nat.le_of_ble_eq_true rfl) rfl ?_
  intro Z htb
  refine z_aloadn dL_count_0 rfl ?_
  refine z_iconst dL_count_1 ?_
  refine z_aloadn dL_count_2 rfl ?_
  refine z_iloadn dL_count_3 rfl ?_
  refine z_callVc (pre := []) (x := ⟨0, 9, 12, 21⟩) (suf := []) htb hC (fun _ h => absurd h List.not_mem_nil) rfl (by decide) wlL_21 wkL_21 wmL_76 wi_X6_count ws_X6_count wc_X6_count wn_X6 n_X6_count (by decide) rfl rfl rfl rfl ⟨(Nat.le_of_ble_eq_true rfl), (Nat.le_of_ble_eq_true rfl)⟩ ⟨(Nat.le_of_ble_eq_true rfl), (Nat.le_of_ble_eq_true rfl)⟩ (Nat.le_of_ble_eq_true rfl) dL_count_4 ?_
  intro q
  refine z_astoren_3 dL_count_12 (Nat.le_of_ble_eq_true rfl) rfl ?_
  refine z_iconst dL_count_13 ?_
  exact z_retL (Nat.le_of_ble_eq_true rfl) (Nat.le_of_ble_eq_true rfl) dL_count_14 rfl rfl
def hL_setting : List (Nat × Nat × Nat × Nat) := [(0, 9, 12, 19)]
theorem wc_L_setting : Cond.codeWith yL_setting cL_setting 4 (some .int) hL_setting ∈ z_W := z_wi 946 (by decide +kernel) (by decide +kernel)
theorem wt_L_setting : Cond.static yL_setting ∈ z_W := z_wi 945 (by decide +kernel) (by decide +kernel)
theorem n_L_setting : z_name yL_setting 3 := ⟨⟨by decide +kernel, by decide +kernel⟩, by decide +kernel⟩
abbrev KL_setting (G : z_G) (args : List Value) (M : z_M) (r : Int) (M1 : z_M) : Prop := z_ConL G yL_setting cL_setting 4 hL_setting 8 131 args M r M1
theorem tL_setting {G : z_G} {M M1 : z_M} {a1 : Int} {r : Int} (hC : KX6_setting G [.ref (z_ad G 0 20), z_I a1] M (.inl (some (z_I r))) M1) : KL_setting G [.ref (z_ad G 0 20), z_I a1, .ref (z_ad G 0 60)] M 0 (z_sM M1 32 0 (z_iw r)) := by
  refine z_conL (ls := [some (.ref (z_ad G 0 20)), some (z_I a1), some (.ref (z_ad G 0 60)), none]) (by decide +kernel) (Nat.le_of_ble_eq_true rfl) rfl ?_
  intro Z htb
  refine z_aloadn dL_setting_0 rfl ?_
  refine z_iconst dL_setting_1 ?_
  refine z_aloadn dL_setting_2 rfl ?_
  refine z_iloadn dL_setting_3 rfl ?_
  refine kL_79 hC rfl ⟨(Nat.le_of_ble_eq_true rfl), (Nat.le_of_ble_eq_true rfl)⟩ (Nat.le_of_ble_eq_true rfl) dL_setting_4 ?_
  refine z_iwr ?_
  refine z_i2l (z_iw_rg1 r) dL_setting_7 ?_
  refine z_last (z_iw_rg1 r) dL_setting_8 ?_
  refine z_goto (tgt := 15) dL_setting_9 rfl ?_
  refine z_iconst dL_setting_15 ?_
  exact z_retL (Nat.le_of_ble_eq_true rfl) (Nat.le_of_ble_eq_true rfl) dL_setting_16 rfl rfl
theorem tL_setting_x1 {G : z_G} {M M1 : z_M} {a1 : Int} (hC : KX6_setting G [.ref (z_ad G 0 20), z_I a1] M (.inr "java/lang/IndexOutOfBoundsException") M1) : KL_setting G [.ref (z_ad G 0 20), z_I a1, .ref (z_ad G 0 60)] M 1 M1 := by
  refine z_conL (ls := [some (.ref (z_ad G 0 20)), some (z_I a1), some (.ref (z_ad G 0 60)), none]) (by decide +kernel) (Nat.le_of_ble_eq_true rfl) rfl ?_
  intro Z htb
  refine z_aloadn dL_setting_0 rfl ?_
  refine z_iconst dL_setting_1 ?_
  refine z_aloadn dL_setting_2 rfl ?_
  refine z_iloadn dL_setting_3 rfl ?_
  refine z_callVc (pre := []) (x := ⟨0, 9, 12, 19⟩) (suf := []) htb hC (fun _ h => absurd h List.not_mem_nil) rfl (by decide) wlL_19 wkL_19 wmL_79 wi_X6_setting ws_X6_setting wc_X6_setting wn_X6 n_X6_setting (by decide) rfl rfl rfl rfl ⟨(Nat.le_of_ble_eq_true rfl), (Nat.le_of_ble_eq_true rfl)⟩ ⟨(Nat.le_of_ble_eq_true rfl), (Nat.le_of_ble_eq_true rfl)⟩ (Nat.le_of_ble_eq_true rfl) dL_setting_4 ?_
  intro q
  refine z_astoren_3 dL_setting_12 (Nat.le_of_ble_eq_true rfl) rfl ?_
  refine z_iconst dL_setting_13 ?_
  exact z_retL (Nat.le_of_ble_eq_true rfl) (Nat.le_of_ble_eq_true rfl) dL_setting_14 rfl rfl
def hL_ifPaid : List (Nat × Nat × Nat × Nat) := [(0, 12, 15, 19), (0, 12, 19, 21), (0, 12, 23, 13)]
theorem wc_L_ifPaid : Cond.codeWith yL_ifPaid cL_ifPaid 6 (some .int) hL_ifPaid ∈ z_W := z_wi 953 (by decide +kernel) (by decide +kernel)
theorem wt_L_ifPaid : Cond.static yL_ifPaid ∈ z_W := z_wi 952 (by decide +kernel) (by decide +kernel)
theorem n_L_ifPaid : z_name yL_ifPaid 5 := ⟨⟨by decide +kernel, by decide +kernel⟩, by decide +kernel⟩
abbrev KL_ifPaid (G : z_G) (args : List Value) (M : z_M) (r : Int) (M1 : z_M) : Prop := z_ConL G yL_ifPaid cL_ifPaid 6 hL_ifPaid 8 138 args M r M1
theorem tL_ifPaid {G : z_G} {M M1 : z_M} {a1 a2 a3 : Int} {r : Int} (hC : KX6_ifPaid G [.ref (z_ad G 0 20), z_I a1, z_I a2, z_I a3] M (.inl (some (z_I r))) M1) : KL_ifPaid G [.ref (z_ad G 0 20), z_I a1, z_I a2, z_I a3, .ref (z_ad G 0 60)] M 0 (z_sM M1 32 0 (z_iw r)) := by
  refine z_conL (ls := [some (.ref (z_ad G 0 20)), some (z_I a1), some (z_I a2), some (z_I a3), some (.ref (z_ad G 0 60)), none]) (by decide +kernel) (Nat.le_of_ble_eq_true rfl) rfl ?_
  intro Z htb
  refine z_aload dL_ifPaid_0 rfl ?_
  refine z_iconst dL_ifPaid_2 ?_
  refine z_aloadn dL_ifPaid_3 rfl ?_
  refine z_iloadn dL_ifPaid_4 rfl ?_
  refine z_iloadn dL_ifPaid_5 rfl ?_
  refine z_iloadn dL_ifPaid_6 rfl ?_
  refine kL_82 hC rfl ⟨(Nat.le_of_ble_eq_true rfl), (Nat.le_of_ble_eq_true rfl)⟩ (Nat.le_of_ble_eq_true rfl) dL_ifPaid_7 ?_
  refine z_iwr ?_
  refine z_i2l (z_iw_rg1 r) dL_ifPaid_10 ?_
  refine z_last (z_iw_rg1 r) dL_ifPaid_11 ?_
  refine z_goto (tgt := 27) dL_ifPaid_12 rfl ?_
  refine z_iconst dL_ifPaid_27 ?_
  exact z_retL (Nat.le_of_ble_eq_true rfl) (Nat.le_of_ble_eq_true rfl) dL_ifPaid_28 rfl rfl
theorem tL_ifPaid_x1 {G : z_G} {M M1 : z_M} {a1 a2 a3 : Int} (hC : KX6_ifPaid G [.ref (z_ad G 0 20), z_I a1, z_I a2, z_I a3] M (.inr "java/lang/IndexOutOfBoundsException") M1) : KL_ifPaid G [.ref (z_ad G 0 20), z_I a1, z_I a2, z_I a3, .ref (z_ad G 0 60)] M 1 M1 := by
  refine z_conL (ls := [some (.ref (z_ad G 0 20)), some (z_I a1), some (z_I a2), some (z_I a3), some (.ref (z_ad G 0 60)), none]) (by decide +kernel) (Nat.le_of_ble_eq_true rfl) rfl ?_
  intro Z htb
  refine z_aload dL_ifPaid_0 rfl ?_
  refine z_iconst dL_ifPaid_2 ?_
  refine z_aloadn dL_ifPaid_3 rfl ?_
  refine z_iloadn dL_ifPaid_4 rfl ?_
  refine z_iloadn dL_ifPaid_5 rfl ?_
  refine z_iloadn dL_ifPaid_6 rfl ?_
  refine z_callVc (pre := []) (x := ⟨0, 12, 15, 19⟩) (suf := [⟨0, 12, 19, 21⟩, ⟨0, 12, 23, 13⟩]) htb hC (fun _ h => absurd h List.not_mem_nil) rfl (by decide) wlL_19 wkL_19 wmL_82 wi_X6_ifPaid ws_X6_ifPaid wc_X6_ifPaid wn_X6 n_X6_ifPaid (by decide) rfl rfl rfl rfl ⟨(Nat.le_of_ble_eq_true rfl), (Nat.le_of_ble_eq_true rfl)⟩ ⟨(Nat.le_of_ble_eq_true rfl), (Nat.le_of_ble_eq_true rfl)⟩ (Nat.le_of_ble_eq_true rfl) dL_ifPaid_7 ?_
  intro q
  refine z_astore_5 dL_ifPaid_15 (Nat.le_of_ble_eq_true rfl) rfl ?_
  refine z_iconst dL_ifPaid_17 ?_
  exact z_retL (Nat.le_of_ble_eq_true rfl) (Nat.le_of_ble_eq_true rfl) dL_ifPaid_18 rfl rfl
theorem tL_ifPaid_x2 {G : z_G} {M M1 : z_M} {a1 a2 a3 : Int} (hC : KX6_ifPaid G [.ref (z_ad G 0 20), z_I a1, z_I a2, z_I a3] M (.inr "java/lang/IllegalArgumentException") M1) : KL_ifPaid G [.ref (z_ad G 0 20), z_I a1, z_I a2, z_I a3, .ref (z_ad G 0 60)] M 2 M1 := by
  refine z_conL (ls := [some (.ref (z_ad G 0 20)), some (z_I a1), some (z_I a2), some (z_I a3), some (.ref (z_ad G 0 60)), none]) (by decide +kernel) (Nat.le_of_ble_eq_true rfl) rfl ?_
  intro Z htb
  refine z_aload dL_ifPaid_0 rfl ?_
  refine z_iconst dL_ifPaid_2 ?_
  refine z_aloadn dL_ifPaid_3 rfl ?_
  refine z_iloadn dL_ifPaid_4 rfl ?_
  refine z_iloadn dL_ifPaid_5 rfl ?_
  refine z_iloadn dL_ifPaid_6 rfl ?_
  refine z_callVc (pre := [⟨0, 12, 15, 19⟩]) (x := ⟨0, 12, 19, 21⟩) (suf := [⟨0, 12, 23, 13⟩]) htb hC (by
    intro z hz
    simp only [List.mem_cons, List.not_mem_nil, or_false] at hz
    rcases hz with rfl
    · exact Or.inr ⟨by decide, _, wlL_19, by decide +kernel⟩) rfl (by decide) wlL_21 wkL_21 wmL_82 wi_X6_ifPaid ws_X6_ifPaid wc_X6_ifPaid wn_X6 n_X6_ifPaid (by decide) rfl rfl rfl rfl ⟨(Nat.le_of_ble_eq_true rfl), (Nat.le_of_ble_eq_true rfl)⟩ ⟨(Nat.le_of_ble_eq_true rfl), (Nat.le_of_ble_eq_true rfl)⟩ (Nat.le_of_ble_eq_true rfl) dL_ifPaid_7 ?_
  intro q
  refine z_astore_5 dL_ifPaid_19 (Nat.le_of_ble_eq_true rfl) rfl ?_
  refine z_iconst dL_ifPaid_21 ?_
  exact z_retL (Nat.le_of_ble_eq_true rfl) (Nat.le_of_ble_eq_true rfl) dL_ifPaid_22 rfl rfl
theorem tL_ifPaid_x3 {G : z_G} {M M1 : z_M} {a1 a2 a3 : Int} (hC : KX6_ifPaid G [.ref (z_ad G 0 20), z_I a1, z_I a2, z_I a3] M (.inr "java/lang/IllegalStateException") M1) : KL_ifPaid G [.ref (z_ad G 0 20), z_I a1, z_I a2, z_I a3, .ref (z_ad G 0 60)] M 3 M1 := by
  refine z_conL (ls := [some (.ref (z_ad G 0 20)), some (z_I a1), some (z_I a2), some (z_I a3), some (.ref (z_ad G 0 60)), none]) (by decide +kernel) (Nat.le_of_ble_eq_true rfl) rfl ?_
  intro Z htb
  refine z_aload dL_ifPaid_0 rfl ?_
  refine z_iconst dL_ifPaid_2 ?_
  refine z_aloadn dL_ifPaid_3 rfl ?_
  refine z_iloadn dL_ifPaid_4 rfl ?_
  refine z_iloadn dL_ifPaid_5 rfl ?_
  refine z_iloadn dL_ifPaid_6 rfl ?_
  refine z_callVc (pre := [⟨0, 12, 15, 19⟩, ⟨0, 12, 19, 21⟩]) (x := ⟨0, 12, 23, 13⟩) (suf := []) htb hC (by
    intro z hz
    simp only [List.mem_cons, List.not_mem_nil, or_false] at hz
    rcases hz with rfl | rfl
    · exact Or.inr ⟨by decide, _, wlL_19, by decide +kernel⟩
    · exact Or.inr ⟨by decide, _, wlL_21, by decide +kernel⟩) rfl (by decide) wlL_13 wkL_13 wmL_82 wi_X6_ifPaid ws_X6_ifPaid wc_X6_ifPaid wn_X6 n_X6_ifPaid (by decide) rfl rfl rfl rfl ⟨(Nat.le_of_ble_eq_true rfl), (Nat.le_of_ble_eq_true rfl)⟩ ⟨(Nat.le_of_ble_eq_true rfl), (Nat.le_of_ble_eq_true rfl)⟩ (Nat.le_of_ble_eq_true rfl) dL_ifPaid_7 ?_
  intro q
  refine z_astore_5 dL_ifPaid_23 (Nat.le_of_ble_eq_true rfl) rfl ?_
  refine z_iconst dL_ifPaid_25 ?_
  exact z_retL (Nat.le_of_ble_eq_true rfl) (Nat.le_of_ble_eq_true rfl) dL_ifPaid_26 rfl rfl
def hL_fairest : List (Nat × Nat × Nat × Nat) := [(0, 10, 13, 19)]
theorem wc_L_fairest : Cond.codeWith yL_fairest cL_fairest 5 (some .int) hL_fairest ∈ z_W := z_wi 960 (by decide +kernel) (by decide +kernel)
theorem wt_L_fairest : Cond.static yL_fairest ∈ z_W := z_wi 959 (by decide +kernel) (by decide +kernel)
theorem n_L_fairest : z_name yL_fairest 4 := ⟨⟨by decide +kernel, by decide +kernel⟩, by decide +kernel⟩
abbrev KL_fairest (G : z_G) (args : List Value) (M : z_M) (r : Int) (M1 : z_M) : Prop := z_ConL G yL_fairest cL_fairest 5 hL_fairest 8 145 args M r M1
theorem tL_fairest {G : z_G} {M M1 : z_M} {a1 a2 : Int} {r : Int} (hC : KX6_fairest G [.ref (z_ad G 0 20), z_I a1, z_I a2] M (.inl (some (z_I r))) M1) : KL_fairest G [.ref (z_ad G 0 20), z_I a1, z_I a2, .ref (z_ad G 0 60)] M 0 (z_sM M1 32 0 (z_iw r)) := by
  refine z_conL (ls := [some (.ref (z_ad G 0 20)), some (z_I a1), some (z_I a2), some (.ref (z_ad G 0 60)), none]) (by decide +kernel) (Nat.le_of_ble_eq_true rfl) rfl ?_
  intro Z htb
  refine z_aloadn dL_fairest_0 rfl ?_
  refine z_iconst dL_fairest_1 ?_
  refine z_aloadn dL_fairest_2 rfl ?_
  refine z_iloadn dL_fairest_3 rfl ?_
  refine z_iloadn dL_fairest_4 rfl ?_
  refine kL_85 hC rfl ⟨(Nat.le_of_ble_eq_true rfl), (Nat.le_of_ble_eq_true rfl)⟩ (Nat.le_of_ble_eq_true rfl) dL_fairest_5 ?_
  refine z_iwr ?_
  refine z_i2l (z_iw_rg1 r) dL_fairest_8 ?_
  refine z_last (z_iw_rg1 r) dL_fairest_9 ?_
  refine z_goto (tgt := 17) dL_fairest_10 rfl ?_
  refine z_iconst dL_fairest_17 ?_
  exact z_retL (Nat.le_of_ble_eq_true rfl) (Nat.le_of_ble_eq_true rfl) dL_fairest_18 rfl rfl
theorem tL_fairest_x1 {G : z_G} {M M1 : z_M} {a1 a2 : Int} (hC : KX6_fairest G [.ref (z_ad G 0 20), z_I a1, z_I a2] M (.inr "java/lang/IndexOutOfBoundsException") M1) : KL_fairest G [.ref (z_ad G 0 20), z_I a1, z_I a2, .ref (z_ad G 0 60)] M 1 M1 := by
  refine z_conL (ls := [some (.ref (z_ad G 0 20)), some (z_I a1), some (z_I a2), some (.ref (z_ad G 0 60)), none]) (by decide +kernel) (Nat.le_of_ble_eq_true rfl) rfl ?_
  intro Z htb
  refine z_aloadn dL_fairest_0 rfl ?_
  refine z_iconst dL_fairest_1 ?_
  refine z_aloadn dL_fairest_2 rfl ?_
  refine z_iloadn dL_fairest_3 rfl ?_
  refine z_iloadn dL_fairest_4 rfl ?_
  refine z_callVc (pre := []) (x := ⟨0, 10, 13, 19⟩) (suf := []) htb hC (fun _ h => absurd h List.not_mem_nil) rfl (by decide) wlL_19 wkL_19 wmL_85 wi_X6_fairest ws_X6_fairest wc_X6_fairest wn_X6 n_X6_fairest (by decide) rfl rfl rfl rfl ⟨(Nat.le_of_ble_eq_true rfl), (Nat.le_of_ble_eq_true rfl)⟩ ⟨(Nat.le_of_ble_eq_true rfl), (Nat.le_of_ble_eq_true rfl)⟩ (Nat.le_of_ble_eq_true rfl) dL_fairest_5 ?_
  intro q
  refine z_astore_4 dL_fairest_13 (Nat.le_of_ble_eq_true rfl) rfl ?_
  refine z_iconst dL_fairest_15 ?_
  exact z_retL (Nat.le_of_ble_eq_true rfl) (Nat.le_of_ble_eq_true rfl) dL_fairest_16 rfl rfl
def hL_bestPiece : List (Nat × Nat × Nat × Nat) := [(0, 10, 13, 19), (0, 10, 17, 21)]
theorem wc_L_bestPiece : Cond.codeWith yL_bestPiece cL_bestPiece 5 (some .int) hL_bestPiece ∈ z_W := z_wi 967 (by decide +kernel) (by decide +kernel)
theorem wt_L_bestPiece : Cond.static yL_bestPiece ∈ z_W := z_wi 966 (by decide +kernel) (by decide +kernel)
theorem n_L_bestPiece : z_name yL_bestPiece 4 := ⟨⟨by decide +kernel, by decide +kernel⟩, by decide +kernel⟩
abbrev KL_bestPiece (G : z_G) (args : List Value) (M : z_M) (r : Int) (M1 : z_M) : Prop := z_ConL G yL_bestPiece cL_bestPiece 5 hL_bestPiece 8 159 args M r M1
theorem tL_bestPiece {G : z_G} {M M1 : z_M} {a1 a2 : Int} {r : Int} (hC : KX6_bestPiece G [.ref (z_ad G 0 20), z_I a1, z_I a2] M (.inl (some (z_I r))) M1) : KL_bestPiece G [.ref (z_ad G 0 20), z_I a1, z_I a2, .ref (z_ad G 0 60)] M 0 (z_sM M1 32 0 (z_iw r)) := by
  refine z_conL (ls := [some (.ref (z_ad G 0 20)), some (z_I a1), some (z_I a2), some (.ref (z_ad G 0 60)), none]) (by decide +kernel) (Nat.le_of_ble_eq_true rfl) rfl ?_
  intro Z htb
  refine z_aloadn dL_bestPiece_0 rfl ?_
  refine z_iconst dL_bestPiece_1 ?_
  refine z_aloadn dL_bestPiece_2 rfl ?_
  refine z_iloadn dL_bestPiece_3 rfl ?_
  refine z_iloadn dL_bestPiece_4 rfl ?_
  refine kL_88 hC rfl ⟨(Nat.le_of_ble_eq_true rfl), (Nat.le_of_ble_eq_true rfl)⟩ (Nat.le_of_ble_eq_true rfl) dL_bestPiece_5 ?_
  refine z_iwr ?_
  refine z_i2l (z_iw_rg1 r) dL_bestPiece_8 ?_
  refine z_last (z_iw_rg1 r) dL_bestPiece_9 ?_
  refine z_goto (tgt := 21) dL_bestPiece_10 rfl ?_
  refine z_iconst dL_bestPiece_21 ?_
  exact z_retL (Nat.le_of_ble_eq_true rfl) (Nat.le_of_ble_eq_true rfl) dL_bestPiece_22 rfl rfl
theorem tL_bestPiece_x1 {G : z_G} {M M1 : z_M} {a1 a2 : Int} (hC : KX6_bestPiece G [.ref (z_ad G 0 20), z_I a1, z_I a2] M (.inr "java/lang/IndexOutOfBoundsException") M1) : KL_bestPiece G [.ref (z_ad G 0 20), z_I a1, z_I a2, .ref (z_ad G 0 60)] M 1 M1 := by
  refine z_conL (ls := [some (.ref (z_ad G 0 20)), some (z_I a1), some (z_I a2), some (.ref (z_ad G 0 60)), none]) (by decide +kernel) (Nat.le_of_ble_eq_true rfl) rfl ?_
  intro Z htb
  refine z_aloadn dL_bestPiece_0 rfl ?_
  refine z_iconst dL_bestPiece_1 ?_
  refine z_aloadn dL_bestPiece_2 rfl ?_
  refine z_iloadn dL_bestPiece_3 rfl ?_
  refine z_iloadn dL_bestPiece_4 rfl ?_
  refine z_callVc (pre := []) (x := ⟨0, 10, 13, 19⟩) (suf := [⟨0, 10, 17, 21⟩]) htb hC (fun _ h => absurd h List.not_mem_nil) rfl (by decide) wlL_19 wkL_19 wmL_88 wi_X6_bestPiece ws_X6_bestPiece wc_X6_bestPiece wn_X6 n_X6_bestPiece (by decide) rfl rfl rfl rfl ⟨(Nat.le_of_ble_eq_true rfl), (Nat.le_of_ble_eq_true rfl)⟩ ⟨(Nat.le_of_ble_eq_true rfl), (Nat.le_of_ble_eq_true rfl)⟩ (Nat.le_of_ble_eq_true rfl) dL_bestPiece_5 ?_
  intro q
  refine z_astore_4 dL_bestPiece_13 (Nat.le_of_ble_eq_true rfl) rfl ?_
  refine z_iconst dL_bestPiece_15 ?_
  exact z_retL (Nat.le_of_ble_eq_true rfl) (Nat.le_of_ble_eq_true rfl) dL_bestPiece_16 rfl rfl
theorem tL_bestPiece_x2 {G : z_G} {M M1 : z_M} {a1 a2 : Int} (hC : KX6_bestPiece G [.ref (z_ad G 0 20), z_I a1, z_I a2] M (.inr "java/lang/IllegalArgumentException") M1) : KL_bestPiece G [.ref (z_ad G 0 20), z_I a1, z_I a2, .ref (z_ad G 0 60)] M 2 M1 := by
  refine z_conL (ls := [some (.ref (z_ad G 0 20)), some (z_I a1), some (z_I a2), some (.ref (z_ad G 0 60)), none]) (by decide +kernel) (Nat.le_of_ble_eq_true rfl) rfl ?_
  intro Z htb
  refine z_aloadn dL_bestPiece_0 rfl ?_
  refine z_iconst dL_bestPiece_1 ?_
  refine z_aloadn dL_bestPiece_2 rfl ?_
  refine z_iloadn dL_bestPiece_3 rfl ?_
  refine z_iloadn dL_bestPiece_4 rfl ?_
  refine z_callVc (pre := [⟨0, 10, 13, 19⟩]) (x := ⟨0, 10, 17, 21⟩) (suf := []) htb hC (by
    intro z hz
    simp only [List.mem_cons, List.not_mem_nil, or_false] at hz
    rcases hz with rfl
    · exact Or.inr ⟨by decide, _, wlL_19, by decide +kernel⟩) rfl (by decide) wlL_21 wkL_21 wmL_88 wi_X6_bestPiece ws_X6_bestPiece wc_X6_bestPiece wn_X6 n_X6_bestPiece (by decide) rfl rfl rfl rfl ⟨(Nat.le_of_ble_eq_true rfl), (Nat.le_of_ble_eq_true rfl)⟩ ⟨(Nat.le_of_ble_eq_true rfl), (Nat.le_of_ble_eq_true rfl)⟩ (Nat.le_of_ble_eq_true rfl) dL_bestPiece_5 ?_
  intro q
  refine z_astore_4 dL_bestPiece_17 (Nat.le_of_ble_eq_true rfl) rfl ?_
  refine z_iconst dL_bestPiece_19 ?_
  exact z_retL (Nat.le_of_ble_eq_true rfl) (Nat.le_of_ble_eq_true rfl) dL_bestPiece_20 rfl rfl
