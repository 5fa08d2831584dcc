/-! ===== the law's loop ===== -/
set_option maxRecDepth 20000 in
theorem z_law_loop {G : z_G} {Z : z_Z} {Q : State → Prop} {b L : Nat} {xs : Nat → Int32} (sc : z_Sc G Z b L xs) (hend : ∀ (M : z_M) (k n : Nat) (ls : List (Option Value)), k ≤ 601024 → n ≤ 7293034 → z_J G Z z_dL Q 1805 ls [z_I 1] M k n) :
    ∀ (f i : Nat) (M : z_M), L < 4 * (i + f) → 4 * i ≤ L → z_Rel M i → z_J G Z z_dL Q 23 (z_lsL G b (4 * i)) [] M (153 + i) (14011 + 6 * i) := by
  have hL := sc.2.2.2
  intro f
  induction f with
  | zero => intro i M h1 h2; omega
  | succ f y_f =>
    intro i M h1 h2 hR
    refine z_iload dL_law_23 rfl ?_
    refine z_aloadn dL_law_25 rfl ?_
    refine z_slen sc dL_law_26 ?_
    refine z_iconst dL_law_27 ?_
    refine z_isub dL_law_28 ?_
    refine z_icmp_gt (tgt := 1804) ⟨by omega, by omega⟩ ⟨by omega, by omega⟩ dL_law_29 rfl (fun _ => ?_) (fun y_c => ?_)
    · refine z_iconst dL_law_1804 ?_
      exact hend _ _ _ _ (by omega) (by omega)
    · have hi : 4 * (i : Int) + 4 ≤ L := by omega
      have next : ∀ M2, z_Rel M2 ((i : Int) + 1) → z_J G Z z_dL Q 1798 (z_lsL G b (4 * i)) [] M2 (153 + (i + 1)) (14011 + 6 * (i + 1)) := by
        intro M2 hR2
        refine z_iinc_4 dL_law_1798 (Nat.le_of_ble_eq_true rfl) rfl ?_
        refine z_goto (tgt := 23) dL_law_1801 rfl ?_
        have e : 4 * (i : Int) + 4 = 4 * ((i + 1 : Nat) : Int) := by omega
        rw [e]
        exact y_f (i + 1) M2 (by omega) (by omega) (by rw [show ((i + 1 : Nat) : Int) = (i : Int) + 1 by omega]; exact hR2)
      refine z_aloadn dL_law_32 rfl ?_
      refine z_iload dL_law_33 rfl ?_
      refine z_sld sc (by omega) (by omega) dL_law_35 ?_
      refine z_bipush dL_law_36 (by decide) ?_
      obtain ⟨y_o, ⟨o0, o1⟩, ho⟩ := z_and31 (z_y xs (4 * i))
      refine z_iand ho dL_law_38 ?_
      clear ho
      rcases (show y_o = 0 ∨ y_o = 1 ∨ y_o = 2 ∨ y_o = 3 ∨ y_o = 4 ∨ y_o = 5 ∨ y_o = 6 ∨ y_o = 7 ∨ y_o = 8 ∨ y_o = 9 ∨ y_o = 10 ∨ y_o = 11 ∨ y_o = 12 ∨ y_o = 13 ∨ y_o = 14 ∨ y_o = 15 ∨ y_o = 16 ∨ y_o = 17 ∨ y_o = 18 ∨ y_o = 19 ∨ y_o = 20 ∨ y_o = 21 ∨ y_o = 22 ∨ y_o = 23 ∨ y_o = 24 ∨ y_o = 25 ∨ y_o = 26 ∨ y_o = 27 ∨ y_o = 28 ∨ 29 ≤ y_o by omega) with rfl | rfl | rfl | rfl | rfl | rfl | rfl | rfl | rfl | rfl | rfl | rfl | rfl | rfl | rfl | rfl | rfl | rfl | rfl | rfl | rfl | rfl | rfl | rfl | rfl | rfl | rfl | rfl | rfl | y_g
      · exact z_tabIn (tgt := 168) (off := 129) dL_law_39 (by decide) (by decide) (by decide) (by decide +kernel) rfl (z_law_c0 sc hi hR next)
      · exact z_tabIn (tgt := 212) (off := 173) dL_law_39 (by decide) (by decide) (by decide) (by decide +kernel) rfl (z_law_c1 sc hi hR next)
      · exact z_tabIn (tgt := 292) (off := 253) dL_law_39 (by decide) (by decide) (by decide) (by decide +kernel) rfl (z_law_c2 sc hi hR next)
      · exact z_tabIn (tgt := 348) (off := 309) dL_law_39 (by decide) (by decide) (by decide) (by decide +kernel) rfl (z_law_c3 sc hi hR next)
      · exact z_tabIn (tgt := 416) (off := 377) dL_law_39 (by decide) (by decide) (by decide) (by decide +kernel) rfl (z_law_c4 sc hi hR next)
      · exact z_tabIn (tgt := 484) (off := 445) dL_law_39 (by decide) (by decide) (by decide) (by decide +kernel) rfl (z_law_c5 sc hi hR next)
      · exact z_tabIn (tgt := 552) (off := 513) dL_law_39 (by decide) (by decide) (by decide) (by decide +kernel) rfl (z_law_c6 sc hi hR next)
      · exact z_tabIn (tgt := 565) (off := 526) dL_law_39 (by decide) (by decide) (by decide) (by decide +kernel) rfl (z_law_c7 sc hi hR next)
      · exact z_tabIn (tgt := 633) (off := 594) dL_law_39 (by decide) (by decide) (by decide) (by decide +kernel) rfl (z_law_c8 sc hi hR next)
      · exact z_tabIn (tgt := 701) (off := 662) dL_law_39 (by decide) (by decide) (by decide) (by decide +kernel) rfl (z_law_c9 sc hi hR next)
      · exact z_tabIn (tgt := 769) (off := 730) dL_law_39 (by decide) (by decide) (by decide) (by decide +kernel) rfl (z_law_c10 sc hi hR next)
      · exact z_tabIn (tgt := 825) (off := 786) dL_law_39 (by decide) (by decide) (by decide) (by decide +kernel) rfl (z_law_c11 sc hi hR next)
      · exact z_tabIn (tgt := 881) (off := 842) dL_law_39 (by decide) (by decide) (by decide) (by decide +kernel) rfl (z_law_c12 sc hi hR next)
      · exact z_tabIn (tgt := 937) (off := 898) dL_law_39 (by decide) (by decide) (by decide) (by decide +kernel) rfl (z_law_c13 sc hi hR next)
      · exact z_tabIn (tgt := 1005) (off := 966) dL_law_39 (by decide) (by decide) (by decide) (by decide +kernel) rfl (z_law_c14 sc hi hR next)
      · exact z_tabIn (tgt := 1073) (off := 1034) dL_law_39 (by decide) (by decide) (by decide) (by decide +kernel) rfl (z_law_c15 sc hi hR next)
      · exact z_tabIn (tgt := 1129) (off := 1090) dL_law_39 (by decide) (by decide) (by decide) (by decide +kernel) rfl (z_law_c16 sc hi hR next)
      · exact z_tabIn (tgt := 1142) (off := 1103) dL_law_39 (by decide) (by decide) (by decide) (by decide +kernel) rfl (z_law_c17 sc hi hR next)
      · exact z_tabIn (tgt := 1155) (off := 1116) dL_law_39 (by decide) (by decide) (by decide) (by decide +kernel) rfl (z_law_c18 sc hi hR next)
      · exact z_tabIn (tgt := 1199) (off := 1160) dL_law_39 (by decide) (by decide) (by decide) (by decide +kernel) rfl (z_law_c19 sc hi hR next)
      · exact z_tabIn (tgt := 1267) (off := 1228) dL_law_39 (by decide) (by decide) (by decide) (by decide +kernel) rfl (z_law_c20 sc hi hR next)
      · exact z_tabIn (tgt := 1335) (off := 1296) dL_law_39 (by decide) (by decide) (by decide) (by decide +kernel) rfl (z_law_c21 sc hi hR next)
      · exact z_tabIn (tgt := 1415) (off := 1376) dL_law_39 (by decide) (by decide) (by decide) (by decide +kernel) rfl (z_law_c22 sc hi hR next)
      · exact z_tabIn (tgt := 1471) (off := 1432) dL_law_39 (by decide) (by decide) (by decide) (by decide +kernel) rfl (z_law_c23 sc hi hR next)
      · exact z_tabIn (tgt := 1527) (off := 1488) dL_law_39 (by decide) (by decide) (by decide) (by decide +kernel) rfl (z_law_c24 sc hi hR next)
      · exact z_tabIn (tgt := 1607) (off := 1568) dL_law_39 (by decide) (by decide) (by decide) (by decide +kernel) rfl (z_law_c25 sc hi hR next)
      · exact z_tabIn (tgt := 1675) (off := 1636) dL_law_39 (by decide) (by decide) (by decide) (by decide +kernel) rfl (z_law_c26 sc hi hR next)
      · exact z_tabIn (tgt := 1743) (off := 1704) dL_law_39 (by decide) (by decide) (by decide) (by decide +kernel) rfl (z_law_c27 sc hi hR next)
      · exact z_tabIn (tgt := 1784) (off := 1745) dL_law_39 (by decide) (by decide) (by decide) (by decide +kernel) rfl (z_law_c28 sc hi hR next)
      · refine z_tabOut (tgt := 1798) dL_law_39 ⟨by omega, by omega⟩ (Or.inr (by omega)) rfl ?_
        obtain ⟨g, h⟩ := hR
        exact z_wide (by omega) (by omega) (next M ⟨g, z_Rg_same h (by omega) (fun _ _ => rfl) (fun _ _ _ => rfl) (fun _ _ => rfl)⟩)
