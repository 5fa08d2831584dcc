/-! ===== the class: questions ===== -/
theorem z_sm_tail {f : Int → Int} {n m : Nat} (hn : n ≤ m) (h : ∀ i : Nat, n ≤ i → i < m → f i = 0) : z_sm m f = z_sm n f := by
  induction m with
  | zero => rw [Nat.le_zero.mp hn]
  | succ m ih =>
    by_cases e : n = m + 1
    · rw [e]
    · rw [z_sm_s, ih (by omega) (fun i a b => h i a (by omega)), h m (by omega) (by omega), Int.add_zero]
theorem z_pwi_12 {b : Int → Int} {N k : Int} (hb : z_BI b N) (k0 : 0 ≤ k) (k1 : k < 20) : z_sm 12 (fun p => if 0 < b (426 + 12 * k + p) then 1 else 0) = z_pwi b k := by
  have hh := z_BI_h hb
  refine z_sm_tail (f := fun p => if 0 < b (426 + 12 * k + p) then 1 else 0) (n := (b 0).toNat) (m := 12) (by omega) (fun i a c => ?_)
  have hq := z_BI_Q hb k i k0 k1 (by omega) (by omega)
  unfold z_QI at hq
  exact if_neg (by omega)
theorem z_wd_12 {b : Int → Int} {N k : Int} (hb : z_BI b N) (k0 : 0 ≤ k) (k1 : k < 20) : z_wd b k 12 = z_wd b k (b 0).toNat := by
  have hh := z_BI_h hb
  have key : ∀ n : Nat, (b 0).toNat ≤ n → n ≤ 12 → z_wd b k n = z_wd b k (b 0).toNat := by
    intro n
    induction n with
    | zero => intro h _; rw [Nat.le_zero.mp h]
    | succ n ih =>
      intro h1 h2
      by_cases e : (b 0).toNat = n + 1
      · rw [e]
      · rw [← ih (by omega) (by omega)]
        have hq := z_BI_Q hb k n k0 k1 (by omega) (by omega)
        unfold z_QI at hq
        have h0 := hq.2.2.2.2.2.2 (Or.inl (by omega))
        conv => lhs; unfold z_wd
        rw [if_neg]
        intro c
        have c2 := c.2
        rw [h0.1, h0.2.1] at c2
        omega
  exact key 12 (by omega) (by omega)
theorem z_sumOf_12 {b : Int → Int} {N w : Int} (hb : z_BI b N) (hw : w = 0 ∨ w = 1 ∨ w = 5) : z_sm 12 (fun p => b (14 + 6 * p + w)) = z_sumOf b w := by
  have hh := z_BI_h hb
  refine z_sm_tail (f := fun p => b (14 + 6 * p + w)) (n := (b 0).toNat) (m := 12) (by omega) (fun i a c => ?_)
  have hp := z_BI_P hb i (by omega) (by omega)
  unfold z_PI at hp
  have h0 := hp.2.2.2.2.2.2.2.2.2.2 (by omega)
  rcases hw with rfl | rfl | rfl
  · show b (14 + 6 * (i : Int) + 0) = 0
    rw [Int.add_zero]; exact h0.1
  · exact h0.2.1
  · exact h0.2.2.2.2.2
theorem z_dif_s {b : Int → Int} {n : Nat} : ∀ k : Nat, k ≤ n → z_dif b (n + 1) k = z_dif b n k + z_sm k (fun i => z_ab (b (14 + 6 * i) - b (14 + 6 * n))) := by
  intro k
  induction k with
  | zero => intro _; rfl
  | succ k ih =>
    intro hk
    have e : n + 1 - (k + 1) = (n - (k + 1)) + 1 := by omega
    have e2 : (k : Int) + 1 + ((n - (k + 1) : Nat) : Int) = n := by omega
    unfold z_dif
    rw [ih (by omega), e, z_sm_s, z_sm_s]
    show z_dif b n k + _ + (_ + z_ab (b (14 + 6 * (k : Int)) - b (14 + 6 * ((k : Int) + 1 + ((n - (k + 1) : Nat) : Int))))) = _
    rw [e2]
    omega
theorem z_ab_sub (x y : Int) : z_ab (x - y) = z_ab (y - x) := by unfold z_ab; split <;> split <;> omega
theorem z_dif_spr (b : Int → Int) (n : Nat) : z_dif b n n = z_spr b n := by
  induction n with
  | zero => rfl
  | succ n ih =>
    show z_dif b (n + 1) n + z_sm (n + 1 - (n + 1)) _ = _
    rw [z_dif_s n (Nat.le_refl n), ih, Nat.sub_self]
    show z_spr b n + _ + 0 = z_spr b n + z_sm n _
    rw [Int.add_zero]
    congr 1
    exact z_sm_eq (fun i _ => z_ab_sub _ _)
theorem tX6_pen {G : z_G} {M : z_M} {g : Nat} {N : Int} (hg : g < 7) (hn : M 7 2 = (g : Int)) (hb : z_BI (M g) N) {p : Int} (rp : z_rg p) {w : Int} (rw : z_rg w) (hc : z_c_pen (M g) p w = 0) : KX6_pen G [.ref (z_ad G 0 20), z_I p, z_I w] M (.inl (some (z_I (z_pnv (M g) p w)))) M := by
  refine z_con (ls := [some (.ref (z_ad G 0 20)), some (z_I p), some (z_I w), none]) (by decide +kernel) (Nat.le_of_ble_eq_true rfl) rfl ?_
  intro Z htb
  refine z_rng fun hr => ?_
  have hh := z_BI_h hb
  unfold z_c_pen at hc
  (repeat' split at hc) <;> first | (exfalso; omega; done) | skip
  refine z_aloadn dX6_pen_0 rfl ?_
  refine z_iloadn dX6_pen_1 rfl ?_
  by_cases e2 : 0 ≤ p ∧ p < M g 0
  · refine kX6_71 (tX6_needPen hg hn (by first | assumption | omega | exact hr _ _ (by omega)) e2) rfl ⟨(Nat.le_of_ble_eq_true rfl), (Nat.le_of_ble_eq_true rfl)⟩ (Nat.le_of_ble_eq_true rfl) dX6_pen_2 ?_
    refine z_iloadn dX6_pen_5 rfl ?_
    refine z_iconst dX6_pen_6 ?_
    refine z_bipush dX6_pen_7 (by decide) ?_
    by_cases e9 : 0 ≤ w ∧ w ≤ 8
    · refine kX6_76 (tX6_needRange (by first | assumption | omega | exact hr _ _ (by omega)) (by first | assumption | omega | exact hr _ _ (by omega)) (by first | assumption | omega | exact hr _ _ (by omega)) e9) rfl ⟨(Nat.le_of_ble_eq_true rfl), (Nat.le_of_ble_eq_true rfl)⟩ (Nat.le_of_ble_eq_true rfl) dX6_pen_9 ?_
      refine z_aloadn dX6_pen_12 rfl ?_
      refine gX6_44 (by first | exact hn | exact y_An | ((repeat (first | rw [z_sM_row _ _ _ y_7q] | rw [z_sR_ne _ _ y_7q])); exact y_An)) rfl dX6_pen_13 ?_
      refine gX6_48 (by first | exact hg | exact hq7) rfl dX6_pen_16 ?_
      refine z_astoren_3 dX6_pen_19 (Nat.le_of_ble_eq_true rfl) rfl ?_
      refine z_iloadn dX6_pen_20 rfl ?_
      rcases (by omega : (w < 0 ∨ 7 < w) ∨ (w = 0) ∨ (w = 1) ∨ (w = 2) ∨ (w = 3) ∨ (w = 4) ∨ (w = 5) ∨ (w = 6) ∨ (w = 7)) with h21 | h21 | h21 | h21 | h21 | h21 | h21 | h21 | h21
      · refine z_tabOut (tgt := 128) dX6_pen_21 (by first | (exact hr _ _ (by decide)) | (exact hr _ _ (by omega)) | omega) h21 (by decide) ?_
        obtain rfl : w = 8 := by omega
        refine z_aloadn dX6_pen_128 rfl ?_
        refine z_iloadn dX6_pen_129 rfl ?_
        refine kX6_267 (by first | exact hg | exact hq7) (tX3_placeOf hg hb (by omega) (by omega)) rfl ⟨(Nat.le_of_ble_eq_true rfl), (Nat.le_of_ble_eq_true rfl)⟩ (Nat.le_of_ble_eq_true rfl) dX6_pen_130 ?_
        exact z_iret dX6_pen_133 (by unfold z_pnv; first | rfl | (rw [if_pos (by omega)]; first | rfl | (congr 1; omega))) rfl
      · subst h21
        refine z_tabIn (tgt := 68) (off := 47) dX6_pen_21 (by decide) (by decide) (by decide) (by decide) (by decide) ?_
        refine z_aloadn dX6_pen_68 rfl ?_
        refine gX6_85 (by first | exact hg | exact hq7) rfl dX6_pen_69 ?_
        refine z_iloadn dX6_pen_72 rfl ?_
        refine z_iald (by rfl) (by first | exact Or.inl (by decide) | exact Or.inl (Or.inl ⟨by decide, hg⟩) | exact Or.inl (Or.inl ⟨by decide, hq7⟩)) (by omega) (by omega) (by decide) dX6_pen_73 ?_
        exact z_iret dX6_pen_74 (by unfold z_pnv; first | rfl | (rw [if_pos (by omega)]; first | rfl | (congr 1; omega))) rfl
      · subst h21
        refine z_tabIn (tgt := 75) (off := 54) dX6_pen_21 (by decide) (by decide) (by decide) (by decide) (by decide) ?_
        refine z_aloadn dX6_pen_75 rfl ?_
        refine gX6_103 (by first | exact hg | exact hq7) rfl dX6_pen_76 ?_
        refine z_iloadn dX6_pen_79 rfl ?_
        refine z_iald (by rfl) (by first | exact Or.inl (by decide) | exact Or.inl (Or.inl ⟨by decide, hg⟩) | exact Or.inl (Or.inl ⟨by decide, hq7⟩)) (by omega) (by omega) (by decide) dX6_pen_80 ?_
        exact z_iret dX6_pen_81 (by unfold z_pnv; first | rfl | (rw [if_pos (by omega)]; first | rfl | (congr 1; omega))) rfl
      · subst h21
        refine z_tabIn (tgt := 82) (off := 61) dX6_pen_21 (by decide) (by decide) (by decide) (by decide) (by decide) ?_
        refine z_aloadn dX6_pen_82 rfl ?_
        refine gX6_258 (by first | exact hg | exact hq7) rfl dX6_pen_83 ?_
        refine z_iloadn dX6_pen_86 rfl ?_
        refine z_iald (by rfl) (by first | exact Or.inl (by decide) | exact Or.inl (Or.inl ⟨by decide, hg⟩) | exact Or.inl (Or.inl ⟨by decide, hq7⟩)) (by omega) (by omega) (by decide) dX6_pen_87 ?_
        exact z_iret dX6_pen_88 (by unfold z_pnv; first | rfl | (rw [if_pos (by omega)]; first | rfl | (congr 1; omega))) rfl
      · subst h21
        refine z_tabIn (tgt := 89) (off := 68) dX6_pen_21 (by decide) (by decide) (by decide) (by decide) (by decide) ?_
        refine z_aloadn dX6_pen_89 rfl ?_
        refine gX6_68 (by first | exact hg | exact hq7) rfl dX6_pen_90 ?_
        refine z_iloadn dX6_pen_93 rfl ?_
        refine z_iald (by rfl) (by first | exact Or.inl (by decide) | exact Or.inl (Or.inl ⟨by decide, hg⟩) | exact Or.inl (Or.inl ⟨by decide, hq7⟩)) (by omega) (by omega) (by decide) dX6_pen_94 ?_
        exact z_iret dX6_pen_95 (by unfold z_pnv; first | rfl | (rw [if_pos (by omega)]; first | rfl | (congr 1; omega))) rfl
      · subst h21
        refine z_tabIn (tgt := 96) (off := 75) dX6_pen_21 (by decide) (by decide) (by decide) (by decide) (by decide) ?_
        refine z_aloadn dX6_pen_96 rfl ?_
        refine gX6_97 (by first | exact hg | exact hq7) rfl dX6_pen_97 ?_
        refine z_iloadn dX6_pen_100 rfl ?_
        refine z_iald (by rfl) (by first | exact Or.inl (by decide) | exact Or.inl (Or.inl ⟨by decide, hg⟩) | exact Or.inl (Or.inl ⟨by decide, hq7⟩)) (by omega) (by omega) (by decide) dX6_pen_101 ?_
        exact z_iret dX6_pen_102 (by unfold z_pnv; first | rfl | (rw [if_pos (by omega)]; first | rfl | (congr 1; omega))) rfl
      · subst h21
        refine z_tabIn (tgt := 103) (off := 82) dX6_pen_21 (by decide) (by decide) (by decide) (by decide) (by decide) ?_
        refine z_aloadn dX6_pen_103 rfl ?_
        refine z_iloadn dX6_pen_104 rfl ?_
        refine kX6_261 (by first | exact hg | exact hq7) (tX3_bylinesOf hg hb (by omega)) rfl ⟨(Nat.le_of_ble_eq_true rfl), (Nat.le_of_ble_eq_true rfl)⟩ (Nat.le_of_ble_eq_true rfl) dX6_pen_105 ?_
        exact z_iret dX6_pen_108 (by unfold z_pnv; first | rfl | (rw [if_pos (by omega)]; first | rfl | (congr 1; omega))) rfl
      · subst h21
        refine z_tabIn (tgt := 109) (off := 88) dX6_pen_21 (by decide) (by decide) (by decide) (by decide) (by decide) ?_
        refine z_aloadn dX6_pen_109 rfl ?_
        refine gX6_106 (by first | exact hg | exact hq7) rfl dX6_pen_110 ?_
        refine z_iloadn dX6_pen_113 rfl ?_
        refine z_iald (by rfl) (by first | exact Or.inl (by decide) | exact Or.inl (Or.inl ⟨by decide, hg⟩) | exact Or.inl (Or.inl ⟨by decide, hq7⟩)) (by omega) (by omega) (by decide) dX6_pen_114 ?_
        exact z_iret dX6_pen_115 (by unfold z_pnv; first | rfl | (rw [if_pos (by omega)]; first | rfl | (congr 1; omega))) rfl
      · subst h21
        refine z_tabIn (tgt := 116) (off := 95) dX6_pen_21 (by decide) (by decide) (by decide) (by decide) (by decide) ?_
        refine z_aloadn dX6_pen_116 rfl ?_
        refine gX6_44 (by first | exact hn | exact y_An | ((repeat (first | rw [z_sM_row _ _ _ y_7q] | rw [z_sR_ne _ _ y_7q])); exact y_An)) rfl dX6_pen_117 ?_
        refine gX6_121 (by first | exact hg | exact hq7) rfl dX6_pen_120 ?_
        refine z_iloadn dX6_pen_123 rfl ?_
        refine kX6_264 (by first | exact hg | exact hq7) (tX4_draftsBy hg hb (by omega) (by omega)) rfl ⟨(Nat.le_of_ble_eq_true rfl), (Nat.le_of_ble_eq_true rfl)⟩ (Nat.le_of_ble_eq_true rfl) dX6_pen_124 ?_
        exact z_iret dX6_pen_127 (by unfold z_pnv; first | rfl | (rw [if_pos (by omega)]; first | rfl | (congr 1; omega))) rfl
    · exfalso; omega
  · exfalso; omega
theorem tX6_piece {G : z_G} {M : z_M} {g : Nat} {N : Int} (hg : g < 7) (hn : M 7 2 = (g : Int)) (hb : z_BI (M g) N) {k : Int} (rk : z_rg k) {w : Int} (rw : z_rg w) (hc : z_c_piece (M g) k w = 0) : KX6_piece G [.ref (z_ad G 0 20), z_I k, z_I w] M (.inl (some (z_I (z_kv (M g) k w)))) M := by
  refine z_con (ls := [some (.ref (z_ad G 0 20)), some (z_I k), some (z_I w), none]) (by decide +kernel) (Nat.le_of_ble_eq_true rfl) rfl ?_
  intro Z htb
  refine z_rng fun hr => ?_
  have hh := z_BI_h hb
  unfold z_c_piece at hc
  (repeat' split at hc) <;> first | (exfalso; omega; done) | skip
  refine z_aloadn dX6_piece_0 rfl ?_
  refine z_iloadn dX6_piece_1 rfl ?_
  by_cases e2 : 0 ≤ k ∧ k < M g 1
  · refine kX6_143 (tX6_needPiece hg hn (by first | assumption | omega | exact hr _ _ (by omega)) e2) rfl ⟨(Nat.le_of_ble_eq_true rfl), (Nat.le_of_ble_eq_true rfl)⟩ (Nat.le_of_ble_eq_true rfl) dX6_piece_2 ?_
    refine z_iloadn dX6_piece_5 rfl ?_
    refine z_iconst dX6_piece_6 ?_
    refine z_bipush dX6_piece_7 (by decide) ?_
    by_cases e9 : 0 ≤ w ∧ w ≤ 9
    · refine kX6_76 (tX6_needRange (by first | assumption | omega | exact hr _ _ (by omega)) (by first | assumption | omega | exact hr _ _ (by omega)) (by first | assumption | omega | exact hr _ _ (by omega)) e9) rfl ⟨(Nat.le_of_ble_eq_true rfl), (Nat.le_of_ble_eq_true rfl)⟩ (Nat.le_of_ble_eq_true rfl) dX6_piece_9 ?_
      refine z_aloadn dX6_piece_12 rfl ?_
      refine gX6_44 (by first | exact hn | exact y_An | ((repeat (first | rw [z_sM_row _ _ _ y_7q] | rw [z_sR_ne _ _ y_7q])); exact y_An)) rfl dX6_piece_13 ?_
      refine gX6_121 (by first | exact hg | exact hq7) rfl dX6_piece_16 ?_
      refine z_astoren_3 dX6_piece_19 (Nat.le_of_ble_eq_true rfl) rfl ?_
      refine z_iloadn dX6_piece_20 rfl ?_
      rcases (by omega : (w < 0 ∨ 8 < w) ∨ (w = 0) ∨ (w = 1) ∨ (w = 2) ∨ (w = 3) ∨ (w = 4) ∨ (w = 5) ∨ (w = 6) ∨ (w = 7) ∨ (w = 8)) with h21 | h21 | h21 | h21 | h21 | h21 | h21 | h21 | h21 | h21
      · refine z_tabOut (tgt := 134) dX6_piece_21 (by first | (exact hr _ _ (by decide)) | (exact hr _ _ (by omega)) | omega) h21 (by decide) ?_
        obtain rfl : w = 9 := by omega
        refine z_aloadn dX6_piece_134 rfl ?_
        refine z_iloadn dX6_piece_135 rfl ?_
        refine kX6_226 (by first | exact hg | exact hq7) (tX4_disputers hg hb (by omega) (by omega)) rfl ⟨(Nat.le_of_ble_eq_true rfl), (Nat.le_of_ble_eq_true rfl)⟩ (Nat.le_of_ble_eq_true rfl) dX6_piece_136 ?_
        exact z_iret dX6_piece_139 (z_wd_12 hb (by omega) (by omega)) rfl
      · subst h21
        refine z_tabIn (tgt := 72) (off := 51) dX6_piece_21 (by decide) (by decide) (by decide) (by decide) (by decide) ?_
        refine z_aloadn dX6_piece_72 rfl ?_
        refine gX6_270 (by first | exact hg | exact hq7) rfl dX6_piece_73 ?_
        refine z_iloadn dX6_piece_76 rfl ?_
        refine z_iald (by rfl) (by first | exact Or.inl (by decide) | exact Or.inl (Or.inl ⟨by decide, hg⟩) | exact Or.inl (Or.inl ⟨by decide, hq7⟩)) (by omega) (by omega) (by decide) dX6_piece_77 ?_
        exact z_iret dX6_piece_78 (by unfold z_kv; first | rfl | (rw [if_pos (by omega)]; first | rfl | (congr 1; omega))) rfl
      · subst h21
        refine z_tabIn (tgt := 79) (off := 58) dX6_piece_21 (by decide) (by decide) (by decide) (by decide) (by decide) ?_
        refine z_aloadn dX6_piece_79 rfl ?_
        refine gX6_164 (by first | exact hg | exact hq7) rfl dX6_piece_80 ?_
        refine z_iloadn dX6_piece_83 rfl ?_
        refine z_iald (by rfl) (by first | exact Or.inl (by decide) | exact Or.inl (Or.inl ⟨by decide, hg⟩) | exact Or.inl (Or.inl ⟨by decide, hq7⟩)) (by omega) (by omega) (by decide) dX6_piece_84 ?_
        exact z_iret dX6_piece_85 (by unfold z_kv; first | rfl | (rw [if_pos (by omega)]; first | rfl | (congr 1; omega))) rfl
      · subst h21
        refine z_tabIn (tgt := 86) (off := 65) dX6_piece_21 (by decide) (by decide) (by decide) (by decide) (by decide) ?_
        refine z_aloadn dX6_piece_86 rfl ?_
        refine gX6_161 (by first | exact hg | exact hq7) rfl dX6_piece_87 ?_
        refine z_iloadn dX6_piece_90 rfl ?_
        refine z_iald (by rfl) (by first | exact Or.inl (by decide) | exact Or.inl (Or.inl ⟨by decide, hg⟩) | exact Or.inl (Or.inl ⟨by decide, hq7⟩)) (by omega) (by omega) (by decide) dX6_piece_91 ?_
        exact z_iret dX6_piece_92 (by unfold z_kv; first | rfl | (rw [if_pos (by omega)]; first | rfl | (congr 1; omega))) rfl
      · subst h21
        refine z_tabIn (tgt := 93) (off := 72) dX6_piece_21 (by decide) (by decide) (by decide) (by decide) (by decide) ?_
        refine z_aloadn dX6_piece_93 rfl ?_
        refine gX6_167 (by first | exact hg | exact hq7) rfl dX6_piece_94 ?_
        refine z_iloadn dX6_piece_97 rfl ?_
        refine z_iald (by rfl) (by first | exact Or.inl (by decide) | exact Or.inl (Or.inl ⟨by decide, hg⟩) | exact Or.inl (Or.inl ⟨by decide, hq7⟩)) (by omega) (by omega) (by decide) dX6_piece_98 ?_
        exact z_iret dX6_piece_99 (by unfold z_kv; first | rfl | (rw [if_pos (by omega)]; first | rfl | (congr 1; omega))) rfl
      · subst h21
        refine z_tabIn (tgt := 100) (off := 79) dX6_piece_21 (by decide) (by decide) (by decide) (by decide) (by decide) ?_
        refine z_aloadn dX6_piece_100 rfl ?_
        refine z_iloadn dX6_piece_101 rfl ?_
        refine kX6_149 (by first | exact hg | exact hq7) (tX4_allDrafts hg (by omega) (by omega)) rfl ⟨(Nat.le_of_ble_eq_true rfl), (Nat.le_of_ble_eq_true rfl)⟩ (Nat.le_of_ble_eq_true rfl) dX6_piece_102 ?_
        exact z_iret dX6_piece_105 (by unfold z_kv; first | rfl | (rw [if_pos (by omega)]; first | rfl | (congr 1; omega))) rfl
      · subst h21
        refine z_tabIn (tgt := 106) (off := 85) dX6_piece_21 (by decide) (by decide) (by decide) (by decide) (by decide) ?_
        refine z_aloadn dX6_piece_106 rfl ?_
        refine z_iloadn dX6_piece_107 rfl ?_
        refine kX6_273 (by first | exact hg | exact hq7) (tX4_sharers hg hb (by omega) (by omega)) rfl ⟨(Nat.le_of_ble_eq_true rfl), (Nat.le_of_ble_eq_true rfl)⟩ (Nat.le_of_ble_eq_true rfl) dX6_piece_108 ?_
        exact z_iret dX6_piece_111 (z_pwi_12 hb (by omega) (by omega)) rfl
      · subst h21
        refine z_tabIn (tgt := 112) (off := 91) dX6_piece_21 (by decide) (by decide) (by decide) (by decide) (by decide) ?_
        refine z_aloadn dX6_piece_112 rfl ?_
        refine z_iloadn dX6_piece_113 rfl ?_
        refine kX6_192 (by first | exact hg | exact hq7) (tX4_allParts hg (by omega) (by omega)) rfl ⟨(Nat.le_of_ble_eq_true rfl), (Nat.le_of_ble_eq_true rfl)⟩ (Nat.le_of_ble_eq_true rfl) dX6_piece_114 ?_
        exact z_iret dX6_piece_117 (by unfold z_kv; first | rfl | (rw [if_pos (by omega)]; first | rfl | (congr 1; omega))) rfl
      · subst h21
        refine z_tabIn (tgt := 118) (off := 97) dX6_piece_21 (by decide) (by decide) (by decide) (by decide) (by decide) ?_
        refine z_aloadn dX6_piece_118 rfl ?_
        refine gX6_213 (by first | exact hg | exact hq7) rfl dX6_piece_119 ?_
        refine z_iloadn dX6_piece_122 rfl ?_
        refine z_iald (by rfl) (by first | exact Or.inl (by decide) | exact Or.inl (Or.inl ⟨by decide, hg⟩) | exact Or.inl (Or.inl ⟨by decide, hq7⟩)) (by omega) (by omega) (by decide) dX6_piece_123 ?_
        exact z_iret dX6_piece_124 (by unfold z_kv; first | rfl | (rw [if_pos (by omega)]; first | rfl | (congr 1; omega))) rfl
      · subst h21
        refine z_tabIn (tgt := 125) (off := 104) dX6_piece_21 (by decide) (by decide) (by decide) (by decide) (by decide) ?_
        refine z_aloadn dX6_piece_125 rfl ?_
        refine gX6_44 (by first | exact hn | exact y_An | ((repeat (first | rw [z_sM_row _ _ _ y_7q] | rw [z_sR_ne _ _ y_7q])); exact y_An)) rfl dX6_piece_126 ?_
        refine z_iloadn dX6_piece_129 rfl ?_
        refine kX6_204 (by first | exact hg | exact hq7) (tX5_killFee hg hb (by omega) (by omega)) rfl ⟨(Nat.le_of_ble_eq_true rfl), (Nat.le_of_ble_eq_true rfl)⟩ (Nat.le_of_ble_eq_true rfl) dX6_piece_130 ?_
        exact z_iret dX6_piece_133 (by unfold z_kv; first | rfl | (rw [if_pos (by omega)]; first | rfl | (congr 1; omega))) rfl
    · exfalso; omega
  · exfalso; omega
theorem tX6_between {G : z_G} {M : z_M} {g : Nat} {N : Int} (hg : g < 7) (hn : M 7 2 = (g : Int)) (hb : z_BI (M g) N) {k : Int} (rk : z_rg k) {p : Int} (rp : z_rg p) {w : Int} (rw : z_rg w) (hc : z_c_between (M g) k p w = 0) : KX6_between G [.ref (z_ad G 0 20), z_I k, z_I p, z_I w] M (.inl (some (z_I (z_bv (M g) k p w)))) M := by
  refine z_con (ls := [some (.ref (z_ad G 0 20)), some (z_I k), some (z_I p), some (z_I w)]) (by decide +kernel) (Nat.le_of_ble_eq_true rfl) rfl ?_
  intro Z htb
  refine z_rng fun hr => ?_
  have hh := z_BI_h hb
  unfold z_c_between at hc
  (repeat' split at hc) <;> first | (exfalso; omega; done) | skip
  refine z_aloadn dX6_between_0 rfl ?_
  refine z_iloadn dX6_between_1 rfl ?_
  by_cases e2 : 0 ≤ k ∧ k < M g 1
  · refine kX6_143 (tX6_needPiece hg hn (by first | assumption | omega | exact hr _ _ (by omega)) e2) rfl ⟨(Nat.le_of_ble_eq_true rfl), (Nat.le_of_ble_eq_true rfl)⟩ (Nat.le_of_ble_eq_true rfl) dX6_between_2 ?_
    refine z_aloadn dX6_between_5 rfl ?_
    refine z_iloadn dX6_between_6 rfl ?_
    by_cases e7 : 0 ≤ p ∧ p < M g 0
    · refine kX6_71 (tX6_needPen hg hn (by first | assumption | omega | exact hr _ _ (by omega)) e7) rfl ⟨(Nat.le_of_ble_eq_true rfl), (Nat.le_of_ble_eq_true rfl)⟩ (Nat.le_of_ble_eq_true rfl) dX6_between_7 ?_
      refine z_iloadn dX6_between_10 rfl ?_
      refine z_iconst dX6_between_11 ?_
      refine z_iconst dX6_between_12 ?_
      by_cases e13 : 0 ≤ w ∧ w ≤ 2
      · refine kX6_76 (tX6_needRange (by first | assumption | omega | exact hr _ _ (by omega)) (by first | assumption | omega | exact hr _ _ (by omega)) (by first | assumption | omega | exact hr _ _ (by omega)) e13) rfl ⟨(Nat.le_of_ble_eq_true rfl), (Nat.le_of_ble_eq_true rfl)⟩ (Nat.le_of_ble_eq_true rfl) dX6_between_13 ?_
        refine z_iloadn dX6_between_16 rfl ?_
        rcases (by omega : (w = 0) ∨ (w = 1) ∨ (w = 2)) with h17 | h17 | h17
        · subst h17
          refine z_lookup (tgt := 44) (off := 27) dX6_between_17 (by decide) (by decide) (by decide) (by decide) ?_
          refine z_aloadn dX6_between_44 rfl ?_
          refine gX6_44 (by first | exact hn | exact y_An | ((repeat (first | rw [z_sM_row _ _ _ y_7q] | rw [z_sR_ne _ _ y_7q])); exact y_An)) rfl dX6_between_45 ?_
          refine gX6_121 (by first | exact hg | exact hq7) rfl dX6_between_48 ?_
          refine gX6_241 (by first | exact hg | exact hq7) rfl dX6_between_51 ?_
          refine z_iloadn dX6_between_54 rfl ?_
          refine z_iloadn dX6_between_55 rfl ?_
          refine kX6_158 tX6_at rfl ⟨(Nat.le_of_ble_eq_true rfl), (Nat.le_of_ble_eq_true rfl)⟩ (Nat.le_of_ble_eq_true rfl) dX6_between_56 ?_
          refine z_iald (by rfl) (by first | exact Or.inl (by decide) | exact Or.inl (Or.inl ⟨by decide, hg⟩) | exact Or.inl (Or.inl ⟨by decide, hq7⟩)) (by omega) (by omega) (by decide) dX6_between_59 ?_
          exact z_iret dX6_between_60 (by unfold z_bv; first | (rw [if_pos (by omega)]; congr 1; omega) | (rw [if_neg (by omega), if_pos (by omega)]; congr 1; omega) | (rw [if_neg (by omega), if_neg (by omega)]; congr 1; omega)) rfl
        · subst h17
          refine z_lookup (tgt := 61) (off := 44) dX6_between_17 (by decide) (by decide) (by decide) (by decide) ?_
          refine z_aloadn dX6_between_61 rfl ?_
          refine gX6_44 (by first | exact hn | exact y_An | ((repeat (first | rw [z_sM_row _ _ _ y_7q] | rw [z_sR_ne _ _ y_7q])); exact y_An)) rfl dX6_between_62 ?_
          refine gX6_121 (by first | exact hg | exact hq7) rfl dX6_between_65 ?_
          refine gX6_155 (by first | exact hg | exact hq7) rfl dX6_between_68 ?_
          refine z_iloadn dX6_between_71 rfl ?_
          refine z_iloadn dX6_between_72 rfl ?_
          refine kX6_158 tX6_at rfl ⟨(Nat.le_of_ble_eq_true rfl), (Nat.le_of_ble_eq_true rfl)⟩ (Nat.le_of_ble_eq_true rfl) dX6_between_73 ?_
          refine z_iald (by rfl) (by first | exact Or.inl (by decide) | exact Or.inl (Or.inl ⟨by decide, hg⟩) | exact Or.inl (Or.inl ⟨by decide, hq7⟩)) (by omega) (by omega) (by decide) dX6_between_76 ?_
          exact z_iret dX6_between_77 (by unfold z_bv; first | (rw [if_pos (by omega)]; congr 1; omega) | (rw [if_neg (by omega), if_pos (by omega)]; congr 1; omega) | (rw [if_neg (by omega), if_neg (by omega)]; congr 1; omega)) rfl
        · subst h17
          refine z_lookup (tgt := 78) (off := 61) dX6_between_17 (by decide) (by decide) (by decide) (by decide) ?_
          refine z_aloadn dX6_between_78 rfl ?_
          refine gX6_44 (by first | exact hn | exact y_An | ((repeat (first | rw [z_sM_row _ _ _ y_7q] | rw [z_sR_ne _ _ y_7q])); exact y_An)) rfl dX6_between_79 ?_
          refine gX6_121 (by first | exact hg | exact hq7) rfl dX6_between_82 ?_
          refine gX6_125 (by first | exact hg | exact hq7) rfl dX6_between_85 ?_
          refine z_iloadn dX6_between_88 rfl ?_
          refine z_iloadn dX6_between_89 rfl ?_
          refine kX6_158 tX6_at rfl ⟨(Nat.le_of_ble_eq_true rfl), (Nat.le_of_ble_eq_true rfl)⟩ (Nat.le_of_ble_eq_true rfl) dX6_between_90 ?_
          refine z_iald (by rfl) (by first | exact Or.inl (by decide) | exact Or.inl (Or.inl ⟨by decide, hg⟩) | exact Or.inl (Or.inl ⟨by decide, hq7⟩)) (by omega) (by omega) (by decide) dX6_between_93 ?_
          exact z_iret dX6_between_94 (by unfold z_bv; first | (rw [if_pos (by omega)]; congr 1; omega) | (rw [if_neg (by omega), if_pos (by omega)]; congr 1; omega) | (rw [if_neg (by omega), if_neg (by omega)]; congr 1; omega)) rfl
      · exfalso; omega
    · exfalso; omega
  · exfalso; omega
theorem tX6_count {G : z_G} {M : z_M} {g : Nat} {N : Int} (hg : g < 7) (hn : M 7 2 = (g : Int)) (hb : z_BI (M g) N) {w : Int} (rw : z_rg w) (hc : z_c_count w = 0) : KX6_count G [.ref (z_ad G 0 20), z_I w] M (.inl (some (z_I (z_cv (M g) (M 7 1) w)))) M := by
  refine z_con (ls := [some (.ref (z_ad G 0 20)), some (z_I w)]) (by decide +kernel) (Nat.le_of_ble_eq_true rfl) rfl ?_
  intro Z htb
  refine z_rng fun hr => ?_
  have hh := z_BI_h hb
  unfold z_c_count at hc
  (repeat' split at hc) <;> first | (exfalso; omega; done) | skip
  refine z_iloadn dX6_count_0 rfl ?_
  refine z_iconst dX6_count_1 ?_
  refine z_bipush dX6_count_2 (by decide) ?_
  by_cases e4 : 0 ≤ w ∧ w ≤ 13
  · refine kX6_76 (tX6_needRange (by first | assumption | omega | exact hr _ _ (by omega)) (by first | assumption | omega | exact hr _ _ (by omega)) (by first | assumption | omega | exact hr _ _ (by omega)) e4) rfl ⟨(Nat.le_of_ble_eq_true rfl), (Nat.le_of_ble_eq_true rfl)⟩ (Nat.le_of_ble_eq_true rfl) dX6_count_4 ?_
    refine z_iloadn dX6_count_7 rfl ?_
    rcases (by omega : (w < 0 ∨ 12 < w) ∨ (w = 0) ∨ (w = 1) ∨ (w = 2) ∨ (w = 3) ∨ (w = 4) ∨ (w = 5) ∨ (w = 6) ∨ (w = 7) ∨ (w = 8) ∨ (w = 9) ∨ (w = 10) ∨ (w = 11) ∨ (w = 12)) with h8 | h8 | h8 | h8 | h8 | h8 | h8 | h8 | h8 | h8 | h8 | h8 | h8 | h8
    · refine z_tabOut (tgt := 215) dX6_count_8 (by first | (exact hr _ _ (by decide)) | (exact hr _ _ (by omega)) | omega) h8 (by decide) ?_
      obtain rfl : w = 13 := by omega
      refine z_aloadn dX6_count_215 rfl ?_
      refine gX6_250 rfl dX6_count_216 ?_
      exact z_iret dX6_count_219 (by first | rfl | omega) rfl
    · subst h8
      refine z_tabIn (tgt := 76) (off := 68) dX6_count_8 (by decide) (by decide) (by decide) (by decide) (by decide) ?_
      refine z_aloadn dX6_count_76 rfl ?_
      refine gX6_44 (by first | exact hn | exact y_An | ((repeat (first | rw [z_sM_row _ _ _ y_7q] | rw [z_sR_ne _ _ y_7q])); exact y_An)) rfl dX6_count_77 ?_
      refine gX6_48 (by first | exact hg | exact hq7) rfl dX6_count_80 ?_
      refine gX6_52 (by first | exact hg | exact hq7) rfl dX6_count_83 ?_
      exact z_iret dX6_count_86 (by first | rfl | omega) rfl
    · subst h8
      refine z_tabIn (tgt := 87) (off := 79) dX6_count_8 (by decide) (by decide) (by decide) (by decide) (by decide) ?_
      refine z_aloadn dX6_count_87 rfl ?_
      refine gX6_44 (by first | exact hn | exact y_An | ((repeat (first | rw [z_sM_row _ _ _ y_7q] | rw [z_sR_ne _ _ y_7q])); exact y_An)) rfl dX6_count_88 ?_
      refine gX6_121 (by first | exact hg | exact hq7) rfl dX6_count_91 ?_
      refine gX6_136 (by first | exact hg | exact hq7) rfl dX6_count_94 ?_
      exact z_iret dX6_count_97 (by first | rfl | omega) rfl
    · subst h8
      refine z_tabIn (tgt := 98) (off := 90) dX6_count_8 (by decide) (by decide) (by decide) (by decide) (by decide) ?_
      refine z_aloadn dX6_count_98 rfl ?_
      refine gX6_44 (by first | exact hn | exact y_An | ((repeat (first | rw [z_sM_row _ _ _ y_7q] | rw [z_sR_ne _ _ y_7q])); exact y_An)) rfl dX6_count_99 ?_
      refine gX6_118 (by first | exact hg | exact hq7) rfl dX6_count_102 ?_
      exact z_iret dX6_count_105 (by first | rfl | omega) rfl
    · subst h8
      refine z_tabIn (tgt := 106) (off := 98) dX6_count_8 (by decide) (by decide) (by decide) (by decide) (by decide) ?_
      refine z_aloadn dX6_count_106 rfl ?_
      refine gX6_44 (by first | exact hn | exact y_An | ((repeat (first | rw [z_sM_row _ _ _ y_7q] | rw [z_sR_ne _ _ y_7q])); exact y_An)) rfl dX6_count_107 ?_
      refine gX6_100 (by first | exact hg | exact hq7) rfl dX6_count_110 ?_
      exact z_iret dX6_count_113 (by first | rfl | omega) rfl
    · subst h8
      refine z_tabIn (tgt := 114) (off := 106) dX6_count_8 (by decide) (by decide) (by decide) (by decide) (by decide) ?_
      refine z_aloadn dX6_count_114 rfl ?_
      refine gX6_44 (by first | exact hn | exact y_An | ((repeat (first | rw [z_sM_row _ _ _ y_7q] | rw [z_sR_ne _ _ y_7q])); exact y_An)) rfl dX6_count_115 ?_
      refine gX6_276 (by first | exact hg | exact hq7) rfl dX6_count_118 ?_
      exact z_iret dX6_count_121 (by first | rfl | omega) rfl
    · subst h8
      refine z_tabIn (tgt := 122) (off := 114) dX6_count_8 (by decide) (by decide) (by decide) (by decide) (by decide) ?_
      refine z_aloadn dX6_count_122 rfl ?_
      refine gX6_44 (by first | exact hn | exact y_An | ((repeat (first | rw [z_sM_row _ _ _ y_7q] | rw [z_sR_ne _ _ y_7q])); exact y_An)) rfl dX6_count_123 ?_
      refine gX6_48 (by first | exact hg | exact hq7) rfl dX6_count_126 ?_
      refine gX6_85 (by first | exact hg | exact hq7) rfl dX6_count_129 ?_
      refine kX6_279 (tX6_sum (n := 12) (ix := fun p => 14 + 6 * p) (by rfl) (Or.inl (Or.inl ⟨by decide, hg⟩)) (by decide)) rfl ⟨(Nat.le_of_ble_eq_true rfl), (Nat.le_of_ble_eq_true rfl)⟩ (Nat.le_of_ble_eq_true rfl) dX6_count_132 ?_
      exact z_iret dX6_count_135 ((z_sm_eq (fun i _ => by show M g _ = M g _; rw [Int.add_zero])).trans (z_sumOf_12 (w := 0) hb (by omega))) rfl
    · subst h8
      refine z_tabIn (tgt := 136) (off := 128) dX6_count_8 (by decide) (by decide) (by decide) (by decide) (by decide) ?_
      refine z_aloadn dX6_count_136 rfl ?_
      refine gX6_44 (by first | exact hn | exact y_An | ((repeat (first | rw [z_sM_row _ _ _ y_7q] | rw [z_sR_ne _ _ y_7q])); exact y_An)) rfl dX6_count_137 ?_
      refine gX6_48 (by first | exact hg | exact hq7) rfl dX6_count_140 ?_
      refine gX6_103 (by first | exact hg | exact hq7) rfl dX6_count_143 ?_
      refine kX6_279 (tX6_sum (n := 12) (ix := fun p => 14 + 6 * p + 1) (by rfl) (Or.inl (Or.inl ⟨by decide, hg⟩)) (by decide)) rfl ⟨(Nat.le_of_ble_eq_true rfl), (Nat.le_of_ble_eq_true rfl)⟩ (Nat.le_of_ble_eq_true rfl) dX6_count_146 ?_
      exact z_iret dX6_count_149 (z_sumOf_12 (w := 1) hb (by omega)) rfl
    · subst h8
      refine z_tabIn (tgt := 150) (off := 142) dX6_count_8 (by decide) (by decide) (by decide) (by decide) (by decide) ?_
      refine z_aloadn dX6_count_150 rfl ?_
      refine gX6_44 (by first | exact hn | exact y_An | ((repeat (first | rw [z_sM_row _ _ _ y_7q] | rw [z_sR_ne _ _ y_7q])); exact y_An)) rfl dX6_count_151 ?_
      refine gX6_48 (by first | exact hg | exact hq7) rfl dX6_count_154 ?_
      refine gX6_106 (by first | exact hg | exact hq7) rfl dX6_count_157 ?_
      refine kX6_279 (tX6_sum (n := 12) (ix := fun p => 14 + 6 * p + 5) (by rfl) (Or.inl (Or.inl ⟨by decide, hg⟩)) (by decide)) rfl ⟨(Nat.le_of_ble_eq_true rfl), (Nat.le_of_ble_eq_true rfl)⟩ (Nat.le_of_ble_eq_true rfl) dX6_count_160 ?_
      exact z_iret dX6_count_163 ((z_BI_s hb).2.2.1) rfl
    · subst h8
      refine z_tabIn (tgt := 164) (off := 156) dX6_count_8 (by decide) (by decide) (by decide) (by decide) (by decide) ?_
      refine z_aloadn dX6_count_164 rfl ?_
      refine gX6_44 (by first | exact hn | exact y_An | ((repeat (first | rw [z_sM_row _ _ _ y_7q] | rw [z_sR_ne _ _ y_7q])); exact y_An)) rfl dX6_count_165 ?_
      refine gX6_121 (by first | exact hg | exact hq7) rfl dX6_count_168 ?_
      refine z_iconst dX6_count_171 ?_
      refine kX6_283 (by first | exact hg | exact hq7) (tX4_inStage hg hb (by decide)) rfl ⟨(Nat.le_of_ble_eq_true rfl), (Nat.le_of_ble_eq_true rfl)⟩ (Nat.le_of_ble_eq_true rfl) dX6_count_172 ?_
      exact z_iret dX6_count_175 (by first | rfl | omega) rfl
    · subst h8
      refine z_tabIn (tgt := 176) (off := 168) dX6_count_8 (by decide) (by decide) (by decide) (by decide) (by decide) ?_
      refine z_aloadn dX6_count_176 rfl ?_
      refine gX6_44 (by first | exact hn | exact y_An | ((repeat (first | rw [z_sM_row _ _ _ y_7q] | rw [z_sR_ne _ _ y_7q])); exact y_An)) rfl dX6_count_177 ?_
      refine gX6_121 (by first | exact hg | exact hq7) rfl dX6_count_180 ?_
      refine z_iconst dX6_count_183 ?_
      refine kX6_283 (by first | exact hg | exact hq7) (tX4_inStage hg hb (by decide)) rfl ⟨(Nat.le_of_ble_eq_true rfl), (Nat.le_of_ble_eq_true rfl)⟩ (Nat.le_of_ble_eq_true rfl) dX6_count_184 ?_
      exact z_iret dX6_count_187 (by first | rfl | omega) rfl
    · subst h8
      refine z_tabIn (tgt := 188) (off := 180) dX6_count_8 (by decide) (by decide) (by decide) (by decide) (by decide) ?_
      refine z_aloadn dX6_count_188 rfl ?_
      refine gX6_44 (by first | exact hn | exact y_An | ((repeat (first | rw [z_sM_row _ _ _ y_7q] | rw [z_sR_ne _ _ y_7q])); exact y_An)) rfl dX6_count_189 ?_
      refine gX6_238 (by first | exact hg | exact hq7) rfl dX6_count_192 ?_
      exact z_iret dX6_count_195 (by first | rfl | omega) rfl
    · subst h8
      refine z_tabIn (tgt := 196) (off := 188) dX6_count_8 (by decide) (by decide) (by decide) (by decide) (by decide) ?_
      refine z_aloadn dX6_count_196 rfl ?_
      refine gX6_44 (by first | exact hn | exact y_An | ((repeat (first | rw [z_sM_row _ _ _ y_7q] | rw [z_sR_ne _ _ y_7q])); exact y_An)) rfl dX6_count_197 ?_
      refine gX6_48 (by first | exact hg | exact hq7) rfl dX6_count_200 ?_
      refine kX6_286 (by first | exact hg | exact hq7) (tX3_bylinesAway hg hb) rfl ⟨(Nat.le_of_ble_eq_true rfl), (Nat.le_of_ble_eq_true rfl)⟩ (Nat.le_of_ble_eq_true rfl) dX6_count_203 ?_
      exact z_iret dX6_count_206 (by first | rfl | omega) rfl
    · subst h8
      refine z_tabIn (tgt := 207) (off := 199) dX6_count_8 (by decide) (by decide) (by decide) (by decide) (by decide) ?_
      refine z_aloadn dX6_count_207 rfl ?_
      refine gX6_44 (by first | exact hn | exact y_An | ((repeat (first | rw [z_sM_row _ _ _ y_7q] | rw [z_sR_ne _ _ y_7q])); exact y_An)) rfl dX6_count_208 ?_
      refine gX6_222 (by first | exact hg | exact hq7) rfl dX6_count_211 ?_
      exact z_iret dX6_count_214 (by first | rfl | omega) rfl
  · exfalso; omega
theorem tX6_setting {G : z_G} {M : z_M} {g : Nat} {N : Int} (hg : g < 7) (hn : M 7 2 = (g : Int)) (hb : z_BI (M g) N) {w : Int} (rw : z_rg w) (hc : z_c_setting w = 0) : KX6_setting G [.ref (z_ad G 0 20), z_I w] M (.inl (some (z_I ((M g) (8 + w))))) M := by
  refine z_con (ls := [some (.ref (z_ad G 0 20)), some (z_I w)]) (by decide +kernel) (Nat.le_of_ble_eq_true rfl) rfl ?_
  intro Z htb
  refine z_rng fun hr => ?_
  have hh := z_BI_h hb
  unfold z_c_setting at hc
  (repeat' split at hc) <;> first | (exfalso; omega; done) | skip
  refine z_iloadn dX6_setting_0 rfl ?_
  by_cases e1 : 0 ≤ w ∧ w < 6
  · refine kX6_109 (tX6_needSetting (by first | assumption | omega | exact hr _ _ (by omega)) e1) rfl ⟨(Nat.le_of_ble_eq_true rfl), (Nat.le_of_ble_eq_true rfl)⟩ (Nat.le_of_ble_eq_true rfl) dX6_setting_1 ?_
    refine z_aloadn dX6_setting_4 rfl ?_
    refine gX6_44 (by first | exact hn | exact y_An | ((repeat (first | rw [z_sM_row _ _ _ y_7q] | rw [z_sR_ne _ _ y_7q])); exact y_An)) rfl dX6_setting_5 ?_
    refine gX6_115 (by first | exact hg | exact hq7) rfl dX6_setting_8 ?_
    refine z_iloadn dX6_setting_11 rfl ?_
    refine z_iald (by rfl) (by first | exact Or.inl (by decide) | exact Or.inl (Or.inl ⟨by decide, hg⟩) | exact Or.inl (Or.inl ⟨by decide, hq7⟩)) (by omega) (by omega) (by decide) dX6_setting_12 ?_
    exact z_iret dX6_setting_13 (by first | rfl | omega) rfl
  · exfalso; omega
theorem tX6_ifPaid {G : z_G} {M : z_M} {g : Nat} {N : Int} (hg : g < 7) (hn : M 7 2 = (g : Int)) (hb : z_BI (M g) N) {k : Int} (rk : z_rg k) {a : Int} (ra : z_rg a) {p : Int} (rp : z_rg p) (hc : z_c_ifPaid (M g) k a p = 0) : KX6_ifPaid G [.ref (z_ad G 0 20), z_I k, z_I a, z_I p] M (.inl (some (z_I (z_gain (M g) (z_dRM M g k a 7) (z_dRM M g k a 10) p)))) (z_dRM M g k a) := by
  refine z_con (ls := [some (.ref (z_ad G 0 20)), some (z_I k), some (z_I a), some (z_I p)]) (by decide +kernel) (Nat.le_of_ble_eq_true rfl) rfl ?_
  intro Z htb
  refine z_rng fun hr => ?_
  have hh := z_BI_h hb
  unfold z_c_ifPaid at hc
  (repeat' split at hc) <;> first | (exfalso; omega; done) | skip
  refine z_aloadn dX6_ifPaid_0 rfl ?_
  refine z_iloadn dX6_ifPaid_1 rfl ?_
  by_cases e2 : 0 ≤ k ∧ k < M g 1
  · refine kX6_143 (tX6_needPiece hg hn (by first | assumption | omega | exact hr _ _ (by omega)) e2) rfl ⟨(Nat.le_of_ble_eq_true rfl), (Nat.le_of_ble_eq_true rfl)⟩ (Nat.le_of_ble_eq_true rfl) dX6_ifPaid_2 ?_
    refine z_aloadn dX6_ifPaid_5 rfl ?_
    refine z_iloadn dX6_ifPaid_6 rfl ?_
    by_cases e7 : 0 ≤ p ∧ p < M g 0
    · refine kX6_71 (tX6_needPen hg hn (by first | assumption | omega | exact hr _ _ (by omega)) e7) rfl ⟨(Nat.le_of_ble_eq_true rfl), (Nat.le_of_ble_eq_true rfl)⟩ (Nat.le_of_ble_eq_true rfl) dX6_ifPaid_7 ?_
      refine z_iloadn dX6_ifPaid_10 rfl ?_
      refine z_iconst dX6_ifPaid_11 ?_
      refine z_ldc (i := 100000) wk_X6_75 dX6_ifPaid_12 ?_
      by_cases e14 : 1 ≤ a ∧ a ≤ 100000
      · refine kX6_76 (tX6_needRange (by first | assumption | omega | exact hr _ _ (by omega)) (by first | assumption | omega | exact hr _ _ (by omega)) (by first | assumption | omega | exact hr _ _ (by omega)) e14) rfl ⟨(Nat.le_of_ble_eq_true rfl), (Nat.le_of_ble_eq_true rfl)⟩ (Nat.le_of_ble_eq_true rfl) dX6_ifPaid_14 ?_
        refine z_aloadn dX6_ifPaid_17 rfl ?_
        refine z_iloadn dX6_ifPaid_18 rfl ?_
        by_cases e19 : M g (86 + 5 * k + 2) = 3
        · refine kX6_207 (tX6_needAccepted hg hn (by omega) (by omega) e19) rfl ⟨(Nat.le_of_ble_eq_true rfl), (Nat.le_of_ble_eq_true rfl)⟩ (Nat.le_of_ble_eq_true rfl) dX6_ifPaid_19 ?_
          have y_f := z_BI_cF hb (show 0 ≤ k by omega) (by omega)
          have y_4 := z_BI_p4c hb (show 0 ≤ k by omega) (by omega)
          refine z_aloadn dX6_ifPaid_22 rfl ?_
          refine gX6_25 rfl dX6_ifPaid_23 ?_
          refine z_aloadn dX6_ifPaid_26 rfl ?_
          refine gX6_44 (by first | exact hn | exact y_An | ((repeat (first | rw [z_sM_row _ _ _ y_7q] | rw [z_sR_ne _ _ y_7q])); exact y_An)) rfl dX6_ifPaid_27 ?_
          refine z_iloadn dX6_ifPaid_30 rfl ?_
          refine z_iloadn dX6_ifPaid_31 rfl ?_
          refine z_mem (M' := z_d3 M (M 7) (M 10) (M 11)) (z_d3_id M) ?_
          refine kX6_210 (tX0_divideRoyalty hg (by omega) (by omega) (by omega) (by omega) y_f y_4) rfl ⟨(Nat.le_of_ble_eq_true rfl), (Nat.le_of_ble_eq_true rfl)⟩ (Nat.le_of_ble_eq_true rfl) dX6_ifPaid_32 ?_
          have y_DD : z_dR M g k a (M 7) (M 10) (M 11) = z_dRM M g k a := rfl
          rw [y_DD]
          have y_bd := z_dRM_bd (k := k) (show 0 ≤ a by omega) (by omega) y_f y_4
          have y_Dg : z_dRM M g k a g = M g := z_dRM_row (by omega)
          have y_An : z_dRM M g k a 7 2 = (g : Int) := (z_dRM_7 (by decide)).trans hn
          refine z_aloadn dX6_ifPaid_35 rfl ?_
          refine z_iloadn dX6_ifPaid_36 rfl ?_
          refine kX6_289 (tX6_gainOf (B := 100000000) hg y_An (by omega) (by omega) (by rw [y_Dg]; exact z_BI_ebd hb) (by decide) y_bd.2.2.1 y_bd.2.2.2.1 y_bd.2.2.2.2) rfl ⟨(Nat.le_of_ble_eq_true rfl), (Nat.le_of_ble_eq_true rfl)⟩ (Nat.le_of_ble_eq_true rfl) dX6_ifPaid_37 ?_
          exact z_iret dX6_ifPaid_40 (by rw [y_Dg]) rfl
        · exfalso; omega
      · exfalso; omega
    · exfalso; omega
  · exfalso; omega
theorem tX6_fairest {G : z_G} {M : z_M} {g : Nat} {N : Int} (hg : g < 7) (hn : M 7 2 = (g : Int)) (hb : z_BI (M g) N) {k : Int} (rk : z_rg k) {p : Int} (rp : z_rg p) (hc : z_c_fairest (M g) k p = 0) : KX6_fairest G [.ref (z_ad G 0 20), z_I k, z_I p] M (.inl (some (z_I (z_fiM M g k 12 p)))) (z_fiM M g k) := by
  refine z_con (ls := [some (.ref (z_ad G 0 20)), some (z_I k), some (z_I p)]) (by decide +kernel) (Nat.le_of_ble_eq_true rfl) rfl ?_
  intro Z htb
  refine z_rng fun hr => ?_
  have hh := z_BI_h hb
  unfold z_c_fairest at hc
  (repeat' split at hc) <;> first | (exfalso; omega; done) | skip
  refine z_aloadn dX6_fairest_0 rfl ?_
  refine z_iloadn dX6_fairest_1 rfl ?_
  by_cases e2 : 0 ≤ k ∧ k < M g 1
  · refine kX6_143 (tX6_needPiece hg hn (by first | assumption | omega | exact hr _ _ (by omega)) e2) rfl ⟨(Nat.le_of_ble_eq_true rfl), (Nat.le_of_ble_eq_true rfl)⟩ (Nat.le_of_ble_eq_true rfl) dX6_fairest_2 ?_
    refine z_aloadn dX6_fairest_5 rfl ?_
    refine z_iloadn dX6_fairest_6 rfl ?_
    by_cases e7 : 0 ≤ p ∧ p < M g 0
    · refine kX6_71 (tX6_needPen hg hn (by first | assumption | omega | exact hr _ _ (by omega)) e7) rfl ⟨(Nat.le_of_ble_eq_true rfl), (Nat.le_of_ble_eq_true rfl)⟩ (Nat.le_of_ble_eq_true rfl) dX6_fairest_7 ?_
      refine z_aloadn dX6_fairest_10 rfl ?_
      refine gX6_32 rfl dX6_fairest_11 ?_
      refine z_aloadn dX6_fairest_14 rfl ?_
      refine gX6_44 (by first | exact hn | exact y_An | ((repeat (first | rw [z_sM_row _ _ _ y_7q] | rw [z_sR_ne _ _ y_7q])); exact y_An)) rfl dX6_fairest_15 ?_
      refine gX6_121 (by first | exact hg | exact hq7) rfl dX6_fairest_18 ?_
      refine z_iloadn dX6_fairest_21 rfl ?_
      refine kX6_292 (tX1_find hg hb (by omega) (by omega)) rfl ⟨(Nat.le_of_ble_eq_true rfl), (Nat.le_of_ble_eq_true rfl)⟩ (Nat.le_of_ble_eq_true rfl) dX6_fairest_22 ?_
      refine z_rng fun hr => ?_
      refine z_aloadn dX6_fairest_25 rfl ?_
      refine gX6_32 rfl dX6_fairest_26 ?_
      refine gX6_296 rfl dX6_fairest_29 ?_
      refine z_iloadn dX6_fairest_32 rfl ?_
      refine z_iald (by rfl) (by first | exact Or.inl (by decide) | exact Or.inl (Or.inl ⟨by decide, hg⟩) | exact Or.inl (Or.inl ⟨by decide, hq7⟩)) (by omega) (by omega) (by decide) dX6_fairest_33 ?_
      exact z_iret dX6_fairest_34 (by first | rfl | omega) rfl
    · exfalso; omega
  · exfalso; omega
theorem tX6_bestPiece {G : z_G} {M : z_M} {g : Nat} {N : Int} (hg : g < 7) (hn : M 7 2 = (g : Int)) (hb : z_BI (M g) N) {p : Int} (rp : z_rg p) {t : Int} (rt : z_rg t) (hc : z_c_bestPiece (M g) p t = 0) : KX6_bestPiece G [.ref (z_ad G 0 20), z_I p, z_I t] M (.inl (some (z_I (z_fbM M g t (M g 1).toNat 16 p)))) (z_fbM M g t (M g 1).toNat) := by
  refine z_con (ls := [some (.ref (z_ad G 0 20)), some (z_I p), some (z_I t)]) (by decide +kernel) (Nat.le_of_ble_eq_true rfl) rfl ?_
  intro Z htb
  refine z_rng fun hr => ?_
  have hh := z_BI_h hb
  unfold z_c_bestPiece at hc
  (repeat' split at hc) <;> first | (exfalso; omega; done) | skip
  refine z_aloadn dX6_bestPiece_0 rfl ?_
  refine z_iloadn dX6_bestPiece_1 rfl ?_
  by_cases e2 : 0 ≤ p ∧ p < M g 0
  · refine kX6_71 (tX6_needPen hg hn (by first | assumption | omega | exact hr _ _ (by omega)) e2) rfl ⟨(Nat.le_of_ble_eq_true rfl), (Nat.le_of_ble_eq_true rfl)⟩ (Nat.le_of_ble_eq_true rfl) dX6_bestPiece_2 ?_
    refine z_iloadn dX6_bestPiece_5 rfl ?_
    refine z_iconst dX6_bestPiece_6 ?_
    refine z_ldc (i := 100000) wk_X6_75 dX6_bestPiece_7 ?_
    by_cases e9 : 1 ≤ t ∧ t ≤ 100000
    · refine kX6_76 (tX6_needRange (by first | assumption | omega | exact hr _ _ (by omega)) (by first | assumption | omega | exact hr _ _ (by omega)) (by first | assumption | omega | exact hr _ _ (by omega)) e9) rfl ⟨(Nat.le_of_ble_eq_true rfl), (Nat.le_of_ble_eq_true rfl)⟩ (Nat.le_of_ble_eq_true rfl) dX6_bestPiece_9 ?_
      refine z_aloadn dX6_bestPiece_12 rfl ?_
      refine z_iloadn dX6_bestPiece_13 rfl ?_
      refine kX6_297 (tX6_findBest hg hn hb (by omega) (by omega)) rfl ⟨(Nat.le_of_ble_eq_true rfl), (Nat.le_of_ble_eq_true rfl)⟩ (Nat.le_of_ble_eq_true rfl) dX6_bestPiece_14 ?_
      refine z_rng fun hr => ?_
      refine z_aloadn dX6_bestPiece_17 rfl ?_
      refine gX6_36 rfl dX6_bestPiece_18 ?_
      refine z_iloadn dX6_bestPiece_21 rfl ?_
      refine z_iald (by rfl) (by first | exact Or.inl (by decide) | exact Or.inl (Or.inl ⟨by decide, hg⟩) | exact Or.inl (Or.inl ⟨by decide, hq7⟩)) (by omega) (by omega) (by decide) dX6_bestPiece_22 ?_
      exact z_iret dX6_bestPiece_23 (by first | rfl | omega) rfl
    · exfalso; omega
  · exfalso; omega
