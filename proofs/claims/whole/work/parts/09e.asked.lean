/-! ===== steps: what is asked ===== -/
theorem z_st_pen {G : z_G} {M : z_M} {N : Int} {p : Int} (rp : z_rg p) {w : Int} (rw : z_rg w) (h : z_Rel M N) (hN : N + 1 ≤ 600) : z_Stp (fun M y_k M1 => KL_pen G [.ref (z_ad G 0 20), z_I p, z_I w, .ref (z_ad G 0 60)] M y_k M1) (fun M y_b M2 => KX7_pen G [.ref (z_ad G 0 40), z_I p, z_I w] M (.inl (some (z_I y_b))) M2) M N := by
  obtain ⟨g, h⟩ := h
  have hh := h
  obtain ⟨hg, hn, h0, hs, hs2, ho, hb, h22, ht, hx, hv⟩ := hh
  have s0 : 0 ≤ M 7 1 := by omega
  have s1 : M 7 1 ≤ 6 := by omega
  have hc : z_c_pen (M g) p w = 0 ∨ z_c_pen (M g) p w = 1 ∨ z_c_pen (M g) p w = 2 := by unfold z_c_pen; (repeat' split) <;> omega
  rcases hc with hc | hc | hc
  · have hA := tX6_pen (G := G) hg hn hb rp rw hc
    refine z_stp_q h hN (tL_pen hA) (z_eC_id M) (fun Y y2 y21 y25 yb => ?_)
    have hB := tX7_pen (G := G) yb rp rw (c := 0) (by first | exact hc | (rw [y2]; exact hc))
    rw [if_pos rfl, if_pos rfl, y2] at hB
    exact ⟨_, hB, (z_eR_t 0 (z_eR_id Y)), (z_sM_self _ _ _ _)⟩
  · have hB := tX7_pen (G := G) (M := M) (N := N) (by rw [h22]; exact hb)  rp rw (c := 1) (by first | exact hc | (rw [h22]; exact hc))
    rw [if_neg (by decide), if_neg (by decide)] at hB
    exact z_stp_ex h hN (by decide) (tL_pen_x1 (tX6_pen_x1 hg hn hb rp rw hc)) hB
  · have hB := tX7_pen (G := G) (M := M) (N := N) (by rw [h22]; exact hb)  rp rw (c := 2) (by first | exact hc | (rw [h22]; exact hc))
    rw [if_neg (by decide), if_neg (by decide)] at hB
    exact z_stp_ex h hN (by decide) (tL_pen_x2 (tX6_pen_x2 hg hn hb rp rw hc)) hB
theorem z_st_piece {G : z_G} {M : z_M} {N : Int} {k : Int} (rk : z_rg k) {w : Int} (rw : z_rg w) (h : z_Rel M N) (hN : N + 1 ≤ 600) : z_Stp (fun M y_k M1 => KL_piece G [.ref (z_ad G 0 20), z_I k, z_I w, .ref (z_ad G 0 60)] M y_k M1) (fun M y_b M2 => KX7_piece G [.ref (z_ad G 0 40), z_I k, z_I w] M (.inl (some (z_I y_b))) M2) M N := by
  obtain ⟨g, h⟩ := h
  have hh := h
  obtain ⟨hg, hn, h0, hs, hs2, ho, hb, h22, ht, hx, hv⟩ := hh
  have s0 : 0 ≤ M 7 1 := by omega
  have s1 : M 7 1 ≤ 6 := by omega
  have hc : z_c_piece (M g) k w = 0 ∨ z_c_piece (M g) k w = 1 ∨ z_c_piece (M g) k w = 2 := by unfold z_c_piece; (repeat' split) <;> omega
  rcases hc with hc | hc | hc
  · have hA := tX6_piece (G := G) hg hn hb rk rw hc
    refine z_stp_q h hN (tL_piece hA) (z_eC_id M) (fun Y y2 y21 y25 yb => ?_)
    have hB := tX7_piece (G := G) yb rk rw (c := 0) (by first | exact hc | (rw [y2]; exact hc))
    rw [if_pos rfl, if_pos rfl, y2] at hB
    exact ⟨_, hB, (z_eR_t 0 (z_eR_id Y)), (z_sM_self _ _ _ _)⟩
  · have hB := tX7_piece (G := G) (M := M) (N := N) (by rw [h22]; exact hb)  rk rw (c := 1) (by first | exact hc | (rw [h22]; exact hc))
    rw [if_neg (by decide), if_neg (by decide)] at hB
    exact z_stp_ex h hN (by decide) (tL_piece_x1 (tX6_piece_x1 hg hn hb rk rw hc)) hB
  · have hB := tX7_piece (G := G) (M := M) (N := N) (by rw [h22]; exact hb)  rk rw (c := 2) (by first | exact hc | (rw [h22]; exact hc))
    rw [if_neg (by decide), if_neg (by decide)] at hB
    exact z_stp_ex h hN (by decide) (tL_piece_x2 (tX6_piece_x2 hg hn hb rk rw hc)) hB
theorem z_st_between {G : z_G} {M : z_M} {N : Int} {k : Int} (rk : z_rg k) {p : Int} (rp : z_rg p) {w : Int} (rw : z_rg w) (h : z_Rel M N) (hN : N + 1 ≤ 600) : z_Stp (fun M y_k M1 => KL_between G [.ref (z_ad G 0 20), z_I k, z_I p, z_I w, .ref (z_ad G 0 60)] M y_k M1) (fun M y_b M2 => KX7_between G [.ref (z_ad G 0 40), z_I k, z_I p, z_I w] M (.inl (some (z_I y_b))) M2) M N := by
  obtain ⟨g, h⟩ := h
  have hh := h
  obtain ⟨hg, hn, h0, hs, hs2, ho, hb, h22, ht, hx, hv⟩ := hh
  have s0 : 0 ≤ M 7 1 := by omega
  have s1 : M 7 1 ≤ 6 := by omega
  have hc : z_c_between (M g) k p w = 0 ∨ z_c_between (M g) k p w = 1 ∨ z_c_between (M g) k p w = 2 := by unfold z_c_between; (repeat' split) <;> omega
  rcases hc with hc | hc | hc
  · have hA := tX6_between (G := G) hg hn hb rk rp rw hc
    refine z_stp_q h hN (tL_between hA) (z_eC_id M) (fun Y y2 y21 y25 yb => ?_)
    have hB := tX7_between (G := G) yb rk rp rw (c := 0) (by first | exact hc | (rw [y2]; exact hc))
    rw [if_pos rfl, if_pos rfl, y2] at hB
    exact ⟨_, hB, (z_eR_t 0 (z_eR_id Y)), (z_sM_self _ _ _ _)⟩
  · have hB := tX7_between (G := G) (M := M) (N := N) (by rw [h22]; exact hb)  rk rp rw (c := 1) (by first | exact hc | (rw [h22]; exact hc))
    rw [if_neg (by decide), if_neg (by decide)] at hB
    exact z_stp_ex h hN (by decide) (tL_between_x1 (tX6_between_x1 hg hn hb rk rp rw hc)) hB
  · have hB := tX7_between (G := G) (M := M) (N := N) (by rw [h22]; exact hb)  rk rp rw (c := 2) (by first | exact hc | (rw [h22]; exact hc))
    rw [if_neg (by decide), if_neg (by decide)] at hB
    exact z_stp_ex h hN (by decide) (tL_between_x2 (tX6_between_x2 hg hn hb rk rp rw hc)) hB
theorem z_st_count {G : z_G} {M : z_M} {N : Int} {w : Int} (rw : z_rg w) (h : z_Rel M N) (hN : N + 1 ≤ 600) : z_Stp (fun M y_k M1 => KL_count G [.ref (z_ad G 0 20), z_I w, .ref (z_ad G 0 60)] M y_k M1) (fun M y_b M2 => KX7_count G [.ref (z_ad G 0 40), z_I w] M (.inl (some (z_I y_b))) M2) M N := by
  obtain ⟨g, h⟩ := h
  have hh := h
  obtain ⟨hg, hn, h0, hs, hs2, ho, hb, h22, ht, hx, hv⟩ := hh
  have s0 : 0 ≤ M 7 1 := by omega
  have s1 : M 7 1 ≤ 6 := by omega
  have hc : z_c_count w = 0 ∨ z_c_count w = 1 := by unfold z_c_count; (repeat' split) <;> omega
  rcases hc with hc | hc
  · have hA := tX6_count (G := G) hg hn hb rw hc
    rw [hs] at hA
    refine z_stp_q h hN (tL_count hA) (z_eC_id M) (fun Y y2 y21 y25 yb => ?_)
    have hB := tX7_count (G := G) yb rw (c := 0) (by first | exact hc | (rw [y2]; exact hc))
    rw [if_pos rfl, if_pos rfl, y2] at hB
    rw [y21] at hB
    exact ⟨_, hB, (z_eR_t 0 (z_eR_id Y)), (z_sM_self _ _ _ _)⟩
  · have hB := tX7_count (G := G) (M := M) (N := N) (by rw [h22]; exact hb)  rw (c := 1) (by first | exact hc | (rw [h22]; exact hc))
    rw [if_neg (by decide), if_neg (by decide)] at hB
    exact z_stp_ex h hN (by decide) (tL_count_x1 (tX6_count_x1 hg hn hb rw hc)) hB
theorem z_st_setting {G : z_G} {M : z_M} {N : Int} {w : Int} (rw : z_rg w) (h : z_Rel M N) (hN : N + 1 ≤ 600) : z_Stp (fun M y_k M1 => KL_setting G [.ref (z_ad G 0 20), z_I w, .ref (z_ad G 0 60)] M y_k M1) (fun M y_b M2 => KX7_setting G [.ref (z_ad G 0 40), z_I w] M (.inl (some (z_I y_b))) M2) M N := by
  obtain ⟨g, h⟩ := h
  have hh := h
  obtain ⟨hg, hn, h0, hs, hs2, ho, hb, h22, ht, hx, hv⟩ := hh
  have s0 : 0 ≤ M 7 1 := by omega
  have s1 : M 7 1 ≤ 6 := by omega
  have hc : z_c_setting w = 0 ∨ z_c_setting w = 1 := by unfold z_c_setting; (repeat' split) <;> omega
  rcases hc with hc | hc
  · have hA := tX6_setting (G := G) hg hn hb rw hc
    refine z_stp_q h hN (tL_setting hA) (z_eC_id M) (fun Y y2 y21 y25 yb => ?_)
    have hB := tX7_setting (G := G) yb rw (c := 0) (by first | exact hc | (rw [y2]; exact hc))
    rw [if_pos rfl, if_pos rfl, y2] at hB
    exact ⟨_, hB, (z_eR_t 0 (z_eR_id Y)), (z_sM_self _ _ _ _)⟩
  · have hB := tX7_setting (G := G) (M := M) (N := N) (by rw [h22]; exact hb)  rw (c := 1) (by first | exact hc | (rw [h22]; exact hc))
    rw [if_neg (by decide), if_neg (by decide)] at hB
    exact z_stp_ex h hN (by decide) (tL_setting_x1 (tX6_setting_x1 hg hn hb rw hc)) hB
theorem z_pdM_e {Y : z_M} {k a : Int} : z_eR Y (z_pdM (z_sM Y 21 4 0) k a) ∧ z_pdM (z_sM Y 21 4 0) k a 21 4 = 0 := by
  refine ⟨⟨fun r hr => ?_, fun i hi => ?_⟩, ?_⟩
  · by_cases h : r = 22
    · subst h
      show z_sR (z_sR (z_sM (z_sR _ 22 _) 21 1 _) 27 _) 28 _ 22 = _
      rw [z_sR_ne _ _ (by decide), z_sR_ne _ _ (by decide), z_sM_row _ _ _ (by decide), z_sR_self, z_sM_row _ _ _ (by decide)]
    · rw [z_pdM_row _ _ _ (by omega), z_sM_row _ _ _ (by omega)]
  · rw [z_pdM_21 _ _ _ (by omega), z_sM_ne _ _ _ (by omega)]
  · rw [z_pdM_21 _ _ _ (by omega), z_sM_self]
theorem z_bsM_e {Y : z_M} {t : Int} {n : Nat} : z_eR Y (z_bsM (z_sM Y 21 4 0) t n) ∧ z_bsM (z_sM Y 21 4 0) t n 21 4 = 0 := by
  refine ⟨⟨fun r hr => ?_, fun i hi => ?_⟩, ?_⟩
  · by_cases h : r = 22
    · subst h
      rw [z_bsM_22, z_sM_row _ _ _ (by decide)]
    · rw [z_bsM_row _ _ (by omega), z_sM_row _ _ _ (by omega)]
  · rw [z_bsM_21 _ _ (by omega), z_sM_ne _ _ _ (by omega)]
  · rw [z_bsM_21 _ _ (by omega), z_sM_self]
theorem z_fM_21 {X : z_M} {k i : Int} (hi : i ≠ 0) : z_fM X k 21 i = X 21 i := by
  show z_sM _ 21 0 _ 21 i = _
  rw [z_sM_ne _ _ _ hi, z_sR_ne _ _ (by decide)]
theorem z_fM_e {Y : z_M} {k : Int} : z_eR Y (z_fM (z_sM Y 21 4 0) k) ∧ z_fM (z_sM Y 21 4 0) k 21 4 = 0 := by
  refine ⟨⟨fun r hr => ?_, fun i hi => ?_⟩, ?_⟩
  · show z_sR (z_sR (z_sM (z_sR _ 29 _) 21 0 _) 30 _) 31 _ r = _
    rw [z_sR_ne _ _ (by omega), z_sR_ne _ _ (by omega), z_sM_row _ _ _ (by omega), z_sR_ne _ _ (by omega), z_sM_row _ _ _ (by omega)]
  · rw [z_fM_21 (by omega), z_sM_ne _ _ _ (by omega)]
  · rw [z_fM_21 (by omega), z_sM_self]
theorem z_dig_tx {b t t' : Int → Int} {sv l : Int} (h : ∀ i, 0 ≤ i → i < l → t i = t' i) : z_dig b sv l t = z_dig b sv l t' := by
  unfold z_dig
  have q : ∀ n : Nat, (n : Int) ≤ l → z_hm (fun i => z_iw (t i)) (31 * z_hall b sv + z_iw l) n = z_hm (fun i => z_iw (t' i)) (31 * z_hall b sv + z_iw l) n := by
    intro n
    induction n with
    | zero => intro _; simp only [z_hm]
    | succ n y_i =>
      intro hn
      unfold z_hm
      rw [y_i (by omega), h n (by omega) (by omega)]
  by_cases l0 : 0 ≤ l
  · exact q _ (by omega)
  · rw [show l.toNat = 0 by omega]; simp only [z_hm]
theorem z_st_ifPaid {G : z_G} {M : z_M} {N : Int} {k : Int} (rk : z_rg k) {a : Int} (ra : z_rg a) {p : Int} (rp : z_rg p) (h : z_Rel M N) (hN : N + 1 ≤ 600) : z_Stp (fun M y_k M1 => KL_ifPaid G [.ref (z_ad G 0 20), z_I k, z_I a, z_I p, .ref (z_ad G 0 60)] M y_k M1) (fun M y_b M2 => KX7_ifPaid G [.ref (z_ad G 0 40), z_I k, z_I a, z_I p] M (.inl (some (z_I y_b))) M2) M N := by
  obtain ⟨g, h⟩ := h
  have hh := h
  obtain ⟨hg, hn, h0, hs, hs2, ho, hb, h22, ht, hx, hv⟩ := hh
  have s0 : 0 ≤ M 7 1 := by omega
  have s1 : M 7 1 ≤ 6 := by omega
  have hc : z_c_ifPaid (M g) k a p = 0 ∨ z_c_ifPaid (M g) k a p = 1 ∨ z_c_ifPaid (M g) k a p = 2 ∨ z_c_ifPaid (M g) k a p = 3 := by unfold z_c_ifPaid; (repeat' split) <;> omega
  rcases hc with hc | hc | hc | hc
  · have hA := tX6_ifPaid (G := G) hg hn hb rk ra rp hc
    have y_k : (0 ≤ k ∧ k < M g 1) ∧ 0 ≤ p ∧ p < M g 0 := by unfold z_c_ifPaid at hc; (repeat' split at hc) <;> omega
    rw [z_gain_paid hb y_k.1.1 y_k.1.2 y_k.2.1 y_k.2.2] at hA
    refine z_stp_q h hN (tL_ifPaid hA) ⟨fun r hr => z_dRM_row (by omega), fun i i0 i1 => z_dRM_7 (by omega)⟩ (fun Y y2 y21 y25 yb => ?_)
    have hB := tX7_ifPaid (G := G) yb rk ra rp (c := 0) (by first | exact hc | (rw [y2]; exact hc))
    rw [if_pos rfl, if_pos rfl, y2] at hB
    exact ⟨_, hB, z_pdM_e.1, z_pdM_e.2⟩
  · have hB := tX7_ifPaid (G := G) (M := M) (N := N) (by rw [h22]; exact hb)  rk ra rp (c := 1) (by first | exact hc | (rw [h22]; exact hc))
    rw [if_neg (by decide), if_neg (by decide)] at hB
    exact z_stp_ex h hN (by decide) (tL_ifPaid_x1 (tX6_ifPaid_x1 hg hn hb rk ra rp hc)) hB
  · have hB := tX7_ifPaid (G := G) (M := M) (N := N) (by rw [h22]; exact hb)  rk ra rp (c := 2) (by first | exact hc | (rw [h22]; exact hc))
    rw [if_neg (by decide), if_neg (by decide)] at hB
    exact z_stp_ex h hN (by decide) (tL_ifPaid_x2 (tX6_ifPaid_x2 hg hn hb rk ra rp hc)) hB
  · have hB := tX7_ifPaid (G := G) (M := M) (N := N) (by rw [h22]; exact hb)  rk ra rp (c := 3) (by first | exact hc | (rw [h22]; exact hc))
    rw [if_neg (by decide), if_neg (by decide)] at hB
    exact z_stp_ex h hN (by decide) (tL_ifPaid_x3 (tX6_ifPaid_x3 hg hn hb rk ra rp hc)) hB
theorem z_st_fairest {G : z_G} {M : z_M} {N : Int} {k : Int} (rk : z_rg k) {p : Int} (rp : z_rg p) (h : z_Rel M N) (hN : N + 1 ≤ 600) : z_Stp (fun M y_k M1 => KL_fairest G [.ref (z_ad G 0 20), z_I k, z_I p, .ref (z_ad G 0 60)] M y_k M1) (fun M y_b M2 => KX7_fairest G [.ref (z_ad G 0 40), z_I k, z_I p] M (.inl (some (z_I y_b))) M2) M N := by
  obtain ⟨g, h⟩ := h
  have hh := h
  obtain ⟨hg, hn, h0, hs, hs2, ho, hb, h22, ht, hx, hv⟩ := hh
  have s0 : 0 ≤ M 7 1 := by omega
  have s1 : M 7 1 ≤ 6 := by omega
  have hc : z_c_fairest (M g) k p = 0 ∨ z_c_fairest (M g) k p = 1 := by unfold z_c_fairest; (repeat' split) <;> omega
  rcases hc with hc | hc
  · have hA := tX6_fairest (G := G) hg hn hb rk rp hc
    have hz := z_BI_h hb
    have y_k : (0 ≤ k ∧ k < M g 1) ∧ 0 ≤ p ∧ p < M g 0 := by unfold z_c_fairest at hc; (repeat' split at hc) <;> omega
    rw [z_fair_eq hb (by omega) (by omega) p (by omega) (by omega)] at hA
    refine z_stp_q h hN (tL_fairest hA) ⟨fun r hr => z_fiM_row (by omega), fun i i0 i1 => z_fiM_7 (by omega)⟩ (fun Y y2 y21 y25 yb => ?_)
    have hB := tX7_fairest (G := G) yb rk rp (c := 0) (by first | exact hc | (rw [y2]; exact hc))
    rw [if_pos rfl, if_pos rfl, y2] at hB
    rw [z_fX_ind _ _ _ z_w0] at hB
    exact ⟨_, hB, z_fM_e.1, z_fM_e.2⟩
  · have hB := tX7_fairest (G := G) (M := M) (N := N) (by rw [h22]; exact hb)  rk rp (c := 1) (by first | exact hc | (rw [h22]; exact hc))
    rw [if_neg (by decide), if_neg (by decide)] at hB
    exact z_stp_ex h hN (by decide) (tL_fairest_x1 (tX6_fairest_x1 hg hn hb rk rp hc)) hB
theorem z_st_bestPiece {G : z_G} {M : z_M} {N : Int} {p : Int} (rp : z_rg p) {t : Int} (rt : z_rg t) (h : z_Rel M N) (hN : N + 1 ≤ 600) : z_Stp (fun M y_k M1 => KL_bestPiece G [.ref (z_ad G 0 20), z_I p, z_I t, .ref (z_ad G 0 60)] M y_k M1) (fun M y_b M2 => KX7_bestPiece G [.ref (z_ad G 0 40), z_I p, z_I t] M (.inl (some (z_I y_b))) M2) M N := by
  obtain ⟨g, h⟩ := h
  have hh := h
  obtain ⟨hg, hn, h0, hs, hs2, ho, hb, h22, ht, hx, hv⟩ := hh
  have s0 : 0 ≤ M 7 1 := by omega
  have s1 : M 7 1 ≤ 6 := by omega
  have hc : z_c_bestPiece (M g) p t = 0 ∨ z_c_bestPiece (M g) p t = 1 ∨ z_c_bestPiece (M g) p t = 2 := by unfold z_c_bestPiece; (repeat' split) <;> omega
  rcases hc with hc | hc | hc
  · have hA := tX6_bestPiece (G := G) hg hn hb rp rt hc
    have y_k : (0 ≤ p ∧ p < M g 0) ∧ 1 ≤ t ∧ t ≤ 100000 := by unfold z_c_bestPiece at hc; (repeat' split at hc) <;> omega
    rw [z_best_N hg hb y_k.2.1 y_k.2.2 y_k.1.1 y_k.1.2] at hA
    refine z_stp_q h hN (tL_bestPiece hA) ⟨fun r hr => z_fbM_row _ _ _ (by omega) _, fun i i0 i1 => z_fbM_7 _ _ _ (by omega) _⟩ (fun Y y2 y21 y25 yb => ?_)
    have hB := tX7_bestPiece (G := G) yb rp rt (c := 0) (by first | exact hc | (rw [y2]; exact hc))
    rw [if_pos rfl, if_pos rfl, y2] at hB
    exact ⟨_, hB, z_bsM_e.1, z_bsM_e.2⟩
  · have hB := tX7_bestPiece (G := G) (M := M) (N := N) (by rw [h22]; exact hb)  rp rt (c := 1) (by first | exact hc | (rw [h22]; exact hc))
    rw [if_neg (by decide), if_neg (by decide)] at hB
    exact z_stp_ex h hN (by decide) (tL_bestPiece_x1 (tX6_bestPiece_x1 hg hn hb rp rt hc)) hB
  · have hB := tX7_bestPiece (G := G) (M := M) (N := N) (by rw [h22]; exact hb)  rp rt (c := 2) (by first | exact hc | (rw [h22]; exact hc))
    rw [if_neg (by decide), if_neg (by decide)] at hB
    exact z_stp_ex h hN (by decide) (tL_bestPiece_x2 (tX6_bestPiece_x2 hg hn hb rp rt hc)) hB
theorem z_st_digest {G : z_G} {M : z_M} {N : Int} (h : z_Rel M N) (hN : N + 1 ≤ 600) : z_StD (fun M y_b M1 => KX6_digest G [.ref (z_ad G 0 20)] M (.inl (some (z_L y_b))) M1) (fun M y_b M2 => KX7_digest G [.ref (z_ad G 0 40)] M (.inl (some (z_L y_b))) M2) M N := by
  obtain ⟨g, h⟩ := h
  have hh := h
  obtain ⟨hg, hn, h0, hs, hs2, ho, hb, h22, ht, hx, hv⟩ := hh
  have s0 : 0 ≤ M 7 1 := by omega
  have s1 : M 7 1 ≤ 6 := by omega
  have e : z_eC M (z_dcM M g) := ⟨fun r hr => z_dcM_row M g (by omega), fun i i0 i1 => z_dcM_7 M g (by omega)⟩
  have e2 := z_eC_22 h e
  have hA := tX6_digest (G := G) hg hn hb ht.2.1 ht.2.2
  have hB := tX7_digest (G := G) (M := z_dcM M g) (N := N) (by rw [e2.1]; exact hb) (by rw [e2.2]; omega) (by rw [e2.2]; omega)
  rw [e2.1, e2.2, e.1 25 (by omega), ht.1, ← hs, z_dig_tx (t' := M 8) (fun i i0 i1 => (hx i i0 i1).1.symm), ← z_dig_eq hg hb] at hB
  exact z_std_same h hN hA e hB ⟨fun r hr => z_dgM_row _ (by omega), fun i hi => z_dgM_21 _ hi⟩
theorem z_st_spread {G : z_G} {M : z_M} {N : Int} (h : z_Rel M N) (hN : N + 1 ≤ 600) : ∃ M2 b, KX6_spread G [.ref (z_ad G 0 20)] M (.inl (some (.double b))) M ∧ KX7_spread G [.ref (z_ad G 0 40)] M (.inl (some (.double b))) M2 ∧ b = z_spd (M 22) ∧ z_Rel M2 (N + 1) := by
  obtain ⟨g, h⟩ := h
  have hh := h
  obtain ⟨hg, hn, h0, hs, hs2, ho, hb, h22, ht, hx, hv⟩ := hh
  have s0 : 0 ≤ M 7 1 := by omega
  have s1 : M 7 1 ≤ 6 := by omega
  have hA := tX6_spread (G := G) hg hn hb
  have hB := tX7_spread (G := G) (M := M) (N := N) (by rw [h22]; exact hb)
  rw [h22] at hB
  exact ⟨_, _, hA, hB, by rw [h22], g, z_Rg_same h hN (fun r hr => z_sM_row _ _ _ (by omega)) (fun i i0 i1 => by rw [z_sM_row _ _ _ (by omega)]) (fun i hi => z_sM_ne _ _ _ (by omega))⟩
