/-! ===== steps: money and parts ===== -/
section ZSM
variable {M Y X : z_M} {g : Nat} {N k : Int} {o : Int → Int}
theorem z_eS_of (e : ∀ r, r ≠ z_sg g → r < 7 ∨ r = 8 ∨ (20 ≤ r ∧ r ≠ 32) → X r = z_SC M g r) (e7 : ∀ i, 0 ≤ i → i ≤ 3 → X 7 i = z_SC M g 7 i) (eq : X (z_sg g) = o) : z_eS M X g o := by
  have hq := z_sg_lt g
  refine ⟨fun r hr hr2 => ?_, eq, by rw [e7 0 (by decide) (by decide)]; exact z_SC_70 M g, by rw [e7 2 (by decide) (by decide)]; exact z_SC_72 M g, by rw [e7 1 (by decide) (by decide)]; exact z_SC_71 M g, by rw [e7 3 (by decide) (by decide)]; exact z_SC_7 M g (by decide)⟩
  rw [e r hr hr2]
  exact z_SC_row (by omega) hr
theorem z_eT_of (e : ∀ r, r < 20 ∨ r = 25 ∨ r = 32 → X r = Y r) (e22 : X 22 = o) (e24 : X 24 = z_SV (z_sM Y 21 4 0) 24) (e21 : ∀ i, i = 2 ∨ i = 3 → X 21 i = z_SV (z_sM Y 21 4 0) 21 i) : z_eT Y X o := by
  have f := z_eT_sv (M1 := Y) (o := o)
  refine ⟨e, e22, ?_, ?_, ?_⟩
  · rw [e24, ← f.2.2.1, z_sR_ne _ _ (by decide)]
  · rw [e21 2 (Or.inl rfl), ← f.2.2.2.1, z_sR_ne _ _ (by decide)]
  · rw [e21 3 (Or.inr rfl), ← f.2.2.2.2, z_sR_ne _ _ (by decide)]
theorem z_eT_m4 {t : Int} {s r : Int → Int} : z_eT Y (z_m4 (z_SV (z_sM Y 21 4 0)) o t s r) o ∧ z_m4 (z_SV (z_sM Y 21 4 0)) o t s r 21 4 = 0 := by
  refine ⟨z_eT_of (fun a ha => ?_) ?_ ?_ (fun i hi => ?_), ?_⟩
  · show z_sR (z_sR (z_sM (z_sR _ 22 _) 21 1 _) 27 _) 28 _ a = _
    rw [z_sR_ne _ _ (by omega), z_sR_ne _ _ (by omega), z_sM_row _ _ _ (by omega), z_sR_ne _ _ (by omega), z_SV_row (by omega) (by omega), z_sM_row _ _ _ (by omega)]
  · show z_sR (z_sR (z_sM (z_sR _ 22 _) 21 1 _) 27 _) 28 _ 22 = _
    rw [z_sR_ne _ _ (by decide), z_sR_ne _ _ (by decide), z_sM_row _ _ _ (by decide), z_sR_self]
  · show z_sR (z_sR (z_sM (z_sR _ 22 _) 21 1 _) 27 _) 28 _ 24 = _
    rw [z_sR_ne _ _ (by decide), z_sR_ne _ _ (by decide), z_sM_row _ _ _ (by decide), z_sR_ne _ _ (by decide)]
  · show z_sR (z_sR (z_sM (z_sR _ 22 _) 21 1 _) 27 _) 28 _ 21 i = _
    rw [z_sR_ne _ _ (by decide), z_sR_ne _ _ (by decide), z_sM_ne _ _ _ (by omega), z_sR_ne _ _ (by decide)]
  · rw [show z_m4 (z_SV (z_sM Y 21 4 0)) o t s r 21 = z_sM (z_sR (z_SV (z_sM Y 21 4 0)) 22 o) 21 1 t 21 by show z_sR (z_sR _ 27 _) 28 _ 21 = _; rw [z_sR_ne _ _ (by decide), z_sR_ne _ _ (by decide)], z_sM_ne _ _ _ (by decide), z_sR_ne _ _ (by decide), z_SV_21 (by decide), z_sM_self]
theorem z_eT_w9 {w : Int → Int} {m : Int} : z_eT Y (z_sR (z_w9 (z_SV (z_sM Y 21 4 0)) w m) 22 o) o ∧ z_sR (z_w9 (z_SV (z_sM Y 21 4 0)) w m) 22 o 21 4 = 0 := by
  refine ⟨z_eT_of (fun a ha => ?_) (z_sR_self _ _ _) ?_ (fun i hi => ?_), ?_⟩
  · rw [z_sR_ne _ _ (by omega)]
    show z_sM (z_sR _ 29 _) 21 0 _ a = _
    rw [z_sM_row _ _ _ (by omega), z_sR_ne _ _ (by omega), z_SV_row (by omega) (by omega), z_sM_row _ _ _ (by omega)]
  · rw [z_sR_ne _ _ (by decide)]
    show z_sM (z_sR _ 29 _) 21 0 _ 24 = _
    rw [z_sM_row _ _ _ (by decide), z_sR_ne _ _ (by decide)]
  · rw [z_sR_ne _ _ (by decide)]
    show z_sM (z_sR _ 29 _) 21 0 _ 21 i = _
    rw [z_sM_ne _ _ _ (by omega), z_sR_ne _ _ (by decide)]
  · rw [z_sR_ne _ _ (by decide), show z_w9 (z_SV (z_sM Y 21 4 0)) w m 21 4 = z_SV (z_sM Y 21 4 0) 21 4 from (z_sM_ne _ _ _ (by decide)).trans (by rw [z_sR_ne _ _ (by decide)]), z_SV_21 (by decide), z_sM_self]
theorem z_acM_e {A : z_M} {q : Nat} {fee v : Int} (hq : q < 7) : (∀ r, r ≠ q → r < 7 ∨ r = 8 ∨ (20 ≤ r ∧ r ≠ 32) → z_acM A q k fee v r = A r) ∧ ∀ i, 0 ≤ i → i ≤ 3 → z_acM A q k fee v 7 i = A 7 i := by
  unfold z_acM
  refine ⟨fun r hr hr2 => ?_, fun i i0 i1 => ?_⟩
  · exact ((z_sR_ne _ _ hr).trans ((z_dFM_row (by omega)).trans (z_sR_ne _ _ hr)))
  · rw [z_sR_ne _ _ (by omega)]
    exact (z_dFM_7 (by omega)).trans (congrFun (z_sR_ne _ _ (by omega)) _)
theorem z_roM_e {A : z_M} {q : Nat} {a : Int} (hq : q < 7) : (∀ r, r ≠ q → r < 7 ∨ r = 8 ∨ (20 ≤ r ∧ r ≠ 32) → z_roM A q k a r = A r) ∧ ∀ i, 0 ≤ i → i ≤ 3 → z_roM A q k a 7 i = A 7 i := by
  unfold z_roM
  refine ⟨fun r hr hr2 => ?_, fun i i0 i1 => ?_⟩
  · exact (z_sR_ne _ _ hr).trans (z_dRM_row (by omega))
  · rw [z_sR_ne _ _ (by omega)]
    exact z_dRM_7 (by omega)
end ZSM
theorem z_st_accept {G : z_G} {M : z_M} {N : Int} {k : Int} (rk : z_rg k) (h : z_Rel M N) (hN : N + 1 ≤ 600) : z_Stp (fun M y_k M1 => KL_accept G [.ref (z_ad G 0 20), z_I k, .ref (z_ad G 0 60)] M y_k M1) (fun M y_b M2 => KX7_accept G [.ref (z_ad G 0 40), z_I k] M (.inl (some (z_I y_b))) M2) M N := by
  obtain ⟨g, h⟩ := h
  have hh := h
  obtain ⟨hg, hn, h0, hs, hs2, ho, hb, h22, ht, hx, hv⟩ := hh
  have s0 : 0 ≤ M 7 1 := by omega
  have s1 : M 7 1 ≤ 6 := by omega
  have hc : z_c_accept (M g) k = 0 ∨ z_c_accept (M g) k = 1 ∨ z_c_accept (M g) k = 2 := by unfold z_c_accept; (repeat' split) <;> omega
  rcases hc with hc | hc | hc
  · have hz := z_BI_h hb
    have hkk := z_BI_K hb
    unfold z_KI at hkk
    have y_k : (0 ≤ k ∧ k < M g 1) := by unfold z_c_accept at hc; (repeat' split at hc) <;> omega
    have k2 : k < 20 := by omega
    have hkk := hkk k y_k.1 k2
    have hSC := z_SC_new M g
    have hq := z_sg_lt g
    have hcF := z_cF_st (v := 3) y_k.1 k2 (z_BI_cF hb y_k.1 y_k.2)
    have h4 : z_p4c (z_uf (M g) (86 + 5 * k + 2) 3) k := z_p4c_o (z_BI_p4c hb y_k.1 k2) (fun p p0 p1 => z_uf_ne _ _ (by omega))
    have y_f : 0 ≤ M g (86 + 5 * k + 1) ∧ M g (86 + 5 * k + 1) ≤ 100000 := by omega
    have hA := tL_accept (tX6_accept (G := G) hg hn h0 s0 s1 ho hb rk hc)
    obtain ⟨Y, y_Y⟩ : ∃ Y, z_sM (z_acM (z_SC M g) (z_sg g) k (M g (86 + 5 * k + 1)) 3) 32 0 (z_iw (z_acV (z_SC M g) (z_sg g) k (M g (86 + 5 * k + 1)) 3)) = Y := ⟨_, rfl⟩
    have rf := z_ac_ref (A := z_SC M g) (q := z_sg g) (k := k) (fee := M g (86 + 5 * k + 1)) (v := 3) (s0 := Y 27) (r0 := Y 28) hq (by rw [hSC]; exact hcF) (by rw [hSC]; exact h4)
    rw [hSC] at rf
    have e : z_eS M Y g (z_com2 (z_uf (M g) (86 + 5 * k + 2) 3) k (M g (86 + 5 * k + 1)) 0 (Y 27) (Y 28)).1 := by
      rw [← rf.1, ← y_Y]
      exact z_eS_out _ (z_eS_of (z_acM_e hq).1 (z_acM_e hq).2 rfl)
    have e2 := z_eS_22 h e
    have y_o : Y 32 0 = z_iw (z_acV (z_SC M g) (z_sg g) k (M g (86 + 5 * k + 1)) 3) := by rw [← y_Y, z_sM_self]
    rw [y_Y] at hA
    have hB := tX7_accept (G := G) (M := Y) (N := N) (by rw [e2.1]; exact hb) (by rw [e2.2]; omega) (by rw [e2.2]; omega) rk (c := 0) (by rw [e2.1]; exact hc)
    unfold z_Mfee at hB
    rw [if_pos rfl, if_pos rfl, e2.1] at hB
    exact z_stp_save h hN (z_k_fee hb hN y_k.1 y_k.2 y_f.1 y_f.2 (by decide) (by decide)) hA e hB z_eT_m4.1 z_eT_m4.2 (by rw [y_o, rf.2])
  · have hB := tX7_accept (G := G) (M := M) (N := N) (by rw [h22]; exact hb) (by omega) (by omega) rk (c := 1) (by first | exact hc | (rw [h22]; exact hc))
    rw [if_neg (by decide), if_neg (by decide)] at hB
    exact z_stp_ex h hN (by decide) (tL_accept_x1 (tX6_accept_x1 hg hn h0 s0 s1 ho hb rk hc)) hB
  · have hB := tX7_accept (G := G) (M := M) (N := N) (by rw [h22]; exact hb) (by omega) (by omega) rk (c := 2) (by first | exact hc | (rw [h22]; exact hc))
    rw [if_neg (by decide), if_neg (by decide)] at hB
    exact z_stp_ex h hN (by decide) (tL_accept_x2 (tX6_accept_x2 hg hn h0 s0 s1 ho hb rk hc)) hB
theorem z_st_kill {G : z_G} {M : z_M} {N : Int} {k : Int} (rk : z_rg k) (h : z_Rel M N) (hN : N + 1 ≤ 600) : z_Stp (fun M y_k M1 => KL_kill G [.ref (z_ad G 0 20), z_I k, .ref (z_ad G 0 60)] M y_k M1) (fun M y_b M2 => KX7_kill G [.ref (z_ad G 0 40), z_I k] M (.inl (some (z_I y_b))) M2) M N := by
  obtain ⟨g, h⟩ := h
  have hh := h
  obtain ⟨hg, hn, h0, hs, hs2, ho, hb, h22, ht, hx, hv⟩ := hh
  have s0 : 0 ≤ M 7 1 := by omega
  have s1 : M 7 1 ≤ 6 := by omega
  have hc : z_c_kill (M g) k = 0 ∨ z_c_kill (M g) k = 1 ∨ z_c_kill (M g) k = 2 := by unfold z_c_kill; (repeat' split) <;> omega
  rcases hc with hc | hc | hc
  · have hz := z_BI_h hb
    have hkk := z_BI_K hb
    unfold z_KI at hkk
    have y_k : (0 ≤ k ∧ k < M g 1) := by unfold z_c_kill at hc; (repeat' split at hc) <;> omega
    have k2 : k < 20 := by omega
    have hkk := hkk k y_k.1 k2
    have hSC := z_SC_new M g
    have hq := z_sg_lt g
    have hcF := z_cF_st (v := 4) y_k.1 k2 (z_BI_cF hb y_k.1 y_k.2)
    have h4 : z_p4c (z_uf (M g) (86 + 5 * k + 2) 4) k := z_p4c_o (z_BI_p4c hb y_k.1 k2) (fun p p0 p1 => z_uf_ne _ _ (by omega))
    have y_f : 0 ≤ z_kf (M g) k ∧ z_kf (M g) k ≤ 100000 := z_kf_rg hb y_k.1 k2
    have hA := tL_kill (tX6_kill (G := G) hg hn h0 s0 s1 ho hb rk hc)
    obtain ⟨Y, y_Y⟩ : ∃ Y, z_sM (z_acM (z_SC M g) (z_sg g) k (z_kf (M g) k) 4) 32 0 (z_iw (z_kf (M g) k)) = Y := ⟨_, rfl⟩
    have rf := z_ac_ref (A := z_SC M g) (q := z_sg g) (k := k) (fee := z_kf (M g) k) (v := 4) (s0 := Y 27) (r0 := Y 28) hq (by rw [hSC]; exact hcF) (by rw [hSC]; exact h4)
    rw [hSC] at rf
    have e : z_eS M Y g (z_com2 (z_uf (M g) (86 + 5 * k + 2) 4) k (z_kf (M g) k) 0 (Y 27) (Y 28)).1 := by
      rw [← rf.1, ← y_Y]
      exact z_eS_out _ (z_eS_of (z_acM_e hq).1 (z_acM_e hq).2 rfl)
    have e2 := z_eS_22 h e
    have y_o : Y 32 0 = z_iw (z_kf (M g) k) := by rw [← y_Y, z_sM_self]
    rw [y_Y] at hA
    have hB := tX7_kill (G := G) (M := Y) (N := N) (by rw [e2.1]; exact hb) (by rw [e2.2]; omega) (by rw [e2.2]; omega) rk (c := 0) (by rw [e2.1]; exact hc)
    unfold z_Mfee at hB
    rw [if_pos rfl, if_pos rfl, e2.1] at hB
    exact z_stp_save h hN (z_k_fee hb hN y_k.1 y_k.2 y_f.1 y_f.2 (by decide) (by decide)) hA e hB z_eT_m4.1 z_eT_m4.2 y_o
  · have hB := tX7_kill (G := G) (M := M) (N := N) (by rw [h22]; exact hb) (by omega) (by omega) rk (c := 1) (by first | exact hc | (rw [h22]; exact hc))
    rw [if_neg (by decide), if_neg (by decide)] at hB
    exact z_stp_ex h hN (by decide) (tL_kill_x1 (tX6_kill_x1 hg hn h0 s0 s1 ho hb rk hc)) hB
  · have hB := tX7_kill (G := G) (M := M) (N := N) (by rw [h22]; exact hb) (by omega) (by omega) rk (c := 2) (by first | exact hc | (rw [h22]; exact hc))
    rw [if_neg (by decide), if_neg (by decide)] at hB
    exact z_stp_ex h hN (by decide) (tL_kill_x2 (tX6_kill_x2 hg hn h0 s0 s1 ho hb rk hc)) hB
theorem z_st_royalty {G : z_G} {M : z_M} {N : Int} {k : Int} (rk : z_rg k) {a : Int} (ra : z_rg a) (h : z_Rel M N) (hN : N + 1 ≤ 600) : z_Stp (fun M y_k M1 => KL_royalty G [.ref (z_ad G 0 20), z_I k, z_I a, .ref (z_ad G 0 60)] M y_k M1) (fun M y_b M2 => KX7_royalty G [.ref (z_ad G 0 40), z_I k, z_I a] M (.inl (some (z_I y_b))) M2) M N := by
  obtain ⟨g, h⟩ := h
  have hh := h
  obtain ⟨hg, hn, h0, hs, hs2, ho, hb, h22, ht, hx, hv⟩ := hh
  have s0 : 0 ≤ M 7 1 := by omega
  have s1 : M 7 1 ≤ 6 := by omega
  have hc : z_c_royalty (M g) k a = 0 ∨ z_c_royalty (M g) k a = 1 ∨ z_c_royalty (M g) k a = 2 ∨ z_c_royalty (M g) k a = 3 := by unfold z_c_royalty; (repeat' split) <;> omega
  rcases hc with hc | hc | hc | hc
  · have hz := z_BI_h hb
    have hkk := z_BI_K hb
    unfold z_KI at hkk
    have y_k : (0 ≤ k ∧ k < M g 1) := by unfold z_c_royalty at hc; (repeat' split at hc) <;> omega
    have k2 : k < 20 := by omega
    have hkk := hkk k y_k.1 k2
    have hSC := z_SC_new M g
    have hq := z_sg_lt g
    have y_f : 0 ≤ a ∧ a ≤ 100000 := by unfold z_c_royalty at hc; (repeat' split at hc) <;> omega
    have hA := tL_royalty (tX6_royalty (G := G) hg hn h0 s0 s1 ho hb rk ra hc)
    obtain ⟨Y, y_Y⟩ : ∃ Y, z_sM (z_roM (z_SC M g) (z_sg g) k a) 32 0 (z_iw (z_roV (z_SC M g) (z_sg g) k a)) = Y := ⟨_, rfl⟩
    have rf := z_ro_ref (A := z_SC M g) (q := z_sg g) (k := k) (a := a) (s0 := Y 27) (r0 := Y 28) hq y_k.1 k2 (by rw [hSC]; exact z_BI_cF hb y_k.1 y_k.2) (by rw [hSC]; exact z_BI_p4c hb y_k.1 k2) (by rw [hSC]; exact z_BI_pz hb y_k.1 k2)
    rw [hSC] at rf
    have e : z_eS M Y g (z_com2 (M g) k a 1 (Y 27) (Y 28)).1 := by
      rw [← rf.1, ← y_Y]
      exact z_eS_out _ (z_eS_of (z_roM_e hq).1 (z_roM_e hq).2 rfl)
    have e2 := z_eS_22 h e
    have y_o : Y 32 0 = z_iw (z_roV (z_SC M g) (z_sg g) k a) := by rw [← y_Y, z_sM_self]
    rw [y_Y] at hA
    have hB := tX7_royalty (G := G) (M := Y) (N := N) (by rw [e2.1]; exact hb) (by rw [e2.2]; omega) (by rw [e2.2]; omega) rk ra (c := 0) (by rw [e2.1]; exact hc)
    unfold z_Mroy at hB
    rw [if_pos rfl, if_pos rfl, e2.1] at hB
    exact z_stp_save h hN (z_k_roy hb hN y_k.1 y_k.2 y_f.1 y_f.2) hA e hB z_eT_m4.1 z_eT_m4.2 (by rw [y_o, rf.2])
  · have hB := tX7_royalty (G := G) (M := M) (N := N) (by rw [h22]; exact hb) (by omega) (by omega) rk ra (c := 1) (by first | exact hc | (rw [h22]; exact hc))
    rw [if_neg (by decide), if_neg (by decide)] at hB
    exact z_stp_ex h hN (by decide) (tL_royalty_x1 (tX6_royalty_x1 hg hn h0 s0 s1 ho hb rk ra hc)) hB
  · have hB := tX7_royalty (G := G) (M := M) (N := N) (by rw [h22]; exact hb) (by omega) (by omega) rk ra (c := 2) (by first | exact hc | (rw [h22]; exact hc))
    rw [if_neg (by decide), if_neg (by decide)] at hB
    exact z_stp_ex h hN (by decide) (tL_royalty_x2 (tX6_royalty_x2 hg hn h0 s0 s1 ho hb rk ra hc)) hB
  · have hB := tX7_royalty (G := G) (M := M) (N := N) (by rw [h22]; exact hb) (by omega) (by omega) rk ra (c := 3) (by first | exact hc | (rw [h22]; exact hc))
    rw [if_neg (by decide), if_neg (by decide)] at hB
    exact z_stp_ex h hN (by decide) (tL_royalty_x3 (tX6_royalty_x3 hg hn h0 s0 s1 ho hb rk ra hc)) hB
theorem z_cp_eq {b r r' : Int → Int} {d e n : Int} (h : ∀ p, e ≤ p → p < e + n → r p = r' p) : z_cp b r d e n = z_cp b r' d e n := by
  funext j
  unfold z_cp
  split
  · exact h _ (by omega) (by omega)
  · rfl
theorem z_st_dispute {G : z_G} {M : z_M} {N : Int} {k : Int} (rk : z_rg k) {p : Int} (rp : z_rg p) (h : z_Rel M N) (hN : N + 1 ≤ 600) : z_Stp (fun M y_k M1 => KL_dispute G [.ref (z_ad G 0 20), z_I k, z_I p, .ref (z_ad G 0 60)] M y_k M1) (fun M y_b M2 => KX7_dispute G [.ref (z_ad G 0 40), z_I k, z_I p] M (.inl (some (z_I y_b))) M2) M N := by
  obtain ⟨g, h⟩ := h
  have hh := h
  obtain ⟨hg, hn, h0, hs, hs2, ho, hb, h22, ht, hx, hv⟩ := hh
  have s0 : 0 ≤ M 7 1 := by omega
  have s1 : M 7 1 ≤ 6 := by omega
  have hc : z_c_dispute (M g) k p = 0 ∨ z_c_dispute (M g) k p = 1 ∨ z_c_dispute (M g) k p = 2 := by unfold z_c_dispute; (repeat' split) <;> omega
  rcases hc with hc | hc | hc
  · have hz := z_BI_h hb
    have y_k : ((0 ≤ k ∧ k < M g 1) ∧ 0 ≤ p ∧ p < M g 0) ∧ z_cd (M g) k p := by
      unfold z_c_dispute at hc
      split at hc
      · omega
      · split at hc
        · rename_i q1 q2; exact ⟨by omega, q2⟩
        · omega
    have k2 : k < 20 := by omega
    have hp := z_gpb_ok hb y_k.1.1.1 k2 y_k.1.2.1 (by omega) y_k.2
    have hA := tL_dispute (tX6_dispute (G := G) hg hn h0 s0 s1 ho hb rk rp hc)
    have e := z_eS_out (z_iw (z_gpb (M g) k p)) (z_eS_sv (M := M) (g := g) (o := z_od (M g) k (z_gpb (M g) k)))
    obtain ⟨Y, y_Y⟩ : ∃ Y, z_sM (z_sR (z_SC M g) (z_sg g) (z_od (M g) k (z_gpb (M g) k))) 32 0 (z_iw (z_gpb (M g) k p)) = Y := ⟨_, rfl⟩
    have y_o : Y 32 0 = z_iw (z_gpb (M g) k p) := by rw [← y_Y, z_sM_self]
    rw [y_Y] at hA e
    have e2 := z_eS_22 h e
    have hB := tX7_dispute (G := G) (M := Y) (N := N) (by rw [e2.1]; exact hb) (by rw [e2.2]; omega) (by rw [e2.2]; omega) rk rp (c := 0) (by rw [e2.1]; exact hc)
    rw [if_pos rfl, if_pos rfl, e2.1] at hB
    have gq := z_gp_gpb (w0 := Y 29) hb y_k.1.1.1 k2
    have y_c : z_o_dispute (M g) k (z_WS (M g) k (Y 29)) (z_WR (M g) k (Y 29)).2 = z_od (M g) k (z_gpb (M g) k) := by
      unfold z_o_dispute z_od
      rw [z_cp_eq (fun q q0 q1 => gq q q0 (by omega))]
    rw [gq p y_k.1.2.1 (by omega), y_c] at hB
    refine z_stp_save h hN (z_k_parts hb hN y_k.1.1.1 y_k.1.1.2 hp.1 hp.2.1 hp.2.2.1 hp.2.2.2 (Or.inr ?_) (fun q q0 q1 => ?_) ?_ (fun j j6 j3 jn => ?_)) hA e hB z_eT_w9.1 z_eT_w9.2 y_o
    · unfold z_od; rw [z_uf_self]
    · unfold z_od; rw [z_uf_ne _ _ (by omega), z_uf_ne _ _ (by omega)]; unfold z_cp; rw [if_pos (by omega)]; congr 1; omega
    · unfold z_od; rw [z_uf_ne _ _ (by omega), z_uf_self]
    · unfold z_od; rw [z_uf_ne _ _ (by omega), z_uf_ne _ _ (by omega)]; unfold z_cp; rw [if_neg (by omega)]
  · have hB := tX7_dispute (G := G) (M := M) (N := N) (by rw [h22]; exact hb) (by omega) (by omega) rk rp (c := 1) (by first | exact hc | (rw [h22]; exact hc))
    rw [if_neg (by decide), if_neg (by decide)] at hB
    exact z_stp_ex h hN (by decide) (tL_dispute_x1 (tX6_dispute_x1 hg hn h0 s0 s1 ho hb rk rp hc)) hB
  · have hB := tX7_dispute (G := G) (M := M) (N := N) (by rw [h22]; exact hb) (by omega) (by omega) rk rp (c := 2) (by first | exact hc | (rw [h22]; exact hc))
    rw [if_neg (by decide), if_neg (by decide)] at hB
    exact z_stp_ex h hN (by decide) (tL_dispute_x2 (tX6_dispute_x2 hg hn h0 s0 s1 ho hb rk rp hc)) hB
