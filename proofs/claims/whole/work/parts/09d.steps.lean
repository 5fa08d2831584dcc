/-! ===== a step of both sides ===== -/
/-- the law's own call ends with k, the reference's with b; k is what the reference has thrown, and with k = 0 the row of answers holds b; what is between the two sides holds then -/
def z_Stp (A B : z_M → Int → z_M → Prop) (M : z_M) (N : Int) : Prop :=
  ∃ M1 M2 k b, A M k M1 ∧ B M1 b M2 ∧ M2 21 4 = k ∧ (k = 0 → M2 32 0 = z_iw b) ∧ z_Rel M2 (N + 1)
/-- the two calls that the law compares at once end with the same -/
def z_StD (A B : z_M → Int → z_M → Prop) (M : z_M) (N : Int) : Prop := ∃ M1 M2 b, A M b M1 ∧ B M1 b M2 ∧ z_Rel M2 (N + 1)
def z_eC (M M1 : z_M) : Prop := (∀ r, r < 7 ∨ r = 8 ∨ (20 ≤ r ∧ r ≠ 32) → M1 r = M r) ∧ ∀ i, 0 ≤ i → i ≤ 3 → M1 7 i = M 7 i
def z_eR (M1 M2 : z_M) : Prop := (∀ r, r < 20 ∨ r = 22 ∨ r = 24 ∨ r = 25 ∨ r = 32 → M2 r = M1 r) ∧ ∀ i, i = 2 ∨ i = 3 → M2 21 i = M1 21 i
theorem z_eC_id (M : z_M) : z_eC M M := ⟨fun _ _ => rfl, fun _ _ _ => rfl⟩
theorem z_eC_out {M M1 : z_M} (w : Int) (e : z_eC M M1) : z_eC M (z_sM M1 32 0 w) :=
  ⟨fun r hr => by rw [z_sM_row _ _ _ (by omega)]; exact e.1 r hr, fun i i0 i1 => by rw [z_sM_row _ _ _ (by omega)]; exact e.2 i i0 i1⟩
theorem z_eR_id (M : z_M) : z_eR M M := ⟨fun _ _ => rfl, fun _ _ => rfl⟩
theorem z_eR_t {M1 M2 : z_M} (c : Int) (e : z_eR M1 M2) : z_eR M1 (z_sM M2 21 4 c) :=
  ⟨fun r hr => by rw [z_sM_row _ _ _ (by omega)]; exact e.1 r hr, fun i hi => by rw [z_sM_ne _ _ _ (by omega)]; exact e.2 i hi⟩
def z_eS (M M1 : z_M) (g : Nat) (o : Int → Int) : Prop := (∀ r, r ≠ z_sg g → r < 7 ∨ r = 8 ∨ (20 ≤ r ∧ r ≠ 32) → M1 r = M r) ∧ M1 (z_sg g) = o ∧ M1 7 0 = (z_sg g : Nat) ∧ M1 7 2 = (z_sg g : Nat) ∧ M1 7 1 = z_mn (M 7 1 + 1) 6 ∧ M1 7 3 = M 7 3
def z_eT (M1 M2 : z_M) (o : Int → Int) : Prop := (∀ r, r < 20 ∨ r = 25 ∨ r = 32 → M2 r = M1 r) ∧ M2 22 = o ∧ M2 24 = z_rows (M1 24) (M1 22) (M1 21 2) ∧ M2 21 2 = z_rn (M1 21 2) ∧ M2 21 3 = M1 21 3
section ZST
variable {A B : z_M → Int → z_M → Prop} {M M1 M2 : z_M} {g : Nat} {N k b : Int} {o : Int → Int}
theorem z_eS_out (w : Int) (e : z_eS M M1 g o) : z_eS M (z_sM M1 32 0 w) g o := by
  have hq := z_sg_lt g
  obtain ⟨e1, e2, e3, e4, e5, e6⟩ := e
  have h7 : z_sM M1 32 0 w 7 = M1 7 := z_sM_row _ _ _ (by omega)
  refine ⟨fun r hr hr2 => ?_, ?_, by rw [h7]; exact e3, by rw [h7]; exact e4, by rw [h7]; exact e5, by rw [h7]; exact e6⟩
  · rw [z_sM_row _ _ _ (by omega)]; exact e1 r hr hr2
  · rw [z_sM_row _ _ _ (by omega)]; exact e2
theorem z_eS_sv : z_eS M (z_sR (z_SC M g) (z_sg g) o) g o := by
  have hq := z_sg_lt g
  have h7 : z_sR (z_SC M g) (z_sg g) o 7 = z_SC M g 7 := z_sR_ne _ _ (by omega)
  refine ⟨fun r hr hr2 => ?_, z_sR_self _ _ _, by rw [h7]; exact z_SC_70 M g, by rw [h7]; exact z_SC_72 M g, by rw [h7]; exact z_SC_71 M g, by rw [h7]; exact z_SC_7 M g (by decide)⟩
  rw [z_sR_ne _ _ hr]
  exact z_SC_row (by omega) hr
theorem z_eT_sv : z_eT M1 (z_sR (z_SV (z_sM M1 21 4 0)) 22 o) o := by
  have e22 : z_sM M1 21 4 0 22 = M1 22 := z_sM_row _ _ _ (by decide)
  have e24 : z_sM M1 21 4 0 24 = M1 24 := z_sM_row _ _ _ (by decide)
  have e21 : z_sM M1 21 4 0 21 2 = M1 21 2 := z_sM_ne _ _ _ (by decide)
  refine ⟨fun r hr => ?_, z_sR_self _ _ _, ?_, ?_, ?_⟩
  · rw [z_sR_ne _ _ (by omega), z_SV_row (by omega) (by omega), z_sM_row _ _ _ (by omega)]
  · rw [z_sR_ne _ _ (by decide)]
    unfold z_SV
    rw [z_sM_row _ _ _ (by decide), z_sR_self, e22, e24, e21]
  · rw [z_sR_ne _ _ (by decide)]
    unfold z_SV
    rw [z_sM_self, e21]
  · rw [z_sR_ne _ _ (by decide), z_SV_21 (by decide), z_sM_ne _ _ _ (by decide)]
theorem z_sv4 : z_sR (z_SV (z_sM M1 21 4 0)) 22 o 21 4 = 0 := by
  rw [z_sR_ne _ _ (by decide), z_SV_21 (by decide), z_sM_self]
theorem z_stp_same (h : z_Rg M g N) (hN : N + 1 ≤ 600) (hA : A M k M1) (e : z_eC M M1) (hB : B M1 b M2) (f : z_eR M1 M2) (f4 : M2 21 4 = k) (h32 : k = 0 → M1 32 0 = z_iw b) : z_Stp A B M N :=
  ⟨M1, M2, k, b, hA, hB, f4, fun q => by rw [f.1 32 (by omega)]; exact h32 q, g, z_Rg_same h hN (fun r hr => (f.1 r (by omega)).trans (e.1 r (by omega))) (fun i i0 i1 => by rw [f.1 7 (by omega)]; exact e.2 i i0 i1) (fun i hi => by rw [f.2 i hi, e.1 21 (by omega)])⟩
theorem z_std_same (h : z_Rg M g N) (hN : N + 1 ≤ 600) (hA : A M b M1) (e : z_eC M M1) (hB : B M1 b M2) (f : z_eR M1 M2) : z_StD A B M N :=
  ⟨M1, M2, b, hA, hB, g, z_Rg_same h hN (fun r hr => (f.1 r (by omega)).trans (e.1 r (by omega))) (fun i i0 i1 => by rw [f.1 7 (by omega)]; exact e.2 i i0 i1) (fun i hi => by rw [f.2 i hi, e.1 21 (by omega)])⟩
theorem z_rel_save (h : z_Rg M g N) (hN : N + 1 ≤ 600) (ho : z_BI o (N + 1)) (e : z_eS M M1 g o) (f : z_eT M1 M2 o) : z_Rel M2 (N + 1) := by
  have hq := z_sg_lt g
  have hh := h
  obtain ⟨hg, hn, h0, h1, h2, ho7, hb, h22, ht, hx, hv⟩ := hh
  obtain ⟨e1, e2, e3, e4, e5, e6⟩ := e
  obtain ⟨f1, f2, f3, f4, f5⟩ := f
  have q7 : M2 7 = M1 7 := f1 7 (by omega)
  have q21 : M1 21 = M 21 := e1 21 (by omega) (by omega)
  refine ⟨z_sg g, z_Rg_save (c := o) h hN ho (fun r hr hr2 => (f1 r (by omega)).trans (e1 r hr2 (by omega))) ((f1 _ (by omega)).trans e2) f2 (by rw [q7]; exact e3) (by rw [q7]; exact e4) (by rw [q7]; exact e5) (by rw [f4, q21]) ?_ ?_ ?_⟩
  · rw [f3, e1 24 (by omega) (by omega), e1 22 (by omega) (by omega), q21]
  · rw [f5, q7, e6, q21]; exact ht
  · rw [q7, e6, f1 8 (by omega), f1 25 (by omega), e1 8 (by omega) (by omega), e1 25 (by omega) (by omega)]; exact hx
theorem z_stp_save (h : z_Rg M g N) (hN : N + 1 ≤ 600) (ho : z_BI o (N + 1)) (hA : A M 0 M1) (e : z_eS M M1 g o) (hB : B M1 b M2) (f : z_eT M1 M2 o) (f4 : M2 21 4 = 0) (h32 : M1 32 0 = z_iw b) : z_Stp A B M N :=
  ⟨M1, M2, 0, b, hA, hB, f4, fun _ => by rw [f.1 32 (by omega)]; exact h32, z_rel_save h hN ho e f⟩
/-- what the reference's call needs of the memory that it meets -/
theorem z_eS_22 (h : z_Rg M g N) (e : z_eS M M1 g o) : M1 22 = M g ∧ M1 21 = M 21 := by
  have hq := z_sg_lt g
  exact ⟨(e.1 22 (by omega) (by omega)).trans h.2.2.2.2.2.2.2.1, e.1 21 (by omega) (by omega)⟩
theorem z_eC_22 (h : z_Rg M g N) (e : z_eC M M1) : M1 22 = M g ∧ M1 21 = M 21 := ⟨(e.1 22 (by omega)).trans h.2.2.2.2.2.2.2.1, e.1 21 (by omega)⟩
theorem z_stp_sv {r : Int} (h : z_Rg M g N) (hN : N + 1 ≤ 600) (ho : z_BI o (N + 1)) (hA : A M 0 (z_sM (z_sR (z_SC M g) (z_sg g) o) 32 0 (z_iw r))) (hB : ∀ Y : z_M, Y 22 = M g → z_BI (Y 22) N → 0 ≤ Y 21 2 → Y 21 2 ≤ 6 → B Y r (z_sR (z_SV (z_sM Y 21 4 0)) 22 o)) : z_Stp A B M N := by
  have e := z_eS_out (z_iw r) (z_eS_sv (M := M) (g := g) (o := o))
  have e2 := z_eS_22 h e
  exact z_stp_save h hN ho hA e (hB _ e2.1 (by rw [e2.1]; exact h.2.2.2.2.2.2.1) (by rw [e2.2]; exact h.2.2.2.2.1.1) (by rw [e2.2]; exact h.2.2.2.2.1.2)) z_eT_sv z_sv4 (z_sM_self _ _ _ _)
theorem z_stp_ex {c : Int} (h : z_Rg M g N) (hN : N + 1 ≤ 600) (c0 : c ≠ 0) (hA : A M c M) (hB : B M 0 (z_sM M 21 4 c)) : z_Stp A B M N :=
  z_stp_same h hN hA (z_eC_id M) hB (z_eR_t c (z_eR_id M)) (z_sM_self _ _ _ _) (fun q => absurd q c0)
theorem z_stp_q {r : Int} (h : z_Rg M g N) (hN : N + 1 ≤ 600) (hA : A M 0 (z_sM M1 32 0 (z_iw r))) (e : z_eC M M1) (hB : ∀ Y : z_M, Y 22 = M g → Y 21 = M 21 → Y 25 = M 25 → z_BI (Y 22) N → ∃ M2, B Y r M2 ∧ z_eR Y M2 ∧ M2 21 4 = 0) : z_Stp A B M N := by
  have e1 := z_eC_out (z_iw r) e
  have e2 := z_eC_22 h e1
  obtain ⟨M2, b1, b2, b3⟩ := hB _ e2.1 e2.2 (e1.1 25 (by omega)) (by rw [e2.1]; exact h.2.2.2.2.2.2.1)
  exact z_stp_same h hN hA e1 b1 b2 b3 (fun _ => z_sM_self _ _ _ _)
end ZST
theorem z_st_addPen {G : z_G} {M : z_M} {N : Int} (h : z_Rel M N) (hN : N + 1 ≤ 600) : z_Stp (fun M y_k M1 => KL_addPen G [.ref (z_ad G 0 20), .ref (z_ad G 0 60)] M y_k M1) (fun M y_b M2 => KX7_addPen G [.ref (z_ad G 0 40)] M (.inl (some (z_I y_b))) M2) M N := by
  obtain ⟨g, h⟩ := h
  have hh := h
  obtain ⟨hg, hn, h0, hs, hs2, ho, hb, h22, ht, hx, hv⟩ := hh
  have s0 : 0 ≤ M 7 1 := by omega
  have s1 : M 7 1 ≤ 6 := by omega
  have hc : z_c_addPen (M g) = 0 ∨ z_c_addPen (M g) = 1 := by unfold z_c_addPen; (repeat' split) <;> omega
  rcases hc with hc | hc
  · refine z_stp_sv h hN (z_k_addPen hb hN hc) (tL_addPen (tX6_addPen hg hn h0 s0 s1 ho hb  hc)) (fun Y y2 yb q0 q1 => ?_)
    have hB := tX7_addPen (G := G) yb q0 q1  (c := 0) (by rw [y2]; exact hc)
    rw [if_pos rfl, if_pos rfl, y2] at hB
    exact hB
  · have hB := tX7_addPen (G := G) (M := M) (N := N) (by rw [h22]; exact hb) (by omega) (by omega)  (c := 1) (by first | exact hc | (rw [h22]; exact hc))
    rw [if_neg (by decide), if_neg (by decide)] at hB
    exact z_stp_ex h hN (by decide) (tL_addPen_x1 (tX6_addPen_x1 hg hn h0 s0 s1 ho hb  hc)) hB
theorem z_st_sell {G : z_G} {M : z_M} {N : Int} {x : Int} (rx : z_rg x) {t : Int} (rt : z_rg t) {p : Int} (rp : z_rg p) (h : z_Rel M N) (hN : N + 1 ≤ 600) : z_Stp (fun M y_k M1 => KL_sell G [.ref (z_ad G 0 20), z_I x, z_I t, z_I p, .ref (z_ad G 0 60)] M y_k M1) (fun M y_b M2 => KX7_sell G [.ref (z_ad G 0 40), z_I x, z_I t, z_I p] M (.inl (some (z_I y_b))) M2) M N := by
  obtain ⟨g, h⟩ := h
  have hh := h
  obtain ⟨hg, hn, h0, hs, hs2, ho, hb, h22, ht, hx, hv⟩ := hh
  have s0 : 0 ≤ M 7 1 := by omega
  have s1 : M 7 1 ≤ 6 := by omega
  have hc : z_c_sell (M g) x t p = 0 ∨ z_c_sell (M g) x t p = 1 ∨ z_c_sell (M g) x t p = 2 ∨ z_c_sell (M g) x t p = 3 := by unfold z_c_sell; (repeat' split) <;> omega
  rcases hc with hc | hc | hc | hc
  · refine z_stp_sv h hN (by unfold z_c_sell at hc; (repeat' split at hc) <;> first | (exfalso; omega; done) | exact z_k_sold hb hN (by omega) (by omega) (by omega) (by omega) (by omega) (by omega) (by omega)) (tL_sell (tX6_sell hg hn h0 s0 s1 ho hb rx rt rp hc)) (fun Y y2 yb q0 q1 => ?_)
    have hB := tX7_sell (G := G) yb q0 q1 rx rt rp (c := 0) (by rw [y2]; exact hc)
    rw [if_pos rfl, if_pos rfl, y2] at hB
    exact hB
  · have hB := tX7_sell (G := G) (M := M) (N := N) (by rw [h22]; exact hb) (by omega) (by omega) rx rt rp (c := 1) (by first | exact hc | (rw [h22]; exact hc))
    rw [if_neg (by decide), if_neg (by decide)] at hB
    exact z_stp_ex h hN (by decide) (tL_sell_x1 (tX6_sell_x1 hg hn h0 s0 s1 ho hb rx rt rp hc)) hB
  · have hB := tX7_sell (G := G) (M := M) (N := N) (by rw [h22]; exact hb) (by omega) (by omega) rx rt rp (c := 2) (by first | exact hc | (rw [h22]; exact hc))
    rw [if_neg (by decide), if_neg (by decide)] at hB
    exact z_stp_ex h hN (by decide) (tL_sell_x2 (tX6_sell_x2 hg hn h0 s0 s1 ho hb rx rt rp hc)) hB
  · have hB := tX7_sell (G := G) (M := M) (N := N) (by rw [h22]; exact hb) (by omega) (by omega) rx rt rp (c := 3) (by first | exact hc | (rw [h22]; exact hc))
    rw [if_neg (by decide), if_neg (by decide)] at hB
    exact z_stp_ex h hN (by decide) (tL_sell_x3 (tX6_sell_x3 hg hn h0 s0 s1 ho hb rx rt rp hc)) hB
theorem z_st_buyBack {G : z_G} {M : z_M} {N : Int} {x : Int} (rx : z_rg x) (h : z_Rel M N) (hN : N + 1 ≤ 600) : z_Stp (fun M y_k M1 => KL_buyBack G [.ref (z_ad G 0 20), z_I x, .ref (z_ad G 0 60)] M y_k M1) (fun M y_b M2 => KX7_buyBack G [.ref (z_ad G 0 40), z_I x] M (.inl (some (z_I y_b))) M2) M N := by
  obtain ⟨g, h⟩ := h
  have hh := h
  obtain ⟨hg, hn, h0, hs, hs2, ho, hb, h22, ht, hx, hv⟩ := hh
  have s0 : 0 ≤ M 7 1 := by omega
  have s1 : M 7 1 ≤ 6 := by omega
  have hc : z_c_buyBack (M g) x = 0 ∨ z_c_buyBack (M g) x = 1 ∨ z_c_buyBack (M g) x = 2 := by unfold z_c_buyBack; (repeat' split) <;> omega
  rcases hc with hc | hc | hc
  · refine z_stp_sv h hN (by
      have hh := z_BI_h hb
      unfold z_c_buyBack at hc
      (repeat' split at hc) <;> first | (exfalso; omega; done) | skip
      have hp := z_BI_P hb x (by omega) (by omega)
      unfold z_PI at hp
      exact z_k_sold hb hN (by omega) (by omega) (by omega) (by omega) (by unfold z_bbp; omega) (by omega) (by omega)) (tL_buyBack (tX6_buyBack hg hn h0 s0 s1 ho hb rx hc)) (fun Y y2 yb q0 q1 => ?_)
    have hB := tX7_buyBack (G := G) yb q0 q1 rx (c := 0) (by rw [y2]; exact hc)
    rw [if_pos rfl, if_pos rfl, y2] at hB
    exact hB
  · have hB := tX7_buyBack (G := G) (M := M) (N := N) (by rw [h22]; exact hb) (by omega) (by omega) rx (c := 1) (by first | exact hc | (rw [h22]; exact hc))
    rw [if_neg (by decide), if_neg (by decide)] at hB
    exact z_stp_ex h hN (by decide) (tL_buyBack_x1 (tX6_buyBack_x1 hg hn h0 s0 s1 ho hb rx hc)) hB
  · have hB := tX7_buyBack (G := G) (M := M) (N := N) (by rw [h22]; exact hb) (by omega) (by omega) rx (c := 2) (by first | exact hc | (rw [h22]; exact hc))
    rw [if_neg (by decide), if_neg (by decide)] at hB
    exact z_stp_ex h hN (by decide) (tL_buyBack_x2 (tX6_buyBack_x2 hg hn h0 s0 s1 ho hb rx hc)) hB
theorem z_st_advance {G : z_G} {M : z_M} {N : Int} {x : Int} (rx : z_rg x) {a : Int} (ra : z_rg a) (h : z_Rel M N) (hN : N + 1 ≤ 600) : z_Stp (fun M y_k M1 => KL_advance G [.ref (z_ad G 0 20), z_I x, z_I a, .ref (z_ad G 0 60)] M y_k M1) (fun M y_b M2 => KX7_advance G [.ref (z_ad G 0 40), z_I x, z_I a] M (.inl (some (z_I y_b))) M2) M N := by
  obtain ⟨g, h⟩ := h
  have hh := h
  obtain ⟨hg, hn, h0, hs, hs2, ho, hb, h22, ht, hx, hv⟩ := hh
  have s0 : 0 ≤ M 7 1 := by omega
  have s1 : M 7 1 ≤ 6 := by omega
  have hc : z_c_advance (M g) x a = 0 ∨ z_c_advance (M g) x a = 1 ∨ z_c_advance (M g) x a = 2 ∨ z_c_advance (M g) x a = 3 := by unfold z_c_advance; (repeat' split) <;> omega
  rcases hc with hc | hc | hc | hc
  · refine z_stp_sv h hN (z_k_advance hb hN hc) (tL_advance (tX6_advance hg hn h0 s0 s1 ho hb rx ra hc)) (fun Y y2 yb q0 q1 => ?_)
    have hB := tX7_advance (G := G) yb q0 q1 rx ra (c := 0) (by rw [y2]; exact hc)
    rw [if_pos rfl, if_pos rfl, y2] at hB
    exact hB
  · have hB := tX7_advance (G := G) (M := M) (N := N) (by rw [h22]; exact hb) (by omega) (by omega) rx ra (c := 1) (by first | exact hc | (rw [h22]; exact hc))
    rw [if_neg (by decide), if_neg (by decide)] at hB
    exact z_stp_ex h hN (by decide) (tL_advance_x1 (tX6_advance_x1 hg hn h0 s0 s1 ho hb rx ra hc)) hB
  · have hB := tX7_advance (G := G) (M := M) (N := N) (by rw [h22]; exact hb) (by omega) (by omega) rx ra (c := 2) (by first | exact hc | (rw [h22]; exact hc))
    rw [if_neg (by decide), if_neg (by decide)] at hB
    exact z_stp_ex h hN (by decide) (tL_advance_x2 (tX6_advance_x2 hg hn h0 s0 s1 ho hb rx ra hc)) hB
  · have hB := tX7_advance (G := G) (M := M) (N := N) (by rw [h22]; exact hb) (by omega) (by omega) rx ra (c := 3) (by first | exact hc | (rw [h22]; exact hc))
    rw [if_neg (by decide), if_neg (by decide)] at hB
    exact z_stp_ex h hN (by decide) (tL_advance_x3 (tX6_advance_x3 hg hn h0 s0 s1 ho hb rx ra hc)) hB
theorem z_st_withdraw {G : z_G} {M : z_M} {N : Int} {x : Int} (rx : z_rg x) {a : Int} (ra : z_rg a) (h : z_Rel M N) (hN : N + 1 ≤ 600) : z_Stp (fun M y_k M1 => KL_withdraw G [.ref (z_ad G 0 20), z_I x, z_I a, .ref (z_ad G 0 60)] M y_k M1) (fun M y_b M2 => KX7_withdraw G [.ref (z_ad G 0 40), z_I x, z_I a] M (.inl (some (z_I y_b))) M2) M N := by
  obtain ⟨g, h⟩ := h
  have hh := h
  obtain ⟨hg, hn, h0, hs, hs2, ho, hb, h22, ht, hx, hv⟩ := hh
  have s0 : 0 ≤ M 7 1 := by omega
  have s1 : M 7 1 ≤ 6 := by omega
  have hc : z_c_withdraw (M g) x a = 0 ∨ z_c_withdraw (M g) x a = 1 ∨ z_c_withdraw (M g) x a = 2 ∨ z_c_withdraw (M g) x a = 3 := by unfold z_c_withdraw; (repeat' split) <;> omega
  rcases hc with hc | hc | hc | hc
  · refine z_stp_sv h hN (z_k_withdraw hb hN hc) (tL_withdraw (tX6_withdraw hg hn h0 s0 s1 ho hb rx ra hc)) (fun Y y2 yb q0 q1 => ?_)
    have hB := tX7_withdraw (G := G) yb q0 q1 rx ra (c := 0) (by rw [y2]; exact hc)
    rw [if_pos rfl, if_pos rfl, y2] at hB
    exact hB
  · have hB := tX7_withdraw (G := G) (M := M) (N := N) (by rw [h22]; exact hb) (by omega) (by omega) rx ra (c := 1) (by first | exact hc | (rw [h22]; exact hc))
    rw [if_neg (by decide), if_neg (by decide)] at hB
    exact z_stp_ex h hN (by decide) (tL_withdraw_x1 (tX6_withdraw_x1 hg hn h0 s0 s1 ho hb rx ra hc)) hB
  · have hB := tX7_withdraw (G := G) (M := M) (N := N) (by rw [h22]; exact hb) (by omega) (by omega) rx ra (c := 2) (by first | exact hc | (rw [h22]; exact hc))
    rw [if_neg (by decide), if_neg (by decide)] at hB
    exact z_stp_ex h hN (by decide) (tL_withdraw_x2 (tX6_withdraw_x2 hg hn h0 s0 s1 ho hb rx ra hc)) hB
  · have hB := tX7_withdraw (G := G) (M := M) (N := N) (by rw [h22]; exact hb) (by omega) (by omega) rx ra (c := 3) (by first | exact hc | (rw [h22]; exact hc))
    rw [if_neg (by decide), if_neg (by decide)] at hB
    exact z_stp_ex h hN (by decide) (tL_withdraw_x3 (tX6_withdraw_x3 hg hn h0 s0 s1 ho hb rx ra hc)) hB
theorem z_st_order {G : z_G} {M : z_M} {N : Int} {x : Int} (rx : z_rg x) {f : Int} (rf : z_rg f) (h : z_Rel M N) (hN : N + 1 ≤ 600) : z_Stp (fun M y_k M1 => KL_order G [.ref (z_ad G 0 20), z_I x, z_I f, .ref (z_ad G 0 60)] M y_k M1) (fun M y_b M2 => KX7_order G [.ref (z_ad G 0 40), z_I x, z_I f] M (.inl (some (z_I y_b))) M2) M N := by
  obtain ⟨g, h⟩ := h
  have hh := h
  obtain ⟨hg, hn, h0, hs, hs2, ho, hb, h22, ht, hx, hv⟩ := hh
  have s0 : 0 ≤ M 7 1 := by omega
  have s1 : M 7 1 ≤ 6 := by omega
  have hc : z_c_order (M g) x f = 0 ∨ z_c_order (M g) x f = 1 ∨ z_c_order (M g) x f = 2 ∨ z_c_order (M g) x f = 3 := by unfold z_c_order; (repeat' split) <;> omega
  rcases hc with hc | hc | hc | hc
  · refine z_stp_sv h hN (z_k_order hb hN hc) (tL_order (tX6_order hg hn h0 s0 s1 ho hb rx rf hc)) (fun Y y2 yb q0 q1 => ?_)
    have hB := tX7_order (G := G) yb q0 q1 rx rf (c := 0) (by rw [y2]; exact hc)
    rw [if_pos rfl, if_pos rfl, y2] at hB
    exact hB
  · have hB := tX7_order (G := G) (M := M) (N := N) (by rw [h22]; exact hb) (by omega) (by omega) rx rf (c := 1) (by first | exact hc | (rw [h22]; exact hc))
    rw [if_neg (by decide), if_neg (by decide)] at hB
    exact z_stp_ex h hN (by decide) (tL_order_x1 (tX6_order_x1 hg hn h0 s0 s1 ho hb rx rf hc)) hB
  · have hB := tX7_order (G := G) (M := M) (N := N) (by rw [h22]; exact hb) (by omega) (by omega) rx rf (c := 2) (by first | exact hc | (rw [h22]; exact hc))
    rw [if_neg (by decide), if_neg (by decide)] at hB
    exact z_stp_ex h hN (by decide) (tL_order_x2 (tX6_order_x2 hg hn h0 s0 s1 ho hb rx rf hc)) hB
  · have hB := tX7_order (G := G) (M := M) (N := N) (by rw [h22]; exact hb) (by omega) (by omega) rx rf (c := 3) (by first | exact hc | (rw [h22]; exact hc))
    rw [if_neg (by decide), if_neg (by decide)] at hB
    exact z_stp_ex h hN (by decide) (tL_order_x3 (tX6_order_x3 hg hn h0 s0 s1 ho hb rx rf hc)) hB
theorem z_st_draft {G : z_G} {M : z_M} {N : Int} {k : Int} (rk : z_rg k) {p : Int} (rp : z_rg p) (h : z_Rel M N) (hN : N + 1 ≤ 600) : z_Stp (fun M y_k M1 => KL_draft G [.ref (z_ad G 0 20), z_I k, z_I p, .ref (z_ad G 0 60)] M y_k M1) (fun M y_b M2 => KX7_draft G [.ref (z_ad G 0 40), z_I k, z_I p] M (.inl (some (z_I y_b))) M2) M N := by
  obtain ⟨g, h⟩ := h
  have hh := h
  obtain ⟨hg, hn, h0, hs, hs2, ho, hb, h22, ht, hx, hv⟩ := hh
  have s0 : 0 ≤ M 7 1 := by omega
  have s1 : M 7 1 ≤ 6 := by omega
  have hc : z_c_draft (M g) k p = 0 ∨ z_c_draft (M g) k p = 1 ∨ z_c_draft (M g) k p = 2 := by unfold z_c_draft; (repeat' split) <;> omega
  rcases hc with hc | hc | hc
  · refine z_stp_sv h hN (z_k_draft hb hN hc) (tL_draft (tX6_draft hg hn h0 s0 s1 ho hb rk rp hc)) (fun Y y2 yb q0 q1 => ?_)
    have hB := tX7_draft (G := G) yb q0 q1 rk rp (c := 0) (by rw [y2]; exact hc)
    rw [if_pos rfl, if_pos rfl, y2] at hB
    exact hB
  · have hB := tX7_draft (G := G) (M := M) (N := N) (by rw [h22]; exact hb) (by omega) (by omega) rk rp (c := 1) (by first | exact hc | (rw [h22]; exact hc))
    rw [if_neg (by decide), if_neg (by decide)] at hB
    exact z_stp_ex h hN (by decide) (tL_draft_x1 (tX6_draft_x1 hg hn h0 s0 s1 ho hb rk rp hc)) hB
  · have hB := tX7_draft (G := G) (M := M) (N := N) (by rw [h22]; exact hb) (by omega) (by omega) rk rp (c := 2) (by first | exact hc | (rw [h22]; exact hc))
    rw [if_neg (by decide), if_neg (by decide)] at hB
    exact z_stp_ex h hN (by decide) (tL_draft_x2 (tX6_draft_x2 hg hn h0 s0 s1 ho hb rk rp hc)) hB
theorem z_st_revise {G : z_G} {M : z_M} {N : Int} {k : Int} (rk : z_rg k) {f : Int} (rf : z_rg f) (h : z_Rel M N) (hN : N + 1 ≤ 600) : z_Stp (fun M y_k M1 => KL_revise G [.ref (z_ad G 0 20), z_I k, z_I f, .ref (z_ad G 0 60)] M y_k M1) (fun M y_b M2 => KX7_revise G [.ref (z_ad G 0 40), z_I k, z_I f] M (.inl (some (z_I y_b))) M2) M N := by
  obtain ⟨g, h⟩ := h
  have hh := h
  obtain ⟨hg, hn, h0, hs, hs2, ho, hb, h22, ht, hx, hv⟩ := hh
  have s0 : 0 ≤ M 7 1 := by omega
  have s1 : M 7 1 ≤ 6 := by omega
  have hc : z_c_revise (M g) k f = 0 ∨ z_c_revise (M g) k f = 1 ∨ z_c_revise (M g) k f = 2 ∨ z_c_revise (M g) k f = 3 := by unfold z_c_revise; (repeat' split) <;> omega
  rcases hc with hc | hc | hc | hc
  · refine z_stp_sv h hN (z_k_revise hb hN hc) (tL_revise (tX6_revise hg hn h0 s0 s1 ho hb rk rf hc)) (fun Y y2 yb q0 q1 => ?_)
    have hB := tX7_revise (G := G) yb q0 q1 rk rf (c := 0) (by rw [y2]; exact hc)
    rw [if_pos rfl, if_pos rfl, y2] at hB
    exact hB
  · have hB := tX7_revise (G := G) (M := M) (N := N) (by rw [h22]; exact hb) (by omega) (by omega) rk rf (c := 1) (by first | exact hc | (rw [h22]; exact hc))
    rw [if_neg (by decide), if_neg (by decide)] at hB
    exact z_stp_ex h hN (by decide) (tL_revise_x1 (tX6_revise_x1 hg hn h0 s0 s1 ho hb rk rf hc)) hB
  · have hB := tX7_revise (G := G) (M := M) (N := N) (by rw [h22]; exact hb) (by omega) (by omega) rk rf (c := 2) (by first | exact hc | (rw [h22]; exact hc))
    rw [if_neg (by decide), if_neg (by decide)] at hB
    exact z_stp_ex h hN (by decide) (tL_revise_x2 (tX6_revise_x2 hg hn h0 s0 s1 ho hb rk rf hc)) hB
  · have hB := tX7_revise (G := G) (M := M) (N := N) (by rw [h22]; exact hb) (by omega) (by omega) rk rf (c := 3) (by first | exact hc | (rw [h22]; exact hc))
    rw [if_neg (by decide), if_neg (by decide)] at hB
    exact z_stp_ex h hN (by decide) (tL_revise_x3 (tX6_revise_x3 hg hn h0 s0 s1 ho hb rk rf hc)) hB
theorem z_st_set {G : z_G} {M : z_M} {N : Int} {x : Int} (rx : z_rg x) {v : Int} (rv : z_rg v) (h : z_Rel M N) (hN : N + 1 ≤ 600) : z_Stp (fun M y_k M1 => KL_set G [.ref (z_ad G 0 20), z_I x, z_I v, .ref (z_ad G 0 60)] M y_k M1) (fun M y_b M2 => KX7_set G [.ref (z_ad G 0 40), z_I x, z_I v] M (.inl (some (z_I y_b))) M2) M N := by
  obtain ⟨g, h⟩ := h
  have hh := h
  obtain ⟨hg, hn, h0, hs, hs2, ho, hb, h22, ht, hx, hv⟩ := hh
  have s0 : 0 ≤ M 7 1 := by omega
  have s1 : M 7 1 ≤ 6 := by omega
  have hc : z_c_set x v = 0 ∨ z_c_set x v = 1 ∨ z_c_set x v = 2 := by unfold z_c_set; (repeat' split) <;> omega
  rcases hc with hc | hc | hc
  · refine z_stp_sv h hN (z_k_set hb hN hc) (tL_set (tX6_set hg hn h0 s0 s1 ho hb rx rv hc)) (fun Y y2 yb q0 q1 => ?_)
    have hB := tX7_set (G := G) yb q0 q1 rx rv (c := 0) (by exact hc)
    rw [if_pos rfl, if_pos rfl, y2] at hB
    exact hB
  · have hB := tX7_set (G := G) (M := M) (N := N) (by rw [h22]; exact hb) (by omega) (by omega) rx rv (c := 1) (by first | exact hc | (rw [h22]; exact hc))
    rw [if_neg (by decide), if_neg (by decide)] at hB
    exact z_stp_ex h hN (by decide) (tL_set_x1 (tX6_set_x1 hg hn h0 s0 s1 ho hb rx rv hc)) hB
  · have hB := tX7_set (G := G) (M := M) (N := N) (by rw [h22]; exact hb) (by omega) (by omega) rx rv (c := 2) (by first | exact hc | (rw [h22]; exact hc))
    rw [if_neg (by decide), if_neg (by decide)] at hB
    exact z_stp_ex h hN (by decide) (tL_set_x2 (tX6_set_x2 hg hn h0 s0 s1 ho hb rx rv hc)) hB
