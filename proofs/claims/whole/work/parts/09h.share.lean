/-! ===== steps: parts as texts ===== -/
theorem z_shok_iff {M Y : z_M} {g : Nat} (n0 : 0 ≤ M g 0) (l0 : 0 ≤ M 7 3) (hl : Y 21 3 = M 7 3) (ht : ∀ i, 0 ≤ i → i < M 7 3 → M 8 i = Y 25 i) (h22 : Y 22 = M g) :
    ((z_kLB M ∧ z_gtp (z_kLR M) 12 < M g 0) ↔ z_shok Y) ∧ (z_kLB M → (∀ p, 0 ≤ p → p < 12 → z_kLR M p = z_Lr (z_sM Y 21 4 0) p) ∧ z_sm 12 (fun p => if 0 < z_kLR M p then 1 else 0) ≤ 4 ∧ 1 ≤ z_sm 12 (z_kLR M)) := by
  have w25 : z_sM Y 21 4 0 25 = Y 25 := z_sM_row _ _ _ (by decide)
  have q := z_list_eq (M0 := M) (M := z_sM Y 21 4 0) l0 (by rw [z_sM_ne _ _ _ (by decide)]; exact hl) (fun i i0 i1 => by rw [w25]; exact ht i i0 i1)
  refine ⟨?_, q.2.2⟩
  have gi := z_gtp_iff (r := z_kLR M) n0 (fun p p0 p1 => (z_kLR_rg p p0 p1).1) 12 (by decide)
  refine ⟨fun y_h => ⟨q.2.1.mp y_h.1, ?_⟩, fun y_h => ⟨q.2.1.mpr y_h.1, ?_⟩⟩
  · refine Eq.trans (z_sm_eq fun i hi => ?_) (gi.mp y_h.2)
    show (if Y 22 0 ≤ (i : Int) ∧ z_Lr (z_sM Y 21 4 0) i ≠ 0 then (1 : Int) else 0) = if M g 0 ≤ (i : Int) ∧ z_kLR M i ≠ 0 then 1 else 0
    rw [h22, (q.2.2 y_h.1).1 i (by omega) (by omega)]
  · have kb := q.2.1.mpr y_h.1
    refine gi.mpr ?_
    refine Eq.trans (z_sm_eq fun i hi => ?_) y_h.2
    show (if M g 0 ≤ (i : Int) ∧ z_kLR M i ≠ 0 then (1 : Int) else 0) = if Y 22 0 ≤ (i : Int) ∧ z_Lr (z_sM Y 21 4 0) i ≠ 0 then 1 else 0
    rw [h22, (q.2.2 kb).1 i (by omega) (by omega)]
theorem z_share_code {M Y : z_M} {g : Nat} {k : Int} (h22 : Y 22 = M g) (h : (z_kLB M ∧ z_gtp (z_kLR M) 12 < M g 0) ↔ z_shok Y) : z_c_share Y k = z_c_shareC M g k := by
  unfold z_c_share z_c_shareC
  have h1 : Y 22 1 = M g 1 := by rw [h22]
  have h2 : Y 22 (86 + 5 * k + 2) = M g (86 + 5 * k + 2) := by rw [h22]
  by_cases c1 : ¬ (0 ≤ k ∧ k < M g 1)
  · rw [if_pos (by rw [h1]; exact c1), if_pos c1]
  · rw [if_neg (by rw [h1]; exact c1), if_neg c1]
    by_cases c2 : z_shok Y
    · rw [if_neg (c := ¬ z_shok Y) (fun q => q c2), if_neg (c := ¬ (z_kLB M ∧ z_gtp (z_kLR M) 12 < M g 0)) (fun q => q (h.mpr c2)), h2]
    · rw [if_pos c2, if_pos (fun q => c2 (h.mp q))]
theorem z_eC_sh (M : z_M) : z_eC M (z_shZ M) := by
  refine ⟨fun r hr => z_c2_row (by omega), fun i i0 i1 => ?_⟩
  show z_sR (z_sR M 7 _) 9 _ 7 i = _
  rw [z_sR_ne _ _ (by decide), z_sR_self, z_kLF_o (by omega)]
theorem z_MX_21 (Y : z_M) {i : Int} (h : i < 5) : z_MX Y 21 i = z_sM Y 21 4 0 21 i := (congrFun (z_t2_21 (z_sM Y 21 4 0) _ _) i).trans (z_Lf_o _ (by omega))
theorem z_eR_MX (Y : z_M) (c : Int) : z_eR Y (z_sM (z_MX Y) 21 4 c) := by
  refine ⟨fun r hr => ?_, fun i hi => ?_⟩
  · show z_sM (z_sR (z_sR _ 21 _) 26 _) 21 4 c r = _
    rw [z_sM_row _ _ _ (by omega), z_sR_ne _ _ (by omega), z_sR_ne _ _ (by omega), z_sM_row _ _ _ (by omega)]
  · rw [z_sM_ne _ _ _ (by omega), z_MX_21 _ (by omega), z_sM_ne _ _ _ (by omega)]
theorem z_st_share {G : z_G} {M : z_M} {N : Int} {k : Int} (rk : z_rg k) (h : z_Rel M N) (hN : N + 1 ≤ 600) : z_Stp (fun M y_k M1 => KL_share G [.ref (z_ad G 0 20), z_I k, .ref (z_ad G 0 60)] M y_k M1) (fun M y_b M2 => KX7_share G [.ref (z_ad G 0 40), z_I k] M (.inl (some (z_I y_b))) M2) M N := by
  obtain ⟨g, h⟩ := h
  have hh := h
  obtain ⟨hg, hn, h0, hs, hs2, ho, hb, h22, ht, hx, hv⟩ := hh
  have s0 : 0 ≤ M 7 1 := by omega
  have s1 : M 7 1 ≤ 6 := by omega
  have hz := z_BI_h hb
  have y_t : ∀ i, 0 ≤ i → i < M 7 3 → 33 ≤ M 8 i ∧ M 8 i ≤ 126 := fun i i0 i1 => (hx i i0 i1).2
  have hc : z_c_shareC M g k = 0 ∨ z_c_shareC M g k = 1 ∨ z_c_shareC M g k = 2 ∨ z_c_shareC M g k = 3 := by unfold z_c_shareC; (repeat' split) <;> omega
  have cod : ∀ Y : z_M, Y 22 = M g → Y 21 = M 21 → Y 25 = M 25 → z_c_share Y k = z_c_shareC M g k := fun Y y2 y21 y25 =>
    z_share_code y2 (z_shok_iff (M := M) (Y := Y) (g := g) hz.2.1.1 ht.2.1 (by rw [y21]; exact ht.1) (fun i i0 i1 => by rw [y25]; exact (hx i i0 i1).1) y2).1
  have tr : ∀ Y : z_M, Y 22 = M g → Y 21 = M 21 → Y 25 = M 25 → z_BI (Y 22) N ∧ (0 ≤ Y 21 2 ∧ Y 21 2 ≤ 6) ∧ (0 ≤ Y 21 3 ∧ Y 21 3 ≤ 60) ∧ ∀ i, 0 ≤ i → i < Y 21 3 → 33 ≤ Y 25 i ∧ Y 25 i ≤ 126 := fun Y y2 y21 y25 => by
    rw [y2, y21, y25]
    refine ⟨hb, hs2, by omega, fun i i0 i1 => ?_⟩
    rw [← (hx i i0 (by omega)).1]
    exact y_t i i0 (by omega)
  rcases hc with hc | hc | hc | hc
  · have hA := tL_share (tX6_share (G := G) hg hn h0 s0 s1 ho hb ht.2.1 ht.2.2 y_t rk hc)
    obtain ⟨V, y_V⟩ : ∃ V, z_aP (z_o_share (M g) k (z_kLR M)) k = V := ⟨_, rfl⟩
    obtain ⟨Y, y_Y⟩ : ∃ Y, z_sM (z_sM (z_sR (z_SC (z_shZ M) g) (z_sg g) (z_o_share (M g) k (z_kLR M))) 7 3 0) 32 0 (z_iw V) = Y := ⟨_, rfl⟩
    rw [y_V, y_Y] at hA
    have hq := z_sg_lt g
    have eZ := z_eC_sh M
    have Yr : ∀ r, r ≠ z_sg g → r < 7 ∨ r = 8 ∨ (20 ≤ r ∧ r ≠ 32) → Y r = M r := fun r hr hr2 => by
      rw [← y_Y, z_sM_row _ _ _ (by omega), z_sM_row _ _ _ (by omega), z_sR_ne _ _ hr, z_SC_row (by omega) hr]; exact eZ.1 r hr2
    have Yq : Y (z_sg g) = z_o_share (M g) k (z_kLR M) := by rw [← y_Y, z_sM_row _ _ _ (by omega), z_sM_row _ _ _ (by omega), z_sR_self]
    have w7 : ∀ i, i ≠ 3 → Y 7 i = z_SC (z_shZ M) g 7 i := fun i hi => by rw [← y_Y, z_sM_row _ _ _ (by omega), z_sM_ne _ _ _ hi, z_sR_ne _ _ (by omega)]
    have Y3 : Y 7 3 = 0 := by rw [← y_Y, z_sM_row _ _ _ (by omega), z_sM_self]
    have Yo : Y 32 0 = z_iw V := by rw [← y_Y, z_sM_self]
    have Y1 : Y 7 1 = z_mn (M 7 1 + 1) 6 := by rw [w7 1 (by decide), z_SC_71, eZ.2 1 (by decide) (by decide)]
    have y2 : Y 22 = M g := (Yr 22 (by omega) (by omega)).trans h22
    have y21 : Y 21 = M 21 := Yr 21 (by omega) (by omega)
    have y25 : Y 25 = M 25 := Yr 25 (by omega) (by omega)
    have y8 : Y 8 = M 8 := Yr 8 (by omega) (by omega)
    have sk := z_shok_iff (M := M) (Y := Y) (g := g) hz.2.1.1 ht.2.1 (by rw [y21]; exact ht.1) (fun i i0 i1 => by rw [y25]; exact (hx i i0 i1).1) y2
    have y_k : (0 ≤ k ∧ k < M g 1) ∧ z_kLB M ∧ z_gtp (z_kLR M) 12 < M g 0 := by
      unfold z_c_shareC at hc
      split at hc
      · omega
      · rename_i q1
        split at hc
        · omega
        · rename_i q2; exact ⟨Classical.not_not.mp q1, Classical.not_not.mp q2⟩
    have k2 : k < 20 := by omega
    have kr := sk.2 y_k.2.1
    have ts := tr Y y2 y21 y25
    have hB := tX7_share (G := G) (M := Y) (N := N) ts.1 ts.2.1.1 ts.2.1.2 ts.2.2.1.1 ts.2.2.1.2 ts.2.2.2 rk (c := 0) (by rw [cod Y y2 y21 y25]; exact hc)
    have oe : z_o_share (M g) k (z_Lr (z_sM Y 21 4 0)) = z_o_share (M g) k (z_kLR M) := by
      unfold z_o_share
      rw [z_cp_eq (fun q q0 q1 => (kr.1 q q0 (by omega)).symm)]
    have ve : z_sm 12 (fun p => z_Lr (z_sM Y 21 4 0) p) = V := by
      rw [← y_V]
      unfold z_aP
      refine z_sm_eq fun i hi => ?_
      unfold z_o_share
      rw [z_uf_ne _ _ (by omega)]
      unfold z_cp
      rw [if_pos (by omega), ← kr.1 i (by omega) (by omega)]
      congr 1
      omega
    rw [if_pos rfl, if_neg (by decide), if_pos rfl, y2, oe, ve] at hB
    have gz : ∀ p, M g 0 ≤ p → p < 12 → z_kLR M p = 0 := fun p p0 p1 => by
      have gi := (z_gtp_iff (r := z_kLR M) (n := M g 0) hz.2.1.1 (fun p p0 p1 => (z_kLR_rg p p0 p1).1) 12 (by decide)).mp y_k.2.2
      have s1 := z_sm_1 (n := 12) (f := fun p => if M g 0 ≤ p ∧ z_kLR M p ≠ 0 then (1 : Int) else 0) (fun i _ => by show 0 ≤ (if _ then (1 : Int) else 0); split <;> decide) (i := p.toNat) (by omega)
      rw [gi, show ((p.toNat : Nat) : Int) = p by omega] at s1
      by_cases e0 : z_kLR M p = 0
      · exact e0
      · exfalso
        have s2 : (if M g 0 ≤ p ∧ z_kLR M p ≠ 0 then (1 : Int) else 0) ≤ 0 := s1
        rw [if_pos ⟨p0, e0⟩] at s2
        omega
    have hk : z_BI (z_o_share (M g) k (z_kLR M)) (N + 1) := by
      refine z_k_parts hb hN y_k.1.1 y_k.1.2 z_kLR_rg gz kr.2.1 kr.2.2 (Or.inl ?_) (fun q q0 q1 => ?_) ?_ (fun j j6 j3 jn => ?_)
      · unfold z_o_share; rw [z_uf_ne _ _ (by omega)]; unfold z_cp; rw [if_neg (by omega)]
      · unfold z_o_share; rw [z_uf_ne _ _ (by omega)]; unfold z_cp; rw [if_pos (by omega)]; congr 1; omega
      · unfold z_o_share; rw [z_uf_self]
      · unfold z_o_share; rw [z_uf_ne _ _ (by omega)]; unfold z_cp; rw [if_neg (by omega)]
    obtain ⟨X, y_X⟩ : ∃ X, z_sM (z_sR (z_SV (z_MX Y)) 22 (z_o_share (M g) k (z_kLR M))) 21 3 0 = X := ⟨_, rfl⟩
    rw [y_X] at hB
    have mr : ∀ r, r ≠ 21 → r ≠ 26 → z_MX Y r = Y r := fun r h1 h2 => by
      show z_sR (z_sR _ 21 _) 26 _ r = _
      rw [z_sR_ne _ _ h2, z_sR_ne _ _ h1, z_sM_row _ _ _ h1]
    have m2 : ∀ i, i ≠ 4 → i < 5 → z_MX Y 21 i = Y 21 i := fun i h4 h5 => by rw [z_MX_21 _ h5, z_sM_ne _ _ _ h4]
    have m4 : z_MX Y 21 4 = 0 := by rw [z_MX_21 _ (by decide), z_sM_self]
    have Xr : ∀ r, r < 20 ∨ r = 25 ∨ r = 32 → X r = Y r := fun r hr => by rw [← y_X, z_sM_row _ _ _ (by omega), z_sR_ne _ _ (by omega), z_SV_row (by omega) (by omega), mr r (by omega) (by omega)]
    have X22 : X 22 = z_o_share (M g) k (z_kLR M) := by rw [← y_X, z_sM_row _ _ _ (by decide), z_sR_self]
    have X24 : X 24 = z_rows (M 24) (M 22) (M 21 2) := by
      rw [← y_X, z_sM_row _ _ _ (by decide), z_sR_ne _ _ (by decide)]
      unfold z_SV
      rw [z_sM_row _ _ _ (by decide), z_sR_self, mr 24 (by decide) (by decide), mr 22 (by decide) (by decide), m2 2 (by decide) (by decide), y21, y2, h22, Yr 24 (by omega) (by omega)]
    have X2 : X 21 2 = z_rn (M 21 2) := by
      rw [← y_X, z_sM_ne _ _ _ (by decide), z_sR_ne _ _ (by decide)]
      unfold z_SV
      rw [z_sM_self, m2 2 (by decide) (by decide), y21]
    have X3 : X 21 3 = 0 := by rw [← y_X, z_sM_self]
    have X4 : X 21 4 = 0 := by rw [← y_X, z_sM_ne _ _ _ (by decide), z_sR_ne _ _ (by decide), z_SV_21 (by decide), m4]
    have x7 : X 7 = Y 7 := Xr 7 (by omega)
    refine ⟨_, _, _, _, hA, hB, X4, fun _ => by rw [Xr 32 (by omega)]; exact Yo, z_sg g, z_Rg_save (c := z_o_share (M g) k (z_kLR M)) h hN hk (fun r hr hr2 => (Xr r (by omega)).trans (Yr r hr2 (by omega))) ((Xr _ (by omega)).trans Yq) X22 (by rw [x7, w7 0 (by decide)]; exact z_SC_70 _ _) (by rw [x7, w7 2 (by decide)]; exact z_SC_72 _ _) (by rw [x7]; exact Y1) X2 X24 ?_ ?_⟩
    · rw [X3, x7, Y3]; exact ⟨rfl, by decide, by decide⟩
    · rw [x7, Y3]; intro i i0 i1; omega
  · have ts := tr M h22 rfl rfl
    have hB := tX7_share (G := G) (M := M) (N := N) ts.1 ts.2.1.1 ts.2.1.2 ts.2.2.1.1 ts.2.2.1.2 ts.2.2.2 rk (c := 1) (by rw [cod M h22 rfl rfl]; exact hc)
    rw [if_neg (by decide), if_pos rfl] at hB
    exact z_stp_ex h hN (by decide) (tL_share_x1 (tX6_share_x1 hg hn h0 s0 s1 ho hb ht.2.1 ht.2.2 y_t rk hc)) hB
  · have e := z_eC_sh M
    have e2 := z_eC_22 h e
    have ts := tr _ e2.1 e2.2 (e.1 25 (by omega))
    have hB := tX7_share (G := G) (M := z_shZ M) (N := N) ts.1 ts.2.1.1 ts.2.1.2 ts.2.2.1.1 ts.2.2.1.2 ts.2.2.2 rk (c := 2) (by rw [cod _ e2.1 e2.2 (e.1 25 (by omega))]; exact hc)
    rw [if_neg (by decide), if_neg (by decide), if_neg (by decide)] at hB
    exact z_stp_same h hN (tL_share_x2 (tX6_share_x2 hg hn h0 s0 s1 ho hb ht.2.1 ht.2.2 y_t rk hc)) e hB (z_eR_MX _ 2) (z_sM_self _ _ _ _) (fun q => absurd q (by decide))
  · have e := z_eC_sh M
    have e2 := z_eC_22 h e
    have ts := tr _ e2.1 e2.2 (e.1 25 (by omega))
    have hB := tX7_share (G := G) (M := z_shZ M) (N := N) ts.1 ts.2.1.1 ts.2.1.2 ts.2.2.1.1 ts.2.2.1.2 ts.2.2.2 rk (c := 3) (by rw [cod _ e2.1 e2.2 (e.1 25 (by omega))]; exact hc)
    rw [if_neg (by decide), if_neg (by decide), if_neg (by decide)] at hB
    exact z_stp_same h hN (tL_share_x3 (tX6_share_x3 hg hn h0 s0 s1 ho hb ht.2.1 ht.2.2 y_t rk hc)) e hB (z_eR_MX _ 3) (z_sM_self _ _ _ _) (fun q => absurd q (by decide))
