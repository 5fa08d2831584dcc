/-! ===== steps: texts, the way back, money ===== -/
theorem z_st_nextYear {G : z_G} {M : z_M} {N : Int} (h : z_Rel M N) (hN : N + 1 ≤ 600) : z_StD (fun M y_b M1 => KX6_nextYear G [.ref (z_ad G 0 20)] M (.inl (some (z_I y_b))) M1) (fun M y_b M2 => KX7_nextYear G [.ref (z_ad G 0 40)] M (.inl (some (z_I y_b))) M2) M N := by
  obtain ⟨g, h⟩ := h
  have hh := h
  obtain ⟨hg, hn, h0, hs, hs2, ho, hb, h22, ht, hx, hv⟩ := hh
  have s0 : 0 ≤ M 7 1 := by omega
  have s1 : M 7 1 ≤ 6 := by omega
  have e := z_eS_sv (M := M) (g := g) (o := z_o_nextYear (M g))
  have e2 := z_eS_22 h e
  have hA := tX6_nextYear (G := G) hg hn h0 s0 s1 ho hb
  have hB := tX7_nextYear (G := G) (M := z_sR (z_SC M g) (z_sg g) (z_o_nextYear (M g))) (N := N) (by rw [e2.1]; exact hb) (by rw [e2.2]; omega) (by rw [e2.2]; omega)
  rw [e2.1] at hB
  exact ⟨_, _, _, hA, hB, z_rel_save h hN (z_k_nextYear hb hN) e z_eT_sv⟩
theorem z_st_clearBuffer {G : z_G} {M : z_M} {N : Int} (h : z_Rel M N) (hN : N + 1 ≤ 600) : z_StD (fun M y_b M1 => KX6_clearBuffer G [.ref (z_ad G 0 20)] M (.inl (some (z_I y_b))) M1) (fun M y_b M2 => KX7_clearBuffer G [.ref (z_ad G 0 40)] M (.inl (some (z_I y_b))) M2) M N := by
  obtain ⟨g, h⟩ := h
  have hh := h
  obtain ⟨hg, hn, h0, hs, hs2, ho, hb, h22, ht, hx, hv⟩ := hh
  have s0 : 0 ≤ M 7 1 := by omega
  have s1 : M 7 1 ≤ 6 := by omega
  have hA := tX6_clearBuffer (G := G) (M := M)
  have hB := tX7_clearBuffer (G := G) (M := z_sM M 7 3 0)
  have q21 : z_sM M 7 3 0 21 = M 21 := z_sM_row _ _ _ (by decide)
  rw [q21, ht.1] at hB
  have w7 : z_sM (z_sM (z_sM M 7 3 0) 21 4 0) 21 3 0 7 = z_sM M 7 3 0 7 := by rw [z_sM_row _ _ _ (by decide), z_sM_row _ _ _ (by decide)]
  have w3 : z_sM (z_sM (z_sM M 7 3 0) 21 4 0) 21 3 0 7 3 = 0 := by rw [w7, z_sM_self]
  refine ⟨_, _, _, hA, hB, g, z_Rg_keep h hN (fun r hr => ?_) (fun i i0 i1 => ?_) ?_ ?_ ?_⟩
  · rw [z_sM_row _ _ _ (by omega), z_sM_row _ _ _ (by omega), z_sM_row _ _ _ (by omega)]
  · rw [w7, z_sM_ne _ _ _ (by omega)]
  · rw [z_sM_ne _ _ _ (by decide), z_sM_ne _ _ _ (by decide), q21]
  · rw [w3, z_sM_self]; exact ⟨rfl, by decide, by decide⟩
  · rw [w3]; intro i i0 i1; omega
theorem z_f0_o {f : Int → Int} {j : Int} (h : j < 5 ∨ 9 < j) : z_f0 f j = f j := by
  unfold z_f0; rw [z_uf_ne _ _ (by omega), z_uf_ne _ _ (by omega), z_uf_ne _ _ (by omega)]
theorem z_kF0_o {f : Int → Int} {j : Int} (h : j < 4 ∨ 7 < j) : z_kF0 f j = f j := by
  unfold z_kF0; rw [z_uf_ne _ _ (by omega), z_uf_ne _ _ (by omega), z_uf_ne _ _ (by omega), z_uf_ne _ _ (by omega)]
theorem z_st_firstError {G : z_G} {M : z_M} {N : Int} (h : z_Rel M N) (hN : N + 1 ≤ 600) : z_StD (fun M y_b M1 => KX6_firstError G [.ref (z_ad G 0 20)] M (.inl (some (z_I y_b))) M1) (fun M y_b M2 => KX7_firstError G [.ref (z_ad G 0 40)] M (.inl (some (z_I y_b))) M2) M N := by
  obtain ⟨g, h⟩ := h
  have hh := h
  obtain ⟨hg, hn, h0, hs, hs2, ho, hb, h22, ht, hx, hv⟩ := hh
  have s0 : 0 ≤ M 7 1 := by omega
  have s1 : M 7 1 ≤ 6 := by omega
  have hA := tX6_firstError (G := G) ht.2.1 ht.2.2 (fun i i0 i1 => (hx i i0 i1).2) rfl
  obtain ⟨Y, y_Y⟩ : ∃ Y, z_c2 M (z_KR M).2.1 (z_KR M).2.2 = Y := ⟨_, rfl⟩
  have e : z_eC M Y := by
    rw [← y_Y]
    refine ⟨fun r hr => z_c2_row (by omega), fun i i0 i1 => ?_⟩
    show z_sR (z_sR M 7 _) 9 _ 7 i = _
    rw [z_sR_ne _ _ (by decide), z_sR_self, z_krd_o _ (by omega), z_kF0_o (by omega)]
  rw [y_Y] at hA
  have e2 := z_eC_22 h e
  have t25 : Y 25 = M 25 := e.1 25 (by omega)
  have hB := tX7_firstError (G := G) (M := Y) (by rw [e2.2]; omega) (by rw [e2.2]; omega) (fun i i0 i1 => by
    rw [e2.2, ht.1] at i1
    rw [t25, ← (hx i i0 i1).1]; exact (hx i i0 i1).2) rfl
  have w25 : z_sM Y 21 4 0 25 = M 25 := (z_sM_row _ _ _ (by decide)).trans t25
  have q := (z_list_eq (M0 := M) (M := z_sM Y 21 4 0) ht.2.1 (by rw [z_sM_ne _ _ _ (by decide), e2.2]; exact ht.1) (fun i i0 i1 => by rw [w25]; exact (hx i i0 i1).1)).1
  rw [← q] at hB
  refine z_std_same h hN hA e hB ⟨fun r hr => ?_, fun i hi => ?_⟩
  · show z_sR (z_sR _ 21 _) 26 _ r = _
    rw [z_sR_ne _ _ (by omega), z_sR_ne _ _ (by omega), z_sM_row _ _ _ (by omega)]
  · rw [z_t2_21, z_rd_o _ (by omega), z_f0_o (by omega), z_sM_ne _ _ _ (by omega)]
theorem z_st_append {G : z_G} {M : z_M} {N : Int} {x : Int} (rx : z_rg x) (h : z_Rel M N) (hN : N + 1 ≤ 600) : z_Stp (fun M y_k M1 => KL_append G [.ref (z_ad G 0 20), z_I x, .ref (z_ad G 0 60)] M y_k M1) (fun M y_b M2 => KX7_append G [.ref (z_ad G 0 40), z_I x] M (.inl (some (z_I y_b))) M2) M N := by
  obtain ⟨g, h⟩ := h
  have hh := h
  obtain ⟨hg, hn, h0, hs, hs2, ho, hb, h22, ht, hx, hv⟩ := hh
  have s0 : 0 ≤ M 7 1 := by omega
  have s1 : M 7 1 ≤ 6 := by omega
  have hc : z_c_append (M 7 3) x = 0 ∨ z_c_append (M 7 3) x = 1 ∨ z_c_append (M 7 3) x = 2 := by unfold z_c_append; (repeat' split) <;> omega
  rcases hc with hc | hc | hc
  · have hA := tL_append (tX6_append (G := G) rfl ht.2.1 ht.2.2 rx hc)
    have y_x : (33 ≤ x ∧ x ≤ 126) ∧ M 7 3 ≠ 60 := by unfold z_c_append at hc; (repeat' split at hc) <;> omega
    obtain ⟨l, y_l⟩ : ∃ l, M 7 3 = l := ⟨_, rfl⟩
    rw [y_l] at hA hc ht y_x hx
    obtain ⟨Y, y_Y⟩ : ∃ Y, z_sM (z_sM (z_sM M 8 l x) 7 3 (l + 1)) 32 0 (z_iw (l + 1)) = Y := ⟨_, rfl⟩
    rw [y_Y] at hA
    have Yr : ∀ r, r < 7 ∨ (20 ≤ r ∧ r ≠ 32) → Y r = M r := fun r hr => by rw [← y_Y, z_sM_row _ _ _ (by omega), z_sM_row _ _ _ (by omega), z_sM_row _ _ _ (by omega)]
    have Y7 : ∀ i, i ≤ 2 → Y 7 i = M 7 i := fun i hi => by rw [← y_Y, z_sM_row _ _ _ (by decide), z_sM_ne _ _ _ (by omega), z_sM_row _ _ _ (by decide)]
    have Y73 : Y 7 3 = l + 1 := by rw [← y_Y, z_sM_row _ _ _ (by decide), z_sM_self]
    have Y8 : ∀ i, Y 8 i = if i = l then x else M 8 i := fun i => by
      rw [← y_Y, z_sM_row _ _ _ (by decide), z_sM_row _ _ _ (by decide)]
      split
      · rename_i q; rw [q, z_sM_self]
      · rename_i q; rw [z_sM_ne _ _ _ q]
    have Yo : Y 32 0 = z_iw (l + 1) := by rw [← y_Y, z_sM_self]
    have q21 : Y 21 = M 21 := Yr 21 (by omega)
    have hB := tX7_append (G := G) (M := Y) rx (l := l) (by rw [q21]; exact ht.1) ht.2.1 ht.2.2 hc
    rw [if_pos rfl, if_pos rfl] at hB
    obtain ⟨X, y_X⟩ : ∃ X, z_sM (z_sM (z_sM Y 21 4 0) 25 l x) 21 3 (l + 1) = X := ⟨_, rfl⟩
    rw [y_X] at hB
    have Xr : ∀ r, r ≠ 21 → r ≠ 25 → X r = Y r := fun r h1 h2 => by rw [← y_X, z_sM_row _ _ _ h1, z_sM_row _ _ _ h2, z_sM_row _ _ _ h1]
    have X2 : ∀ i, i ≠ 3 → i ≠ 4 → X 21 i = Y 21 i := fun i h3 h4 => by rw [← y_X, z_sM_ne _ _ _ h3, z_sM_row _ _ _ (by decide), z_sM_ne _ _ _ h4]
    have X3 : X 21 3 = l + 1 := by rw [← y_X, z_sM_self]
    have X4 : X 21 4 = 0 := by rw [← y_X, z_sM_ne _ _ _ (by decide), z_sM_row _ _ _ (by decide), z_sM_self]
    have X25 : ∀ i, X 25 i = if i = l then x else M 25 i := fun i => by
      rw [← y_X, z_sM_row _ _ _ (by decide)]
      split
      · rename_i q; rw [q, z_sM_self]
      · rename_i q; rw [z_sM_ne _ _ _ q, z_sM_row _ _ _ (by decide), Yr 25 (by omega)]
    have w7 : X 7 = Y 7 := Xr 7 (by decide) (by decide)
    refine ⟨_, _, _, _, hA, hB, X4, fun _ => by rw [Xr 32 (by decide) (by decide)]; exact Yo, g, z_Rg_keep h hN (fun r hr => (Xr r (by omega) (by omega)).trans (Yr r (by omega))) (fun i i0 i1 => by rw [w7]; exact Y7 i i1) (by rw [X2 2 (by decide) (by decide), q21]) ?_ ?_⟩
    · rw [X3, w7, Y73]; omega
    · rw [w7, Y73, Xr 8 (by decide) (by decide)]
      intro i i0 i1
      rw [Y8, X25]
      by_cases q : i = l
      · rw [if_pos q, if_pos q]; omega
      · rw [if_neg q, if_neg q]; exact hx i i0 (by omega)
  · have hB := tX7_append (G := G) (M := M) rx (l := M 7 3) ht.1 ht.2.1 ht.2.2 hc
    rw [if_neg (by decide), if_neg (by decide)] at hB
    exact z_stp_ex h hN (by decide) (tL_append_x1 (tX6_append_x1 rfl ht.2.1 ht.2.2 rx hc)) hB
  · have hB := tX7_append (G := G) (M := M) rx (l := M 7 3) ht.1 ht.2.1 ht.2.2 hc
    rw [if_neg (by decide), if_neg (by decide)] at hB
    exact z_stp_ex h hN (by decide) (tL_append_x2 (tX6_append_x2 rfl ht.2.1 ht.2.2 rx hc)) hB
theorem z_st_undo {G : z_G} {M : z_M} {N : Int} (h : z_Rel M N) (hN : N + 1 ≤ 600) : z_Stp (fun M y_k M1 => KL_undo G [.ref (z_ad G 0 20), .ref (z_ad G 0 60)] M y_k M1) (fun M y_b M2 => KX7_undo G [.ref (z_ad G 0 40)] M (.inl (some (z_I y_b))) M2) M N := by
  obtain ⟨g, h⟩ := h
  have hh := h
  obtain ⟨hg, hn, h0, hs, hs2, ho, hb, h22, ht, hx, hv⟩ := hh
  have s0 : 0 ≤ M 7 1 := by omega
  have s1 : M 7 1 ≤ 6 := by omega
  by_cases c : M 7 1 = 0
  · have hB := tX7_undo (G := G) (M := M) rfl hs2.1 hs2.2 (c := 1) (by rw [if_pos (hs ▸ c)])
    rw [if_neg (by decide), if_neg (by decide)] at hB
    exact z_stp_ex h hN (by decide) (tL_undo_x1 (tX6_undo_x1 hg h0 rfl s0 s1 c)) hB
  · have hA := tL_undo (tX6_undo (G := G) hg h0 rfl s0 s1 c)
    obtain ⟨Y, y_Y⟩ : ∃ Y, z_sM (z_sM (z_sM (z_sM M 7 0 (z_ug6 g : Nat)) 7 2 (z_ug6 g : Nat)) 7 1 (M 7 1 - 1)) 32 0 (z_iw (M 7 1 - 1)) = Y := ⟨_, rfl⟩
    rw [y_Y] at hA
    have Yr : ∀ r, r ≠ 7 → r ≠ 32 → Y r = M r := fun r h1 h2 => by rw [← y_Y, z_sM_row _ _ _ h2, z_sM_row _ _ _ h1, z_sM_row _ _ _ h1, z_sM_row _ _ _ h1]
    have Y0 : Y 7 0 = (z_ug6 g : Nat) := by rw [← y_Y, z_sM_row _ _ _ (by decide), z_sM_ne _ _ _ (by decide), z_sM_ne _ _ _ (by decide), z_sM_self]
    have Y2 : Y 7 2 = (z_ug6 g : Nat) := by rw [← y_Y, z_sM_row _ _ _ (by decide), z_sM_ne _ _ _ (by decide), z_sM_self]
    have Y1 : Y 7 1 = M 7 1 - 1 := by rw [← y_Y, z_sM_row _ _ _ (by decide), z_sM_self]
    have Y3 : Y 7 3 = M 7 3 := by rw [← y_Y, z_sM_row _ _ _ (by decide), z_sM_ne _ _ _ (by decide), z_sM_ne _ _ _ (by decide), z_sM_ne _ _ _ (by decide)]
    have Yo : Y 32 0 = z_iw (M 7 1 - 1) := by rw [← y_Y, z_sM_self]
    have q21 : Y 21 = M 21 := Yr 21 (by decide) (by decide)
    have hB := tX7_undo (G := G) (M := Y) (s := M 7 1) (by rw [q21]; exact hs.symm) s0 s1 (c := 0) (by rw [if_neg c])
    rw [if_pos rfl, if_pos rfl, Yr 22 (by decide) (by decide), Yr 24 (by decide) (by decide)] at hB
    obtain ⟨X, y_X⟩ : ∃ X, z_sR (z_sM (z_sM Y 21 4 0) 21 2 (M 7 1 - 1)) 22 (z_cp (M 22) (M 24) 0 (906 * (M 7 1 - 1)) 906) = X := ⟨_, rfl⟩
    rw [y_X] at hB
    have Xr : ∀ r, r ≠ 21 → r ≠ 22 → X r = Y r := fun r h1 h2 => by rw [← y_X, z_sR_ne _ _ h2, z_sM_row _ _ _ h1, z_sM_row _ _ _ h1]
    have X2 : X 21 2 = M 21 2 - 1 := by rw [← y_X, z_sR_ne _ _ (by decide), z_sM_self, hs]
    have X3 : X 21 3 = M 21 3 := by rw [← y_X, z_sR_ne _ _ (by decide), z_sM_ne _ _ _ (by decide), z_sM_ne _ _ _ (by decide), q21]
    have X4 : X 21 4 = 0 := by rw [← y_X, z_sR_ne _ _ (by decide), z_sM_ne _ _ _ (by decide), z_sM_self]
    have w7 : X 7 = Y 7 := Xr 7 (by decide) (by decide)
    exact ⟨_, _, _, _, hA, hB, X4, fun _ => by rw [Xr 32 (by decide) (by decide)]; exact Yo, z_ug6 g, z_Rg_undo h hN (by omega) (fun r hr => (Xr r (by omega) (by omega)).trans (Yr r (by omega) (by omega))) (by rw [w7]; exact Y0) (by rw [w7]; exact Y2) (by rw [w7]; exact Y1) (by rw [w7]; exact Y3) X2 X3 (by rw [← y_X, z_sR_self, hs])⟩
