/-! ===== the readers are the same ===== -/
def z_Rr (F r f r' : Int → Int) : Prop := F 4 = f 5 ∧ F 7 = f 6 ∧ (∀ p, 0 ≤ p → p < 12 → r p = r' p ∧ (z_us f p ↔ r p ≠ 0)) ∧ (f 5 = 0 → F 6 = 1) ∧ (f 5 ≠ 0 → F 5 = f 8 ∧ F 6 = f 9) ∧ (f 5 = 1 → F 5 = 1) ∧ (f 5 = 2 ∨ f 5 = 3 ∨ f 5 = 4 → r (F 5) = 0) ∧ z_PK F r ∧ F 7 < 4 ∧ z_sm 12 (fun p => if 0 < r p then 1 else 0) = F 7 ∧ 0 ≤ f 7 ∧ f 7 < 4096
theorem z_Rr_0 (F r f r' : Int → Int) : z_Rr (z_kF0 F) (z_kr0 r) (z_f0 f) (z_r0 r') := by
  have z : ∀ (x : Int → Int) p, 0 ≤ p → p < 12 → z_cp x (fun _ => 0) 0 0 12 p = 0 := fun x p p0 p1 => by unfold z_cp; rw [if_pos (by omega)]
  have f5 : z_f0 f 5 = 0 := by unfold z_f0 z_uf; simp
  have f6 : z_f0 f 6 = 0 := by unfold z_f0 z_uf; simp
  have f7 : z_f0 f 7 = 0 := by unfold z_f0 z_uf; simp
  have F4 : z_kF0 F 4 = 0 := by unfold z_kF0 z_uf; simp
  have F6 : z_kF0 F 6 = 1 := by unfold z_kF0 z_uf; simp
  have F7 : z_kF0 F 7 = 0 := by unfold z_kF0 z_uf; simp
  refine ⟨by rw [F4, f5], by rw [F7, f6], fun p p0 p1 => ?_, fun _ => F6, fun h => absurd f5 h, fun h => by omega, fun h => by omega, z_PK_0 F r, by omega, ?_, by omega, by omega⟩
  · unfold z_kr0 z_r0
    rw [z r p p0 p1, z r' p p0 p1]
    refine ⟨rfl, fun h => ?_, fun h => absurd rfl h⟩
    unfold z_us at h
    rw [f7, z_bit_0] at h
    omega
  · rw [F7]
    exact z_sm_z (fun i hi => by show (if 0 < z_kr0 r i then (1 : Int) else 0) = 0; unfold z_kr0; rw [z r i (by omega) (by omega)]; rfl)
/-- another place, number, parts: the parts of the list as they are -/
theorem z_Rr_it {F r f r' G h : Int → Int} {x a c : Int} (R : z_Rr F r f r') (G4 : G 4 = x) (G5 : G 5 = a) (G6 : G 6 = c) (G7 : G 7 = F 7) (h5 : h 5 = x) (h6 : h 6 = f 6) (h7 : h 7 = f 7) (h8 : h 8 = a) (h9 : h 9 = c) (x0 : 1 ≤ x) (x1 : x ≤ 4) (a0 : 0 ≤ a) (a1 : a < 12) (c0 : 1 ≤ c) (c1 : c ≤ 9) (e1 : x = 1 → a = 1) (e2 : x ≠ 1 → r a = 0) : z_Rr G r h r' := by
  obtain ⟨r1, r2, r3, r4, r5, r6, r7, r8, r9, r10, r11, r12⟩ := R
  obtain ⟨p1, p2, p3, p4, p5, p6, p7, p8, p9⟩ := r8
  refine ⟨by omega, by omega, fun p p0 p1 => ?_, fun q => by omega, fun _ => ⟨by omega, by omega⟩, fun q => by have := e1 (by omega); omega, fun q => by rw [G5]; exact e2 (by omega), ⟨by omega, by omega, by omega, by omega, by omega, by omega, by omega, by omega, p9⟩, by omega, by rw [G7]; exact r10, by omega, by omega⟩
  have q := r3 p p0 p1
  unfold z_us at q ⊢
  rw [h7]
  exact q
theorem z_Rr_cnt {r : Int → Int} {a c : Int} (a0 : 0 ≤ a) (a1 : a < 12) (ra : r a = 0) (c0 : 1 ≤ c) : z_sm 12 (fun p => if 0 < z_uf r a c p then 1 else 0) = z_sm 12 (fun p => if 0 < r p then 1 else 0) + 1 := by
  have g := z_sm_uI (f := fun p => if 0 < r p then (1 : Int) else 0) (f' := fun p => if 0 < z_uf r a c p then (1 : Int) else 0) a0 a1 (fun i i0 i1 ne => by show (if 0 < z_uf r a c i then (1 : Int) else 0) = _; rw [z_uf_ne _ _ ne])
  rw [z_uf_self, ra, if_pos (by omega), if_neg (by decide)] at g
  exact g
theorem z_Rr_com {F r f r' : Int → Int} (R : z_Rr F r f r') (f5 : f 5 ≠ 0) (hr : r (F 5) = 0) (h7 : F 7 < 3) : z_Rr (z_uf (z_endF F) 4 0) (z_endW F r) (z_uf (z_endf f) 5 0) (z_endr f r') := by
  have hPK := z_PK_e R.2.2.2.2.2.2.2.1 (by omega) (Int.le_refl 0) (show (0 : Int) ≤ 4 by decide)
  obtain ⟨r1, r2, r3, r4, r5, r6, r7, r8, r9, r10, r11, r12⟩ := R
  obtain ⟨p1, p2, p3, p4, p5, p6, p7, p8, p9⟩ := r8
  have e8 := (r5 f5).1
  have e9 := (r5 f5).2
  have F4 : z_uf (z_endF F) 4 0 4 = 0 := z_uf_self _ _ _
  have F6 : z_uf (z_endF F) 4 0 6 = 1 := by unfold z_endF z_uf; simp
  have F7 : z_uf (z_endF F) 4 0 7 = F 7 + 1 := by unfold z_endF z_uf; simp
  have f5' : z_uf (z_endf f) 5 0 5 = 0 := z_uf_self _ _ _
  have f6' : z_uf (z_endf f) 5 0 6 = f 6 + 1 := by unfold z_endf z_uf; simp
  have f7' : z_uf (z_endf f) 5 0 7 = z_bor (f 7) (f 8) := by unfold z_endf z_uf; simp
  refine ⟨by rw [F4, f5'], by rw [F7, f6', r2], fun p p0 p1' => ?_, fun _ => F6, fun q => absurd f5' q, fun q => by omega, fun q => by omega, hPK, by omega, ?_, by rw [f7']; exact z_bor_nn _ _, by rw [f7']; exact z_bor_lt (n := 12) r11 r12 (by omega) (by omega)⟩
  · have q := r3 p p0 p1'
    unfold z_us at q ⊢
    rw [f7', z_bit_bor (by omega) p0 r11]
    unfold z_endW z_endr
    rw [← e8, ← e9]
    by_cases e : p = F 5
    · subst e
      rw [z_uf_self, z_uf_self, if_pos rfl]
      exact ⟨rfl, fun _ => by omega, fun _ => rfl⟩
    · rw [z_uf_ne _ _ e, z_uf_ne _ _ e, if_neg e]
      exact q
  · rw [F7]
    unfold z_endW
    rw [z_Rr_cnt p3 p4 hr p5, r10]
theorem z_Rr_B {F r f r' : Int → Int} {c : Int} (R : z_Rr F r f r') : (z_kB F r c ↔ z_tB f c) := by
  obtain ⟨r1, r2, r3, r4, r5, r6, r7, r8, r9, r10, r11, r12⟩ := R
  obtain ⟨p1, p2, p3, p4, p5, p6, p7, p8, p9⟩ := r8
  have u1 := (r3 1 (by decide) (by decide)).2
  have u10 := (r3 10 (by decide) (by decide)).2
  have u11 := (r3 11 (by decide) (by decide)).2
  rcases (by omega : F 4 = 0 ∨ F 4 = 1 ∨ F 4 = 2 ∨ F 4 = 3 ∨ F 4 = 4) with e | e | e | e | e
  · rw [← z_kB0 e]
    have t : z_tB f c ↔ z_rbB f c := ⟨fun q => by
      rcases q with q | q | q
      · exact q.2
      · omega
      · exact absurd (r1.symm.trans e) q.1, fun q => Or.inl ⟨r1.symm.trans e, q⟩⟩
    rw [t]
    constructor
    · rintro (⟨q1, q2⟩ | ⟨q1, q2, q3, q4⟩)
      · subst q1
        exact ⟨⟨by decide, by decide⟩, Or.inl (by decide), fun q => q2 ⟨u1.mp q.2.1, u10.mp q.2.2.1, u11.mp q.2.2.2⟩⟩
      · have u := (r3 (c - 48) (by omega) (by omega)).2
        exact ⟨⟨by omega, by omega⟩, Or.inr (fun q => u.mp q q4), fun q => by omega⟩
    · rintro ⟨⟨q1, q2⟩, q3, q4⟩
      by_cases c1 : c = 49
      · refine Or.inl ⟨c1, fun q => q4 ⟨by omega, u1.mpr q.1, u10.mpr q.2.1, u11.mpr q.2.2⟩⟩
      · have u := (r3 (c - 48) (by omega) (by omega)).2
        refine Or.inr ⟨c1, by omega, by omega, ?_⟩
        rcases q3 with q3 | q3
        · omega
        · exact Classical.byContradiction fun q => q3 (u.mpr q)
  · rw [← z_kB1 e]
    have f5 : f 5 = 1 := by omega
    have t : z_tB f c ↔ (z_ten f c ∨ z_str f c ∨ z_com f c) := ⟨fun q => by
      rcases q with q | q | q
      · omega
      · omega
      · exact q.2.2, fun q => Or.inr (Or.inr ⟨by omega, by omega, q⟩)⟩
    rw [t]
    have ov : z_ovr f ↔ ¬ z_us f 1 := ⟨fun q => by
      rcases q with q | q | q
      · omega
      · omega
      · exact q.2, fun q => Or.inr (Or.inr ⟨f5, q⟩)⟩
    have ov2 : z_ovr f ↔ r 1 = 0 := ov.trans ⟨fun q => Classical.byContradiction fun w => q (u1.mpr w), fun q w => u1.mp w q⟩
    constructor
    · rintro (⟨q1, q2⟩ | ⟨q1, q2, q3, q4⟩)
      · have u := (r3 (10 + c - 48) (by omega) (by omega)).2
        exact Or.inl ⟨f5, q1, fun q => u.mp q q2⟩
      · rcases q4 with q4 | q4
        · exact Or.inr (Or.inl ⟨q4, by omega, ov2.mpr q3⟩)
        · exact Or.inr (Or.inr ⟨q4.1, ov2.mpr q3, by omega⟩)
    · rintro (⟨q1, q2, q3⟩ | ⟨q1, q2, q3⟩ | ⟨q1, q2, q3⟩)
      · have u := (r3 (10 + c - 48) (by omega) (by omega)).2
        exact Or.inl ⟨q2, Classical.byContradiction fun q => q3 (u.mpr q)⟩
      · exact Or.inr ⟨by omega, by omega, ov2.mp q3, Or.inl q1⟩
      · exact Or.inr ⟨by omega, by omega, ov2.mp q2, Or.inr ⟨q1, by omega⟩⟩
  · rw [← z_kB2 e]
    have f5 : f 5 = 2 := by omega
    constructor
    · rintro (q | q)
      · exact Or.inr (Or.inr ⟨by omega, by omega, Or.inr (Or.inl ⟨q, by omega, Or.inl f5⟩)⟩)
      · exact Or.inr (Or.inr ⟨by omega, by omega, Or.inr (Or.inr ⟨q.1, Or.inl f5, by omega⟩)⟩)
    · rintro (q | q | ⟨_, _, q | q | q⟩)
      · omega
      · omega
      · exact absurd q.1 (by omega)
      · exact Or.inl q.1
      · exact Or.inr ⟨q.1, by have := q.2.2; omega⟩
  · rw [← z_kB3 e]
    have f5 : f 5 = 3 := by omega
    constructor
    · intro q
      exact Or.inr (Or.inl ⟨f5, by omega, by omega⟩)
    · rintro (q | q | q)
      · omega
      · omega
      · exact absurd f5 q.2.1
  · rw [← z_kB4 e]
    have f5 : f 5 = 4 := by omega
    constructor
    · intro q
      exact Or.inr (Or.inr ⟨by omega, by omega, Or.inr (Or.inr ⟨q.1, Or.inr (Or.inl f5), by omega⟩)⟩)
    · rintro (q | q | ⟨_, _, q | q | q⟩)
      · omega
      · omega
      · exact absurd q.1 (by omega)
      · exact absurd q.2.1 (by omega)
      · exact ⟨q.1, by have := q.2.2; omega⟩
theorem z_Rr_t {F r f r' : Int → Int} {c : Int} (R : z_Rr F r f r') (hB : z_kB F r c) : z_Rr (z_kfF F c) (z_kfR F r c) (z_tf f c) (z_tr f r' c) := by
  have hT := (z_Rr_B (c := c) R).mp hB
  have RR := R
  obtain ⟨r1, r2, r3, r4, r5, r6, r7, r8, r9, r10, r11, r12⟩ := R
  obtain ⟨p1, p2, p3, p4, p5, p6, p7, p8, p9⟩ := r8
  rcases (by omega : F 4 = 0 ∨ F 4 = 1 ∨ F 4 = 2 ∨ F 4 = 3 ∨ F 4 = 4) with e | e | e | e | e
  · have f5 : f 5 = 0 := by omega
    have b := (z_kB0 e).mpr hB
    have tB : z_rbB f c := by
      rcases hT with q | q | q
      · exact q.2
      · omega
      · exact absurd f5 q.1
    rw [z_kfF0 e, z_kfR0 e]
    have e1 : z_tf f c = z_rbf f c := by unfold z_tf; rw [if_pos f5, if_pos tB]
    have e2 : z_tr f r' c = r' := by unfold z_tr; rw [if_pos (Or.inl f5)]
    rw [e1, e2]
    have F6 := r4 f5
    unfold z_dgF z_rbf
    by_cases c1 : c = 49
    · subst c1
      rw [if_pos rfl, if_pos (by decide)]
      exact z_Rr_it RR (x := 1) (a := 1) (c := 1) (by unfold z_uf; simp) (by unfold z_uf; simp) (by unfold z_uf; simp; exact F6) (by unfold z_uf; simp) (by unfold z_uf; simp) (by unfold z_uf; simp) (by unfold z_uf; simp) (by unfold z_uf; simp) (by unfold z_uf; simp) (by decide) (by decide) (by decide) (by decide) (by decide) (by decide) (fun _ => rfl) (fun q => absurd rfl q)
    · rw [if_neg c1, if_neg (by omega)]
      have b2 : c ≠ 49 ∧ 48 ≤ c ∧ c ≤ 57 ∧ r (c - 48) = 0 := by
        rcases b with b | b
        · exact absurd b.1 c1
        · exact b
      exact z_Rr_it RR (x := 2) (a := c - 48) (c := 1) (by unfold z_uf; simp) (by unfold z_uf; simp) (by unfold z_uf; simp; exact F6) (by unfold z_uf; simp) (by unfold z_uf; simp) (by unfold z_uf; simp) (by unfold z_uf; simp) (by unfold z_uf; simp) (by unfold z_uf; simp) (by decide) (by decide) (by omega) (by omega) (by decide) (by decide) (fun q => absurd q (by decide)) (fun _ => b2.2.2.2)
  · have f5 : f 5 = 1 := by omega
    have b := (z_kB1 e).mpr hB
    have g := r5 (by omega)
    have F5 := r6 f5
    rw [z_kfF1 e, z_kfR1 e]
    have tR : z_tr f r' c = if z_ten f c then r' else if z_str f c then r' else if z_com f c then z_endr f r' else r' := by unfold z_tr; rw [if_neg (by omega)]
    have tF : z_tf f c = if z_ten f c then z_uf (z_uf f 8 (10 + c - 48)) 5 2 else if z_str f c then z_uf f 5 3 else if z_com f c then z_uf (z_endf f) 5 0 else f := by unfold z_tf; rw [if_neg (by omega), if_neg (by omega)]
    unfold z_aoF z_aoR
    rcases b with ⟨b1, b2⟩ | ⟨b1, b2, b3, b4⟩
    · have u := (r3 (10 + c - 48) (by omega) (by omega)).2
      have ten : z_ten f c := ⟨f5, b1, fun q => u.mp q b2⟩
      rw [tR, tF, if_pos ten, if_pos ten, if_pos b1, if_pos (by omega)]
      exact z_Rr_it RR (x := 2) (a := 10 + c - 48) (c := F 6) (by unfold z_uf; simp) (by unfold z_uf; simp) (by unfold z_uf; simp) (by unfold z_uf; simp) (by unfold z_uf; simp) (by unfold z_uf; simp) (by unfold z_uf; simp) (by unfold z_uf; simp) (by unfold z_uf; simp; omega) (by decide) (by decide) (by omega) (by omega) p5 p6 (fun q => absurd q (by decide)) (fun _ => b2)
    · have nt : ¬ z_ten f c := fun q => by have := q.2.1; omega
      have u1 := (r3 1 (by decide) (by decide)).2
      have ov : z_ovr f := Or.inr (Or.inr ⟨f5, fun q => u1.mp q b3⟩)
      rw [tR, tF, if_neg nt, if_neg nt, if_neg (show ¬ (c = 48 ∨ c = 49) by omega)]
      rcases b4 with b4 | b4
      · have st : z_str f c := ⟨b4, by omega, ov⟩
        rw [if_pos st, if_pos st, if_pos b4, if_pos (by omega)]
        exact z_Rr_it RR (x := 3) (a := F 5) (c := F 6) (by unfold z_uf; simp) (by unfold z_uf; simp) (by unfold z_uf; simp) (by unfold z_uf; simp) (by unfold z_uf; simp) (by unfold z_uf; simp) (by unfold z_uf; simp) (by unfold z_uf; simp; omega) (by unfold z_uf; simp; omega) (by decide) (by decide) p3 p4 p5 p6 (fun q => absurd q (by decide)) (fun _ => by rw [F5]; exact b3)
      · have ns : ¬ z_str f c := fun q => by have := q.1; have := b4.1; omega
        have co : z_com f c := ⟨b4.1, ov, by omega⟩
        rw [if_neg ns, if_neg ns, if_pos co, if_pos co, if_neg (by have := b4.1; omega), if_neg (by have := b4.1; omega)]
        exact z_Rr_com RR (by omega) (by rw [F5]; exact b3) b4.2
  · have f5 : f 5 = 2 := by omega
    have b := (z_kB2 e).mpr hB
    have g := r5 (by omega)
    have h0 := r7 (Or.inl f5)
    rw [z_kfF2 e, z_kfR2 e]
    have nt : ¬ z_ten f c := fun q => by have := q.1; omega
    have ov : z_ovr f := Or.inl f5
    have tR : z_tr f r' c = if z_str f c then r' else if z_com f c then z_endr f r' else r' := by unfold z_tr; rw [if_neg (by omega), if_neg nt]
    have tF : z_tf f c = if z_str f c then z_uf f 5 3 else if z_com f c then z_uf (z_endf f) 5 0 else f := by unfold z_tf; rw [if_neg (by omega), if_neg (by omega), if_neg nt]
    unfold z_scF z_scR
    rcases b with b4 | b4
    · have st : z_str f c := ⟨b4, by omega, ov⟩
      rw [tR, tF, if_pos st, if_pos st, if_pos b4, if_pos b4]
      exact z_Rr_it RR (x := 3) (a := F 5) (c := F 6) (by unfold z_uf; simp) (by unfold z_uf; simp) (by unfold z_uf; simp) (by unfold z_uf; simp) (by unfold z_uf; simp) (by unfold z_uf; simp) (by unfold z_uf; simp) (by unfold z_uf; simp; omega) (by unfold z_uf; simp; omega) (by decide) (by decide) p3 p4 p5 p6 (fun q => absurd q (by decide)) (fun _ => h0)
    · have ns : ¬ z_str f c := fun q => by have := q.1; have := b4.1; omega
      have co : z_com f c := ⟨b4.1, ov, by omega⟩
      rw [tR, tF, if_neg ns, if_neg ns, if_pos co, if_pos co, if_neg (by have := b4.1; omega), if_neg (by have := b4.1; omega)]
      exact z_Rr_com RR (by omega) h0 b4.2
  · have f5 : f 5 = 3 := by omega
    have b := (z_kB3 e).mpr hB
    have g := r5 (by omega)
    have h0 := r7 (Or.inr (Or.inl f5))
    rw [z_kfF3 e, z_kfR3 e]
    have tR : z_tr f r' c = r' := by unfold z_tr; rw [if_pos (Or.inr f5)]
    have tF : z_tf f c = z_uf (z_uf f 9 (c - 48)) 5 4 := by unfold z_tf; rw [if_neg (by omega), if_pos f5]
    rw [tR, tF]
    exact z_Rr_it RR (x := 4) (a := F 5) (c := c - 48) (by unfold z_uf; simp) (by unfold z_uf; simp) (by unfold z_uf; simp) (by unfold z_uf; simp) (by unfold z_uf; simp) (by unfold z_uf; simp) (by unfold z_uf; simp) (by unfold z_uf; simp; omega) (by unfold z_uf; simp) (by decide) (by decide) p3 p4 (by omega) (by omega) (fun q => absurd q (by decide)) (fun _ => h0)
  · have f5 : f 5 = 4 := by omega
    have b := (z_kB4 e).mpr hB
    have h0 := r7 (Or.inr (Or.inr f5))
    rw [z_kfF4 e, z_kfR4 e]
    have nt : ¬ z_ten f c := fun q => by have := q.1; omega
    have ns : ¬ z_str f c := fun q => by have := q.2.1; omega
    have co : z_com f c := ⟨b.1, Or.inr (Or.inl f5), by omega⟩
    have tR : z_tr f r' c = z_endr f r' := by unfold z_tr; rw [if_neg (by omega), if_neg nt, if_neg ns, if_pos co]
    have tF : z_tf f c = z_uf (z_endf f) 5 0 := by unfold z_tf; rw [if_neg (by omega), if_neg (by omega), if_neg nt, if_neg ns, if_pos co]
    rw [tR, tF]
    exact z_Rr_com RR (by omega) h0 b.2
theorem z_rd_krd {tx tx' : Int → Int} : ∀ (m : Nat) (k : Int) (F r f r' : Int → Int), (∀ i, k ≤ i → i < k + m → tx i = tx' i) → z_Rr F r f r' →
    (z_krd tx m k F r).1 = (z_rd tx' m k f r').1 ∧ ((z_krd tx m k F r).1 = k + m → z_Rr (z_krd tx m k F r).2.1 (z_krd tx m k F r).2.2 (z_rd tx' m k f r').2.1 (z_rd tx' m k f r').2.2) := by
  intro m
  induction m with
  | zero => intro k F r f r' _ R; exact ⟨rfl, fun _ => R⟩
  | succ m ih =>
    intro k F r f r' ht R
    have e := ht k (Int.le_refl k) (by omega)
    unfold z_krd z_rd
    rw [← e]
    by_cases c : z_kB F r (tx k)
    · rw [if_pos c, if_pos ((z_Rr_B R).mp c)]
      have h := ih (k + 1) _ _ _ _ (fun i i0 i1 => ht i (by omega) (by omega)) (z_Rr_t R c)
      exact ⟨h.1, fun q => h.2 (by rw [q]; omega)⟩
    · rw [if_neg c, if_neg (fun q => c ((z_Rr_B R).mpr q))]
      exact ⟨rfl, fun q => by
        have q2 : k = k + ((m + 1 : Nat) : Int) := q
        omega⟩
/-- the lists are the same -/
theorem z_list_eq {M0 M : z_M} (l0 : 0 ≤ M0 7 3) (hl : M 21 3 = M0 7 3) (ht : ∀ i, 0 ≤ i → i < M0 7 3 → M0 8 i = M 25 i) : (z_KR M0).1 = (z_R0 M).1 ∧ (z_kLB M0 ↔ z_isL M) ∧ (z_kLB M0 → (∀ p, 0 ≤ p → p < 12 → z_kLR M0 p = z_Lr M p) ∧ z_sm 12 (fun p => if 0 < z_kLR M0 p then 1 else 0) ≤ 4 ∧ 1 ≤ z_sm 12 (z_kLR M0)) := by
  have h := z_rd_krd (tx := M0 8) (tx' := M 25) (M0 7 3).toNat 0 (z_kF0 (M0 7)) (z_kr0 (M0 9)) (z_f0 (M 21)) (z_r0 (M 26)) (fun i i0 i1 => ht i i0 (by omega)) (z_Rr_0 _ _ _ _)
  have eR : z_R0 M = z_rd (M 25) (M0 7 3).toNat 0 (z_f0 (M 21)) (z_r0 (M 26)) := by show z_rd (M 25) (M 21 3).toNat 0 _ _ = _; rw [hl]
  obtain ⟨A, hA⟩ : ∃ A, z_KR M0 = A := ⟨_, rfl⟩
  obtain ⟨B, hB⟩ : ∃ B, z_R0 M = B := ⟨_, rfl⟩
  rw [← eR] at h
  change (z_KR M0).1 = (z_R0 M).1 ∧ ((z_KR M0).1 = 0 + (((M0 7 3).toNat : Nat) : Int) → z_Rr (z_KR M0).2.1 (z_KR M0).2.2 (z_R0 M).2.1 (z_R0 M).2.2) at h
  rw [hA, hB, Int.toNat_of_nonneg l0, Int.zero_add] at h
  have iff : (A.1 = M0 7 3 ∧ A.2.1 4 ≠ 0 ∧ A.2.1 4 ≠ 3 ∧ A.2.2 (A.2.1 5) = 0) ↔ (B.1 = M 21 3 ∧ z_ovr B.2.1) := by
    by_cases c : A.1 = M0 7 3
    · have R := h.2 c
      obtain ⟨r1, r2, r3, r4, r5, r6, r7, r8, r9, r10, r11, r12⟩ := R
      have u1 := (r3 1 (by decide) (by decide)).2
      have p1 := r8.1
      have p2 := r8.2.1
      constructor
      · rintro ⟨q1, q2, q3, q4⟩
        refine ⟨by omega, ?_⟩
        rcases (by omega : B.2.1 5 = 1 ∨ B.2.1 5 = 2 ∨ B.2.1 5 = 4) with e | e | e
        · refine Or.inr (Or.inr ⟨e, fun w => u1.mp w ?_⟩)
          rw [r6 e] at q4
          exact q4
        · exact Or.inl e
        · exact Or.inr (Or.inl e)
      · rintro ⟨q1, q2⟩
        refine ⟨c, ?_⟩
        rcases q2 with e | e | ⟨e, q3⟩
        · exact ⟨by omega, by omega, r7 (Or.inl e)⟩
        · exact ⟨by omega, by omega, r7 (Or.inr (Or.inr e))⟩
        · refine ⟨by omega, by omega, ?_⟩
          rw [r6 e]
          exact Classical.byContradiction fun w => q3 (u1.mpr w)
    · exact ⟨fun q => absurd q.1 c, fun q => absurd (by omega) c⟩
  have LB : z_kLB M0 ↔ (A.1 = M0 7 3 ∧ A.2.1 4 ≠ 0 ∧ A.2.1 4 ≠ 3 ∧ A.2.2 (A.2.1 5) = 0) := by show ((z_KR M0).1 = M0 7 3 ∧ _) ↔ _; rw [hA]
  have LL : z_isL M ↔ (B.1 = M 21 3 ∧ z_ovr B.2.1) := by show ((z_R0 M).1 = M 21 3 ∧ z_ovr (z_R0 M).2.1) ↔ _; rw [hB]
  refine ⟨by rw [hA, hB]; exact h.1, LB.trans (iff.trans LL.symm), fun hb => ?_⟩
  have hL := (LB.trans (iff.trans LL.symm)).mp hb
  have hq := LB.mp hb
  have R := h.2 hq.1
  obtain ⟨r1, r2, r3, r4, r5, r6, r7, r8, r9, r10, r11, r12⟩ := R
  have g := r5 (by omega)
  have e1 : z_kLR M0 = z_uf A.2.2 (A.2.1 5) (A.2.1 6) := by unfold z_kLR; rw [if_pos hb, hA]; rfl
  have e2 : z_Lr M = z_uf B.2.2 (B.2.1 8) (B.2.1 9) := by unfold z_Lr; rw [if_pos hL, hB]; rfl
  rw [e1, e2]
  obtain ⟨p1, p2, p3, p4, p5, p6, p7, p8, p9⟩ := r8
  refine ⟨fun p p0 p1' => ?_, ?_, ?_⟩
  · rw [g.1, g.2]
    unfold z_uf
    split
    · rfl
    · exact (r3 p p0 p1').1
  · rw [z_Rr_cnt p3 p4 hq.2.2.2 p5, r10]
    omega
  · have nn : ∀ i : Nat, i < 12 → 0 ≤ z_uf A.2.2 (A.2.1 5) (A.2.1 6) i := fun i hi => by
      unfold z_uf
      split
      · omega
      · exact (p9 i (by omega) (by omega)).1
    have q := z_sm_1 (f := z_uf A.2.2 (A.2.1 5) (A.2.1 6)) (n := 12) nn (i := (A.2.1 5).toNat) (by omega)
    rw [Int.toNat_of_nonneg p3, z_uf_self] at q
    omega
theorem z_gtp_iff {r : Int → Int} {n : Int} (n0 : 0 ≤ n) (hr : ∀ p, 0 ≤ p → p < 12 → 0 ≤ r p) : ∀ m : Nat, m ≤ 12 → (z_gtp r m < n ↔ z_sm m (fun p => if n ≤ p ∧ r p ≠ 0 then 1 else 0) = 0) := by
  intro m
  induction m with
  | zero => intro _; exact ⟨fun _ => rfl, fun _ => by show (-1 : Int) < n; omega⟩
  | succ m ih =>
    intro hm
    have i := ih (by omega)
    have r0 := hr m (by omega) (by omega)
    have nn := z_sm_nn (f := fun p => if n ≤ p ∧ r p ≠ 0 then (1 : Int) else 0) (n := m) (fun i _ => by show 0 ≤ (if _ then (1 : Int) else 0); split <;> decide)
    rw [z_sm_s]
    show (if 0 < r m then (m : Int) else z_gtp r m) < n ↔ _ + (if n ≤ (m : Int) ∧ r m ≠ 0 then (1 : Int) else 0) = 0
    by_cases c : 0 < r m
    · rw [if_pos c]
      by_cases d : n ≤ (m : Int)
      · rw [if_pos ⟨d, by omega⟩]
        exact ⟨fun q => by omega, fun q => by omega⟩
      · rw [if_neg (fun q => d q.1), Int.add_zero]
        refine ⟨fun _ => ?_, fun _ => by omega⟩
        exact i.mp (by have := z_gtp_rg r m; omega)
    · rw [if_neg c, if_neg (fun q => c (by omega)), Int.add_zero]
      exact i
