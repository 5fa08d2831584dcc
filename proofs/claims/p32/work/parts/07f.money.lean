/-! ===== accept, kill, royalty: the same books, and in their bounds ===== -/
theorem z_fee_eq {b r7 s r s0 r0 : Int → Int} {k a : Int} (hc : z_cF b k) (h4 : z_p4c b k) : z_com2 b k a 0 s0 r0 = (z_bin b (z_dv0 r7 b k a) (z_sp b k (z_rs b a 0) s r).1 a, (z_eA b (z_dv0 r7 b k a) (z_sp b k (z_rs b a 0) s r).1).2) := by
  obtain ⟨h1, h2, h3, h4', h5, h6, h7, h8, h9, h10, h11⟩ := hc
  have hs := z_sp_sh (rest := z_rs b a 0) (s := s) (r := r) (s0 := s0) (r0 := r0) h1 h2 h4
  exact z_com_fee h4' (h3.1 _ h11.1 h11.2).2.2.1 rfl rfl rfl hs.1
theorem z_roy_eq {b r7 s r s0 r0 : Int → Int} {k a : Int} (k0 : 0 ≤ k) (k1 : k < 20) (hc : z_cF b k) (h4 : z_p4c b k) (hz : ∀ p, b 0 ≤ p → p < 12 → b (426 + 12 * k + p) = 0) :
    z_com2 b k a 1 s0 r0 = (z_bin (z_rob b k a (z_oca b k (z_sp b k (z_rs b a 1) s r).1) (z_cu b k (z_sp b k (z_rs b a 1) s r).1)) (z_uf (z_uf (z_dv0 r7 b k a) 11 (z_ow2 b a 1)) 9 (z_oca b k (z_sp b k (z_rs b a 1) s r).1)) (z_cu b k (z_sp b k (z_rs b a 1) s r).1) a,
      (z_eA (z_rob b k a (z_oca b k (z_sp b k (z_rs b a 1) s r).1) (z_cu b k (z_sp b k (z_rs b a 1) s r).1)) (z_uf (z_uf (z_dv0 r7 b k a) 11 (z_ow2 b a 1)) 9 (z_oca b k (z_sp b k (z_rs b a 1) s r).1)) (z_cu b k (z_sp b k (z_rs b a 1) s r).1)).2) := by
  obtain ⟨h1, h2, h3, h4', h5, h6, h7, h8, h9, h10, h11⟩ := hc
  have hs := z_sp_sh (rest := z_rs b a 1) (s := s) (r := r) (s0 := s0) (r0 := r0) h1 h2 h4
  have e9 : (z_uf (z_uf (z_dv0 r7 b k a) 11 (z_ow2 b a 1)) 9 (z_oca b k (z_sp b k (z_rs b a 1) s r).1)) 9 = z_oca b k (z_sp b k (z_rs b a 1) s r).1 := z_uf_self _ _ _
  have h := z_com_roy (b := b) (B := z_uf (z_uf (z_dv0 r7 b k a) 11 (z_ow2 b a 1)) 9 (z_oca b k (z_sp b k (z_rs b a 1) s r).1)) (S := z_cu b k (z_sp b k (z_rs b a 1) s r).1) (a := a) (s0 := s0) (r0 := r0) k0 k1 h4' h11 rfl (by
      rw [e9]
      unfold z_oca
      exact z_sm_eq (fun i hi => by show z_ov b k i _ = z_ov b k i _; rw [hs.1 i (by omega) (by omega)])) rfl rfl (fun p p0 p1 => by rw [z_cu_at p0 p1, hs.1 p p0 p1]) (fun p p0 p1 => by rw [← hs.1 p (by omega) p1]; exact hs.2.1 p (by omega) p1 (hz p p0 p1))
  rw [e9] at h
  exact h
theorem z_BI_pz {b : Int → Int} {N k : Int} (h : z_BI b N) (k0 : 0 ≤ k) (k1 : k < 20) : ∀ p, b 0 ≤ p → p < 12 → b (426 + 12 * k + p) = 0 := fun p p0 p1 => by
  have hh := z_BI_h h
  have hq := z_BI_Q h k p k0 k1 (by omega) p1
  unfold z_QI at hq
  exact (hq.2.2.2.2.2.2 (Or.inl p0)).2.1
theorem z_k_fee {b s0 r0 : Int → Int} {N k a v : Int} (h : z_BI b N) (hN : N + 1 ≤ 600) (k0 : 0 ≤ k) (k1 : k < b 1) (a0 : 0 ≤ a) (a1 : a ≤ 100000) (v0 : 0 ≤ v) (v1 : v ≤ 4) : z_BI (z_com2 (z_uf b (86 + 5 * k + 2) v) k a 0 s0 r0).1 (N + 1) := by
  have hh := z_BI_h h
  have k2 : k < 20 := by omega
  have hc := z_cF_st (v := v) k0 k2 (z_BI_cF h k0 k1)
  have h4 : z_p4c (z_uf b (86 + 5 * k + 2) v) k := z_p4c_o (z_BI_p4c h k0 k2) (fun p p0 p1 => z_uf_ne _ _ (by omega))
  rw [z_fee_eq (r7 := fun _ => 0) (s := fun _ => 0) (r := fun _ => 0) hc h4]
  obtain ⟨c1, c2, c3, c4, c5, c6, c7, c8, c9, c10, c11⟩ := hc
  have rs := z_rs_rg (b := z_uf b (86 + 5 * k + 2) v) (y := 0) a0 a1 c6 c7
  have sp := z_sp_rg (s := fun _ => 0) (r := fun _ => 0) c1 c2 h4 rs.1 rs.2
  have sh := z_sp_sh (rest := z_rs (z_uf b (86 + 5 * k + 2) v) a 0) (s := fun _ => 0) (r := fun _ => 0) (s0 := fun _ => 0) (r0 := fun _ => 0) c1 c2 h4
  have m8 := z_mb a0 a1 c6.1 c6.2
  have hkk := z_BI_K h k k0 k2
  have eo : ∀ j, j ≠ 86 + 5 * k + 2 → z_uf b (86 + 5 * k + 2) v j = b j := fun j hj => z_uf_ne _ _ hj
  have hby : 0 ≤ z_oo (z_uf b (86 + 5 * k + 2) v) k ∧ z_oo (z_uf b (86 + 5 * k + 2) v) k < b 0 := by
    unfold z_oo
    unfold z_KI at hkk
    rw [eo (86 + 5 * k) (by omega), eo _ (by omega)]
    have hp := z_BI_P h (b (86 + 5 * k)) hkk.1 hkk.2.1
    unfold z_PI at hp
    omega
  show z_BI (z_bin _ _ _ a) (N + 1)
  refine z_k_bin h hN a0 a1 (oc := 0) (fun j j1 j2 => eo j (by omega)) (by rw [eo 7 (by omega), Int.add_zero]) (Int.le_refl 0) a0 (fun j hj => eo j (by omega)) hby (by show 0 ≤ z_kp _ a; unfold z_kp; omega) (Int.le_refl 0) (Int.le_refl 0) (fun p p0 p1 => (sp p p0 p1).1) (fun p p0 p1 => sh.2.1 p (by omega) p1 (by rw [eo _ (by omega)]; exact z_BI_pz h k0 k2 p p0 p1)) (by
    show z_kp _ a + 0 + 0 + _ = a
    rw [sh.2.2]
    unfold z_rs z_ow2
    rw [if_pos rfl]
    omega) (fun c l hc c0 c1' c4' l0 l1 => ?_) (fun c l p hc c0 c1' l0 l1 p0 p1 => ?_)
  · have hl := z_BI_K h l l0 l1
    have ho : ∀ j, 86 ≤ j → j ≠ 86 + 5 * k + 2 → c j = b j := fun j j0 j1 => by rw [hc j j0, eo j j1]
    by_cases e : l = k
    · subst e
      have q1 : z_aD c l = z_aD b l := z_sm_eq (fun i hi => ho _ (by omega) (by omega))
      have q2 : z_aP c l = z_aP b l := z_sm_eq (fun i hi => ho _ (by omega) (by omega))
      have q3 : z_sm 12 (fun p => if 0 < c (426 + 12 * l + p) then (1 : Int) else 0) = z_sm 12 (fun p => if 0 < b (426 + 12 * l + p) then 1 else 0) := z_sm_eq (fun i hi => by show (if 0 < c _ then (1 : Int) else 0) = _; rw [ho _ (by omega) (by omega)])
      have q4 : c (86 + 5 * l + 2) = v := by rw [hc _ (by omega), z_uf_self]
      unfold z_KI at hl ⊢
      rw [q1, q2, q3, q4, ho (86 + 5 * l) (by omega) (by omega), ho (86 + 5 * l + 1) (by omega) (by omega), ho (86 + 5 * l + 3) (by omega) (by omega), ho (86 + 5 * l + 4) (by omega) (by omega), c0, c1', c4']
      omega
    · exact z_KI_o hl (fun w w0 w1 => ho _ (by omega) (by omega)) (fun q q0 q1 => ho _ (by omega) (by omega)) (fun q q0 q1 => ho _ (by omega) (by omega)) c0 c1' (by omega)
  · have ho : ∀ j, 86 ≤ j → j ≠ 86 + 5 * k + 2 → c j = b j := fun j j0 j1 => by rw [hc j j0, eo j j1]
    exact z_QI_o (z_BI_Q h l p l0 l1 p0 p1) (ho _ (by omega) (by omega)) (ho _ (by omega) (by omega)) (ho _ (by omega) (by omega)) (ho _ (by omega) (by omega)) c0 c1'
theorem z_k_roy {b s0 r0 : Int → Int} {N k a : Int} (h : z_BI b N) (hN : N + 1 ≤ 600) (k0 : 0 ≤ k) (k1 : k < b 1) (a0 : 0 ≤ a) (a1 : a ≤ 100000) : z_BI (z_com2 b k a 1 s0 r0).1 (N + 1) := by
  have hh := z_BI_h h
  have k2 : k < 20 := by omega
  have hc := z_BI_cF h k0 k1
  have h4 := z_BI_p4c h k0 k2
  have hz := z_BI_pz h k0 k2
  rw [z_roy_eq (r7 := fun _ => 0) (s := fun _ => 0) (r := fun _ => 0) k0 k2 hc h4 hz]
  obtain ⟨c1, c2, c3, c4, c5, c6, c7, c8, c9, c10, c11⟩ := hc
  have rs := z_rs_rg (b := b) (y := 1) a0 a1 c6 c7
  have sp := z_sp_rg (s := fun _ => 0) (r := fun _ => 0) c1 c2 h4 rs.1 rs.2
  have sh := z_sp_sh (rest := z_rs b a 1) (s := fun _ => 0) (r := fun _ => 0) (s0 := fun _ => 0) (r0 := fun _ => 0) c1 c2 h4
  have m8 := z_mb a0 a1 c6.1 c6.2
  have m9 := z_mb a0 a1 c7.1 c7.2
  have hkk := z_BI_K h k k0 k2
  have hby : 0 ≤ z_oo b k ∧ z_oo b k < b 0 := by
    unfold z_oo
    unfold z_KI at hkk
    have hp := z_BI_P h (b (86 + 5 * k)) hkk.1 hkk.2.1
    unfold z_PI at hp
    omega
  obtain ⟨Sp, hSp⟩ : ∃ Sp, (z_sp b k (z_rs b a 1) (fun _ => 0) (fun _ => 0)).1 = Sp := ⟨_, rfl⟩
  rw [hSp] at sp sh ⊢
  have hov : ∀ p, 0 ≤ p → p < 12 → 0 ≤ z_ov b k p (Sp p) ∧ z_ov b k p (Sp p) ≤ Sp p := fun p p0 p1 => z_ov_rg (sp p p0 p1).1
  have hcu : ∀ p, 0 ≤ p → p < 12 → z_cu b k Sp p = Sp p - z_ov b k p (Sp p) := fun p p0 p1 => z_cu_at p0 p1
  have hoc0 : 0 ≤ z_oca b k Sp := z_sm_nn (fun i hi => (hov i (by omega) (by omega)).1)
  have hoc1 : z_oca b k Sp ≤ z_sm 12 Sp := z_sm_le (fun i hi => (hov i (by omega) (by omega)).2)
  have hSum : z_sm 12 (z_cu b k Sp) = z_sm 12 Sp - z_oca b k Sp := by
    have e : z_sm 12 (fun p => z_cu b k Sp p + z_ov b k p (Sp p)) = z_sm 12 Sp := z_sm_eq (fun i hi => by show z_cu b k Sp i + _ = _; rw [hcu i (by omega) (by omega)]; omega)
    rw [z_sm_add] at e
    unfold z_oca
    have e2 : z_sm 12 (fun p => z_cu b k Sp p) = z_sm 12 (z_cu b k Sp) := rfl
    omega
  have hrs : z_kp b a + z_ow2 b a 1 + z_rs b a 1 = a := by unfold z_rs; omega
  have kp0 : 0 ≤ z_kp b a := by unfold z_kp; omega
  have ow0 : 0 ≤ z_ow2 b a 1 := by unfold z_ow2; rw [if_neg (by decide)]; omega
  have hSle : ∀ p, 0 ≤ p → p < 12 → Sp p ≤ a := fun p p0 p1 => by
    have q := z_sm_1 (f := Sp) (n := 12) (fun i hi => (sp i (by omega) (by omega)).1) (i := p.toNat) (by omega)
    rw [Int.toNat_of_nonneg p0, sh.2.2] at q
    omega
  show z_BI (z_bin _ _ _ a) (N + 1)
  have rb : ∀ j, 86 ≤ j → j ≠ 86 + 5 * k + 4 → ¬ (666 + 12 * k ≤ j ∧ j < 666 + 12 * k + 12) → z_rob b k a (z_oca b k Sp) (z_cu b k Sp) j = b j := fun j h1 h2 h3 => by unfold z_rob z_ay; rw [z_uf_ne _ _ (by omega), z_cp_o h3, z_uf_ne _ _ h2]
  have rr : z_rob b k a (z_oca b k Sp) (z_cu b k Sp) (86 + 5 * k + 4) = b (86 + 5 * k + 4) + a := by unfold z_rob z_ay; rw [z_uf_ne _ _ (by omega), z_cp_o (by omega), z_uf_self]
  have rg : ∀ p, 0 ≤ p → p < 12 → z_rob b k a (z_oca b k Sp) (z_cu b k Sp) (666 + 12 * k + p) = b (666 + 12 * k + p) + z_cu b k Sp p := fun p p0 p1 => by
    unfold z_rob z_ay z_cp
    rw [z_uf_ne _ _ (by omega), if_pos (by omega), show 666 + 12 * k + p - (666 + 12 * k) + 0 = p by omega]
    show z_uf b (86 + 5 * k + 4) _ (666 + 12 * k + p) + _ = _
    rw [z_uf_ne _ _ (by omega)]
  refine z_k_bin h hN a0 a1 (oc := z_oca b k Sp) (fun j j1 j2 => z_rob_o k0 j1 j2) (z_uf_self _ _ _) hoc0 (by rw [sh.2.2] at hoc1; omega) (fun j hj => rb j (by omega) (by omega) (by omega)) hby kp0 (by show 0 ≤ z_uf _ 9 _ 9; rw [z_uf_self]; exact hoc0) ow0 (fun p p0 p1 => by rw [hcu p p0 p1]; have := hov p p0 p1; omega) (fun p p0 p1 => by
      rw [hcu p (by omega) p1]
      have q1 := sh.2.1 p (by omega) p1 (hz p p0 p1)
      have q2 := hov p (by omega) p1
      omega) (by
      show z_kp b a + z_uf _ 9 _ 9 + z_ow2 b a 1 + _ = a
      rw [z_uf_self, hSum, sh.2.2]
      omega) (fun c l hc c0 c1' c4' l0 l1 => ?_) (fun c l p hc c0 c1' l0 l1 p0 p1 => ?_)
  · have hl := z_BI_K h l l0 l1
    have ho : ∀ j, 86 ≤ j → j < 666 → j ≠ 86 + 5 * k + 4 → c j = b j := fun j j0 j1 j2 => by rw [hc j j0, rb j j0 j2 (by omega)]
    by_cases e : l = k
    · subst e
      have q1 : z_aD c l = z_aD b l := z_sm_eq (fun i hi => ho _ (by omega) (by omega) (by omega))
      have q2 : z_aP c l = z_aP b l := z_sm_eq (fun i hi => ho _ (by omega) (by omega) (by omega))
      have q3 : z_sm 12 (fun p => if 0 < c (426 + 12 * l + p) then (1 : Int) else 0) = z_sm 12 (fun p => if 0 < b (426 + 12 * l + p) then 1 else 0) := z_sm_eq (fun i hi => by show (if 0 < c _ then (1 : Int) else 0) = _; rw [ho _ (by omega) (by omega) (by omega)])
      have q4 : c (86 + 5 * l + 4) = b (86 + 5 * l + 4) + a := by rw [hc _ (by omega), rr]
      unfold z_KI at hl ⊢
      rw [q1, q2, q3, q4, ho (86 + 5 * l) (by omega) (by omega) (by omega), ho (86 + 5 * l + 1) (by omega) (by omega) (by omega), ho (86 + 5 * l + 2) (by omega) (by omega) (by omega), ho (86 + 5 * l + 3) (by omega) (by omega) (by omega), c0, c1', c4']
      omega
    · exact z_KI_o hl (fun w w0 w1 => ho _ (by omega) (by omega) (by omega)) (fun q q0 q1 => ho _ (by omega) (by omega) (by omega)) (fun q q0 q1 => ho _ (by omega) (by omega) (by omega)) c0 c1' (by omega)
  · have hq := z_BI_Q h l p l0 l1 p0 p1
    have ho : ∀ j, 86 ≤ j → j ≠ 86 + 5 * k + 4 → ¬ (666 + 12 * k ≤ j ∧ j < 666 + 12 * k + 12) → c j = b j := fun j j0 j1 j2 => by rw [hc j j0, rb j j0 j1 j2]
    by_cases e : l = k
    · subst e
      have g1 : c (666 + 12 * l + p) = b (666 + 12 * l + p) + z_cu b l Sp p := by rw [hc _ (by omega), rg p p0 p1]
      have g2 : c (86 + 5 * l + 4) = b (86 + 5 * l + 4) + a := by rw [hc _ (by omega), rr]
      have g3 := hcu p p0 p1
      have g4 := hov p p0 p1
      have g5 := hSle p p0 p1
      have g6 : b 0 ≤ p → Sp p = 0 := fun q => sh.2.1 p p0 p1 (hz p q p1)
      unfold z_QI at hq ⊢
      rw [g1, g2, ho (186 + 12 * l + p) (by omega) (by omega) (by omega), ho (426 + 12 * l + p) (by omega) (by omega) (by omega), c0, c1']
      omega
    · exact z_QI_o hq (ho _ (by omega) (by omega) (by omega)) (ho _ (by omega) (by omega) (by omega)) (ho _ (by omega) (by omega) (by omega)) (ho _ (by omega) (by omega) (by omega)) c0 c1'
/-- what the class leaves: rows, and the books as the reference's -/
theorem z_ac_ref {A : z_M} {q : Nat} {k fee v : Int} {s0 r0 : Int → Int} (hq : q < 7) (hc : z_cF (z_uf (A q) (86 + 5 * k + 2) v) k) (h4 : z_p4c (z_uf (A q) (86 + 5 * k + 2) v) k) :
    z_acM A q k fee v q = (z_com2 (z_uf (A q) (86 + 5 * k + 2) v) k fee 0 s0 r0).1 ∧ z_acV A q k fee v = (z_com2 (z_uf (A q) (86 + 5 * k + 2) v) k fee 0 s0 r0).2 := by
  have e1 : z_acD A q k fee v q = z_uf (A q) (86 + 5 * k + 2) v := (z_dFM_row (by omega)).trans (z_sR_self _ _ _)
  have e0 : z_acZ A q k v q = z_uf (A q) (86 + 5 * k + 2) v := z_sR_self _ _ _
  have e7 : z_acD A q k fee v 7 = z_dv0 (z_acZ A q k v 7) (z_uf (A q) (86 + 5 * k + 2) v) k fee := by rw [← e0]; rfl
  have e10 : z_acD A q k fee v 10 = (z_sp (z_uf (A q) (86 + 5 * k + 2) v) k (z_rs (z_uf (A q) (86 + 5 * k + 2) v) fee 0) (z_acZ A q k v 10) (z_acZ A q k v 11)).1 := by rw [← e0]; rfl
  have h := z_fee_eq (a := fee) (r7 := z_acZ A q k v 7) (s := z_acZ A q k v 10) (r := z_acZ A q k v 11) (s0 := s0) (r0 := r0) hc h4
  rw [h]
  unfold z_acM z_acV
  rw [z_sR_self, e1, e7, e10]
  exact ⟨rfl, rfl⟩
theorem z_ro_ref {A : z_M} {q : Nat} {k a : Int} {s0 r0 : Int → Int} (hq : q < 7) (k0 : 0 ≤ k) (k1 : k < 20) (hc : z_cF (A q) k) (h4 : z_p4c (A q) k) (hz : ∀ p, A q 0 ≤ p → p < 12 → A q (426 + 12 * k + p) = 0) :
    z_roM A q k a q = (z_com2 (A q) k a 1 s0 r0).1 ∧ z_roV A q k a = (z_com2 (A q) k a 1 s0 r0).2 := by
  have h := z_roy_eq (a := a) (r7 := A 7) (s := A 10) (r := A 11) (s0 := s0) (r0 := r0) k0 k1 hc h4 hz
  rw [h]
  unfold z_roM z_roV
  rw [z_sR_self]
  exact ⟨rfl, rfl⟩
