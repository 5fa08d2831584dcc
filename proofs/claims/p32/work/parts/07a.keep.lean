/-! ===== the books stay in their bounds: pens ===== -/
theorem z_sm_u {f f' : Int → Int} {n q : Nat} (hq : q < n) (h : ∀ i : Nat, i < n → i ≠ q → f' i = f i) : z_sm n f' = z_sm n f + (f' q - f q) := by
  induction n with
  | zero => omega
  | succ n ih =>
    rw [z_sm_s, z_sm_s]
    by_cases e : q = n
    · subst e
      rw [z_sm_eq (f := f') (g := f) (fun i hi => h i (by omega) (by omega))]
      omega
    · rw [ih (by omega) (fun i hi ne => h i (by omega) ne), h n (by omega) (by omega)]
      omega
theorem z_sm_uI {f f' : Int → Int} {q : Int} (q0 : 0 ≤ q) (q1 : q < 12) (h : ∀ i : Int, 0 ≤ i → i < 12 → i ≠ q → f' i = f i) : z_sm 12 f' = z_sm 12 f + (f' q - f q) := by
  have e := z_sm_u (f := f) (f' := f') (n := 12) (q := q.toNat) (by omega) (fun i hi ne => h i (by omega) (by omega) (by omega))
  rwa [Int.toNat_of_nonneg q0] at e
theorem z_PI_o {b c : Int → Int} {N p : Int} (h : z_PI b N p) (e : ∀ j, 14 + 6 * p ≤ j → j < 14 + 6 * p + 6 → c j = b j) (e0 : c 0 = b 0) (e4 : b 4 ≤ c 4) : z_PI c (N + 1) p := by
  unfold z_PI at h ⊢
  rw [e (14 + 6 * p) (by omega) (by omega), e (14 + 6 * p + 1) (by omega) (by omega), e (14 + 6 * p + 2) (by omega) (by omega), e (14 + 6 * p + 3) (by omega) (by omega), e (14 + 6 * p + 4) (by omega) (by omega), e (14 + 6 * p + 5) (by omega) (by omega), e0]
  omega
theorem z_QI_o {b c : Int → Int} {k p : Int} (h : z_QI b k p) (e1 : c (186 + 12 * k + p) = b (186 + 12 * k + p)) (e2 : c (426 + 12 * k + p) = b (426 + 12 * k + p)) (e3 : c (666 + 12 * k + p) = b (666 + 12 * k + p)) (e4 : c (86 + 5 * k + 4) = b (86 + 5 * k + 4)) (e5 : c 0 = b 0) (e6 : c 1 = b 1) : z_QI c k p := by
  unfold z_QI at h ⊢
  rw [e1, e2, e3, e4, e5, e6]
  exact h
theorem z_KI_o {b c : Int → Int} {N k : Int} (h : z_KI b N k) (e : ∀ w, 0 ≤ w → w < 5 → c (86 + 5 * k + w) = b (86 + 5 * k + w)) (e2 : ∀ p, 0 ≤ p → p < 12 → c (186 + 12 * k + p) = b (186 + 12 * k + p)) (e3 : ∀ p, 0 ≤ p → p < 12 → c (426 + 12 * k + p) = b (426 + 12 * k + p)) (e0 : c 0 = b 0) (e1 : c 1 = b 1) (e4 : b 4 ≤ c 4) : z_KI c (N + 1) k := by
  have a1 : z_aD c k = z_aD b k := z_sm_eq (fun i hi => e2 i (by omega) (by omega))
  have a2 : z_aP c k = z_aP b k := z_sm_eq (fun i hi => e3 i (by omega) (by omega))
  have a3 : z_sm 12 (fun p => if 0 < c (426 + 12 * k + p) then (1 : Int) else 0) = z_sm 12 (fun p => if 0 < b (426 + 12 * k + p) then 1 else 0) := z_sm_eq (fun i hi => by show (if 0 < c _ then (1 : Int) else 0) = _; rw [e3 i (by omega) (by omega)])
  have f0 := e 0 (by decide) (by decide)
  rw [Int.add_zero] at f0
  unfold z_KI at h ⊢
  rw [a1, a2, a3, f0, e 1 (by decide) (by decide), e 2 (by decide) (by decide), e 3 (by decide) (by decide), e 4 (by decide) (by decide), e0, e1]
  omega
/-- the books where only pens' rows and the scalars have changed -/
theorem z_BI_pens {b c : Int → Int} {N : Int} (h : z_BI b N) (hN : N + 1 ≤ 600) (e0 : c 0 = b 0) (e1 : c 1 = b 1) (e2 : 0 ≤ c 2 ∧ c 2 ≤ N + 1) (e3 : 0 ≤ c 3) (e4 : c 4 = b 4) (e5 : 0 ≤ c 5) (e6 : 0 ≤ c 6 ∧ c 6 ≤ N + 1) (e7 : c 7 = b 7)
    (s8 : 0 ≤ c 8 ∧ c 8 ≤ 30) (s9 : 0 ≤ c 9 ∧ c 9 ≤ 20) (s10 : 0 ≤ c 10 ∧ c 10 ≤ 10000) (s11 : 0 ≤ c 11 ∧ c 11 ≤ 100) (s12 : 0 ≤ c 12 ∧ c 12 ≤ 100) (s13 : 0 ≤ c 13 ∧ c 13 ≤ 100)
    (hP : ∀ p, 0 ≤ p → p < 12 → z_PI c (N + 1) p) (ho : ∀ j, 86 ≤ j → c j = b j) (hn : ∀ j, j < 0 → c j = b j)
    (t1 : z_sm 12 (fun p => c (14 + 6 * p)) + c 3 + c 5 = c 4) (t2 : z_sm 12 (fun p => c (14 + 6 * p + 2)) ≤ c 4) (t3 : z_sm 12 (fun p => c (14 + 6 * p + 5)) = c 5) : z_BI c (N + 1) := by
  have hh := z_BI_h h
  refine ⟨by omega, by omega, by omega, e2, e3, by omega, e5, e6, by omega, s8, s9, s10, s11, s12, s13, hP, fun k k0 k1 => ?_, fun k p k0 k1 p0 p1 => ?_, t1, t2, t3, fun i hi => ?_⟩
  · exact z_KI_o (z_BI_K h k k0 k1) (fun w w0 w1 => ho _ (by omega)) (fun p p0 p1 => ho _ (by omega)) (fun p p0 p1 => ho _ (by omega)) e0 e1 (by omega)
  · exact z_QI_o (z_BI_Q h k p k0 k1 p0 p1) (ho _ (by omega)) (ho _ (by omega)) (ho _ (by omega)) (ho _ (by omega)) e0 e1
  · have := (z_BI_s h).2.2.2 i hi
    rcases hi with hi | hi
    · rw [hn i hi]; exact this
    · rw [ho i (by omega)]; exact this
/-- the same sums, where the pens' rows haven't changed -/
theorem z_BI_scal {b c : Int → Int} {N : Int} (h : z_BI b N) (hN : N + 1 ≤ 600) (hs : ∀ j, j < 0 ∨ 14 ≤ j → c j = b j) (e0 : c 0 = b 0) (e1 : c 1 = b 1) (e2 : 0 ≤ c 2 ∧ c 2 ≤ N + 1) (e3 : c 3 = b 3) (e4 : c 4 = b 4) (e5 : c 5 = b 5) (e6 : 0 ≤ c 6 ∧ c 6 ≤ N + 1) (e7 : c 7 = b 7)
    (s8 : 0 ≤ c 8 ∧ c 8 ≤ 30) (s9 : 0 ≤ c 9 ∧ c 9 ≤ 20) (s10 : 0 ≤ c 10 ∧ c 10 ≤ 10000) (s11 : 0 ≤ c 11 ∧ c 11 ≤ 100) (s12 : 0 ≤ c 12 ∧ c 12 ≤ 100) (s13 : 0 ≤ c 13 ∧ c 13 ≤ 100) : z_BI c (N + 1) := by
  have hh := z_BI_h h
  have hS := z_BI_s h
  refine z_BI_pens h hN e0 e1 e2 (by omega) e4 (by omega) e6 e7 s8 s9 s10 s11 s12 s13 (fun p p0 p1 => z_PI_o (z_BI_P h p p0 p1) (fun j j0 j1 => hs j (by omega)) e0 (by omega)) (fun j hj => hs j (by omega)) (fun j hj => hs j (by omega)) ?_ ?_ ?_
  · rw [z_sm_eq (g := fun p => b (14 + 6 * p)) (fun i hi => hs _ (by omega))]; omega
  · rw [z_sm_eq (g := fun p => b (14 + 6 * p + 2)) (fun i hi => hs _ (by omega))]; omega
  · rw [z_sm_eq (g := fun p => b (14 + 6 * p + 5)) (fun i hi => hs _ (by omega))]; omega
theorem z_BI_mono {b : Int → Int} {N : Int} (h : z_BI b N) (hN : N + 1 ≤ 600) : z_BI b (N + 1) := by
  have hh := z_BI_h h
  exact z_BI_scal h hN (fun _ _ => rfl) rfl rfl (by omega) rfl rfl rfl (by omega) rfl (by omega) (by omega) (by omega) (by omega) (by omega) (by omega)
theorem z_k_addPen {b : Int → Int} {N : Int} (h : z_BI b N) (hN : N + 1 ≤ 600) (hc : z_c_addPen b = 0) : z_BI (z_o_addPen b) (N + 1) := by
  have hh := z_BI_h h
  have hS := z_BI_s h
  have n1 : b 0 ≠ 12 := fun e => by unfold z_c_addPen at hc; rw [if_pos e] at hc; omega
  have hx := z_BI_P h (b 0) hh.2.1.1 (by omega)
  unfold z_PI at hx
  obtain ⟨c, ec⟩ : ∃ c, z_o_addPen b = c := ⟨_, rfl⟩
  have c0 : c 0 = b 0 + 1 := by rw [← ec]; exact z_uf_self _ _ _
  have cx : c (14 + 6 * b 0 + 3) = b 0 := by rw [← ec]; unfold z_o_addPen; rw [z_uf_ne _ _ (by omega), z_uf_self]
  have co : ∀ j, j ≠ 0 → j ≠ 14 + 6 * b 0 + 3 → c j = b j := fun j h1 h2 => by rw [← ec]; unfold z_o_addPen; rw [z_uf_ne _ _ h1, z_uf_ne _ _ h2]
  rw [ec]
  have cs : ∀ j, 0 < j → j < 14 → c j = b j := fun j j0 j1 => co j (by omega) (by omega)
  refine ⟨by omega, by omega, by rw [cs 1 (by decide) (by decide)]; omega, by rw [cs 2 (by decide) (by decide)]; omega, by rw [cs 3 (by decide) (by decide)]; omega, by rw [cs 4 (by decide) (by decide)]; omega, by rw [cs 5 (by decide) (by decide)]; omega, by rw [cs 6 (by decide) (by decide)]; omega, by rw [cs 7 (by decide) (by decide), cs 4 (by decide) (by decide)]; omega, by rw [cs 8 (by decide) (by decide)]; omega, by rw [cs 9 (by decide) (by decide)]; omega, by rw [cs 10 (by decide) (by decide)]; omega, by rw [cs 11 (by decide) (by decide)]; omega, by rw [cs 12 (by decide) (by decide)]; omega, by rw [cs 13 (by decide) (by decide)]; omega, fun p p0 p1 => ?_, fun k k0 k1 => ?_, fun k p k0 k1 p0 p1 => ?_, ?_, ?_, ?_, fun i hi => ?_⟩
  · have hp := z_BI_P h p p0 p1
    unfold z_PI at hp ⊢
    rw [c0, cs 4 (by decide) (by decide), co (14 + 6 * p) (by omega) (by omega), co (14 + 6 * p + 1) (by omega) (by omega), co (14 + 6 * p + 2) (by omega) (by omega), co (14 + 6 * p + 4) (by omega) (by omega), co (14 + 6 * p + 5) (by omega) (by omega)]
    by_cases e : p = b 0
    · subst e
      rw [cx]
      omega
    · rw [co (14 + 6 * p + 3) (by omega) (by omega)]
      omega
  · have hk := z_BI_K h k k0 k1
    have a1 : z_aD c k = z_aD b k := z_sm_eq (fun i hi => co _ (by omega) (by omega))
    have a2 : z_aP c k = z_aP b k := z_sm_eq (fun i hi => co _ (by omega) (by omega))
    have a3 : z_sm 12 (fun p => if 0 < c (426 + 12 * k + p) then (1 : Int) else 0) = z_sm 12 (fun p => if 0 < b (426 + 12 * k + p) then 1 else 0) := z_sm_eq (fun i hi => by show (if 0 < c _ then (1 : Int) else 0) = _; rw [co _ (by omega) (by omega)])
    unfold z_KI at hk ⊢
    rw [a1, a2, a3, c0, cs 1 (by decide) (by decide), cs 4 (by decide) (by decide), co (86 + 5 * k) (by omega) (by omega), co (86 + 5 * k + 1) (by omega) (by omega), co (86 + 5 * k + 2) (by omega) (by omega), co (86 + 5 * k + 3) (by omega) (by omega), co (86 + 5 * k + 4) (by omega) (by omega)]
    omega
  · have hq := z_BI_Q h k p k0 k1 p0 p1
    unfold z_QI at hq ⊢
    rw [c0, cs 1 (by decide) (by decide), co (186 + 12 * k + p) (by omega) (by omega), co (426 + 12 * k + p) (by omega) (by omega), co (666 + 12 * k + p) (by omega) (by omega), co (86 + 5 * k + 4) (by omega) (by omega)]
    omega
  · rw [z_sm_eq (g := fun p => b (14 + 6 * p)) (fun i hi => co _ (by omega) (by omega)), cs 3 (by decide) (by decide), cs 4 (by decide) (by decide), cs 5 (by decide) (by decide)]; omega
  · rw [z_sm_eq (g := fun p => b (14 + 6 * p + 2)) (fun i hi => co _ (by omega) (by omega)), cs 4 (by decide) (by decide)]; omega
  · rw [z_sm_eq (g := fun p => b (14 + 6 * p + 5)) (fun i hi => co _ (by omega) (by omega)), cs 5 (by decide) (by decide)]; omega
  · rw [co i (by omega) (by omega)]
    exact hS.2.2.2 i hi
theorem z_k_sold {b : Int → Int} {N x t p : Int} (h : z_BI b N) (hN : N + 1 ≤ 600) (x0 : 0 ≤ x) (x1 : x < b 0) (t0 : 0 ≤ t) (t1 : t < b 0) (p0 : 0 ≤ p) (ne : b (14 + 6 * x + 3) ≠ t) (hp : p ≤ b (14 + 6 * t)) : z_BI (z_sold b x t p) (N + 1) := by
  have hh := z_BI_h h
  have hS := z_BI_s h
  have hx := z_BI_P h x x0 (by omega)
  unfold z_PI at hx
  obtain ⟨o, eo⟩ : ∃ o, b (14 + 6 * x + 3) = o := ⟨_, rfl⟩
  rw [eo] at hx ne
  have hbt := z_BI_bal h t0 (show t < 12 by omega)
  have hbo := z_BI_bal h (p := o) (by omega) (by omega)
  have hb2 := z_BI_bal2 h (p := o) (q := t) (by omega) (by omega) t0 (by omega) ne
  obtain ⟨c, ec⟩ : ∃ c, z_sold b x t p = c := ⟨_, rfl⟩
  have cn : ∀ j, j ≠ 14 + 6 * t → j ≠ 14 + 6 * o → j ≠ 14 + 6 * x + 3 → j ≠ 14 + 6 * x + 4 → c j = b j := fun j h1 h2 h3 h4 => by
    rw [← ec]; unfold z_sold; rw [eo, z_uf_ne _ _ h4, z_uf_ne _ _ h3, z_uf_ne _ _ h2, z_uf_ne _ _ h1]
  have ct : c (14 + 6 * t) = b (14 + 6 * t) - p := by rw [← ec]; unfold z_sold; rw [eo, z_uf_ne _ _ (by omega), z_uf_ne _ _ (by omega), z_uf_ne _ _ (by omega), z_uf_self]
  have co : c (14 + 6 * o) = b (14 + 6 * o) + p := by rw [← ec]; unfold z_sold; rw [eo, z_uf_ne _ _ (by omega), z_uf_ne _ _ (by omega), z_uf_self, z_uf_ne _ _ (by omega)]
  have c3 : c (14 + 6 * x + 3) = t := by rw [← ec]; unfold z_sold; rw [z_uf_ne _ _ (by omega), z_uf_self]
  have c4 : c (14 + 6 * x + 4) = p := by rw [← ec]; unfold z_sold; exact z_uf_self _ _ _
  rw [ec]
  have cs : ∀ j, j < 14 → c j = b j := fun j j1 => cn j (by omega) (by omega) (by omega) (by omega)
  have c22 : ∀ q : Int, c (14 + 6 * q + 2) = b (14 + 6 * q + 2) := fun q => cn _ (by omega) (by omega) (by omega) (by omega)
  have c55 : ∀ q : Int, c (14 + 6 * q + 5) = b (14 + 6 * q + 5) := fun q => cn _ (by omega) (by omega) (by omega) (by omega)
  refine z_BI_pens h hN (cs 0 (by decide)) (cs 1 (by decide)) (by rw [cs 2 (by decide)]; omega) (by rw [cs 3 (by decide)]; omega) (cs 4 (by decide)) (by rw [cs 5 (by decide)]; omega) (by rw [cs 6 (by decide)]; omega) (cs 7 (by decide)) (by rw [cs 8 (by decide)]; omega) (by rw [cs 9 (by decide)]; omega) (by rw [cs 10 (by decide)]; omega) (by rw [cs 11 (by decide)]; omega) (by rw [cs 12 (by decide)]; omega) (by rw [cs 13 (by decide)]; omega) (fun q q0 q1 => ?_) (fun j hj => cn j (by omega) (by omega) (by omega) (by omega)) (fun j hj => cs j (by omega)) ?_ ?_ ?_
  · have hq := z_BI_P h q q0 q1
    have c1 : c (14 + 6 * q + 1) = b (14 + 6 * q + 1) := cn _ (by omega) (by omega) (by omega) (by omega)
    have hbal : 0 ≤ c (14 + 6 * q) ∧ (b 0 ≤ q → c (14 + 6 * q) = b (14 + 6 * q)) := by
      by_cases e1 : q = t
      · subst e1; rw [ct]; omega
      · by_cases e2 : q = o
        · subst e2; rw [co]; omega
        · rw [cn (14 + 6 * q) (by omega) (by omega) (by omega) (by omega)]
          unfold z_PI at hq; omega
    unfold z_PI at hq ⊢
    rw [c1, c22, c55, cs 0 (by decide), cs 4 (by decide)]
    by_cases e : q = x
    · subst e
      rw [c3, c4]
      omega
    · rw [cn (14 + 6 * q + 3) (by omega) (by omega) (by omega) (by omega), cn (14 + 6 * q + 4) (by omega) (by omega) (by omega) (by omega)]
      omega
  · have g1 := z_sm_uI (f := fun q => b (14 + 6 * q)) (f' := fun q => z_uf (fun q => b (14 + 6 * q)) t (b (14 + 6 * t) - p) q) t0 (by omega) (fun i i0 i1 ne => z_uf_ne _ _ ne)
    have g2 := z_sm_uI (f := fun q => z_uf (fun q => b (14 + 6 * q)) t (b (14 + 6 * t) - p) q) (f' := fun q => c (14 + 6 * q)) (q := o) (by omega) (by omega) (fun i i0 i1 ne2 => by
      show c (14 + 6 * i) = z_uf _ t _ i
      by_cases e : i = t
      · subst e; rw [z_uf_self, ct]
      · rw [z_uf_ne _ _ e]; exact cn _ (by omega) (by omega) (by omega) (by omega))
    rw [z_uf_self] at g1
    rw [co, z_uf_ne _ _ ne] at g2
    rw [cs 3 (by decide), cs 4 (by decide), cs 5 (by decide)]
    have hS1 := hS.1
    omega
  · rw [z_sm_eq (g := fun q => b (14 + 6 * q + 2)) (fun i hi => c22 i), cs 4 (by decide)]; exact hS.2.1
  · rw [z_sm_eq (g := fun q => b (14 + 6 * q + 5)) (fun i hi => c55 i), cs 5 (by decide)]; exact hS.2.2.1
theorem z_k_advance {b : Int → Int} {N x a : Int} (h : z_BI b N) (hN : N + 1 ≤ 600) (hc : z_c_advance b x a = 0) : z_BI (z_o_advance b x a) (N + 1) := by
  have hh := z_BI_h h
  have hS := z_BI_s h
  unfold z_c_advance at hc
  (repeat' split at hc) <;> first | (exfalso; omega; done) | skip
  have hx := z_BI_P h x (by omega) (by omega)
  unfold z_PI at hx
  have hbx := z_BI_bal h (p := x) (by omega) (by omega)
  obtain ⟨c, ec⟩ : ∃ c, z_o_advance b x a = c := ⟨_, rfl⟩
  have cn : ∀ j, j ≠ 3 → j ≠ 14 + 6 * x → j ≠ 14 + 6 * x + 1 → c j = b j := fun j h1 h2 h3 => by rw [← ec]; unfold z_o_advance; rw [z_uf_ne _ _ h3, z_uf_ne _ _ h2, z_uf_ne _ _ h1]
  have c3 : c 3 = b 3 - a := by rw [← ec]; unfold z_o_advance; rw [z_uf_ne _ _ (by omega), z_uf_ne _ _ (by omega), z_uf_self]
  have cx : c (14 + 6 * x) = b (14 + 6 * x) + a := by rw [← ec]; unfold z_o_advance; rw [z_uf_ne _ _ (by omega), z_uf_self]
  have c1 : c (14 + 6 * x + 1) = b (14 + 6 * x + 1) + a := by rw [← ec]; unfold z_o_advance; rw [z_uf_self]
  rw [ec]
  have cs : ∀ j, j < 14 → j ≠ 3 → c j = b j := fun j j1 j2 => cn j j2 (by omega) (by omega)
  refine z_BI_pens h hN (cs 0 (by decide) (by decide)) (cs 1 (by decide) (by decide)) (by rw [cs 2 (by decide) (by decide)]; omega) (by rw [c3]; omega) (cs 4 (by decide) (by decide)) (by rw [cs 5 (by decide) (by decide)]; omega) (by rw [cs 6 (by decide) (by decide)]; omega) (cs 7 (by decide) (by decide)) (by rw [cs 8 (by decide) (by decide)]; omega) (by rw [cs 9 (by decide) (by decide)]; omega) (by rw [cs 10 (by decide) (by decide)]; omega) (by rw [cs 11 (by decide) (by decide)]; omega) (by rw [cs 12 (by decide) (by decide)]; omega) (by rw [cs 13 (by decide) (by decide)]; omega) (fun q q0 q1 => ?_) (fun j hj => cn j (by omega) (by omega) (by omega)) (fun j hj => cs j (by omega) (by omega)) ?_ ?_ ?_
  · have hq := z_BI_P h q q0 q1
    by_cases e : q = x
    · subst e
      unfold z_PI
      rw [cx, c1, cn (14 + 6 * q + 2) (by omega) (by omega) (by omega), cn (14 + 6 * q + 3) (by omega) (by omega) (by omega), cn (14 + 6 * q + 4) (by omega) (by omega) (by omega), cn (14 + 6 * q + 5) (by omega) (by omega) (by omega), cs 0 (by decide) (by decide), cs 4 (by decide) (by decide)]
      omega
    · exact z_PI_o hq (fun j j0 j1 => cn j (by omega) (by omega) (by omega)) (cs 0 (by decide) (by decide)) (by rw [cs 4 (by decide) (by decide)]; omega)
  · have g1 := z_sm_uI (f := fun q => b (14 + 6 * q)) (f' := fun q => c (14 + 6 * q)) (q := x) (by omega) (by omega) (fun i i0 i1 ne => cn _ (by omega) (by omega) (by omega))
    rw [cx] at g1
    rw [c3, cs 4 (by decide) (by decide), cs 5 (by decide) (by decide)]
    omega
  · rw [z_sm_eq (g := fun q => b (14 + 6 * q + 2)) (fun i hi => cn _ (by omega) (by omega) (by omega)), cs 4 (by decide) (by decide)]; exact hS.2.1
  · rw [z_sm_eq (g := fun q => b (14 + 6 * q + 5)) (fun i hi => cn _ (by omega) (by omega) (by omega)), cs 5 (by decide) (by decide)]; exact hS.2.2.1
theorem z_k_withdraw {b : Int → Int} {N x a : Int} (h : z_BI b N) (hN : N + 1 ≤ 600) (hc : z_c_withdraw b x a = 0) : z_BI (z_o_withdraw b x a) (N + 1) := by
  have hh := z_BI_h h
  have hS := z_BI_s h
  unfold z_c_withdraw at hc
  (repeat' split at hc) <;> first | (exfalso; omega; done) | skip
  have hx := z_BI_P h x (by omega) (by omega)
  unfold z_PI at hx
  obtain ⟨c, ec⟩ : ∃ c, z_o_withdraw b x a = c := ⟨_, rfl⟩
  have cn : ∀ j, j ≠ 5 → j ≠ 14 + 6 * x → j ≠ 14 + 6 * x + 5 → c j = b j := fun j h1 h2 h3 => by rw [← ec]; unfold z_o_withdraw; rw [z_uf_ne _ _ h1, z_uf_ne _ _ h3, z_uf_ne _ _ h2]
  have c5 : c 5 = b 5 + a := by rw [← ec]; unfold z_o_withdraw; rw [z_uf_self]
  have cx : c (14 + 6 * x) = b (14 + 6 * x) - a := by rw [← ec]; unfold z_o_withdraw; rw [z_uf_ne _ _ (by omega), z_uf_ne _ _ (by omega), z_uf_self]
  have cx5 : c (14 + 6 * x + 5) = b (14 + 6 * x + 5) + a := by rw [← ec]; unfold z_o_withdraw; rw [z_uf_ne _ _ (by omega), z_uf_self]
  rw [ec]
  have cs : ∀ j, j < 14 → j ≠ 5 → c j = b j := fun j j1 j2 => cn j j2 (by omega) (by omega)
  refine z_BI_pens h hN (cs 0 (by decide) (by decide)) (cs 1 (by decide) (by decide)) (by rw [cs 2 (by decide) (by decide)]; omega) (by rw [cs 3 (by decide) (by decide)]; omega) (cs 4 (by decide) (by decide)) (by rw [c5]; omega) (by rw [cs 6 (by decide) (by decide)]; omega) (cs 7 (by decide) (by decide)) (by rw [cs 8 (by decide) (by decide)]; omega) (by rw [cs 9 (by decide) (by decide)]; omega) (by rw [cs 10 (by decide) (by decide)]; omega) (by rw [cs 11 (by decide) (by decide)]; omega) (by rw [cs 12 (by decide) (by decide)]; omega) (by rw [cs 13 (by decide) (by decide)]; omega) (fun q q0 q1 => ?_) (fun j hj => cn j (by omega) (by omega) (by omega)) (fun j hj => cs j (by omega) (by omega)) ?_ ?_ ?_
  · have hq := z_BI_P h q q0 q1
    by_cases e : q = x
    · subst e
      unfold z_PI
      rw [cx, cx5, cn (14 + 6 * q + 1) (by omega) (by omega) (by omega), cn (14 + 6 * q + 2) (by omega) (by omega) (by omega), cn (14 + 6 * q + 3) (by omega) (by omega) (by omega), cn (14 + 6 * q + 4) (by omega) (by omega) (by omega), cs 0 (by decide) (by decide), cs 4 (by decide) (by decide)]
      omega
    · exact z_PI_o hq (fun j j0 j1 => cn j (by omega) (by omega) (by omega)) (cs 0 (by decide) (by decide)) (by rw [cs 4 (by decide) (by decide)]; omega)
  · have g1 := z_sm_uI (f := fun q => b (14 + 6 * q)) (f' := fun q => c (14 + 6 * q)) (q := x) (by omega) (by omega) (fun i i0 i1 ne => cn _ (by omega) (by omega) (by omega))
    rw [cx] at g1
    rw [c5, cs 4 (by decide) (by decide), cs 3 (by decide) (by decide)]
    omega
  · rw [z_sm_eq (g := fun q => b (14 + 6 * q + 2)) (fun i hi => cn _ (by omega) (by omega) (by omega)), cs 4 (by decide) (by decide)]; exact hS.2.1
  · have g1 := z_sm_uI (f := fun q => b (14 + 6 * q + 5)) (f' := fun q => c (14 + 6 * q + 5)) (q := x) (by omega) (by omega) (fun i i0 i1 ne => cn _ (by omega) (by omega) (by omega))
    rw [cx5] at g1
    rw [c5]
    omega
theorem z_k_set {b : Int → Int} {N x v : Int} (h : z_BI b N) (hN : N + 1 ≤ 600) (hc : z_c_set x v = 0) : z_BI (z_o_set b x v) (N + 1) := by
  have hh := z_BI_h h
  unfold z_c_set at hc
  have hx : 0 ≤ x ∧ x < 6 := by (repeat' split at hc) <;> omega
  have hv : 0 ≤ v ∧ v ≤ z_mo x := by (repeat' split at hc) <;> omega
  have cj : ∀ j, z_o_set b x v j = if j = 8 + x then v else b j := fun j => rfl
  obtain ⟨c, ec⟩ : ∃ c, z_o_set b x v = c := ⟨_, rfl⟩
  rw [ec] at cj ⊢
  have d : ∀ j, j < 8 ∨ 14 ≤ j → c j = b j := fun j hj => by rw [cj, if_neg (by omega)]
  refine z_BI_scal h hN (fun j hj => d j (by omega)) (d 0 (by decide)) (d 1 (by decide)) (by rw [d 2 (by decide)]; omega) (d 3 (by decide)) (d 4 (by decide)) (d 5 (by decide)) (by rw [d 6 (by decide)]; omega) (d 7 (by decide)) ?_ ?_ ?_ ?_ ?_ ?_
  · rw [cj]
    split
    · have e : x = 0 := by omega
      rw [e] at hv
      exact hv
    · omega
  · rw [cj]
    split
    · have e : x = 1 := by omega
      rw [e] at hv
      exact hv
    · omega
  · rw [cj]
    split
    · have e : x = 2 := by omega
      rw [e] at hv
      exact hv
    · omega
  · rw [cj]
    split
    · have e : x = 3 := by omega
      rw [e] at hv
      exact hv
    · omega
  · rw [cj]
    split
    · have e : x = 4 := by omega
      rw [e] at hv
      exact hv
    · omega
  · rw [cj]
    split
    · have e : x = 5 := by omega
      rw [e] at hv
      exact hv
    · omega
