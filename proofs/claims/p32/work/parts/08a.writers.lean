/-! ===== the writers: bits of the class, list of the reference ===== -/
theorem z_nx_eq {f u u' : Int → Int} : ∀ n : Nat, (∀ p : Int, 0 ≤ p → p < n → (u p = 0 ↔ u' p = 0)) → z_nx f u n = z_nx f u' n := by
  intro n
  induction n with
  | zero => intro _; rfl
  | succ n ih =>
    intro h
    unfold z_nx
    rw [ih (fun p p0 p1 => h p p0 (by omega))]
    have hn := h n (by omega) (by omega)
    exact z_ifc (by rw [hn]) _ _
theorem z_nx_tail {f u : Int → Int} {n : Nat} : ∀ m : Nat, n ≤ m → (∀ p : Nat, n ≤ p → p < m → f p = 0) → z_nx f u m = z_nx f u n := by
  intro m
  induction m with
  | zero => intro h _; rw [Nat.le_zero.mp h]
  | succ m ih =>
    intro h hf
    by_cases e : n = m + 1
    · rw [e]
    · rw [← ih (by omega) (fun p a c => hf p a (by omega))]
      conv => lhs; unfold z_nx
      rw [if_neg (by rw [hf m (by omega) (by omega)]; omega)]
/-- what is chosen wasn't taken, and has some -/
theorem z_nx_ok {f u : Int → Int} : ∀ n : Nat, z_nx f u n ≠ -1 → u (z_nx f u n) = 0 ∧ 0 < f (z_nx f u n) := by
  intro n
  induction n with
  | zero => intro h; exact absurd rfl h
  | succ n ih =>
    intro h
    unfold z_nx at h ⊢
    by_cases c : 0 < f n ∧ u n = 0 ∧ (z_nx f u n = -1 ∨ f (z_nx f u n) < f n)
    · rw [if_pos c]
      exact ⟨c.2.1, c.1⟩
    · rw [if_neg c] at h ⊢
      exact ih h
theorem z_nx_some {f u : Int → Int} : ∀ n : Nat, (∃ p : Nat, p < n ∧ 0 < f p ∧ u p = 0) → z_nx f u n ≠ -1 := by
  intro n
  induction n with
  | zero => rintro ⟨p, h, _⟩; omega
  | succ n ih =>
    rintro ⟨p, h1, h2, h3⟩
    unfold z_nx
    by_cases c : 0 < f n ∧ u n = 0 ∧ (z_nx f u n = -1 ∨ f (z_nx f u n) < f n)
    · rw [if_pos c]; omega
    · rw [if_neg c]
      by_cases e : p = n
      · subst e
        intro q
        exact c ⟨h2, h3, Or.inl q⟩
      · exact ih ⟨p, by omega, h2, h3⟩
theorem z_cw_add {w : Int → Int} {m x p : Int} (m0 : 0 ≤ m) : z_cw (z_uf w m x) (m + 1) p = z_cw w m p + if x = p then 1 else 0 := by
  unfold z_cw
  rw [show (m + 1).toNat = m.toNat + 1 by omega, z_sm_s]
  congr 1
  · exact z_sm_eq (fun i hi => by show (if z_uf w m x i = p then (1 : Int) else 0) = _; rw [z_uf_ne _ _ (by omega)])
  · show (if z_uf w m x ((m.toNat : Nat) : Int) = p then (1 : Int) else 0) = _
    rw [Int.toNat_of_nonneg m0, z_uf_self]
/-- after i steps: the same pens, each once -/
theorem z_wb_wst {f : Int → Int} {n : Nat} (n12 : n ≤ 12) (hf : ∀ p : Nat, n ≤ p → p < 12 → f p = 0) (w0 : Int → Int) : ∀ i : Nat, ∀ p, 0 ≤ p → p < 12 → (z_bit (z_wbs f i) p = 1 ↔ z_cw (z_wst f n i (w0, 0)).1 (z_wst f n i (w0, 0)).2 p ≠ 0) ∧ z_cw (z_wst f n i (w0, 0)).1 (z_wst f n i (w0, 0)).2 p ≤ 1 ∧ (z_cw (z_wst f n i (w0, 0)).1 (z_wst f n i (w0, 0)).2 p ≠ 0 → 0 < f p) := by
  intro i
  induction i with
  | zero =>
    intro p p0 p1
    rw [show z_wbs f 0 = 0 from rfl, z_bit_0, show z_wst f n 0 (w0, 0) = (w0, 0) from rfl, show z_cw w0 0 p = 0 from rfl]
    exact ⟨⟨fun h => absurd h (by decide), fun h => absurd rfl h⟩, by decide, fun h => absurd rfl h⟩
  | succ i ih =>
    have hm := z_wst_m f n w0 i
    have hb := z_wbs_rg f i
    have en : z_wbx f (z_wbs f i) 12 = z_nx f (z_cw (z_wst f n i (w0, 0)).1 (z_wst f n i (w0, 0)).2) n := by
      unfold z_wbx
      rw [z_nx_tail 12 n12 hf]
      exact z_nx_eq n (fun p p0 p1 => by
        have h := (ih p p0 (by omega)).1
        have h2 := z_bit_01 (z_wbs f i) p
        show z_bit (z_wbs f i) p = 0 ↔ _
        constructor
        · intro q
          refine Classical.byContradiction fun c => ?_
          have := h.mpr c
          omega
        · intro q
          refine Classical.byContradiction fun c => ?_
          exact h.mp (by omega) q)
    obtain ⟨y, hy⟩ : ∃ y, z_wst f n i (w0, 0) = y := ⟨_, rfl⟩
    rw [hy] at hm en ih
    obtain ⟨x, hx⟩ : ∃ x, z_nx f (z_cw y.1 y.2) n = x := ⟨_, rfl⟩
    have xr := z_nx_rg f (z_cw y.1 y.2) n
    have xok := z_nx_ok (f := f) (u := z_cw y.1 y.2) n
    rw [hx] at xr xok
    have e1 : z_wbs f (i + 1) = if x = -1 then z_wbs f i else z_bor (z_wbs f i) x := by
      show (if z_wbx f (z_wbs f i) 12 = -1 then z_wbs f i else z_bor (z_wbs f i) (z_wbx f (z_wbs f i) 12)) = _
      rw [en, hx]
    have e2 : z_wst f n (i + 1) (w0, 0) = if x = -1 then y else (z_uf y.1 y.2 x, y.2 + 1) := by
      conv => lhs; unfold z_wst
      rw [hy, hx]
    intro p p0 p1
    rw [e1, e2]
    have h := ih p p0 p1
    by_cases c : x = -1
    · rw [if_pos c, if_pos c]; exact h
    · rw [if_neg c, if_neg c]
      show (_ ↔ z_cw (z_uf y.1 y.2 x) (y.2 + 1) p ≠ 0) ∧ z_cw (z_uf y.1 y.2 x) (y.2 + 1) p ≤ 1 ∧ (z_cw (z_uf y.1 y.2 x) (y.2 + 1) p ≠ 0 → _)
      rw [z_bit_bor (by omega) p0 hb.1, z_cw_add hm.1]
      have hn := z_cw_nn y.1 y.2 p
      have ok := xok c
      by_cases e : p = x
      · subst e
        rw [if_pos rfl, if_pos rfl, ok.1]
        exact ⟨⟨fun _ => by decide, fun _ => rfl⟩, by decide, fun _ => ok.2⟩
      · rw [if_neg e, if_neg (fun q => e q.symm), Int.add_zero]
        exact h
/-- sorting: the same pens, and in order -/
theorem z_sw_f {w : Int → Int} {m i : Int} (h : i + 1 < m) : z_sw w m i i ≤ z_sw w m i (i + 1) ∧ ((z_sw w m i i = w i ∧ z_sw w m i (i + 1) = w (i + 1)) ∨ (z_sw w m i i = w (i + 1) ∧ z_sw w m i (i + 1) = w i)) ∧ ∀ j, j ≠ i → j ≠ i + 1 → z_sw w m i j = w j := by
  unfold z_sw
  by_cases c : w (i + 1) < w i
  · rw [if_pos ⟨h, c⟩, z_uf_self, z_uf_ne _ _ (by omega), z_uf_self]
    exact ⟨by omega, Or.inr ⟨rfl, rfl⟩, fun j h1 h2 => by rw [z_uf_ne _ _ h2, z_uf_ne _ _ h1]⟩
  · rw [if_neg (fun q => c q.2)]
    exact ⟨by omega, Or.inl ⟨rfl, rfl⟩, fun j _ _ => rfl⟩
theorem z_sw_n {w : Int → Int} {m i : Int} (h : ¬ i + 1 < m) : z_sw w m i = w := if_neg (fun q => h q.1)
theorem z_sw_cw {w : Int → Int} {m i : Int} (i0 : 0 ≤ i) (p : Int) : z_cw (z_sw w m i) m p = z_cw w m p := by
  by_cases h : i + 1 < m
  · obtain ⟨-, hs, ho⟩ := z_sw_f (w := w) h
    obtain ⟨w', hw⟩ : ∃ w', z_sw w m i = w' := ⟨_, rfl⟩
    rw [hw] at hs ho ⊢
    unfold z_cw
    have g1 := z_sm_u (f := fun j => if w j = p then (1 : Int) else 0) (f' := fun j => if z_uf w i (w' i) j = p then (1 : Int) else 0) (n := m.toNat) (q := i.toNat) (by omega) (fun j hj ne => by show (if z_uf w i (w' i) j = p then (1 : Int) else 0) = _; rw [z_uf_ne _ _ (by omega)])
    have g2 := z_sm_u (f := fun j => if z_uf w i (w' i) j = p then (1 : Int) else 0) (f' := fun j => if w' j = p then (1 : Int) else 0) (n := m.toNat) (q := (i + 1).toNat) (by omega) (fun j hj ne => by
      show (if w' j = p then (1 : Int) else 0) = if z_uf w i (w' i) j = p then 1 else 0
      by_cases e : (j : Int) = i
      · rw [e, z_uf_self]
      · rw [z_uf_ne _ _ e, ho j e (by omega)])
    rw [Int.toNat_of_nonneg i0, z_uf_self] at g1
    rw [Int.toNat_of_nonneg (by omega : 0 ≤ i + 1), z_uf_ne _ _ (show i + 1 ≠ i by omega)] at g2
    rw [g2, g1]
    rcases hs with ⟨a, c⟩ | ⟨a, c⟩
    · rw [a, c]; omega
    · rw [a, c]; omega
  · rw [z_sw_n h]
theorem z_bb_cw {m : Int} (m0 : 0 < m) (p : Int) : ∀ (k : Nat) (w : Int → Int), z_cw (z_bb m k w) m p = z_cw w m p := by
  intro k
  induction k with
  | zero => intro w; rfl
  | succ k ih => intro w; show z_cw (z_sw (z_bb m k w) m ((k : Int) % m)) m p = _; rw [z_sw_cw (Int.emod_nonneg _ (by omega)), ih]
theorem z_bb_a (m : Int) (w : Int → Int) : ∀ j i : Nat, z_bb m (i * m.toNat + j) w = z_bb m (i * m.toNat + j) w := fun _ _ => rfl
theorem z_bb_4 (w : Int → Int) : z_bb 4 16 w 0 ≤ z_bb 4 16 w 1 ∧ z_bb 4 16 w 1 ≤ z_bb 4 16 w 2 ∧ z_bb 4 16 w 2 ≤ z_bb 4 16 w 3 := by
  have pass : ∀ v : Int → Int, ∃ v' : Int → Int, v' = z_sw (z_sw (z_sw v 4 0) 4 1) 4 2 ∧ v' 0 ≤ v' 3 ∧ v' 1 ≤ v' 3 ∧ v' 2 ≤ v' 3 ∧ ((v 0 ≤ v 3 ∧ v 1 ≤ v 3 ∧ v 2 ≤ v 3) → v' 3 = v 3 ∧ v' 0 ≤ v' 2 ∧ v' 1 ≤ v' 2) ∧ ((v 0 ≤ v 3 ∧ v 1 ≤ v 3 ∧ v 2 ≤ v 3 ∧ v 0 ≤ v 2 ∧ v 1 ≤ v 2) → v' 3 = v 3 ∧ v' 2 = v 2 ∧ v' 0 ≤ v' 1) := by
    intro v
    refine ⟨_, rfl, ?_⟩
    have a := z_sw_f (w := v) (m := 4) (i := 0) (by decide)
    have a2 := a.2.2 2 (by decide) (by decide)
    have a3 := a.2.2 3 (by decide) (by decide)
    have c := z_sw_f (w := z_sw v 4 0) (m := 4) (i := 1) (by decide)
    have c0 := c.2.2 0 (by decide) (by decide)
    have c3 := c.2.2 3 (by decide) (by decide)
    have d := z_sw_f (w := z_sw (z_sw v 4 0) 4 1) (m := 4) (i := 2) (by decide)
    have d0 := d.2.2 0 (by decide) (by decide)
    have d1 := d.2.2 1 (by decide) (by decide)
    simp only [Int.zero_add, show (1 : Int) + 1 = 2 from rfl, show (2 : Int) + 1 = 3 from rfl] at a c d
    have a' := a.1; have a'' := a.2.1
    have c' := c.1; have c'' := c.2.1
    have d' := d.1; have d'' := d.2.1
    generalize z_sw (z_sw (z_sw v 4 0) 4 1) 4 2 0 = u0 at *
    generalize z_sw (z_sw (z_sw v 4 0) 4 1) 4 2 1 = u1 at *
    generalize z_sw (z_sw (z_sw v 4 0) 4 1) 4 2 2 = u2 at *
    generalize z_sw (z_sw (z_sw v 4 0) 4 1) 4 2 3 = u3 at *
    generalize z_sw (z_sw v 4 0) 4 1 0 = s0 at *
    generalize z_sw (z_sw v 4 0) 4 1 1 = s1 at *
    generalize z_sw (z_sw v 4 0) 4 1 2 = s2 at *
    generalize z_sw (z_sw v 4 0) 4 1 3 = s3 at *
    generalize z_sw v 4 0 0 = t0 at *
    generalize z_sw v 4 0 1 = t1 at *
    generalize z_sw v 4 0 2 = t2 at *
    generalize z_sw v 4 0 3 = t3 at *
    clear a c d
    subst a2 a3 c0 c3 d0 d1
    rcases a'' with ⟨x1, x2⟩ | ⟨x1, x2⟩ <;> rcases c'' with ⟨y1, y2⟩ | ⟨y1, y2⟩ <;> rcases d'' with ⟨z1, z2⟩ | ⟨z1, z2⟩ <;> omega
  have st : ∀ k : Nat, z_bb 4 (4 * k + 4) w = z_sw (z_sw (z_sw (z_bb 4 (4 * k) w) 4 0) 4 1) 4 2 := by
    intro k
    show z_sw (z_sw (z_sw (z_sw (z_bb 4 (4 * k) w) 4 (((4 * k : Nat) : Int) % 4)) 4 (((4 * k + 1 : Nat) : Int) % 4)) 4 (((4 * k + 2 : Nat) : Int) % 4)) 4 (((4 * k + 3 : Nat) : Int) % 4) = _
    rw [show ((4 * k : Nat) : Int) % 4 = 0 by omega, show ((4 * k + 1 : Nat) : Int) % 4 = 1 by omega, show ((4 * k + 2 : Nat) : Int) % 4 = 2 by omega, show ((4 * k + 3 : Nat) : Int) % 4 = 3 by omega]
    exact z_sw_n (by decide)
  have s1 := st 0
  have s2 := st 1
  have s3 := st 2
  have s4 := st 3
  obtain ⟨v1, e1, f1⟩ := pass (z_bb 4 (4 * 0) w)
  rw [← e1] at s1
  obtain ⟨v2, e2, f2⟩ := pass (z_bb 4 (4 * 1) w)
  rw [← e2] at s2
  obtain ⟨v3, e3, f3⟩ := pass (z_bb 4 (4 * 2) w)
  rw [← e3] at s3
  obtain ⟨v4, e4, f4⟩ := pass (z_bb 4 (4 * 3) w)
  rw [← e4] at s4
  have q1 : z_bb 4 (4 * 1) w = v1 := s1
  have q2 : z_bb 4 (4 * 2) w = v2 := s2
  have q3 : z_bb 4 (4 * 3) w = v3 := s3
  have q4 : z_bb 4 16 w = v4 := s4
  rw [q1] at f2
  rw [q2] at f3
  rw [q3] at f4
  rw [q4]
  have g2 := f2.2.2.2.1 ⟨f1.1, f1.2.1, f1.2.2.1⟩
  have g3 := f3.2.2.2.2 ⟨f2.1, f2.2.1, f2.2.2.1, g2.2.1, g2.2.2⟩
  have g3' := f3.2.2.2.1 ⟨f2.1, f2.2.1, f2.2.2.1⟩
  have g4 := f4.2.2.2.2 ⟨f3.1, f3.2.1, f3.2.2.1, g3'.2.1, g3'.2.2⟩
  have g4' := f4.2.2.2.1 ⟨f3.1, f3.2.1, f3.2.2.1⟩
  omega
theorem z_bb_3 (w : Int → Int) : z_bb 3 9 w 0 ≤ z_bb 3 9 w 1 ∧ z_bb 3 9 w 1 ≤ z_bb 3 9 w 2 := by
  have pass : ∀ v : Int → Int, ∃ v' : Int → Int, v' = z_sw (z_sw v 3 0) 3 1 ∧ v' 0 ≤ v' 2 ∧ v' 1 ≤ v' 2 ∧ ((v 0 ≤ v 2 ∧ v 1 ≤ v 2) → v' 2 = v 2 ∧ v' 0 ≤ v' 1) := by
    intro v
    refine ⟨_, rfl, ?_⟩
    have a := z_sw_f (w := v) (m := 3) (i := 0) (by decide)
    have a2 := a.2.2 2 (by decide) (by decide)
    have c := z_sw_f (w := z_sw v 3 0) (m := 3) (i := 1) (by decide)
    have c0 := c.2.2 0 (by decide) (by decide)
    simp only [Int.zero_add, show (1 : Int) + 1 = 2 from rfl] at a c
    have a' := a.1; have a'' := a.2.1
    have c' := c.1; have c'' := c.2.1
    generalize z_sw (z_sw v 3 0) 3 1 0 = s0 at *
    generalize z_sw (z_sw v 3 0) 3 1 1 = s1 at *
    generalize z_sw (z_sw v 3 0) 3 1 2 = s2 at *
    generalize z_sw v 3 0 0 = t0 at *
    generalize z_sw v 3 0 1 = t1 at *
    generalize z_sw v 3 0 2 = t2 at *
    clear a c
    subst a2 c0
    rcases a'' with ⟨x1, x2⟩ | ⟨x1, x2⟩ <;> rcases c'' with ⟨y1, y2⟩ | ⟨y1, y2⟩ <;> omega
  have st : ∀ k : Nat, z_bb 3 (3 * k + 3) w = z_sw (z_sw (z_bb 3 (3 * k) w) 3 0) 3 1 := by
    intro k
    show z_sw (z_sw (z_sw (z_bb 3 (3 * k) w) 3 (((3 * k : Nat) : Int) % 3)) 3 (((3 * k + 1 : Nat) : Int) % 3)) 3 (((3 * k + 2 : Nat) : Int) % 3) = _
    rw [show ((3 * k : Nat) : Int) % 3 = 0 by omega, show ((3 * k + 1 : Nat) : Int) % 3 = 1 by omega, show ((3 * k + 2 : Nat) : Int) % 3 = 2 by omega]
    exact z_sw_n (by decide)
  have s1 := st 0
  have s2 := st 1
  have s3 := st 2
  obtain ⟨v1, e1, f1⟩ := pass (z_bb 3 (3 * 0) w)
  rw [← e1] at s1
  obtain ⟨v2, e2, f2⟩ := pass (z_bb 3 (3 * 1) w)
  rw [← e2] at s2
  obtain ⟨v3, e3, f3⟩ := pass (z_bb 3 (3 * 2) w)
  rw [← e3] at s3
  have q1 : z_bb 3 (3 * 1) w = v1 := s1
  have q2 : z_bb 3 (3 * 2) w = v2 := s2
  have q3 : z_bb 3 9 w = v3 := s3
  rw [q1] at f2
  rw [q2] at f3
  rw [q3]
  have g3 := f3.2.2 ⟨f2.1, f2.2.1⟩
  omega
theorem z_bb_2 (w : Int → Int) : z_bb 2 4 w 0 ≤ z_bb 2 4 w 1 := by
  have e : z_bb 2 4 w = z_sw (z_bb 2 2 w) 2 0 := by
    show z_sw (z_sw (z_bb 2 2 w) 2 (((2 : Nat) : Int) % 2)) 2 (((3 : Nat) : Int) % 2) = _
    exact z_sw_n (by decide)
  rw [e]
  exact (z_sw_f (w := z_bb 2 2 w) (m := 2) (i := 0) (by decide)).1
theorem z_bb_sorted {m : Nat} (m4 : m ≤ 4) (w : Int → Int) : ∀ j : Int, 0 ≤ j → j + 1 < m → z_bb m ((m : Int) * m).toNat w j ≤ z_bb m ((m : Int) * m).toNat w (j + 1) := by
  intro j j0 j1
  rcases (by omega : m = 2 ∨ m = 3 ∨ m = 4) with e | e | e <;> subst e
  · have h := z_bb_2 w
    rw [show j = 0 by omega]
    exact h
  · have h := z_bb_3 w
    rcases (by omega : j = 0 ∨ j = 1) with e | e <;> subst e
    · exact h.1
    · exact h.2
  · have h := z_bb_4 w
    rcases (by omega : j = 0 ∨ j = 1 ∨ j = 2) with e | e | e <;> subst e
    · exact h.1
    · exact h.2.1
    · exact h.2.2
