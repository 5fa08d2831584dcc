/-! ===== more of the pure rows ===== -/
theorem z_bd_inc {b : Int → Int} {tr B p a A : Int} (h : z_bd b tr B) (p0 : 0 ≤ p) (p1 : p < 12) (a0 : 0 ≤ a) (a1 : a ≤ A) : z_bd (z_inb b p a) (tr + z_hl a (b (14 + 6 * p + 1))) (B + A) := by
  obtain ⟨h1, h2, h3, h4, h5, h6, h7, h8⟩ := h
  have hp := h1 p p0 p1
  have hh := z_hl_rg a0 hp.2.2.1
  unfold z_inb
  refine ⟨fun q q0 q1 => ?_, ?_, ?_, ?_, ?_, fun k q k0 k1 q0 q1 => ?_, by omega, by omega⟩
  · have hq := h1 q q0 q1
    simp only [z_uf]
    by_cases e : q = p
    · subst e; (repeat' split) <;> omega
    · (repeat' split) <;> omega
  · simp only [z_uf]; (repeat' split) <;> omega
  · simp only [z_uf]; (repeat' split) <;> omega
  · simp only [z_uf]; (repeat' split) <;> omega
  · simp only [z_uf]; (repeat' split) <;> omega
  · have := h6 k q k0 k1 q0 q1
    simp only [z_uf]; (repeat' split) <;> omega
theorem z_bd_cap {b : Int → Int} {tr B k p a A : Int} (h : z_bd b tr B) (k0 : 0 ≤ k) (k1 : k < 20) (p0 : 0 ≤ p) (p1 : p < 12) (a0 : 0 ≤ a) (a1 : a ≤ A) : z_bd (z_cpb b k p a) (tr + z_ov b k p a) (B + A) := by
  obtain ⟨h1, h2, h3, h4, h5, h6, h7, h8⟩ := h
  have hh := z_ov_rg (b := b) (k := k) (p := p) a0
  have hg := h6 k p k0 k1 p0 p1
  unfold z_cpb
  refine ⟨fun q q0 q1 => ?_, ?_, ?_, ?_, ?_, fun k' q k0' k1' q0 q1 => ?_, by omega, by omega⟩
  · have hq := h1 q q0 q1
    simp only [z_uf]
    (repeat' split) <;> omega
  · simp only [z_uf]; (repeat' split) <;> omega
  · simp only [z_uf]; (repeat' split) <;> omega
  · simp only [z_uf]; (repeat' split) <;> omega
  · simp only [z_uf]; (repeat' split) <;> omega
  · have := h6 k' q k0' k1' q0 q1
    simp only [z_uf]; (repeat' split) <;> omega
theorem z_sh_eq {b b' : Int → Int} {k rest : Int} {s0 r0 : Int → Int} (h : ∀ p, 0 ≤ p → p < 12 → b' (426 + 12 * k + p) = b (426 + 12 * k + p)) : z_sh b' k rest s0 r0 = z_sh b k rest s0 r0 := by
  have ha : z_aP b' k = z_aP b k := z_sm_eq fun i hi => h i (by omega) (by omega)
  have e1 : ∀ p, 0 ≤ p → p < 12 → z_s0 b' k rest p = z_s0 b k rest p := fun p p0 p1 => by unfold z_s0; rw [ha, h p p0 p1]
  have e2 : ∀ p, 0 ≤ p → p < 12 → z_r0m b' k rest p = z_r0m b k rest p := fun p p0 p1 => by unfold z_r0m; rw [ha, h p p0 p1]
  have e3 : z_lf b' k rest = z_lf b k rest := by
    unfold z_lf
    rw [z_sm_eq fun i hi => e1 i (by omega) (by omega)]
  have e4 : z_cp s0 (z_s0 b' k rest) 0 0 12 = z_cp s0 (z_s0 b k rest) 0 0 12 := by
    funext j; unfold z_cp; split
    · exact e1 _ (by omega) (by omega)
    · rfl
  have e5 : z_cp r0 (z_r0m b' k rest) 0 0 12 = z_cp r0 (z_r0m b k rest) 0 0 12 := by
    funext j; unfold z_cp; split
    · exact e2 _ (by omega) (by omega)
    · rfl
  unfold z_sh
  rw [e3, e4, e5]
theorem z_sh_rg {b : Int → Int} {k rest : Int} {s0 r0 : Int → Int} (hq : ∀ p, 0 ≤ p → p < 12 → 0 ≤ b (426 + 12 * k + p) ∧ b (426 + 12 * k + p) ≤ 9) (ha : 1 ≤ z_aP b k) (h0 : 0 ≤ rest) (h1 : rest ≤ 100000) : ∀ p, 0 ≤ p → p < 12 → 0 ≤ (z_sh b k rest s0 r0).1 p ∧ (z_sh b k rest s0 r0).1 p ≤ 1000000 := by
  intro p p0 p1
  have h := z_gv_rg (x := -1) (z_lf b k rest).toNat (z_cp s0 (z_s0 b k rest) 0 0 12) (z_cp r0 (z_r0m b k rest) 0 0 12) 900000 (fun q q0 q1 => by
    unfold z_cp
    rw [if_pos (by omega), show q - 0 + 0 = q by omega]
    exact (z_s0_rg hq ha h0 h1 q0 q1).2.2) p p0 p1
  have hw : 0 ≤ z_sm 12 (z_s0 b k rest) := z_sm_nn fun j hj => (z_s0_rg hq ha h0 h1 (p := j) (by omega) (by omega)).2.2.1
  have : ((z_lf b k rest).toNat : Int) ≤ 100000 := by unfold z_lf; omega
  unfold z_sh
  omega
theorem z_bd_stp {y : Int} {S : Int → Int} {k p B : Int} {x : (Int → Int) × Int} (k0 : 0 ≤ k) (k1 : k < 20) (p0 : 0 ≤ p) (p1 : p < 12) (hS : 0 ≤ S p ∧ S p ≤ 1000000) (h : z_bd x.1 x.2 B) : z_bd (z_stp y S k p x).1 (z_stp y S k p x).2 (B + 2000000) := by
  have hm : ∀ {b : Int → Int} {t C D : Int}, C ≤ D → z_bd b t C → z_bd b t D := by
    intro b t C D hCD q
    obtain ⟨h1, h2, h3, h4, h5, h6, h7, h8⟩ := q
    exact ⟨fun p p0 p1 => by have := h1 p p0 p1; omega, h2, by omega, h4, by omega, fun k p k0 k1 p0 p1 => by have := h6 k p k0 k1 p0 p1; omega, h7, by omega⟩
  unfold z_stp
  split
  · exact hm (by omega) (z_bd_inc h p0 p1 hS.1 hS.2)
  · have ho := z_ov_rg (b := x.1) (k := k) (p := p) hS.1
    have := z_bd_inc (z_bd_cap h k0 k1 p0 p1 hS.1 hS.2) p0 p1 (a := S p - z_ov x.1 k p (S p)) (A := 1000000) (by omega) (by omega)
    exact hm (by omega) this
theorem z_bd_lps {y : Int} {S : Int → Int} {k B : Int} {x : (Int → Int) × Int} (k0 : 0 ≤ k) (k1 : k < 20) (hS : ∀ p, 0 ≤ p → p < 12 → 0 ≤ S p ∧ S p ≤ 1000000) (h : z_bd x.1 x.2 B) : ∀ i : Nat, i ≤ 12 → z_bd (z_lps y S k i x).1 (z_lps y S k i x).2 (B + 2000000 * i) := by
  intro i
  induction i with
  | zero => intro _; rw [show B + 2000000 * ((0 : Nat) : Int) = B by omega]; exact h
  | succ i ih =>
    intro hi
    have := z_bd_stp (y := y) k0 k1 (p := i) (by omega) (by omega) (hS i (by omega) (by omega)) (ih (by omega))
    rw [show B + 2000000 * ((i + 1 : Nat) : Int) = B + 2000000 * (i : Int) + 2000000 by omega]
    exact this
/-- what the shares leave as it was -/
theorem z_inb_o {b : Int → Int} {p a j : Int} (h : j ≠ 14 + 6 * p + 1 ∧ j ≠ 14 + 6 * p + 2 ∧ j ≠ 14 + 6 * p ∧ j ≠ 3) : z_inb b p a j = b j := by
  unfold z_inb
  rw [z_uf_ne _ _ h.2.2.2, z_uf_ne _ _ h.2.2.1, z_uf_ne _ _ h.2.1, z_uf_ne _ _ h.1]
theorem z_cpb_o {b : Int → Int} {k p a j : Int} (h : j ≠ 3 ∧ j ≠ 7 ∧ j ≠ 666 + 12 * k + p) : z_cpb b k p a j = b j := by
  unfold z_cpb
  rw [z_uf_ne _ _ h.2.2, z_uf_ne _ _ h.2.1, z_uf_ne _ _ h.1]
theorem z_lps_o {y : Int} {S : Int → Int} {k j : Int} {x : (Int → Int) × Int} (k0 : 0 ≤ k) (hj : (0 ≤ j ∧ j < 3) ∨ (8 ≤ j ∧ j < 14) ∨ (86 ≤ j ∧ j < 666)) : ∀ i : Nat, i ≤ 12 → (z_lps y S k i x).1 j = x.1 j := by
  intro i
  induction i with
  | zero => intro _; rfl
  | succ i ih =>
    intro hi
    have := ih (by omega)
    show (z_stp y S k i (z_lps y S k i x)).1 j = _
    unfold z_stp
    split
    · show z_inb _ _ _ _ = _
      rw [z_inb_o (by omega), this]
    · show z_inb (z_cpb _ _ _ _) _ _ _ = _
      rw [z_inb_o (by omega), z_cpb_o (by omega), this]
theorem z_bd_mono {b : Int → Int} {t C D : Int} (hCD : C ≤ D) (q : z_bd b t C) : z_bd b t D := by
  obtain ⟨h1, h2, h3, h4, h5, h6, h7, h8⟩ := q
  exact ⟨fun p p0 p1 => by have := h1 p p0 p1; omega, h2, by omega, h4, by omega, fun k p k0 k1 p0 p1 => by have := h6 k p k0 k1 p0 p1; omega, h7, by omega⟩
theorem z_bd_b2 {b : Int → Int} {k a : Int} (k0 : 0 ≤ k) (k1 : k < 20) (hd : z_bd b 0 900000000) (hk : 0 ≤ z_kp b a ∧ z_kp b a ≤ 30000) : z_bd (z_cb2 b k a) (z_kp b a) 1000000000 := by
  unfold z_cb2 z_cb1
  obtain ⟨h1, h2, h3, h4, h5, h6, h7, h8⟩ := hd
  refine ⟨fun p p0 p1 => ?_, ?_, ?_, ?_, ?_, fun q p q0 q1 p0 p1 => ?_, by omega, by omega⟩
  · have := h1 p p0 p1
    simp only [z_uf]; (repeat' split) <;> omega
  · simp only [z_uf]; (repeat' split) <;> omega
  · simp only [z_uf]; (repeat' split) <;> omega
  · simp only [z_uf]; (repeat' split) <;> omega
  · simp only [z_uf]; (repeat' split) <;> omega
  · have := h6 q p q0 q1 p0 p1
    simp only [z_uf]; (repeat' split) <;> omega
theorem z_ci_rg {b : Int → Int} {k a y : Int} (k0 : 0 ≤ k) (k1 : k < 20) (a0 : 0 ≤ a) (a1 : a ≤ 100000) (hd : z_bd b 0 900000000) (g8 : 0 ≤ b 8 ∧ b 8 ≤ 30) (g9 : 0 ≤ b 9 ∧ b 9 ≤ 20) (gk : 0 ≤ b (86 + 5 * k) ∧ b (86 + 5 * k) < 12) (go : 0 ≤ b (14 + 6 * b (86 + 5 * k) + 3) ∧ b (14 + 6 * b (86 + 5 * k) + 3) < 12) :
    z_bd (z_ci b k a y).1 (z_ci b k a y).2 910000000 ∧ (∀ p, 0 ≤ p → p < 12 → (z_ci b k a y).1 (426 + 12 * k + p) = b (426 + 12 * k + p)) ∧ (z_ci b k a y).1 0 = b 0 ∧ (z_ci b k a y).1 10 = b 10 := by
  have e1 : 0 ≤ a * b 8 := Int.mul_nonneg a0 g8.1
  have e2 : a * b 8 ≤ a * 30 := Int.mul_le_mul_of_nonneg_left g8.2 a0
  have e3 : 0 ≤ a * b 9 := Int.mul_nonneg a0 g9.1
  have e4 : a * b 9 ≤ a * 20 := Int.mul_le_mul_of_nonneg_left g9.2 a0
  have hk : 0 ≤ z_kp b a ∧ z_kp b a ≤ 30000 := by unfold z_kp; omega
  have how : 0 ≤ z_ow2 b a y ∧ z_ow2 b a y ≤ 20000 := by unfold z_ow2; split <;> omega
  obtain ⟨h1, h2, h3, h4, h5, h6, h7, h8⟩ := hd
  unfold z_ci z_cb2 z_cb1 z_oo
  split
  · dsimp only
    refine ⟨⟨fun p p0 p1 => ?_, ?_, ?_, ?_, ?_, fun q p q0 q1 p0 p1 => ?_, by omega, by omega⟩, fun p p0 p1 => ?_, ?_, ?_⟩
    · have := h1 p p0 p1
      simp only [z_uf]; (repeat' split) <;> omega
    · simp only [z_uf]; (repeat' split) <;> omega
    · simp only [z_uf]; (repeat' split) <;> omega
    · simp only [z_uf]; (repeat' split) <;> omega
    · simp only [z_uf]; (repeat' split) <;> omega
    · have := h6 q p q0 q1 p0 p1
      simp only [z_uf]; (repeat' split) <;> omega
    · simp only [z_uf]; (repeat' split) <;> omega
    · simp only [z_uf]; (repeat' split) <;> omega
    · simp only [z_uf]; (repeat' split) <;> omega
  · have hb2 : z_bd (z_uf (z_uf (z_uf b 4 (b 4 + a)) 3 (b 3 + z_kp b a)) (86 + 5 * k + 4) (b (86 + 5 * k + 4) + a)) (z_kp b a) 900030000 := by
      refine ⟨fun p p0 p1 => ?_, ?_, ?_, ?_, ?_, fun q p q0 q1 p0 p1 => ?_, by omega, by omega⟩
      · have := h1 p p0 p1
        simp only [z_uf]; (repeat' split) <;> omega
      · simp only [z_uf]; (repeat' split) <;> omega
      · simp only [z_uf]; (repeat' split) <;> omega
      · simp only [z_uf]; (repeat' split) <;> omega
      · simp only [z_uf]; (repeat' split) <;> omega
      · have := h6 q p q0 q1 p0 p1
        simp only [z_uf]; (repeat' split) <;> omega
    have hi := z_bd_inc hb2 go.1 go.2 how.1 how.2
    refine ⟨z_bd_mono (by omega) hi, fun p p0 p1 => ?_, ?_, ?_⟩
    · dsimp only
      rw [z_inb_o (by omega), z_uf_ne _ _ (by omega), z_uf_ne _ _ (by omega), z_uf_ne _ _ (by omega)]
    · dsimp only
      rw [z_inb_o (by omega), z_uf_ne _ _ (by omega), z_uf_ne _ _ (by omega), z_uf_ne _ _ (by omega)]
    · dsimp only
      rw [z_inb_o (by omega), z_uf_ne _ _ (by omega), z_uf_ne _ _ (by omega), z_uf_ne _ _ (by omega)]
theorem z_cb2_o {b : Int → Int} {k a j : Int} (h : j ≠ 4 ∧ j ≠ 3 ∧ j ≠ 86 + 5 * k + 4) : z_cb2 b k a j = b j := by
  unfold z_cb2 z_cb1
  rw [z_uf_ne _ _ h.2.2, z_uf_ne _ _ h.2.1, z_uf_ne _ _ h.1]
theorem z_wd_nn (b : Int → Int) (k : Int) (n : Nat) : 0 ≤ z_wd b k n := by
  induction n with
  | zero => exact Int.le_refl _
  | succ n ih => unfold z_wd; split <;> first | exact z_bor_nn _ _ | exact ih
theorem z_am_eq {r r' : Int → Int} (h : ∀ p, 0 ≤ p → p < 12 → r p = r' p) : ∀ n : Nat, n < 12 → z_am r n = z_am r' n := by
  intro n
  induction n with
  | zero => intro _; rfl
  | succ n ih =>
    intro hn
    have e := ih (by omega)
    have l := z_am_le r n
    show (if r (z_am r n) < r ((n + 1 : Nat) : Int) then ((n + 1 : Nat) : Int) else z_am r n) = if r' (z_am r' n) < r' ((n + 1 : Nat) : Int) then ((n + 1 : Nat) : Int) else z_am r' n
    rw [← e, h (z_am r n) (by omega) (by omega), h ((n + 1 : Nat) : Int) (by omega) (by omega)]
theorem z_gv_eq {x : Int} : ∀ (m : Nat) {s r s' r' : Int → Int}, (∀ p, 0 ≤ p → p < 12 → s p = s' p ∧ r p = r' p) → ∀ p, 0 ≤ p → p < 12 → (z_gv x m s r).1 p = (z_gv x m s' r').1 p := by
  intro m
  induction m with
  | zero => intro s r s' r' h p p0 p1; exact (h p p0 p1).1
  | succ m ih =>
    intro s r s' r' h p p0 p1
    have e := z_am_eq (fun q q0 q1 => (h q q0 q1).2) 11 (by omega)
    show (z_gv x m (z_uf s (z_am r 11) (s (z_am r 11) + 1)) (z_uf r (z_am r 11) x)).1 p = (z_gv x m (z_uf s' (z_am r' 11) (s' (z_am r' 11) + 1)) (z_uf r' (z_am r' 11) x)).1 p
    have l := z_am_le r 11
    rw [← e]
    exact ih (fun q q0 q1 => by
      have h1 := h q q0 q1
      have h2 := h (z_am r 11) (by omega) (by omega)
      unfold z_uf
      constructor
      · split
        · omega
        · exact h1.1
      · split
        · rfl
        · exact h1.2) p p0 p1
theorem z_sh_ind {b : Int → Int} {k rest : Int} (s0 r0 s1 r1 : Int → Int) : ∀ p, 0 ≤ p → p < 12 → (z_sh b k rest s0 r0).1 p = (z_sh b k rest s1 r1).1 p := by
  unfold z_sh
  exact z_gv_eq _ (fun q q0 q1 => by unfold z_cp; constructor <;> rw [if_pos (by omega), if_pos (by omega)])
theorem z_lps_eq {y k : Int} {S S' : Int → Int} {x : (Int → Int) × Int} : ∀ n : Nat, (∀ p : Int, 0 ≤ p → p < n → S p = S' p) → z_lps y S k n x = z_lps y S' k n x := by
  intro n
  induction n with
  | zero => intro _; rfl
  | succ n ih =>
    intro h
    show z_stp y S k n (z_lps y S k n x) = z_stp y S' k n (z_lps y S' k n x)
    rw [ih (fun p p0 p1 => h p p0 (by omega))]
    unfold z_stp
    rw [h n (by omega) (by omega)]
theorem z_com2_ind {b : Int → Int} {k a y : Int} (n1 : b 0 ≤ 12) (s0 r0 s1 r1 : Int → Int) : z_com2 b k a y s0 r0 = z_com2 b k a y s1 r1 :=
  z_lps_eq _ fun p p0 p1 => z_sh_ind s0 r0 s1 r1 p p0 (by omega)
theorem z_com2_cm {b : Int → Int} {k a y : Int} (n1 : b 0 ≤ 12) (s0 r0 : Int → Int) : z_com2 b k a y s0 r0 = z_cm b k a y := z_com2_ind n1 _ _ _ _
theorem z_stp_out {y : Int} {S : Int → Int} {k p j : Int} {x : (Int → Int) × Int} (k0 : 0 ≤ k) (k1 : k < 20) (p0 : 0 ≤ p) (p1 : p < 12) (hj : j < 0 ∨ 906 ≤ j) : (z_stp y S k p x).1 j = x.1 j := by
  unfold z_stp
  split
  · exact z_inb_o (by omega)
  · exact (z_inb_o (by omega)).trans (z_cpb_o (by omega))
theorem z_lps_out {y : Int} {S : Int → Int} {k j : Int} {x : (Int → Int) × Int} (k0 : 0 ≤ k) (k1 : k < 20) (hj : j < 0 ∨ 906 ≤ j) : ∀ n : Nat, n ≤ 12 → (z_lps y S k n x).1 j = x.1 j := by
  intro n
  induction n with
  | zero => intro _; rfl
  | succ n ih => intro h; exact (z_stp_out k0 k1 (by omega) (by omega) hj).trans (ih (by omega))
theorem z_com2_out {b : Int → Int} {k a y j : Int} {s0 r0 : Int → Int} (k0 : 0 ≤ k) (k1 : k < 20) (n1 : b 0 ≤ 12) (go : 0 ≤ b (14 + 6 * b (86 + 5 * k) + 3) ∧ b (14 + 6 * b (86 + 5 * k) + 3) < 12) (hj : j < 0 ∨ 906 ≤ j) : (z_com2 b k a y s0 r0).1 j = b j := by
  refine (z_lps_out k0 k1 hj _ (by omega)).trans ?_
  unfold z_ci
  split
  · show z_cb1 b a j = b j
    unfold z_cb1
    rw [z_uf_ne _ _ (by omega), z_uf_ne _ _ (by omega)]
  · refine (z_inb_o ?_).trans (z_cb2_o (by omega))
    unfold z_oo
    omega
theorem z_cm_bd {b : Int → Int} {k a y : Int} (k0 : 0 ≤ k) (k1 : k < 20) (a0 : 0 ≤ a) (a1 : a ≤ 100000) (h : z_cF b k) : z_bd (z_cm b k a y).1 (z_cm b k a y).2 1000000000 := by
  obtain ⟨h1, h2, h3, h4, h5, h6, h7, h8, h9, h10, h11⟩ := h
  have hc := z_ci_rg (y := y) k0 k1 a0 a1 h3 h6 h7 h9 h11
  have hr := z_rs_rg (y := y) a0 a1 h6 h7
  have hs := z_sh_rg (s0 := fun _ => 0) (r0 := fun _ => 0) h1 h2 hr.1 hr.2
  exact z_bd_mono (by omega) (z_bd_lps k0 k1 hs hc.1 (b 0).toNat (by omega))
theorem z_paid_rg {b : Int → Int} {k a p : Int} (k0 : 0 ≤ k) (k1 : k < 20) (a0 : 0 ≤ a) (a1 : a ≤ 100000) (p0 : 0 ≤ p) (p1 : p < 12) (h : z_cF b k) : z_rg (z_paid b k a p) := by
  have h1 := (z_cm_bd (y := 1) k0 k1 a0 a1 h).1 p p0 p1
  have h2 := h.2.2.1.1 p p0 p1
  unfold z_paid
  omega
theorem z_bv_rg {b : Int → Int} {N k p t : Int} (hb : z_BI b N) (k0 : 0 ≤ k) (k1 : k < b 1) (t0 : 0 ≤ t) (t1 : t ≤ 100000) (p0 : 0 ≤ p) (p1 : p < 12) : z_rg (if b (86 + 5 * k + 2) = 3 then z_paid b k t p else -1) := by
  have hh := z_BI_h hb
  split
  · exact z_paid_rg k0 (by omega) t0 t1 p0 p1 (z_BI_cF hb k0 k1)
  · decide
theorem z_bst_rg {b : Int → Int} {N p t : Int} (hb : z_BI b N) (t0 : 0 ≤ t) (t1 : t ≤ 100000) (p0 : 0 ≤ p) (p1 : p < 12) : ∀ n : Nat, n ≤ b 1 → z_rg (z_bst b p t n).2 ∧ z_rg (z_bst b p t n).1 := by
  intro n
  induction n with
  | zero => intro _; exact ⟨by show z_rg (-1); decide, by show z_rg (-1); decide⟩
  | succ n ih =>
    intro h
    have hh := z_BI_h hb
    have e : z_bst b p t (n + 1) = if (z_bst b p t n).2 < (if b (86 + 5 * (n : Int) + 2) = 3 then z_paid b n t p else -1) then ((n : Int), if b (86 + 5 * (n : Int) + 2) = 3 then z_paid b n t p else -1) else z_bst b p t n := rfl
    have hv := z_bv_rg (k := n) hb (by omega) (by omega) t0 t1 p0 p1
    generalize (if b (86 + 5 * (n : Int) + 2) = 3 then z_paid b n t p else -1) = v at *
    rw [e]
    by_cases hc : (z_bst b p t n).2 < v
    · rw [if_pos hc]
      exact ⟨hv, by show z_rg (n : Int); omega⟩
    · rw [if_neg hc]
      exact ih (by omega)
