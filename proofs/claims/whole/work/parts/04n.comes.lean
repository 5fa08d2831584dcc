abbrev z_m4 (M : z_M) (b : Int → Int) (t : Int) (s r : Int → Int) : z_M := z_sR (z_sR (z_sM (z_sR M 22 b) 21 1 t) 27 s) 28 r
section ZM4
variable {G : z_G} {M : z_M} {b : Int → Int} {t : Int} {s r : Int → Int}
theorem z_m4_0 (t : Int) : z_sM M 21 1 t = z_m4 M (M 22) t (M 27) (M 28) := by
  show _ = z_sR (z_sR (z_sM (z_sR M 22 (M 22)) 21 1 t) 27 (M 27)) 28 (M 28)
  rw [z_sR_id, z_sR_sM _ _ _ _ (show (27 : Nat) ≠ 21 by decide), z_sR_id, z_sR_sM _ _ _ _ (show (28 : Nat) ≠ 21 by decide), z_sR_id]
theorem z_m4_22 (i v : Int) : z_sM (z_m4 M b t s r) 22 i v = z_m4 M (z_uf b i v) t s r := by
  show z_sM (z_sR (z_sR (z_sM (z_sR M 22 b) 21 1 t) 27 s) 28 r) 22 i v = z_sR (z_sR (z_sM (z_sR M 22 (z_uf b i v)) 21 1 t) 27 s) 28 r
  rw [z_sM_R, show z_sR (z_sR (z_sM (z_sR M 22 b) 21 1 t) 27 s) 28 r 22 = b from rfl, z_sR_comm _ _ _ (show (28 : Nat) ≠ 22 by decide), z_sR_comm _ _ _ (show (27 : Nat) ≠ 22 by decide), z_sR_sM _ _ _ _ (show (22 : Nat) ≠ 21 by decide), z_sR_R]
theorem z_m4_R (b' : Int → Int) : z_sR (z_m4 M b t s r) 22 b' = z_m4 M b' t s r := by
  show z_sR (z_sR (z_sR (z_sM (z_sR M 22 b) 21 1 t) 27 s) 28 r) 22 b' = z_sR (z_sR (z_sM (z_sR M 22 b') 21 1 t) 27 s) 28 r
  rw [z_sR_comm _ _ _ (show (28 : Nat) ≠ 22 by decide), z_sR_comm _ _ _ (show (27 : Nat) ≠ 22 by decide), z_sR_sM _ _ _ _ (show (22 : Nat) ≠ 21 by decide), z_sR_R]
theorem z_m4_t (v : Int) : z_sM (z_m4 M b t s r) 21 1 v = z_m4 M b v s r := by
  show z_sM (z_sR (z_sR (z_sM (z_sR M 22 b) 21 1 t) 27 s) 28 r) 21 1 v = z_sR (z_sR (z_sM (z_sR M 22 b) 21 1 v) 27 s) 28 r
  rw [← z_sR_sM _ _ _ _ (show (28 : Nat) ≠ 21 by decide), ← z_sR_sM _ _ _ _ (show (27 : Nat) ≠ 21 by decide), z_sM_sM]
theorem z_m4_7 (s' r' : Int → Int) : z_t7 (z_m4 M b t s r) s' r' = z_m4 M b t s' r' := by
  show z_sR (z_sR (z_sR (z_sR (z_sM (z_sR M 22 b) 21 1 t) 27 s) 28 r) 27 s') 28 r' = _
  rw [z_sR_comm _ _ _ (show (28 : Nat) ≠ 27 by decide), z_sR_R, z_sR_R]
theorem tX7_reserves4 {a : Int} (ra : z_rg a) (g1 : z_rg (b 3 + a)) (g2 : z_rg (t + a)) : KX7_reserves G [.ref (z_ad G 0 40), z_I a] (z_m4 M b t s r) (.inl none) (z_m4 M (z_uf b 3 (b 3 + a)) (t + a) s r) := by
  have h := tX7_reserves (G := G) (M := z_m4 M b t s r) ra g1 g2
  rw [z_m4_22, z_m4_t] at h
  exact h
theorem tX7_income4 {p a : Int} (p0 : 0 ≤ p) (p1 : p < 12) (a0 : 0 ≤ a) (a1 : a ≤ 3000000) (hd : z_bd b t 1000000000) : KX7_income G [.ref (z_ad G 0 40), z_I p, z_I a] (z_m4 M b t s r) (.inl none) (z_m4 M (z_inb b p a) (t + z_hl a (b (14 + 6 * p + 1))) s r) := by
  have h := tX7_income (G := G) (M := z_m4 M b t s r) p0 p1 a0 a1 hd
  rw [z_m4_R, z_m4_t] at h
  exact h
theorem tX7_capped4 {k p a : Int} (k0 : 0 ≤ k) (k1 : k < 20) (p0 : 0 ≤ p) (p1 : p < 12) (a0 : 0 ≤ a) (a1 : a ≤ 3000000) (hd : z_bd b t 1000000000) (c0 : 0 ≤ b 10) (c1 : b 10 ≤ 10000) : KX7_capped G [.ref (z_ad G 0 40), z_I k, z_I p, z_I a] (z_m4 M b t s r) (.inl (some (z_I (a - z_ov b k p a)))) (z_m4 M (z_cpb b k p a) (t + z_ov b k p a) s r) := by
  have h := tX7_capped (G := G) (M := z_m4 M b t s r) k0 k1 p0 p1 a0 a1 hd c0 c1
  rw [z_m4_R, z_m4_t] at h
  exact h
end ZM4
/-- one pen's share of an amount (y = 0: no royalties) -/
def z_stp (y : Int) (S : Int → Int) (k p : Int) (x : (Int → Int) × Int) : (Int → Int) × Int :=
  if y = 0 then (z_inb x.1 p (S p), x.2 + z_hl (S p) (x.1 (14 + 6 * p + 1)))
  else (z_inb (z_cpb x.1 k p (S p)) p (S p - z_ov x.1 k p (S p)), x.2 + z_ov x.1 k p (S p) + z_hl (S p - z_ov x.1 k p (S p)) (z_cpb x.1 k p (S p) (14 + 6 * p + 1)))
def z_lps (y : Int) (S : Int → Int) (k : Int) : Nat → (Int → Int) × Int → (Int → Int) × Int
  | 0, x => x
  | i + 1, x => z_stp y S k i (z_lps y S k i x)
def z_kp (b : Int → Int) (a : Int) : Int := a * b 8 / 100
def z_ow2 (b : Int → Int) (a y : Int) : Int := if y = 0 then 0 else a * b 9 / 100
/-- ahead of the pens' shares -/
def z_cb1 (b : Int → Int) (a : Int) : Int → Int := z_uf (z_uf b 4 (b 4 + a)) 3 (b 3 + z_kp b a)
def z_cb2 (b : Int → Int) (k a : Int) : Int → Int := z_uf (z_cb1 b a) (86 + 5 * k + 4) (b (86 + 5 * k + 4) + a)
def z_oo (b : Int → Int) (k : Int) : Int := b (14 + 6 * b (86 + 5 * k) + 3)
def z_ci (b : Int → Int) (k a y : Int) : (Int → Int) × Int :=
  if y = 0 then (z_cb1 b a, z_kp b a)
  else (z_inb (z_cb2 b k a) (z_oo b k) (z_ow2 b a y), z_kp b a + z_hl (z_ow2 b a y) (z_cb2 b k a (14 + 6 * z_oo b k + 1)))
def z_rs (b : Int → Int) (a y : Int) : Int := a - z_kp b a - z_ow2 b a y
def z_sh (b : Int → Int) (k rest : Int) (s0 r0 : Int → Int) : (Int → Int) × (Int → Int) := z_gv (-1) (z_lf b k rest).toNat (z_cp s0 (z_s0 b k rest) 0 0 12) (z_cp r0 (z_r0m b k rest) 0 0 12)
/-- what comes in: the books then, and what of it comes to the reserve -/
def z_com2 (b : Int → Int) (k a y : Int) (s0 r0 : Int → Int) : (Int → Int) × Int := z_lps y (z_sh b k (z_rs b a y) s0 r0).1 k (b 0).toNat (z_ci b k a y)
theorem z_sh_eq {b b' : Int → Int} {k rest : Int} {s0 r0 : Int → Int} (h : ∀ p, 0 ≤ p → p < 12 → b' (426 + 12 * k + p) = b (426 + 12 * k + p)) : z_sh b' k rest s0 r0 = z_sh b k rest s0 r0 := by
  have ha : z_aP b' k = z_aP b k := z_sm_eq fun i hi => h i (by omega) (by omega)
  have e1 : ∀ p, 0 ≤ p → p < 12 → z_s0 b' k rest p = z_s0 b k rest p := fun p p0 p1 => by unfold z_s0; rw [ha, h p p0 p1]
  have e2 : ∀ p, 0 ≤ p → p < 12 → z_r0m b' k rest p = z_r0m b k rest p := fun p p0 p1 => by unfold z_r0m; rw [ha, h p p0 p1]
  have e3 : z_lf b' k rest = z_lf b k rest := by
    unfold z_lf
    rw [z_sm_eq fun i hi => e1 i (by omega) (by omega)]
  have e4 : z_cp s0 (z_s0 b' k rest) 0 0 12 = z_cp s0 (z_s0 b k rest) 0 0 12 := by
    funext j; unfold z_cp; split
    · exact e1 _ (by omega) (by omega)
    · rfl
  have e5 : z_cp r0 (z_r0m b' k rest) 0 0 12 = z_cp r0 (z_r0m b k rest) 0 0 12 := by
    funext j; unfold z_cp; split
    · exact e2 _ (by omega) (by omega)
    · rfl
  unfold z_sh
  rw [e3, e4, e5]
theorem z_gv_rg {x : Int} : ∀ (m : Nat) (s r : Int → Int) (B : Int), (∀ p, 0 ≤ p → p < 12 → 0 ≤ s p ∧ s p ≤ B) → ∀ p, 0 ≤ p → p < 12 → 0 ≤ (z_gv x m s r).1 p ∧ (z_gv x m s r).1 p ≤ B + m := by
  intro m
  induction m with
  | zero => intro s r B h p p0 p1; have := h p p0 p1; show 0 ≤ s p ∧ s p ≤ B + (0 : Nat); omega
  | succ m ih =>
    intro s r B h p p0 p1
    have ha := z_am_le r 11
    have := ih (z_uf s (z_am r 11) (s (z_am r 11) + 1)) (z_uf r (z_am r 11) x) (B + 1) (fun q q0 q1 => by
      have h1 := h q q0 q1
      have h2 := h (z_am r 11) (by omega) (by omega)
      unfold z_uf; split <;> omega) p p0 p1
    show 0 ≤ (z_gv x m (z_uf s (z_am r 11) (s (z_am r 11) + 1)) (z_uf r (z_am r 11) x)).1 p ∧ (z_gv x m (z_uf s (z_am r 11) (s (z_am r 11) + 1)) (z_uf r (z_am r 11) x)).1 p ≤ B + ((m + 1 : Nat) : Int)
    omega
theorem z_sh_rg {b : Int → Int} {k rest : Int} {s0 r0 : Int → Int} (hq : ∀ p, 0 ≤ p → p < 12 → 0 ≤ b (426 + 12 * k + p) ∧ b (426 + 12 * k + p) ≤ 9) (ha : 1 ≤ z_aP b k) (h0 : 0 ≤ rest) (h1 : rest ≤ 100000) : ∀ p, 0 ≤ p → p < 12 → 0 ≤ (z_sh b k rest s0 r0).1 p ∧ (z_sh b k rest s0 r0).1 p ≤ 1000000 := by
  intro p p0 p1
  have h := z_gv_rg (x := -1) (z_lf b k rest).toNat (z_cp s0 (z_s0 b k rest) 0 0 12) (z_cp r0 (z_r0m b k rest) 0 0 12) 900000 (fun q q0 q1 => by
    unfold z_cp
    rw [if_pos (by omega), show q - 0 + 0 = q by omega]
    exact (z_s0_rg hq ha h0 h1 q0 q1).2.2) p p0 p1
  have hw : 0 ≤ z_sm 12 (z_s0 b k rest) := z_sm_nn fun j hj => (z_s0_rg hq ha h0 h1 (p := j) (by omega) (by omega)).2.2.1
  have : ((z_lf b k rest).toNat : Int) ≤ 100000 := by unfold z_lf; omega
  unfold z_sh
  omega
theorem z_bd_stp {y : Int} {S : Int → Int} {k p B : Int} {x : (Int → Int) × Int} (k0 : 0 ≤ k) (k1 : k < 20) (p0 : 0 ≤ p) (p1 : p < 12) (hS : 0 ≤ S p ∧ S p ≤ 1000000) (h : z_bd x.1 x.2 B) : z_bd (z_stp y S k p x).1 (z_stp y S k p x).2 (B + 2000000) := by
  have hm : ∀ {b : Int → Int} {t C D : Int}, C ≤ D → z_bd b t C → z_bd b t D := by
    intro b t C D hCD q
    obtain ⟨h1, h2, h3, h4, h5, h6, h7, h8⟩ := q
    exact ⟨fun p p0 p1 => by have := h1 p p0 p1; omega, h2, by omega, h4, by omega, fun k p k0 k1 p0 p1 => by have := h6 k p k0 k1 p0 p1; omega, h7, by omega⟩
  unfold z_stp
  split
  · exact hm (by omega) (z_bd_inc h p0 p1 hS.1 hS.2)
  · have ho := z_ov_rg (b := x.1) (k := k) (p := p) hS.1
    have := z_bd_inc (z_bd_cap h k0 k1 p0 p1 hS.1 hS.2) p0 p1 (a := S p - z_ov x.1 k p (S p)) (A := 1000000) (by omega) (by omega)
    exact hm (by omega) this
theorem z_bd_lps {y : Int} {S : Int → Int} {k B : Int} {x : (Int → Int) × Int} (k0 : 0 ≤ k) (k1 : k < 20) (hS : ∀ p, 0 ≤ p → p < 12 → 0 ≤ S p ∧ S p ≤ 1000000) (h : z_bd x.1 x.2 B) : ∀ i : Nat, i ≤ 12 → z_bd (z_lps y S k i x).1 (z_lps y S k i x).2 (B + 2000000 * i) := by
  intro i
  induction i with
  | zero => intro _; rw [show B + 2000000 * ((0 : Nat) : Int) = B by omega]; exact h
  | succ i ih =>
    intro hi
    have := z_bd_stp (y := y) k0 k1 (p := i) (by omega) (by omega) (hS i (by omega) (by omega)) (ih (by omega))
    rw [show B + 2000000 * ((i + 1 : Nat) : Int) = B + 2000000 * (i : Int) + 2000000 by omega]
    exact this
/-- what the shares leave as it was -/
theorem z_inb_o {b : Int → Int} {p a j : Int} (h : j ≠ 14 + 6 * p + 1 ∧ j ≠ 14 + 6 * p + 2 ∧ j ≠ 14 + 6 * p ∧ j ≠ 3) : z_inb b p a j = b j := by
  unfold z_inb
  rw [z_uf_ne _ _ h.2.2.2, z_uf_ne _ _ h.2.2.1, z_uf_ne _ _ h.2.1, z_uf_ne _ _ h.1]
theorem z_cpb_o {b : Int → Int} {k p a j : Int} (h : j ≠ 3 ∧ j ≠ 7 ∧ j ≠ 666 + 12 * k + p) : z_cpb b k p a j = b j := by
  unfold z_cpb
  rw [z_uf_ne _ _ h.2.2, z_uf_ne _ _ h.2.1, z_uf_ne _ _ h.1]
theorem z_lps_o {y : Int} {S : Int → Int} {k j : Int} {x : (Int → Int) × Int} (k0 : 0 ≤ k) (hj : (0 ≤ j ∧ j < 3) ∨ (8 ≤ j ∧ j < 14) ∨ (86 ≤ j ∧ j < 666)) : ∀ i : Nat, i ≤ 12 → (z_lps y S k i x).1 j = x.1 j := by
  intro i
  induction i with
  | zero => intro _; rfl
  | succ i ih =>
    intro hi
    have := ih (by omega)
    show (z_stp y S k i (z_lps y S k i x)).1 j = _
    unfold z_stp
    split
    · show z_inb _ _ _ _ = _
      rw [z_inb_o (by omega), this]
    · show z_inb (z_cpb _ _ _ _) _ _ _ = _
      rw [z_inb_o (by omega), z_cpb_o (by omega), this]
theorem z_bd_mono {b : Int → Int} {t C D : Int} (hCD : C ≤ D) (q : z_bd b t C) : z_bd b t D := by
  obtain ⟨h1, h2, h3, h4, h5, h6, h7, h8⟩ := q
  exact ⟨fun p p0 p1 => by have := h1 p p0 p1; omega, h2, by omega, h4, by omega, fun k p k0 k1 p0 p1 => by have := h6 k p k0 k1 p0 p1; omega, h7, by omega⟩
theorem z_rs_rg {b : Int → Int} {a y : Int} (a0 : 0 ≤ a) (a1 : a ≤ 100000) (g8 : 0 ≤ b 8 ∧ b 8 ≤ 30) (g9 : 0 ≤ b 9 ∧ b 9 ≤ 20) : 0 ≤ z_rs b a y ∧ z_rs b a y ≤ 100000 := by
  have e1 : 0 ≤ a * b 8 := Int.mul_nonneg a0 g8.1
  have e2 : a * b 8 ≤ a * 30 := Int.mul_le_mul_of_nonneg_left g8.2 a0
  have e3 : 0 ≤ a * b 9 := Int.mul_nonneg a0 g9.1
  have e4 : a * b 9 ≤ a * 20 := Int.mul_le_mul_of_nonneg_left g9.2 a0
  unfold z_rs z_kp z_ow2
  split <;> omega
theorem z_bd_b2 {b : Int → Int} {k a : Int} (k0 : 0 ≤ k) (k1 : k < 20) (hd : z_bd b 0 900000000) (hk : 0 ≤ z_kp b a ∧ z_kp b a ≤ 30000) : z_bd (z_cb2 b k a) (z_kp b a) 1000000000 := by
  unfold z_cb2 z_cb1
  obtain ⟨h1, h2, h3, h4, h5, h6, h7, h8⟩ := hd
  refine ⟨fun p p0 p1 => ?_, ?_, ?_, ?_, ?_, fun q p q0 q1 p0 p1 => ?_, by omega, by omega⟩
  · have := h1 p p0 p1
    simp only [z_uf]; (repeat' split) <;> omega
  · simp only [z_uf]; (repeat' split) <;> omega
  · simp only [z_uf]; (repeat' split) <;> omega
  · simp only [z_uf]; (repeat' split) <;> omega
  · simp only [z_uf]; (repeat' split) <;> omega
  · have := h6 q p q0 q1 p0 p1
    simp only [z_uf]; (repeat' split) <;> omega
theorem z_ci_rg {b : Int → Int} {k a y : Int} (k0 : 0 ≤ k) (k1 : k < 20) (a0 : 0 ≤ a) (a1 : a ≤ 100000) (hd : z_bd b 0 900000000) (g8 : 0 ≤ b 8 ∧ b 8 ≤ 30) (g9 : 0 ≤ b 9 ∧ b 9 ≤ 20) (gk : 0 ≤ b (86 + 5 * k) ∧ b (86 + 5 * k) < 12) (go : 0 ≤ b (14 + 6 * b (86 + 5 * k) + 3) ∧ b (14 + 6 * b (86 + 5 * k) + 3) < 12) :
    z_bd (z_ci b k a y).1 (z_ci b k a y).2 910000000 ∧ (∀ p, 0 ≤ p → p < 12 → (z_ci b k a y).1 (426 + 12 * k + p) = b (426 + 12 * k + p)) ∧ (z_ci b k a y).1 0 = b 0 ∧ (z_ci b k a y).1 10 = b 10 := by
  have e1 : 0 ≤ a * b 8 := Int.mul_nonneg a0 g8.1
  have e2 : a * b 8 ≤ a * 30 := Int.mul_le_mul_of_nonneg_left g8.2 a0
  have e3 : 0 ≤ a * b 9 := Int.mul_nonneg a0 g9.1
  have e4 : a * b 9 ≤ a * 20 := Int.mul_le_mul_of_nonneg_left g9.2 a0
  have hk : 0 ≤ z_kp b a ∧ z_kp b a ≤ 30000 := by unfold z_kp; omega
  have how : 0 ≤ z_ow2 b a y ∧ z_ow2 b a y ≤ 20000 := by unfold z_ow2; split <;> omega
  obtain ⟨h1, h2, h3, h4, h5, h6, h7, h8⟩ := hd
  unfold z_ci z_cb2 z_cb1 z_oo
  split
  · dsimp only
    refine ⟨⟨fun p p0 p1 => ?_, ?_, ?_, ?_, ?_, fun q p q0 q1 p0 p1 => ?_, by omega, by omega⟩, fun p p0 p1 => ?_, ?_, ?_⟩
    · have := h1 p p0 p1
      simp only [z_uf]; (repeat' split) <;> omega
    · simp only [z_uf]; (repeat' split) <;> omega
    · simp only [z_uf]; (repeat' split) <;> omega
    · simp only [z_uf]; (repeat' split) <;> omega
    · simp only [z_uf]; (repeat' split) <;> omega
    · have := h6 q p q0 q1 p0 p1
      simp only [z_uf]; (repeat' split) <;> omega
    · simp only [z_uf]; (repeat' split) <;> omega
    · simp only [z_uf]; (repeat' split) <;> omega
    · simp only [z_uf]; (repeat' split) <;> omega
  · have hb2 : z_bd (z_uf (z_uf (z_uf b 4 (b 4 + a)) 3 (b 3 + z_kp b a)) (86 + 5 * k + 4) (b (86 + 5 * k + 4) + a)) (z_kp b a) 900030000 := by
      refine ⟨fun p p0 p1 => ?_, ?_, ?_, ?_, ?_, fun q p q0 q1 p0 p1 => ?_, by omega, by omega⟩
      · have := h1 p p0 p1
        simp only [z_uf]; (repeat' split) <;> omega
      · simp only [z_uf]; (repeat' split) <;> omega
      · simp only [z_uf]; (repeat' split) <;> omega
      · simp only [z_uf]; (repeat' split) <;> omega
      · simp only [z_uf]; (repeat' split) <;> omega
      · have := h6 q p q0 q1 p0 p1
        simp only [z_uf]; (repeat' split) <;> omega
    have hi := z_bd_inc hb2 go.1 go.2 how.1 how.2
    refine ⟨z_bd_mono (by omega) hi, fun p p0 p1 => ?_, ?_, ?_⟩
    · dsimp only
      rw [z_inb_o (by omega), z_uf_ne _ _ (by omega), z_uf_ne _ _ (by omega), z_uf_ne _ _ (by omega)]
    · dsimp only
      rw [z_inb_o (by omega), z_uf_ne _ _ (by omega), z_uf_ne _ _ (by omega), z_uf_ne _ _ (by omega)]
    · dsimp only
      rw [z_inb_o (by omega), z_uf_ne _ _ (by omega), z_uf_ne _ _ (by omega), z_uf_ne _ _ (by omega)]
theorem z_cb2_o {b : Int → Int} {k a j : Int} (h : j ≠ 4 ∧ j ≠ 3 ∧ j ≠ 86 + 5 * k + 4) : z_cb2 b k a j = b j := by
  unfold z_cb2 z_cb1
  rw [z_uf_ne _ _ h.2.2, z_uf_ne _ _ h.2.1, z_uf_ne _ _ h.1]
theorem tX7_comesIn0 {G : z_G} {M : z_M} {k a : Int} (k0 : 0 ≤ k) (k1 : k < 20) (a0 : 0 ≤ a) (a1 : a ≤ 100000) (hq : ∀ p, 0 ≤ p → p < 12 → 0 ≤ M 22 (426 + 12 * k + p) ∧ M 22 (426 + 12 * k + p) ≤ 9) (ha : 1 ≤ z_aP (M 22) k) (hd : z_bd (M 22) 0 900000000) (n0 : 0 ≤ M 22 0) (n1 : M 22 0 ≤ 12) (g4 : 0 ≤ M 22 4 ∧ M 22 4 ≤ 100000000) (g8 : 0 ≤ M 22 8 ∧ M 22 8 ≤ 30) (g9 : 0 ≤ M 22 9 ∧ M 22 9 ≤ 20) (g10 : 0 ≤ M 22 10 ∧ M 22 10 ≤ 10000) (gk : 0 ≤ M 22 (86 + 5 * k) ∧ M 22 (86 + 5 * k) < 12) (gr : 0 ≤ M 22 (86 + 5 * k + 4) ∧ M 22 (86 + 5 * k + 4) ≤ 100000000) (go : 0 ≤ M 22 (14 + 6 * M 22 (86 + 5 * k) + 3) ∧ M 22 (14 + 6 * M 22 (86 + 5 * k) + 3) < 12) : KX7_comesIn G [.ref (z_ad G 0 40), z_I k, z_I a, z_I 0] M (.inl none) (z_m4 M (z_com2 (M 22) k a 0 (M 27) (M 28)).1 (z_com2 (M 22) k a 0 (M 27) (M 28)).2 (z_sh (M 22) k (z_rs (M 22) a 0) (M 27) (M 28)).1 (z_sh (M 22) k (z_rs (M 22) a 0) (M 27) (M 28)).2) := by
  refine z_con (ls := [some (.ref (z_ad G 0 40)), some (z_I k), some (z_I a), some (z_I 0), none, none, none, none]) (by decide +kernel) (Nat.le_of_ble_eq_true rfl) rfl ?_
  intro Z htb
  refine z_rng fun hr => ?_
  have y_d := hd
  obtain ⟨y_1, y_2, y_3, y_4, y_5, y_6, y_7, y_8⟩ := y_d
  have y_kp : 0 ≤ z_kp (M 22) a ∧ z_kp (M 22) a ≤ 30000 := by
    have e1 : 0 ≤ a * M 22 8 := Int.mul_nonneg a0 g8.1
    have e2 : a * M 22 8 ≤ 100000 * 30 := Int.mul_le_mul a1 g8.2 g8.1 (by decide)
    unfold z_kp
    omega
  have y_e1 : 0 ≤ a * M 22 8 := Int.mul_nonneg a0 g8.1
  have y_e2 : a * M 22 8 ≤ 100000 * 30 := Int.mul_le_mul a1 g8.2 g8.1 (by decide)
  have y_e3 : 0 ≤ a * M 22 9 := Int.mul_nonneg a0 g9.1
  have y_e4 : a * M 22 9 ≤ 100000 * 20 := Int.mul_le_mul a1 g9.2 g9.1 (by decide)
  have y_ow : 0 ≤ z_ow2 (M 22) a 0 ∧ z_ow2 (M 22) a 0 ≤ 20000 := by
    unfold z_ow2
    split <;> omega
  have y_rs : 0 ≤ z_rs (M 22) a 0 ∧ z_rs (M 22) a 0 ≤ 100000 := z_rs_rg a0 a1 g8 g9
  have y_S := z_sh_rg (s0 := M 27) (r0 := M 28) hq ha y_rs.1 y_rs.2
  obtain ⟨y_bd, y_Cq, y_C0, y_C10⟩ := z_ci_rg (y := 0) k0 k1 a0 a1 hd g8 g9 gk go
  have y_q : ∀ p, 0 ≤ p → p < 12 → 0 ≤ (z_ci (M 22) k a 0).1 (426 + 12 * k + p) ∧ (z_ci (M 22) k a 0).1 (426 + 12 * k + p) ≤ 9 := fun p p0 p1 => by rw [y_Cq p p0 p1]; exact hq p p0 p1
  have y_a : 1 ≤ z_aP (z_ci (M 22) k a 0).1 k := by
    rw [show z_aP (z_ci (M 22) k a 0).1 k = z_aP (M 22) k from z_sm_eq fun i hi => y_Cq i (by omega) (by omega)]
    exact ha
  have y_SH : z_sh (z_ci (M 22) k a 0).1 k (z_rs (M 22) a 0) (M 27) (M 28) = (z_sh (M 22) k (z_rs (M 22) a 0) (M 27) (M 28)) := z_sh_eq y_Cq
  have y_b2 : z_bd (z_cb2 (M 22) k a) (z_kp (M 22) a) 1000000000 := z_bd_b2 k0 k1 hd y_kp
  refine z_aloadn dX7_comesIn_0 rfl ?_
  refine z_iconst dX7_comesIn_1 ?_
  refine pX7_136 (by first | (exact hr _ _ (by decide)) | omega) rfl dX7_comesIn_2 ?_
  refine z_rng fun hr => ?_
  refine z_mem (M' := z_m4 M (M 22) 0 (M 27) (M 28)) (z_m4_0 0) ?_
  refine z_aloadn dX7_comesIn_5 rfl ?_
  refine gX7_7 rfl dX7_comesIn_6 ?_
  refine z_iconst dX7_comesIn_9 ?_
  refine z_dup2 dX7_comesIn_10 rfl rfl ?_
  refine z_iald (by rfl) (by first | decide | exact Or.inl ⟨by decide, hg⟩) (by omega) (by omega) (by decide) dX7_comesIn_11 ?_
  refine z_top (v' := M 22 4) rfl ?_
  refine z_iloadn dX7_comesIn_12 rfl ?_
  refine z_iadd dX7_comesIn_13 ?_
  refine z_iast (by rfl) (by first | decide | exact Or.inl ⟨by decide, hg⟩) (by omega) (by omega) (by decide) (by first | (exact hr _ _ (by decide)) | omega) dX7_comesIn_14 ?_
  refine z_rng fun hr => ?_
  refine z_mem (M' := z_m4 M (z_uf (M 22) 4 (M 22 4 + a)) 0 (M 27) (M 28)) (z_m4_22 _ _) ?_
  refine z_rng fun hr => ?_
  refine z_iloadn dX7_comesIn_15 rfl ?_
  refine z_aloadn dX7_comesIn_16 rfl ?_
  refine gX7_7 rfl dX7_comesIn_17 ?_
  refine z_bipush dX7_comesIn_20 (by decide) ?_
  refine z_iald (by rfl) (by first | decide | exact Or.inl ⟨by decide, hg⟩) (by omega) (by omega) (by decide) dX7_comesIn_22 ?_
  refine z_top (v' := M 22 8) rfl ?_
  refine z_imul dX7_comesIn_23 ?_
  refine z_bipush dX7_comesIn_24 (by decide) ?_
  refine z_idiv (by omega) (by omega) (by omega) (by omega) dX7_comesIn_26 ?_
  refine z_top (v' := z_kp (M 22) a) rfl ?_
  refine z_istore_4 dX7_comesIn_27 (Nat.le_of_ble_eq_true rfl) rfl ?_
  refine z_iloadn dX7_comesIn_29 rfl ?_
  refine z_if_eq (tgt := 48) (by first | (exact hr _ _ (by decide)) | omega) dX7_comesIn_30 (by decide) (fun h30 => ?_) (fun h30 => ?_)
  · refine z_iconst dX7_comesIn_48 ?_
    refine z_top (v' := z_ow2 (M 22) a 0) rfl ?_
    refine z_istore_5 dX7_comesIn_49 (Nat.le_of_ble_eq_true rfl) rfl ?_
    refine z_aloadn dX7_comesIn_51 rfl ?_
    refine z_iload dX7_comesIn_52 rfl ?_
    refine kX7_139 (tX7_reserves4 (by omega) (by rw [show z_uf (M 22) 4 (M 22 4 + a) 3 = M 22 3 from rfl]; omega) (by omega)) rfl ⟨(Nat.le_of_ble_eq_true rfl), (Nat.le_of_ble_eq_true rfl)⟩ (Nat.le_of_ble_eq_true rfl) dX7_comesIn_54 ?_
    refine z_rng fun hr => ?_
    refine z_mem (M' := z_m4 M (z_cb1 (M 22) a) (z_kp (M 22) a) (M 27) (M 28)) (by rw [Int.zero_add]; rfl) ?_
    refine z_iloadn dX7_comesIn_57 rfl ?_
    refine z_if_eq (tgt := 95) (by first | (exact hr _ _ (by decide)) | omega) dX7_comesIn_58 (by decide) (fun h58 => ?_) (fun h58 => ?_)
    · refine z_mem (M' := z_m4 M (z_ci (M 22) k a 0).1 (z_ci (M 22) k a 0).2 (M 27) (M 28)) (by first | rfl | (unfold z_ci; rfl)) ?_
      generalize y_C : z_ci (M 22) k a 0 = C at *
      refine z_aloadn dX7_comesIn_95 rfl ?_
      refine z_iloadn dX7_comesIn_96 rfl ?_
      refine z_iloadn dX7_comesIn_97 rfl ?_
      refine z_iload dX7_comesIn_98 rfl ?_
      refine z_isub dX7_comesIn_100 ?_
      refine z_iload dX7_comesIn_101 rfl ?_
      refine z_isub dX7_comesIn_103 ?_
      refine z_top (v' := z_rs (M 22) a 0) rfl ?_
      refine kX7_150 (tX7_split k0 k1 y_q y_a (by omega) (by omega)) rfl ⟨(Nat.le_of_ble_eq_true rfl), (Nat.le_of_ble_eq_true rfl)⟩ (Nat.le_of_ble_eq_true rfl) dX7_comesIn_104 ?_
      refine z_rng fun hr => ?_
      refine z_mem (M' := z_m4 M C.1 C.2 (z_sh (M 22) k (z_rs (M 22) a 0) (M 27) (M 28)).1 (z_sh (M 22) k (z_rs (M 22) a 0) (M 27) (M 28)).2) ?_ ?_
      · rw [← y_SH]; exact z_m4_7 _ _
      refine z_iconst dX7_comesIn_107 ?_
      refine z_istore_6 dX7_comesIn_108 (Nat.le_of_ble_eq_true rfl) rfl ?_
      refine z_fgt 7 ?_
      refine z_upn (P := fun i : Nat => z_J G Z _ _ 110 [some (.ref (z_ad G 0 40)), some (z_I k), some (z_I a), some (z_I 0), some (z_I (z_kp (M 22) a)), some (z_I (z_ow2 (M 22) a 0)), some (z_I i), none] [] (z_m4 M (z_lps 0 (z_sh (M 22) k (z_rs (M 22) a 0) (M 27) (M 28)).1 k i C).1 (z_lps 0 (z_sh (M 22) k (z_rs (M 22) a 0) (M 27) (M 28)).1 k i C).2 (z_sh (M 22) k (z_rs (M 22) a 0) (M 27) (M 28)).1 (z_sh (M 22) k (z_rs (M 22) a 0) (M 27) (M 28)).2) 0 0) (M 22 0).toNat ?_ ?_
      · refine z_rng fun hr => ?_
        have y_n := z_lps_o (y := 0) (S := (z_sh (M 22) k (z_rs (M 22) a 0) (M 27) (M 28)).1) (x := C) (j := 0) k0 (by omega) (M 22 0).toNat (by omega)
        refine z_iload dX7_comesIn_110 rfl ?_
        refine z_aloadn dX7_comesIn_112 rfl ?_
        refine gX7_7 rfl dX7_comesIn_113 ?_
        refine z_iconst dX7_comesIn_116 ?_
        refine z_iald (by rfl) (by first | decide | exact Or.inl ⟨by decide, hg⟩) (by omega) (by omega) (by decide) dX7_comesIn_117 ?_
        refine z_top (v' := M 22 0) (y_n.trans y_C0) ?_
        refine z_icmp_ge (tgt := 165) (by first | (exact hr _ _ (by decide)) | omega) (by first | (exact hr _ _ (by decide)) | omega) dX7_comesIn_118 (by decide) (fun h118 => ?_) (fun h118 => ?_)
        · exact z_vret dX7_comesIn_165 (by rw [← y_C]; rfl)
        · exfalso; omega
      · intro i hi y_ih
        refine z_rng fun hr => ?_
        have y_n := z_lps_o (y := 0) (S := (z_sh (M 22) k (z_rs (M 22) a 0) (M 27) (M 28)).1) (x := C) (j := 0) k0 (by omega) i (by omega)
        have y_t := z_lps_o (y := 0) (S := (z_sh (M 22) k (z_rs (M 22) a 0) (M 27) (M 28)).1) (x := C) (j := 10) k0 (by omega) i (by omega)
        have y_B := z_bd_lps (y := 0) (S := (z_sh (M 22) k (z_rs (M 22) a 0) (M 27) (M 28)).1) (x := C) k0 k1 y_S y_bd i (by omega)
        have y_Si := y_S i (by omega) (by omega)
        have y_st : z_lps 0 (z_sh (M 22) k (z_rs (M 22) a 0) (M 27) (M 28)).1 k (i + 1) C = z_stp 0 (z_sh (M 22) k (z_rs (M 22) a 0) (M 27) (M 28)).1 k i (z_lps 0 (z_sh (M 22) k (z_rs (M 22) a 0) (M 27) (M 28)).1 k i C) := rfl
        generalize z_lps 0 (z_sh (M 22) k (z_rs (M 22) a 0) (M 27) (M 28)).1 k i C = L at *
        have y_ov := z_ov_rg (b := L.1) (k := k) (p := i) y_Si.1
        refine z_iload dX7_comesIn_110 rfl ?_
        refine z_aloadn dX7_comesIn_112 rfl ?_
        refine gX7_7 rfl dX7_comesIn_113 ?_
        refine z_iconst dX7_comesIn_116 ?_
        refine z_iald (by rfl) (by first | decide | exact Or.inl ⟨by decide, hg⟩) (by omega) (by omega) (by decide) dX7_comesIn_117 ?_
        refine z_top (v' := M 22 0) (y_n.trans y_C0) ?_
        refine z_icmp_ge (tgt := 165) (by first | (exact hr _ _ (by decide)) | omega) (by first | (exact hr _ _ (by decide)) | omega) dX7_comesIn_118 (by decide) (fun h118 => ?_) (fun h118 => ?_)
        · exfalso; omega
        · refine z_iloadn dX7_comesIn_121 rfl ?_
          refine z_if_eq (tgt := 142) (by first | (exact hr _ _ (by decide)) | omega) dX7_comesIn_122 (by decide) (fun h122 => ?_) (fun h122 => ?_)
          · refine z_aloadn dX7_comesIn_142 rfl ?_
            refine gX7_25 rfl dX7_comesIn_143 ?_
            refine z_iload dX7_comesIn_146 rfl ?_
            refine z_iald (by rfl) (by first | decide | exact Or.inl ⟨by decide, hg⟩) (by omega) (by omega) (by decide) dX7_comesIn_148 ?_
            refine z_top (v' := (z_sh (M 22) k (z_rs (M 22) a 0) (M 27) (M 28)).1 i) rfl ?_
            refine z_istore_7 dX7_comesIn_149 (Nat.le_of_ble_eq_true rfl) rfl ?_
            refine z_aloadn dX7_comesIn_151 rfl ?_
            refine z_iload dX7_comesIn_152 rfl ?_
            refine z_iload dX7_comesIn_154 rfl ?_
            refine kX7_146 (tX7_income4 (by omega) (by omega) (by omega) (by omega) (z_bd_mono (by omega) y_B)) rfl ⟨(Nat.le_of_ble_eq_true rfl), (Nat.le_of_ble_eq_true rfl)⟩ (Nat.le_of_ble_eq_true rfl) dX7_comesIn_156 ?_
            refine z_rng fun hr => ?_
            refine z_iinc_6 dX7_comesIn_159 (Nat.le_of_ble_eq_true rfl) rfl ?_
            refine z_goto (tgt := 110) dX7_comesIn_162 (by decide) ?_
            refine z_fgt 7 ?_
            rw [y_st] at y_ih
            exact y_ih
          · exact absurd h122 (by decide)
    · exact absurd h58 (by decide)
  · exact absurd h30 (by decide)
theorem tX7_comesIn1 {G : z_G} {M : z_M} {k a : Int} (k0 : 0 ≤ k) (k1 : k < 20) (a0 : 0 ≤ a) (a1 : a ≤ 100000) (hq : ∀ p, 0 ≤ p → p < 12 → 0 ≤ M 22 (426 + 12 * k + p) ∧ M 22 (426 + 12 * k + p) ≤ 9) (ha : 1 ≤ z_aP (M 22) k) (hd : z_bd (M 22) 0 900000000) (n0 : 0 ≤ M 22 0) (n1 : M 22 0 ≤ 12) (g4 : 0 ≤ M 22 4 ∧ M 22 4 ≤ 100000000) (g8 : 0 ≤ M 22 8 ∧ M 22 8 ≤ 30) (g9 : 0 ≤ M 22 9 ∧ M 22 9 ≤ 20) (g10 : 0 ≤ M 22 10 ∧ M 22 10 ≤ 10000) (gk : 0 ≤ M 22 (86 + 5 * k) ∧ M 22 (86 + 5 * k) < 12) (gr : 0 ≤ M 22 (86 + 5 * k + 4) ∧ M 22 (86 + 5 * k + 4) ≤ 100000000) (go : 0 ≤ M 22 (14 + 6 * M 22 (86 + 5 * k) + 3) ∧ M 22 (14 + 6 * M 22 (86 + 5 * k) + 3) < 12) : KX7_comesIn G [.ref (z_ad G 0 40), z_I k, z_I a, z_I 1] M (.inl none) (z_m4 M (z_com2 (M 22) k a 1 (M 27) (M 28)).1 (z_com2 (M 22) k a 1 (M 27) (M 28)).2 (z_sh (M 22) k (z_rs (M 22) a 1) (M 27) (M 28)).1 (z_sh (M 22) k (z_rs (M 22) a 1) (M 27) (M 28)).2) := by
  refine z_con (ls := [some (.ref (z_ad G 0 40)), some (z_I k), some (z_I a), some (z_I 1), none, none, none, none]) (by decide +kernel) (Nat.le_of_ble_eq_true rfl) rfl ?_
  intro Z htb
  refine z_rng fun hr => ?_
  have y_d := hd
  obtain ⟨y_1, y_2, y_3, y_4, y_5, y_6, y_7, y_8⟩ := y_d
  have y_kp : 0 ≤ z_kp (M 22) a ∧ z_kp (M 22) a ≤ 30000 := by
    have e1 : 0 ≤ a * M 22 8 := Int.mul_nonneg a0 g8.1
    have e2 : a * M 22 8 ≤ 100000 * 30 := Int.mul_le_mul a1 g8.2 g8.1 (by decide)
    unfold z_kp
    omega
  have y_e1 : 0 ≤ a * M 22 8 := Int.mul_nonneg a0 g8.1
  have y_e2 : a * M 22 8 ≤ 100000 * 30 := Int.mul_le_mul a1 g8.2 g8.1 (by decide)
  have y_e3 : 0 ≤ a * M 22 9 := Int.mul_nonneg a0 g9.1
  have y_e4 : a * M 22 9 ≤ 100000 * 20 := Int.mul_le_mul a1 g9.2 g9.1 (by decide)
  have y_ow : 0 ≤ z_ow2 (M 22) a 1 ∧ z_ow2 (M 22) a 1 ≤ 20000 := by
    unfold z_ow2
    split <;> omega
  have y_rs : 0 ≤ z_rs (M 22) a 1 ∧ z_rs (M 22) a 1 ≤ 100000 := z_rs_rg a0 a1 g8 g9
  have y_S := z_sh_rg (s0 := M 27) (r0 := M 28) hq ha y_rs.1 y_rs.2
  obtain ⟨y_bd, y_Cq, y_C0, y_C10⟩ := z_ci_rg (y := 1) k0 k1 a0 a1 hd g8 g9 gk go
  have y_q : ∀ p, 0 ≤ p → p < 12 → 0 ≤ (z_ci (M 22) k a 1).1 (426 + 12 * k + p) ∧ (z_ci (M 22) k a 1).1 (426 + 12 * k + p) ≤ 9 := fun p p0 p1 => by rw [y_Cq p p0 p1]; exact hq p p0 p1
  have y_a : 1 ≤ z_aP (z_ci (M 22) k a 1).1 k := by
    rw [show z_aP (z_ci (M 22) k a 1).1 k = z_aP (M 22) k from z_sm_eq fun i hi => y_Cq i (by omega) (by omega)]
    exact ha
  have y_SH : z_sh (z_ci (M 22) k a 1).1 k (z_rs (M 22) a 1) (M 27) (M 28) = (z_sh (M 22) k (z_rs (M 22) a 1) (M 27) (M 28)) := z_sh_eq y_Cq
  have y_b2 : z_bd (z_cb2 (M 22) k a) (z_kp (M 22) a) 1000000000 := z_bd_b2 k0 k1 hd y_kp
  refine z_aloadn dX7_comesIn_0 rfl ?_
  refine z_iconst dX7_comesIn_1 ?_
  refine pX7_136 (by first | (exact hr _ _ (by decide)) | omega) rfl dX7_comesIn_2 ?_
  refine z_rng fun hr => ?_
  refine z_mem (M' := z_m4 M (M 22) 0 (M 27) (M 28)) (z_m4_0 0) ?_
  refine z_aloadn dX7_comesIn_5 rfl ?_
  refine gX7_7 rfl dX7_comesIn_6 ?_
  refine z_iconst dX7_comesIn_9 ?_
  refine z_dup2 dX7_comesIn_10 rfl rfl ?_
  refine z_iald (by rfl) (by first | decide | exact Or.inl ⟨by decide, hg⟩) (by omega) (by omega) (by decide) dX7_comesIn_11 ?_
  refine z_top (v' := M 22 4) rfl ?_
  refine z_iloadn dX7_comesIn_12 rfl ?_
  refine z_iadd dX7_comesIn_13 ?_
  refine z_iast (by rfl) (by first | decide | exact Or.inl ⟨by decide, hg⟩) (by omega) (by omega) (by decide) (by first | (exact hr _ _ (by decide)) | omega) dX7_comesIn_14 ?_
  refine z_rng fun hr => ?_
  refine z_mem (M' := z_m4 M (z_uf (M 22) 4 (M 22 4 + a)) 0 (M 27) (M 28)) (z_m4_22 _ _) ?_
  refine z_rng fun hr => ?_
  refine z_iloadn dX7_comesIn_15 rfl ?_
  refine z_aloadn dX7_comesIn_16 rfl ?_
  refine gX7_7 rfl dX7_comesIn_17 ?_
  refine z_bipush dX7_comesIn_20 (by decide) ?_
  refine z_iald (by rfl) (by first | decide | exact Or.inl ⟨by decide, hg⟩) (by omega) (by omega) (by decide) dX7_comesIn_22 ?_
  refine z_top (v' := M 22 8) rfl ?_
  refine z_imul dX7_comesIn_23 ?_
  refine z_bipush dX7_comesIn_24 (by decide) ?_
  refine z_idiv (by omega) (by omega) (by omega) (by omega) dX7_comesIn_26 ?_
  refine z_top (v' := z_kp (M 22) a) rfl ?_
  refine z_istore_4 dX7_comesIn_27 (Nat.le_of_ble_eq_true rfl) rfl ?_
  refine z_iloadn dX7_comesIn_29 rfl ?_
  refine z_if_eq (tgt := 48) (by first | (exact hr _ _ (by decide)) | omega) dX7_comesIn_30 (by decide) (fun h30 => ?_) (fun h30 => ?_)
  · exact absurd h30 (by decide)
  · refine z_iloadn dX7_comesIn_33 rfl ?_
    refine z_aloadn dX7_comesIn_34 rfl ?_
    refine gX7_7 rfl dX7_comesIn_35 ?_
    refine z_bipush dX7_comesIn_38 (by decide) ?_
    refine z_iald (by rfl) (by first | decide | exact Or.inl ⟨by decide, hg⟩) (by omega) (by omega) (by decide) dX7_comesIn_40 ?_
    refine z_top (v' := M 22 9) rfl ?_
    refine z_imul dX7_comesIn_41 ?_
    refine z_bipush dX7_comesIn_42 (by decide) ?_
    refine z_idiv (by omega) (by omega) (by omega) (by omega) dX7_comesIn_44 ?_
    refine z_goto (tgt := 49) dX7_comesIn_45 (by decide) ?_
    refine z_top (v' := z_ow2 (M 22) a 1) rfl ?_
    refine z_istore_5 dX7_comesIn_49 (Nat.le_of_ble_eq_true rfl) rfl ?_
    refine z_aloadn dX7_comesIn_51 rfl ?_
    refine z_iload dX7_comesIn_52 rfl ?_
    refine kX7_139 (tX7_reserves4 (by omega) (by rw [show z_uf (M 22) 4 (M 22 4 + a) 3 = M 22 3 from rfl]; omega) (by omega)) rfl ⟨(Nat.le_of_ble_eq_true rfl), (Nat.le_of_ble_eq_true rfl)⟩ (Nat.le_of_ble_eq_true rfl) dX7_comesIn_54 ?_
    refine z_rng fun hr => ?_
    refine z_mem (M' := z_m4 M (z_cb1 (M 22) a) (z_kp (M 22) a) (M 27) (M 28)) (by rw [Int.zero_add]; rfl) ?_
    refine z_iloadn dX7_comesIn_57 rfl ?_
    refine z_if_eq (tgt := 95) (by first | (exact hr _ _ (by decide)) | omega) dX7_comesIn_58 (by decide) (fun h58 => ?_) (fun h58 => ?_)
    · exact absurd h58 (by decide)
    · refine z_aloadn dX7_comesIn_61 rfl ?_
      refine gX7_7 rfl dX7_comesIn_62 ?_
      refine z_bipush dX7_comesIn_65 (by decide) ?_
      refine z_iconst dX7_comesIn_67 ?_
      refine z_iloadn dX7_comesIn_68 rfl ?_
      refine z_imul dX7_comesIn_69 ?_
      refine z_iadd dX7_comesIn_70 ?_
      refine z_iconst dX7_comesIn_71 ?_
      refine z_iadd dX7_comesIn_72 ?_
      refine z_dup2 dX7_comesIn_73 rfl rfl ?_
      refine z_iald (by rfl) (by first | decide | exact Or.inl ⟨by decide, hg⟩) (by omega) (by omega) (by decide) dX7_comesIn_74 ?_
      refine z_top (v' := M 22 (86 + 5 * k + 4)) ((z_uf_ne _ _ (by omega)).trans (z_uf_ne _ _ (by omega))) ?_
      refine z_iloadn dX7_comesIn_75 rfl ?_
      refine z_iadd dX7_comesIn_76 ?_
      refine z_iast (by rfl) (by first | decide | exact Or.inl ⟨by decide, hg⟩) (by omega) (by omega) (by decide) (by first | (exact hr _ _ (by decide)) | omega) dX7_comesIn_77 ?_
      refine z_rng fun hr => ?_
      refine z_mem (M' := z_m4 M (z_cb2 (M 22) k a) (z_kp (M 22) a) (M 27) (M 28)) (z_m4_22 _ _) ?_
      have y_go := go
      change 0 ≤ z_oo (M 22) k ∧ z_oo (M 22) k < 12 at y_go
      refine z_aloadn dX7_comesIn_78 rfl ?_
      refine z_aloadn dX7_comesIn_79 rfl ?_
      refine z_aloadn dX7_comesIn_80 rfl ?_
      refine z_iloadn dX7_comesIn_81 rfl ?_
      refine z_iconst dX7_comesIn_82 ?_
      refine kX7_80 (tX7_in0 (by omega) (by omega)) rfl ⟨(Nat.le_of_ble_eq_true rfl), (Nat.le_of_ble_eq_true rfl)⟩ (Nat.le_of_ble_eq_true rfl) dX7_comesIn_83 ?_
      refine z_top (v' := M 22 (86 + 5 * k)) (z_cb2_o (by omega)) ?_
      refine z_iconst dX7_comesIn_86 ?_
      refine kX7_61 (tX7_of (by omega) (by omega)) rfl ⟨(Nat.le_of_ble_eq_true rfl), (Nat.le_of_ble_eq_true rfl)⟩ (Nat.le_of_ble_eq_true rfl) dX7_comesIn_87 ?_
      refine z_top (v' := z_oo (M 22) k) (z_cb2_o (by omega)) ?_
      refine z_iload dX7_comesIn_90 rfl ?_
      refine kX7_146 (tX7_income4 (by omega) (by omega) (by omega) (by omega) y_b2) rfl ⟨(Nat.le_of_ble_eq_true rfl), (Nat.le_of_ble_eq_true rfl)⟩ (Nat.le_of_ble_eq_true rfl) dX7_comesIn_92 ?_
      refine z_rng fun hr => ?_
      refine z_mem (M' := z_m4 M (z_ci (M 22) k a 1).1 (z_ci (M 22) k a 1).2 (M 27) (M 28)) (by first | rfl | (unfold z_ci; rfl)) ?_
      generalize y_C : z_ci (M 22) k a 1 = C at *
      refine z_aloadn dX7_comesIn_95 rfl ?_
      refine z_iloadn dX7_comesIn_96 rfl ?_
      refine z_iloadn dX7_comesIn_97 rfl ?_
      refine z_iload dX7_comesIn_98 rfl ?_
      refine z_isub dX7_comesIn_100 ?_
      refine z_iload dX7_comesIn_101 rfl ?_
      refine z_isub dX7_comesIn_103 ?_
      refine z_top (v' := z_rs (M 22) a 1) rfl ?_
      refine kX7_150 (tX7_split k0 k1 y_q y_a (by omega) (by omega)) rfl ⟨(Nat.le_of_ble_eq_true rfl), (Nat.le_of_ble_eq_true rfl)⟩ (Nat.le_of_ble_eq_true rfl) dX7_comesIn_104 ?_
      refine z_rng fun hr => ?_
      refine z_mem (M' := z_m4 M C.1 C.2 (z_sh (M 22) k (z_rs (M 22) a 1) (M 27) (M 28)).1 (z_sh (M 22) k (z_rs (M 22) a 1) (M 27) (M 28)).2) ?_ ?_
      · rw [← y_SH]; exact z_m4_7 _ _
      refine z_iconst dX7_comesIn_107 ?_
      refine z_istore_6 dX7_comesIn_108 (Nat.le_of_ble_eq_true rfl) rfl ?_
      refine z_fgt 7 ?_
      refine z_upn (P := fun i : Nat => z_J G Z _ _ 110 [some (.ref (z_ad G 0 40)), some (z_I k), some (z_I a), some (z_I 1), some (z_I (z_kp (M 22) a)), some (z_I (z_ow2 (M 22) a 1)), some (z_I i), none] [] (z_m4 M (z_lps 1 (z_sh (M 22) k (z_rs (M 22) a 1) (M 27) (M 28)).1 k i C).1 (z_lps 1 (z_sh (M 22) k (z_rs (M 22) a 1) (M 27) (M 28)).1 k i C).2 (z_sh (M 22) k (z_rs (M 22) a 1) (M 27) (M 28)).1 (z_sh (M 22) k (z_rs (M 22) a 1) (M 27) (M 28)).2) 0 0) (M 22 0).toNat ?_ ?_
      · refine z_rng fun hr => ?_
        have y_n := z_lps_o (y := 1) (S := (z_sh (M 22) k (z_rs (M 22) a 1) (M 27) (M 28)).1) (x := C) (j := 0) k0 (by omega) (M 22 0).toNat (by omega)
        refine z_iload dX7_comesIn_110 rfl ?_
        refine z_aloadn dX7_comesIn_112 rfl ?_
        refine gX7_7 rfl dX7_comesIn_113 ?_
        refine z_iconst dX7_comesIn_116 ?_
        refine z_iald (by rfl) (by first | decide | exact Or.inl ⟨by decide, hg⟩) (by omega) (by omega) (by decide) dX7_comesIn_117 ?_
        refine z_top (v' := M 22 0) (y_n.trans y_C0) ?_
        refine z_icmp_ge (tgt := 165) (by first | (exact hr _ _ (by decide)) | omega) (by first | (exact hr _ _ (by decide)) | omega) dX7_comesIn_118 (by decide) (fun h118 => ?_) (fun h118 => ?_)
        · exact z_vret dX7_comesIn_165 (by rw [← y_C]; rfl)
        · exfalso; omega
      · intro i hi y_ih
        refine z_rng fun hr => ?_
        have y_n := z_lps_o (y := 1) (S := (z_sh (M 22) k (z_rs (M 22) a 1) (M 27) (M 28)).1) (x := C) (j := 0) k0 (by omega) i (by omega)
        have y_t := z_lps_o (y := 1) (S := (z_sh (M 22) k (z_rs (M 22) a 1) (M 27) (M 28)).1) (x := C) (j := 10) k0 (by omega) i (by omega)
        have y_B := z_bd_lps (y := 1) (S := (z_sh (M 22) k (z_rs (M 22) a 1) (M 27) (M 28)).1) (x := C) k0 k1 y_S y_bd i (by omega)
        have y_Si := y_S i (by omega) (by omega)
        have y_st : z_lps 1 (z_sh (M 22) k (z_rs (M 22) a 1) (M 27) (M 28)).1 k (i + 1) C = z_stp 1 (z_sh (M 22) k (z_rs (M 22) a 1) (M 27) (M 28)).1 k i (z_lps 1 (z_sh (M 22) k (z_rs (M 22) a 1) (M 27) (M 28)).1 k i C) := rfl
        generalize z_lps 1 (z_sh (M 22) k (z_rs (M 22) a 1) (M 27) (M 28)).1 k i C = L at *
        have y_ov := z_ov_rg (b := L.1) (k := k) (p := i) y_Si.1
        refine z_iload dX7_comesIn_110 rfl ?_
        refine z_aloadn dX7_comesIn_112 rfl ?_
        refine gX7_7 rfl dX7_comesIn_113 ?_
        refine z_iconst dX7_comesIn_116 ?_
        refine z_iald (by rfl) (by first | decide | exact Or.inl ⟨by decide, hg⟩) (by omega) (by omega) (by decide) dX7_comesIn_117 ?_
        refine z_top (v' := M 22 0) (y_n.trans y_C0) ?_
        refine z_icmp_ge (tgt := 165) (by first | (exact hr _ _ (by decide)) | omega) (by first | (exact hr _ _ (by decide)) | omega) dX7_comesIn_118 (by decide) (fun h118 => ?_) (fun h118 => ?_)
        · exfalso; omega
        · refine z_iloadn dX7_comesIn_121 rfl ?_
          refine z_if_eq (tgt := 142) (by first | (exact hr _ _ (by decide)) | omega) dX7_comesIn_122 (by decide) (fun h122 => ?_) (fun h122 => ?_)
          · exact absurd h122 (by decide)
          · refine z_aloadn dX7_comesIn_125 rfl ?_
            refine z_iloadn dX7_comesIn_126 rfl ?_
            refine z_iload dX7_comesIn_127 rfl ?_
            refine z_aloadn dX7_comesIn_129 rfl ?_
            refine gX7_25 rfl dX7_comesIn_130 ?_
            refine z_iload dX7_comesIn_133 rfl ?_
            refine z_iald (by rfl) (by first | decide | exact Or.inl ⟨by decide, hg⟩) (by omega) (by omega) (by decide) dX7_comesIn_135 ?_
            refine z_top (v' := (z_sh (M 22) k (z_rs (M 22) a 1) (M 27) (M 28)).1 i) rfl ?_
            refine kX7_153 (tX7_capped4 k0 k1 (by omega) (by omega) (by omega) (by omega) (z_bd_mono (by omega) y_B) (by omega) (by omega)) rfl ⟨(Nat.le_of_ble_eq_true rfl), (Nat.le_of_ble_eq_true rfl)⟩ (Nat.le_of_ble_eq_true rfl) dX7_comesIn_136 ?_
            refine z_rng fun hr => ?_
            refine z_goto (tgt := 149) dX7_comesIn_139 (by decide) ?_
            refine z_istore_7 dX7_comesIn_149 (Nat.le_of_ble_eq_true rfl) rfl ?_
            refine z_aloadn dX7_comesIn_151 rfl ?_
            refine z_iload dX7_comesIn_152 rfl ?_
            refine z_iload dX7_comesIn_154 rfl ?_
            refine kX7_146 (tX7_income4 (by omega) (by omega) (by omega) (by omega) (z_bd_mono (by omega) (z_bd_cap y_B k0 k1 (by omega) (by omega) y_Si.1 y_Si.2))) rfl ⟨(Nat.le_of_ble_eq_true rfl), (Nat.le_of_ble_eq_true rfl)⟩ (Nat.le_of_ble_eq_true rfl) dX7_comesIn_156 ?_
            refine z_rng fun hr => ?_
            refine z_iinc_6 dX7_comesIn_159 (Nat.le_of_ble_eq_true rfl) rfl ?_
            refine z_goto (tgt := 110) dX7_comesIn_162 (by decide) ?_
            refine z_fgt 7 ?_
            rw [y_st] at y_ih
            exact y_ih
