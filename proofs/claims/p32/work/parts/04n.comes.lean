/-- one pen's share of an amount (y = 0: no royalties) -/
def z_stp (y : Int) (S : Int → Int) (k p : Int) (x : (Int → Int) × Int) : (Int → Int) × Int :=
  if y = 0 then (z_inb x.1 p (S p), x.2 + z_hl (S p) (x.1 (14 + 6 * p + 1)))
  else (z_inb (z_cpb x.1 k p (S p)) p (S p - z_ov x.1 k p (S p)), x.2 + z_ov x.1 k p (S p) + z_hl (S p - z_ov x.1 k p (S p)) (z_cpb x.1 k p (S p) (14 + 6 * p + 1)))
def z_lps (y : Int) (S : Int → Int) (k : Int) : Nat → (Int → Int) × Int → (Int → Int) × Int
  | 0, x => x
  | i + 1, x => z_stp y S k i (z_lps y S k i x)
def z_kp (b : Int → Int) (a : Int) : Int := a * b 8 / 100
def z_ow2 (b : Int → Int) (a y : Int) : Int := if y = 0 then 0 else a * b 9 / 100
/-- ahead of the pens' shares -/
def z_cb1 (b : Int → Int) (a : Int) : Int → Int := z_uf (z_uf b 4 (b 4 + a)) 3 (b 3 + z_kp b a)
def z_cb2 (b : Int → Int) (k a : Int) : Int → Int := z_uf (z_cb1 b a) (86 + 5 * k + 4) (b (86 + 5 * k + 4) + a)
def z_oo (b : Int → Int) (k : Int) : Int := b (14 + 6 * b (86 + 5 * k) + 3)
def z_ci (b : Int → Int) (k a y : Int) : (Int → Int) × Int :=
  if y = 0 then (z_cb1 b a, z_kp b a)
  else (z_inb (z_cb2 b k a) (z_oo b k) (z_ow2 b a y), z_kp b a + z_hl (z_ow2 b a y) (z_cb2 b k a (14 + 6 * z_oo b k + 1)))
def z_rs (b : Int → Int) (a y : Int) : Int := a - z_kp b a - z_ow2 b a y
def z_sh (b : Int → Int) (k rest : Int) (s0 r0 : Int → Int) : (Int → Int) × (Int → Int) := z_gv (-1) (z_lf b k rest).toNat (z_cp s0 (z_s0 b k rest) 0 0 12) (z_cp r0 (z_r0m b k rest) 0 0 12)
/-- what comes in: the books then, and what of it comes to the reserve -/
def z_com2 (b : Int → Int) (k a y : Int) (s0 r0 : Int → Int) : (Int → Int) × Int := z_lps y (z_sh b k (z_rs b a y) s0 r0).1 k (b 0).toNat (z_ci b k a y)
theorem z_gv_rg {x : Int} : ∀ (m : Nat) (s r : Int → Int) (B : Int), (∀ p, 0 ≤ p → p < 12 → 0 ≤ s p ∧ s p ≤ B) → ∀ p, 0 ≤ p → p < 12 → 0 ≤ (z_gv x m s r).1 p ∧ (z_gv x m s r).1 p ≤ B + m := by
  intro m
  induction m with
  | zero => intro s r B h p p0 p1; have := h p p0 p1; show 0 ≤ s p ∧ s p ≤ B + (0 : Nat); omega
  | succ m ih =>
    intro s r B h p p0 p1
    have ha := z_am_le r 11
    have := ih (z_uf s (z_am r 11) (s (z_am r 11) + 1)) (z_uf r (z_am r 11) x) (B + 1) (fun q q0 q1 => by
      have h1 := h q q0 q1
      have h2 := h (z_am r 11) (by omega) (by omega)
      unfold z_uf; split <;> omega) p p0 p1
    show 0 ≤ (z_gv x m (z_uf s (z_am r 11) (s (z_am r 11) + 1)) (z_uf r (z_am r 11) x)).1 p ∧ (z_gv x m (z_uf s (z_am r 11) (s (z_am r 11) + 1)) (z_uf r (z_am r 11) x)).1 p ≤ B + ((m + 1 : Nat) : Int)
    omega
theorem z_rs_rg {b : Int → Int} {a y : Int} (a0 : 0 ≤ a) (a1 : a ≤ 100000) (g8 : 0 ≤ b 8 ∧ b 8 ≤ 30) (g9 : 0 ≤ b 9 ∧ b 9 ≤ 20) : 0 ≤ z_rs b a y ∧ z_rs b a y ≤ 100000 := by
  have e1 : 0 ≤ a * b 8 := Int.mul_nonneg a0 g8.1
  have e2 : a * b 8 ≤ a * 30 := Int.mul_le_mul_of_nonneg_left g8.2 a0
  have e3 : 0 ≤ a * b 9 := Int.mul_nonneg a0 g9.1
  have e4 : a * b 9 ≤ a * 20 := Int.mul_le_mul_of_nonneg_left g9.2 a0
  unfold z_rs z_kp z_ow2
  split <;> omega
