/-! ===== what holds of the books ===== -/
def z_PI (b : Int → Int) (N p : Int) : Prop :=
  0 ≤ b (14 + 6 * p) ∧ 0 ≤ b (14 + 6 * p + 1) ∧ b (14 + 6 * p + 1) ≤ 100000 * N ∧ 0 ≤ b (14 + 6 * p + 2) ∧ 0 ≤ b (14 + 6 * p + 3) ∧ b (14 + 6 * p + 3) < 12 ∧ (p < b 0 → b (14 + 6 * p + 3) < b 0) ∧ 0 ≤ b (14 + 6 * p + 4) ∧ b (14 + 6 * p + 4) ≤ b 4 ∧ 0 ≤ b (14 + 6 * p + 5) ∧
  (b 0 ≤ p → b (14 + 6 * p) = 0 ∧ b (14 + 6 * p + 1) = 0 ∧ b (14 + 6 * p + 2) = 0 ∧ b (14 + 6 * p + 3) = 0 ∧ b (14 + 6 * p + 4) = 0 ∧ b (14 + 6 * p + 5) = 0)
def z_QI (b : Int → Int) (k p : Int) : Prop :=
  0 ≤ b (186 + 12 * k + p) ∧ b (186 + 12 * k + p) ≤ 9 ∧ 0 ≤ b (426 + 12 * k + p) ∧ b (426 + 12 * k + p) ≤ 9 ∧ 0 ≤ b (666 + 12 * k + p) ∧ b (666 + 12 * k + p) ≤ b (86 + 5 * k + 4) ∧
  (b 0 ≤ p ∨ b 1 ≤ k → b (186 + 12 * k + p) = 0 ∧ b (426 + 12 * k + p) = 0 ∧ b (666 + 12 * k + p) = 0)
def z_aD (b : Int → Int) (k : Int) : Int := z_sm 12 (fun p => b (186 + 12 * k + p))
def z_aP (b : Int → Int) (k : Int) : Int := z_sm 12 (fun p => b (426 + 12 * k + p))
def z_KI (b : Int → Int) (N k : Int) : Prop :=
  0 ≤ b (86 + 5 * k) ∧ b (86 + 5 * k) < 12 ∧ (k < b 1 → b (86 + 5 * k) < b 0) ∧ 0 ≤ b (86 + 5 * k + 1) ∧ b (86 + 5 * k + 1) ≤ 100000 ∧ (k < b 1 → 10 ≤ b (86 + 5 * k + 1)) ∧ 0 ≤ b (86 + 5 * k + 2) ∧ b (86 + 5 * k + 2) ≤ 4 ∧ 0 ≤ b (86 + 5 * k + 3) ∧ b (86 + 5 * k + 3) ≤ N + 1 ∧ 0 ≤ b (86 + 5 * k + 4) ∧ b (86 + 5 * k + 4) ≤ b 4 ∧
  z_aD b k ≤ 9 ∧ (k < b 1 → 1 ≤ z_aP b k) ∧ z_sm 12 (fun p => if 0 < b (426 + 12 * k + p) then 1 else 0) ≤ 4 ∧
  (b 1 ≤ k → b (86 + 5 * k) = 0 ∧ b (86 + 5 * k + 1) = 0 ∧ b (86 + 5 * k + 2) = 0 ∧ b (86 + 5 * k + 3) = 0 ∧ b (86 + 5 * k + 4) = 0)
def z_BI (b : Int → Int) (N : Int) : Prop :=
  (0 ≤ N ∧ N ≤ 600) ∧ (0 ≤ b 0 ∧ b 0 ≤ 12) ∧ (0 ≤ b 1 ∧ b 1 ≤ 20) ∧ (0 ≤ b 2 ∧ b 2 ≤ N) ∧ 0 ≤ b 3 ∧ (0 ≤ b 4 ∧ b 4 ≤ 100000 * N) ∧ 0 ≤ b 5 ∧ (0 ≤ b 6 ∧ b 6 ≤ N) ∧ (0 ≤ b 7 ∧ b 7 ≤ b 4) ∧
  (0 ≤ b 8 ∧ b 8 ≤ 30) ∧ (0 ≤ b 9 ∧ b 9 ≤ 20) ∧ (0 ≤ b 10 ∧ b 10 ≤ 10000) ∧ (0 ≤ b 11 ∧ b 11 ≤ 100) ∧ (0 ≤ b 12 ∧ b 12 ≤ 100) ∧ (0 ≤ b 13 ∧ b 13 ≤ 100) ∧
  (∀ p, 0 ≤ p → p < 12 → z_PI b N p) ∧ (∀ k, 0 ≤ k → k < 20 → z_KI b N k) ∧ (∀ k p, 0 ≤ k → k < 20 → 0 ≤ p → p < 12 → z_QI b k p) ∧
  z_sm 12 (fun p => b (14 + 6 * p)) + b 3 + b 5 = b 4 ∧ z_sm 12 (fun p => b (14 + 6 * p + 2)) ≤ b 4 ∧ z_sm 12 (fun p => b (14 + 6 * p + 5)) = b 5 ∧ (∀ i, i < 0 ∨ 906 ≤ i → b i = 0)
section ZBI
variable {b : Int → Int} {N p k : Int}
theorem z_BI_h (h : z_BI b N) : (0 ≤ N ∧ N ≤ 600) ∧ (0 ≤ b 0 ∧ b 0 ≤ 12) ∧ (0 ≤ b 1 ∧ b 1 ≤ 20) ∧ (0 ≤ b 2 ∧ b 2 ≤ N) ∧ 0 ≤ b 3 ∧ (0 ≤ b 4 ∧ b 4 ≤ 100000 * N) ∧ 0 ≤ b 5 ∧ (0 ≤ b 6 ∧ b 6 ≤ N) ∧ (0 ≤ b 7 ∧ b 7 ≤ b 4) ∧ (0 ≤ b 8 ∧ b 8 ≤ 30) ∧ (0 ≤ b 9 ∧ b 9 ≤ 20) ∧ (0 ≤ b 10 ∧ b 10 ≤ 10000) ∧ (0 ≤ b 11 ∧ b 11 ≤ 100) ∧ (0 ≤ b 12 ∧ b 12 ≤ 100) ∧ (0 ≤ b 13 ∧ b 13 ≤ 100) := by
  obtain ⟨h1, h2, h3, h4, h5, h6, h7, h8, h9, h10, h11, h12, h13, h14, h15, -⟩ := h
  exact ⟨h1, h2, h3, h4, h5, h6, h7, h8, h9, h10, h11, h12, h13, h14, h15⟩
theorem z_BI_P (h : z_BI b N) : ∀ p, 0 ≤ p → p < 12 → z_PI b N p := h.2.2.2.2.2.2.2.2.2.2.2.2.2.2.2.1
theorem z_BI_K (h : z_BI b N) : ∀ k, 0 ≤ k → k < 20 → z_KI b N k := h.2.2.2.2.2.2.2.2.2.2.2.2.2.2.2.2.1
theorem z_BI_Q (h : z_BI b N) : ∀ k p, 0 ≤ k → k < 20 → 0 ≤ p → p < 12 → z_QI b k p := h.2.2.2.2.2.2.2.2.2.2.2.2.2.2.2.2.2.1
theorem z_BI_s (h : z_BI b N) : z_sm 12 (fun p => b (14 + 6 * p)) + b 3 + b 5 = b 4 ∧ z_sm 12 (fun p => b (14 + 6 * p + 2)) ≤ b 4 ∧ z_sm 12 (fun p => b (14 + 6 * p + 5)) = b 5 ∧ (∀ i, i < 0 ∨ 906 ≤ i → b i = 0) := h.2.2.2.2.2.2.2.2.2.2.2.2.2.2.2.2.2.2
theorem z_sm_nn {n : Nat} {f : Int → Int} (h : ∀ i : Nat, i < n → 0 ≤ f i) : 0 ≤ z_sm n f := by
  induction n with
  | zero => exact Int.le_refl 0
  | succ n ih => rw [z_sm_s]; have := ih (fun i hi => h i (by omega)); have := h n (by omega); omega
theorem z_sm_1 {n : Nat} {f : Int → Int} (h : ∀ i : Nat, i < n → 0 ≤ f i) {i : Nat} (hi : i < n) : f i ≤ z_sm n f := by
  induction n with
  | zero => omega
  | succ n ih =>
    rw [z_sm_s]
    have h0 := z_sm_nn (fun j hj => h j (by omega) : ∀ j : Nat, j < n → 0 ≤ f j)
    have h1 := h n (by omega)
    by_cases e : i = n
    · subst e; omega
    · have := ih (fun j hj => h j (by omega)) (by omega); omega
theorem z_sm_2 {n : Nat} {f : Int → Int} (h : ∀ i : Nat, i < n → 0 ≤ f i) {i j : Nat} (hi : i < n) (hj : j < n) (hne : i ≠ j) : f i + f j ≤ z_sm n f := by
  induction n with
  | zero => omega
  | succ n ih =>
    rw [z_sm_s]
    have h1 := h n (by omega)
    by_cases e : i = n
    · subst e; have := z_sm_1 (fun j hj => h j (by omega) : ∀ j : Nat, j < i → 0 ≤ f j) (i := j) (by omega); omega
    · by_cases e2 : j = n
      · subst e2; have := z_sm_1 (fun k hj => h k (by omega) : ∀ k : Nat, k < j → 0 ≤ f k) (i := i) (by omega); omega
      · have := ih (fun j hj => h j (by omega)) (by omega) (by omega); omega
/-- balances are within what came in -/
theorem z_BI_bal (h : z_BI b N) (h0 : 0 ≤ p) (h1 : p < 12) : 0 ≤ b (14 + 6 * p) ∧ b (14 + 6 * p) ≤ b 4 := by
  have hs := (z_BI_s h).1
  have hh := z_BI_h h
  have hp : ∀ i : Nat, i < 12 → 0 ≤ (fun p => b (14 + 6 * p)) (i : Int) := fun i hi => (z_BI_P h i (by omega) (by omega)).1
  have := z_sm_1 (n := 12) (f := fun p => b (14 + 6 * p)) hp (i := p.toNat) (by omega)
  have e : ((p.toNat : Nat) : Int) = p := Int.toNat_of_nonneg h0

  rw [e] at this
  exact ⟨(z_BI_P h p h0 h1).1, by omega⟩
theorem z_BI_bal2 {q : Int} (h : z_BI b N) (h0 : 0 ≤ p) (h1 : p < 12) (g0 : 0 ≤ q) (g1 : q < 12) (hne : p ≠ q) : b (14 + 6 * p) + b (14 + 6 * q) ≤ b 4 := by
  have hs := (z_BI_s h).1
  have hh := z_BI_h h
  have hp : ∀ i : Nat, i < 12 → 0 ≤ (fun p => b (14 + 6 * p)) (i : Int) := fun i hi => (z_BI_P h i (by omega) (by omega)).1
  have := z_sm_2 (n := 12) (f := fun p => b (14 + 6 * p)) hp (i := p.toNat) (j := q.toNat) (by omega) (by omega) (by omega)
  have e : ((p.toNat : Nat) : Int) = p := Int.toNat_of_nonneg h0
  have e2 : ((q.toNat : Nat) : Int) = q := Int.toNat_of_nonneg g0

  rw [e, e2] at this
  omega
theorem z_BI_res (h : z_BI b N) : b 3 ≤ b 4 ∧ b 5 ≤ b 4 := by
  have hs := (z_BI_s h).1
  have hh := z_BI_h h
  have := z_sm_nn (n := 12) (f := fun p => b (14 + 6 * p)) (fun i hi => (z_BI_P h i (by omega) (by omega)).1)
  omega
theorem z_BI_one {w : Int} (h : z_BI b N) (hw : w = 2 ∨ w = 5) (h0 : 0 ≤ p) (h1 : p < 12) : b (14 + 6 * p + w) ≤ b 4 := by
  have hs := z_BI_s h
  have hr := z_BI_res h
  have e : ((p.toNat : Nat) : Int) = p := Int.toNat_of_nonneg h0
  rcases hw with rfl | rfl
  · have := z_sm_1 (n := 12) (f := fun p => b (14 + 6 * p + 2)) (fun i hi => (z_BI_P h i (by omega) (by omega)).2.2.2.1) (i := p.toNat) (by omega)
    rw [e] at this; omega
  · have := z_sm_1 (n := 12) (f := fun p => b (14 + 6 * p + 5)) (fun i hi => (z_BI_P h i (by omega) (by omega)).2.2.2.2.2.2.2.2.2.1) (i := p.toNat) (by omega)
    rw [e] at this; omega
end ZBI
/-! ===== codes of what a call throws (0: nothing), and the books behind it ===== -/
def z_sold (b : Int → Int) (x t p : Int) : Int → Int :=
  let b1 := z_uf b (14 + 6 * t) (b (14 + 6 * t) - p)
  let b2 := z_uf b1 (14 + 6 * b (14 + 6 * x + 3)) (b1 (14 + 6 * b (14 + 6 * x + 3)) + p)
  let b3 := z_uf b2 (14 + 6 * x + 3) t
  z_uf b3 (14 + 6 * x + 4) p
def z_c_addPen (b : Int → Int) : Int := if b 0 = 12 then 1 else 0
def z_o_addPen (b : Int → Int) : Int → Int := z_uf (z_uf b (14 + 6 * b 0 + 3) (b 0)) 0 (b 0 + 1)
def z_c_sell (b : Int → Int) (x t p : Int) : Int := if ¬ (0 ≤ x ∧ x < b 0) ∨ ¬ (0 ≤ t ∧ t < b 0) then 1 else if ¬ (0 ≤ p ∧ p ≤ 100000) ∨ b (14 + 6 * x + 3) = t then 2 else if b (14 + 6 * t) < p then 3 else 0
def z_bbp (b : Int → Int) (x : Int) : Int := b (14 + 6 * x + 4) + b (14 + 6 * x + 4) / 10
def z_c_buyBack (b : Int → Int) (x : Int) : Int := if ¬ (0 ≤ x ∧ x < b 0) then 1 else if b (14 + 6 * x + 3) = x ∨ b (14 + 6 * x) < z_bbp b x then 2 else 0
def z_c_advance (b : Int → Int) (x a : Int) : Int := if ¬ (0 ≤ x ∧ x < b 0) then 1 else if ¬ (1 ≤ a ∧ a ≤ 100000) then 2 else if b 3 < a then 3 else 0
def z_o_advance (b : Int → Int) (x a : Int) : Int → Int := z_uf (z_uf (z_uf b 3 (b 3 - a)) (14 + 6 * x) (b (14 + 6 * x) + a)) (14 + 6 * x + 1) (b (14 + 6 * x + 1) + a)
def z_c_withdraw (b : Int → Int) (x a : Int) : Int := if ¬ (0 ≤ x ∧ x < b 0) then 1 else if ¬ (1 ≤ a ∧ a ≤ 100000) then 2 else if b (14 + 6 * x) < a then 3 else 0
def z_o_withdraw (b : Int → Int) (x a : Int) : Int → Int := z_uf (z_uf (z_uf b (14 + 6 * x) (b (14 + 6 * x) - a)) (14 + 6 * x + 5) (b (14 + 6 * x + 5) + a)) 5 (b 5 + a)
def z_mo (x : Int) : Int := if x = 0 then 30 else if x = 1 then 20 else if x = 2 then 10000 else 100
def z_c_set (x v : Int) : Int := if ¬ (0 ≤ x ∧ x < 6) then 1 else if ¬ (0 ≤ v ∧ v ≤ z_mo x) then 2 else 0
def z_o_set (b : Int → Int) (x v : Int) : Int → Int := z_uf b (8 + x) v
def z_o_nextYear (b : Int → Int) : Int → Int := z_cp (z_uf b 2 (b 2 + 1)) (fun _ => 0) 666 0 240
def z_c_order (b : Int → Int) (x f : Int) : Int := if ¬ (0 ≤ x ∧ x < b 0) then 1 else if ¬ (10 ≤ f ∧ f ≤ 100000) then 2 else if b 1 = 20 then 3 else 0
def z_o_order (b : Int → Int) (x f : Int) : Int → Int := z_uf (z_uf (z_uf (z_uf (z_uf (z_uf (z_uf b (86 + 5 * b 1) x) (86 + 5 * b 1 + 1) f) (86 + 5 * b 1 + 2) 0) (86 + 5 * b 1 + 3) 1) (86 + 5 * b 1 + 4) 0) (426 + 12 * b 1 + x) 1) 1 (b 1 + 1)
def z_c_draft (b : Int → Int) (k p : Int) : Int := if ¬ (0 ≤ k ∧ k < b 1) ∨ ¬ (0 ≤ p ∧ p < b 0) then 1 else if 3 ≤ b (86 + 5 * k + 2) ∨ z_aD b k = 9 then 2 else 0
def z_dst (b : Int → Int) (k : Int) : Int := if z_aD b k = 0 then 1 else 2
def z_o_draft (b : Int → Int) (k p : Int) : Int → Int := z_uf (z_uf b (186 + 12 * k + p) (b (186 + 12 * k + p) + 1)) (86 + 5 * k + 2) (z_dst b k)
def z_c_revise (b : Int → Int) (k f : Int) : Int := if ¬ (0 ≤ k ∧ k < b 1) then 1 else if ¬ (10 ≤ f ∧ f ≤ 100000) then 2 else if 3 ≤ b (86 + 5 * k + 2) then 3 else 0
def z_o_revise (b : Int → Int) (k f : Int) : Int → Int := z_uf (z_uf b (86 + 5 * k + 1) f) (86 + 5 * k + 3) (b (86 + 5 * k + 3) + 1)
