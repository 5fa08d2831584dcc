/-! ===== the fairest parts by all rows of four parts ===== -/
theorem z_band3 {x : Int} (hx : 0 ≤ x) : Int32.ofInt x &&& Int32.ofInt 3 = Int32.ofInt (x % 4) := by
  obtain ⟨n, rfl⟩ := Int.eq_ofNat_of_zero_le hx
  rw [z_nI hx]
  show nI n &&& nI 3 = _
  rw [z_nand, show n &&& 3 = n % 4 from Nat.and_two_pow_sub_one_eq_mod n 2, show ((n : Nat) : Int) % 4 = ((n % 4 : Nat) : Int) by push_cast; rfl]
  rfl
/-- the figure of pen p in a code, the first pen's highest -/
def z_c4 (c p : Int) : Int := c / 2 ^ (6 - 2 * p).toNat % 4
theorem z_c4_rg (c p : Int) : 0 ≤ z_c4 c p ∧ z_c4 c p ≤ 3 := by unfold z_c4; omega
theorem z_c4_0 (c : Int) : z_c4 c 0 = c / 64 % 4 := rfl
theorem z_c4_1 (c : Int) : z_c4 c 1 = c / 16 % 4 := rfl
theorem z_c4_2 (c : Int) : z_c4 c 2 = c / 4 % 4 := rfl
theorem z_c4_3 (c : Int) : z_c4 c 3 = c % 4 := by show c / 1 % 4 = _; rw [Int.ediv_one]
theorem z_cg {a b c d : Nat} (ha : a < 4) (hb : b < 4) (hc : c < 4) (hd : d < 4) : z_c4 ((a + b * 4 + c * 16 + d * 64 : Nat) : Int) 0 = d ∧ z_c4 ((a + b * 4 + c * 16 + d * 64 : Nat) : Int) 1 = c ∧ z_c4 ((a + b * 4 + c * 16 + d * 64 : Nat) : Int) 2 = b ∧ z_c4 ((a + b * 4 + c * 16 + d * 64 : Nat) : Int) 3 = a := by
  rw [z_c4_0, z_c4_1, z_c4_2, z_c4_3]
  omega
def z_isI (D : Int → Int) (c : Int) : Nat → Int
  | 0 => 1
  | n + 1 => if z_isI D c n = 1 ∧ (0 < D n ∨ z_c4 c n = 0) then 1 else 0
theorem z_isI_01 (D : Int → Int) (c : Int) (n : Nat) : z_isI D c n = 0 ∨ z_isI D c n = 1 := by
  cases n with
  | zero => exact Or.inr rfl
  | succ n => unfold z_isI; split <;> omega
theorem z_isI_iff {D : Int → Int} {c : Int} : ∀ n : Nat, z_isI D c n = 1 ↔ ∀ q : Nat, q < n → 0 < D q ∨ z_c4 c q = 0 := by
  intro n
  induction n with
  | zero => exact ⟨fun _ q hq => by omega, fun _ => rfl⟩
  | succ n ih =>
    unfold z_isI
    constructor
    · intro h q hq
      split at h
      · rename_i h2
        by_cases e : q = n
        · subst e; exact h2.2
        · exact ih.mp h2.1 q (by omega)
      · omega
    · intro h
      rw [if_pos ⟨ih.mpr fun q hq => h q (by omega), h n (by omega)⟩]
def z_suI (D : Int → Int) (c : Int) (n : Nat) : Int := z_sm n (fun p => if 0 < D p then 1 + z_c4 c p else 0)
def z_dfI (D : Int → Int) (c A S p : Int) : Int := if 0 < D p then (1 + z_c4 c p) * A - D p * S else 0
def z_byI (D : Int → Int) (c A S : Int) : Nat → Int
  | 0 => 0
  | n + 1 => if z_byI D c A S n < z_ab (z_dfI D c A S n) then z_ab (z_dfI D c A S n) else z_byI D c A S n
def z_stL (D : Int → Int) (A : Int) (s : Int × Int × Int) (c : Nat) : Int × Int × Int :=
  if z_fst s.1 s.2.1 (z_suI D c 4) (z_byI D c A (z_suI D c 4) 4) < 0 ∨ (z_fst s.1 s.2.1 (z_suI D c 4) (z_byI D c A (z_suI D c 4) 4) = 0 ∧ z_suI D c 4 < s.1) then (z_suI D c 4, z_byI D c A (z_suI D c 4) 4, (c : Int)) else s
/-- what the law finds among the first codes: all parts, difference, code -/
def z_fl3 (D : Int → Int) (A : Int) : Nat → Int × Int × Int
  | 0 => (0, 0, 0)
  | n + 1 => if z_isI D n 4 = 1 then z_stL D A (z_fl3 D A n) n else z_fl3 D A n
theorem z_fl3_s (D : Int → Int) (A : Int) (n : Nat) : z_fl3 D A (n + 1) = if z_isI D n 4 = 1 then z_stL D A (z_fl3 D A n) n else z_fl3 D A n := rfl
theorem z_fss_s (m : Nat) (d : Int → Int) (D : Int) (n : Nat) : z_fss m d D (n + 1) = if z_fst (z_fss m d D n).1 (z_fss m d D n).2.1 (z_ts m n) (z_ug (z_dg m n) d D (z_ts m n) m) < 0 ∨ (z_fst (z_fss m d D n).1 (z_fss m d D n).2.1 (z_ts m n) (z_ug (z_dg m n) d D (z_ts m n) m) = 0 ∧ z_ts m n < (z_fss m d D n).1) then (z_ts m n, z_ug (z_dg m n) d D (z_ts m n) m, (n : Int)) else z_fss m d D n := rfl
theorem z_fl3_fold (D : Int → Int) (A : Int) : ∀ N : Nat, z_fl3 D A N = ((List.range N).filter (fun c => decide (z_isI D (c : Nat) 4 = 1))).foldl (z_stL D A) (0, 0, 0) := by
  intro N
  induction N with
  | zero => rfl
  | succ N ih =>
    rw [List.range_succ, List.filter_append, List.foldl_append, ← ih, z_fl3_s]
    by_cases h : z_isI D (N : Nat) 4 = 1
    · rw [if_pos h]
      have e : List.filter (fun c : Nat => decide (z_isI D (c : Nat) 4 = 1)) [N] = [N] := by simp [h]
      rw [e]
      rfl
    · rw [if_neg h]
      have e : List.filter (fun c : Nat => decide (z_isI D (c : Nat) 4 = 1)) [N] = [] := by simp [h]
      rw [e]
      rfl
def z_vB (a0 a1 a2 a3 : Bool) (c : Nat) : Bool := (a0 || c / 64 % 4 == 0) && (a1 || c / 16 % 4 == 0) && (a2 || c / 4 % 4 == 0) && (a3 || c % 4 == 0)
def z_e3 (a3 : Bool) (n : Nat) : Nat := if a3 then n / 4 else n
def z_e2 (a2 a3 : Bool) (n : Nat) : Nat := if a2 then z_e3 a3 n / 4 else z_e3 a3 n
def z_e1 (a1 a2 a3 : Bool) (n : Nat) : Nat := if a1 then z_e2 a2 a3 n / 4 else z_e2 a2 a3 n
def z_eB (a0 a1 a2 a3 : Bool) (n : Nat) : Nat := (if a3 then n % 4 else 0) + (if a2 then z_e3 a3 n % 4 * 4 else 0) + (if a1 then z_e2 a2 a3 n % 4 * 16 else 0) + (if a0 then z_e1 a1 a2 a3 n % 4 * 64 else 0)
def z_mB (a0 a1 a2 a3 : Bool) : Nat := a0.toNat + a1.toNat + a2.toNat + a3.toNat
set_option maxRecDepth 100000 in
theorem z_C1 (a0 a1 a2 a3 : Bool) : (List.range 256).filter (z_vB a0 a1 a2 a3) = (List.range (4 ^ z_mB a0 a1 a2 a3)).map (z_eB a0 a1 a2 a3) := by
  cases a0 <;> cases a1 <;> cases a2 <;> cases a3 <;> decide +kernel
theorem z_vB_iff (D : Int → Int) (c : Nat) : decide (z_isI D (c : Nat) 4 = 1) = z_vB (decide (0 < D 0)) (decide (0 < D 1)) (decide (0 < D 2)) (decide (0 < D 3)) c := by
  have h : z_isI D (c : Nat) 4 = 1 ↔ ((0 < D 0 ∨ c / 64 % 4 = 0) ∧ (0 < D 1 ∨ c / 16 % 4 = 0) ∧ (0 < D 2 ∨ c / 4 % 4 = 0) ∧ (0 < D 3 ∨ c % 4 = 0)) := by
    rw [z_isI_iff]
    constructor
    · intro h
      have q0 : 0 < D 0 ∨ z_c4 c 0 = 0 := h 0 (by decide)
      have q1 : 0 < D 1 ∨ z_c4 c 1 = 0 := h 1 (by decide)
      have q2 : 0 < D 2 ∨ z_c4 c 2 = 0 := h 2 (by decide)
      have q3 : 0 < D 3 ∨ z_c4 c 3 = 0 := h 3 (by decide)
      rw [z_c4_0] at q0
      rw [z_c4_1] at q1
      rw [z_c4_2] at q2
      rw [z_c4_3] at q3
      omega
    · rintro ⟨q0, q1, q2, q3⟩ q hq
      rcases (show q = 0 ∨ q = 1 ∨ q = 2 ∨ q = 3 by omega) with rfl | rfl | rfl | rfl
      · show 0 < D 0 ∨ z_c4 c 0 = 0
        rw [z_c4_0]; omega
      · show 0 < D 1 ∨ z_c4 c 1 = 0
        rw [z_c4_1]; omega
      · show 0 < D 2 ∨ z_c4 c 2 = 0
        rw [z_c4_2]; omega
      · show 0 < D 3 ∨ z_c4 c 3 = 0
        rw [z_c4_3]; omega
  unfold z_vB
  by_cases hh : z_isI D (c : Nat) 4 = 1
  · have h2 := h.mp hh
    rw [decide_eq_true hh]
    symm
    simp only [Bool.and_eq_true, Bool.or_eq_true, decide_eq_true_eq, beq_iff_eq]
    exact ⟨⟨⟨h2.1, h2.2.1⟩, h2.2.2.1⟩, h2.2.2.2⟩
  · rw [decide_eq_false hh]
    symm
    rw [← Bool.not_eq_true]
    simp only [Bool.and_eq_true, Bool.or_eq_true, decide_eq_true_eq, beq_iff_eq]
    rintro ⟨⟨⟨h1, h2⟩, h3⟩, h4⟩
    exact hh (h.mpr ⟨h1, h2, h3, h4⟩)
/-- the law's search is the class's, by other numbers -/
theorem z_fl3_rel {D d : Int → Int} {A : Int} {m : Nat} {e : Nat → Nat} (hf : (List.range 256).filter (fun c => decide (z_isI D (c : Nat) 4 = 1)) = (List.range (4 ^ m)).map e) (he : e 0 = 0)
    (hS : ∀ n : Nat, n < 4 ^ m → z_suI D (e n : Nat) 4 = z_ts m n) (hU : ∀ n : Nat, n < 4 ^ m → z_byI D (e n : Nat) A (z_ts m n) 4 = z_ug (z_dg m n) d A (z_ts m n) m) :
    z_fl3 D A 256 = ((z_fss m d A (4 ^ m)).1, (z_fss m d A (4 ^ m)).2.1, ((e (z_fss m d A (4 ^ m)).2.2.toNat : Nat) : Int)) ∧ 0 ≤ (z_fss m d A (4 ^ m)).2.2 ∧ (z_fss m d A (4 ^ m)).2.2 < ((4 ^ m : Nat) : Int) := by
  have key : ∀ n : Nat, n ≤ 4 ^ m → ((List.range n).map e).foldl (z_stL D A) (0, 0, 0) = ((z_fss m d A n).1, (z_fss m d A n).2.1, ((e (z_fss m d A n).2.2.toNat : Nat) : Int)) ∧ 0 ≤ (z_fss m d A n).2.2 ∧ ((z_fss m d A n).2.2 < n ∨ (z_fss m d A n).2.2 = 0) := by
    intro n
    induction n with
    | zero =>
      intro _
      refine ⟨?_, Int.le_refl 0, Or.inr rfl⟩
      show (0, 0, 0) = ((0 : Int), (0 : Int), ((e 0 : Nat) : Int))
      rw [he]
      rfl
    | succ n ih =>
      intro hn
      obtain ⟨i1, i2, i3⟩ := ih (by omega)
      have s := hS n (by omega)
      have u := hU n (by omega)
      rw [List.range_succ, List.map_append, List.foldl_append, i1]
      show z_stL D A _ (e n) = _ ∧ _
      unfold z_stL
      rw [s, u, z_fss_s]
      dsimp only
      split
      · refine ⟨?_, by show (0 : Int) ≤ (n : Int); omega, Or.inl (by show (n : Int) < ((n + 1 : Nat) : Int); omega)⟩
        show (_, _, ((e n : Nat) : Int)) = (_, _, ((e ((n : Int)).toNat : Nat) : Int))
        rw [Int.toNat_natCast]
      · exact ⟨rfl, i2, by omega⟩
  obtain ⟨k1, k2, k3⟩ := key (4 ^ m) (Nat.le_refl _)
  have hp : 0 < 4 ^ m := Nat.pow_pos (by decide)
  refine ⟨?_, k2, by omega⟩
  rw [z_fl3_fold, hf, k1]
theorem z_byI_0 (D : Int → Int) (c A S : Int) : ∀ n : Nat, 0 ≤ z_byI D c A S n := by
  intro n
  induction n with
  | zero => exact Int.le_refl 0
  | succ n ih => unfold z_byI; split <;> omega
theorem z_byI_w {D d f : Int → Int} {c A S : Int} {p j : Nat} (h : 0 < D p) (hv : 1 + z_c4 c p = f j) (hD : d j = D p) (hb : z_byI D c A S p = z_ug f d A S j) : z_byI D c A S (p + 1) = z_ug f d A S (j + 1) := by
  have e : z_dfI D c A S p = f j * A - d j * S := by unfold z_dfI; rw [if_pos h, hv, hD]
  unfold z_byI z_ug
  rw [e, hb]
theorem z_byI_n {D d f : Int → Int} {c A S : Int} {p j : Nat} (h : D p = 0) (hb : z_byI D c A S p = z_ug f d A S j) : z_byI D c A S (p + 1) = z_ug f d A S j := by
  have e : z_dfI D c A S p = 0 := by unfold z_dfI; rw [if_neg (by omega)]
  have h0 := z_byI_0 D c A S p
  unfold z_byI
  rw [e, if_neg (by show ¬ z_byI D c A S p < z_ab 0; unfold z_ab; rw [if_neg (by decide)]; omega), hb]
theorem z_wbs_all {f : Int → Int} (hz : ∀ p, 4 ≤ p → p < 12 → f p = 0) {p : Int} (p0 : 0 ≤ p) (p1 : p < 12) (hp : 0 < f p) : z_bit (z_wbs f 4) p = 1 := by
  rcases z_bit_01 (z_wbs f 4) p with h | h
  · exfalso
    have p4 : p < 4 := by
      rcases Int.lt_or_le p 4 with c | c
      · exact c
      · have := hz p c p1; omega
    have hn : ∀ i : Nat, i ≤ 4 → z_bit (z_wbs f i) p = 0 := fun i hi => by
      rcases z_bit_01 (z_wbs f i) p with c | c
      · exact c
      · have := z_wbs_mono p0 i (4 - i) c
        rw [show i + (4 - i) = 4 by omega] at this
        omega
    have step : ∀ i : Nat, i < 4 → z_bit (z_wbs f (i + 1)) 0 + z_bit (z_wbs f (i + 1)) 1 + z_bit (z_wbs f (i + 1)) 2 + z_bit (z_wbs f (i + 1)) 3 = z_bit (z_wbs f i) 0 + z_bit (z_wbs f i) 1 + z_bit (z_wbs f i) 2 + z_bit (z_wbs f i) 3 + 1 := fun i hi => by
      have hr := z_wbs_rg f i
      have hs : z_wbx f (z_wbs f i) 12 ≠ -1 := z_nx_some (f := f) (u := fun q => z_bit (z_wbs f i) q) 12 ⟨p.toNat, by omega, by rw [Int.toNat_of_nonneg p0]; exact hp, by show z_bit _ ((p.toNat : Nat) : Int) = 0; rw [Int.toNat_of_nonneg p0]; exact hn i (by omega)⟩
      have ho := z_nx_ok (f := f) (u := fun q => z_bit (z_wbs f i) q) 12 hs
      have hg := z_nx_rg f (fun q => z_bit (z_wbs f i) q) 12
      change z_wbx f (z_wbs f i) 12 ≠ -1 at hs
      change z_bit (z_wbs f i) (z_wbx f (z_wbs f i) 12) = 0 ∧ 0 < f (z_wbx f (z_wbs f i) 12) at ho
      change -1 ≤ z_wbx f (z_wbs f i) 12 ∧ z_wbx f (z_wbs f i) 12 < 12 at hg
      have e : z_wbs f (i + 1) = z_bor (z_wbs f i) (z_wbx f (z_wbs f i) 12) := if_neg hs
      generalize z_wbx f (z_wbs f i) 12 = t at *
      have t4 : t < 4 := by
        rcases Int.lt_or_le t 4 with c | c
        · exact c
        · have := hz t c hg.2; omega
      have t0 : 0 ≤ t := by omega
      rw [e, z_bit_bor t0 (by decide) hr.1, z_bit_bor t0 (by decide) hr.1, z_bit_bor t0 (by decide) hr.1, z_bit_bor t0 (by decide) hr.1]
      rcases (show t = 0 ∨ t = 1 ∨ t = 2 ∨ t = 3 by omega) with rfl | rfl | rfl | rfl
      · rw [if_pos rfl, if_neg (by decide), if_neg (by decide), if_neg (by decide)]; omega
      · rw [if_pos rfl, if_neg (by decide), if_neg (by decide), if_neg (by decide)]; omega
      · rw [if_pos rfl, if_neg (by decide), if_neg (by decide), if_neg (by decide)]; omega
      · rw [if_pos rfl, if_neg (by decide), if_neg (by decide), if_neg (by decide)]; omega
    have s0 : z_bit (z_wbs f 1) 0 + z_bit (z_wbs f 1) 1 + z_bit (z_wbs f 1) 2 + z_bit (z_wbs f 1) 3 = z_bit (z_wbs f 0) 0 + z_bit (z_wbs f 0) 1 + z_bit (z_wbs f 0) 2 + z_bit (z_wbs f 0) 3 + 1 := step 0 (by decide)
    have s1 : z_bit (z_wbs f 2) 0 + z_bit (z_wbs f 2) 1 + z_bit (z_wbs f 2) 2 + z_bit (z_wbs f 2) 3 = z_bit (z_wbs f 1) 0 + z_bit (z_wbs f 1) 1 + z_bit (z_wbs f 1) 2 + z_bit (z_wbs f 1) 3 + 1 := step 1 (by decide)
    have s2 : z_bit (z_wbs f 3) 0 + z_bit (z_wbs f 3) 1 + z_bit (z_wbs f 3) 2 + z_bit (z_wbs f 3) 3 = z_bit (z_wbs f 2) 0 + z_bit (z_wbs f 2) 1 + z_bit (z_wbs f 2) 2 + z_bit (z_wbs f 2) 3 + 1 := step 2 (by decide)
    have s3 : z_bit (z_wbs f 4) 0 + z_bit (z_wbs f 4) 1 + z_bit (z_wbs f 4) 2 + z_bit (z_wbs f 4) 3 = z_bit (z_wbs f 3) 0 + z_bit (z_wbs f 3) 1 + z_bit (z_wbs f 3) 2 + z_bit (z_wbs f 3) 3 + 1 := step 3 (by decide)
    have z0 : ∀ q, z_bit (z_wbs f 0) q = 0 := fun q => z_bit_0 q
    rw [z0, z0, z0, z0] at s0
    have b0 := z_bit_01 (z_wbs f 4) 0
    have b1 := z_bit_01 (z_wbs f 4) 1
    have b2 := z_bit_01 (z_wbs f 4) 2
    have b3 := z_bit_01 (z_wbs f 4) 3
    rcases (show p = 0 ∨ p = 1 ∨ p = 2 ∨ p = 3 by omega) with rfl | rfl | rfl | rfl <;> omega
  · exact h
/-- the writers' list where at most the first four pens wrote -/
theorem z_WS_4 {b : Int → Int} {N k : Int} (hb : z_BI b N) (h4 : b 0 ≤ 4) (k0 : 0 ≤ k) (k1 : k < 20) : ((z_fm b k z_w0 : Nat) : Int) = z_sm 4 (fun q => if 0 < z_dr b k q then 1 else 0) ∧ (∀ p : Nat, p < 4 → 0 < z_dr b k p → z_WS b k z_w0 (z_sm p (fun q => if 0 < z_dr b k q then 1 else 0)) = p) ∧ ∀ j : Nat, j < z_fm b k z_w0 → 0 < z_dr b k (z_WS b k z_w0 j) := by
  obtain ⟨m, hm, m4, hw, hc, hs⟩ := z_WS_all (w0 := z_w0) hb k0 k1
  have em : z_fm b k z_w0 = m := by unfold z_fm; omega
  have hz : ∀ p, 4 ≤ p → p < 12 → z_dr b k p = 0 := z_drz hb h4 k0 k1
  have hcw : ∀ p : Nat, p < 12 → z_cw (z_WS b k z_w0) m p = if 0 < z_dr b k p then 1 else 0 := fun p hp => by
    obtain ⟨c1, c2, c3⟩ := hc p (by omega) (by omega)
    have c4 := z_cw_nn (z_WS b k z_w0) m p
    by_cases c : 0 < z_dr b k p
    · have := c1.mp (z_wbs_all hz (by omega) (by omega) c)
      rw [if_pos c]; omega
    · rw [if_neg c]
      rcases Int.lt_or_le 0 (z_cw (z_WS b k z_w0) m p) with q | q
      · exact absurd (c3 (by omega)) c
      · omega
  have hpos : ∀ j : Nat, j < m → z_cw (z_WS b k z_w0) m (z_WS b k z_w0 j) ≠ 0 := fun j hj => by
    have h := z_sm_1 (n := (m : Int).toNat) (f := fun i => if z_WS b k z_w0 i = z_WS b k z_w0 j then 1 else 0) (fun i _ => by show 0 ≤ (if _ then (1 : Int) else 0); split <;> omega) (i := j) (by omega)
    rw [if_pos rfl] at h
    unfold z_cw
    omega
  rw [em]
  refine ⟨?_, fun p hp hd => ?_, fun j hj => ?_⟩
  · have h := z_cw_sum (w := z_WS b k z_w0) (m := m) (fun j j0 j1 => (hw j j0 j1).1) 12
    rw [z_sm_one (f := fun i => if z_WS b k z_w0 i < ((12 : Nat) : Int) then 1 else 0) (fun i hi => if_pos (hw i (by omega) (by omega)).2), z_sm_eq (g := fun q => if 0 < z_dr b k q then 1 else 0) (fun i hi => hcw i hi)] at h
    rw [← h]
    exact z_sm12_4 fun p p0 p1 => by show (if 0 < z_dr b k p then (1 : Int) else 0) = 0; rw [hz p p0 p1, if_neg (by decide)]
  · have hne : 0 < z_cw (z_WS b k z_w0) m p := by rw [hcw p (by omega), if_pos hd]; decide
    unfold z_cw at hne
    obtain ⟨i, hi, h⟩ := z_pos_of_sm _ hne
    have hi2 : i < m := by omega
    have e : z_WS b k z_w0 i = p := by
      by_cases c : z_WS b k z_w0 i = p
      · exact c
      · exfalso
        change 0 < (if z_WS b k z_w0 (i : Int) = (p : Int) then (1 : Int) else 0) at h
        rw [if_neg c] at h
        omega
    have r := z_cw_rank (w := z_WS b k z_w0) (m := m) (fun j j0 j1 => (hw j j0 j1).1) hs hi2
    rw [e, Int.toNat_natCast, z_sm_eq (g := fun q => if 0 < z_dr b k q then 1 else 0) (fun q hq => hcw q (by omega))] at r
    rw [r, e]
  · exact (hc _ (hw j (by omega) (by omega)).1 (hw j (by omega) (by omega)).2).2.2 (hpos j hj)
def z_lfr (b : Int → Int) (k p : Int) : Int := if z_aD b k = 0 ∨ b (186 + 12 * k + p) = 0 then 0 else 1 + z_c4 (z_fl3 (z_dr b k) (z_aD b k) 256).2.2 p
theorem z_fo_0 {w f : Int → Int} {p : Int} : ∀ n : Nat, (∀ j : Nat, j < n → w j ≠ p) → z_fo w f p n = 0 := by
  intro n
  induction n with
  | zero => intro _; rfl
  | succ n ih => intro h; unfold z_fo; rw [if_neg (h n (by omega))]; exact ih fun j hj => h j (by omega)
theorem z_fo_1 {w f : Int → Int} {p : Int} {i : Nat} (hi : w i = p) : ∀ n : Nat, i < n → (∀ j : Nat, j < n → j ≠ i → w j ≠ p) → z_fo w f p n = f i := by
  intro n
  induction n with
  | zero => intro h; omega
  | succ n ih =>
    intro h1 h
    unfold z_fo
    by_cases c : n = i
    · subst c; rw [if_pos hi]
    · rw [if_neg (h n (by omega) c)]
      exact ih (by omega) fun j hj => h j (by omega)
theorem z_fa_0000 {D d : Int → Int} {A : Int} (h0 : D 0 = 0) (h1 : D 1 = 0) (h2 : D 2 = 0) (h3 : D 3 = 0) : ∀ n : Nat, n < 4 ^ 0 → z_suI D (z_eB false false false false n : Nat) 4 = z_ts 0 n ∧ z_byI D (z_eB false false false false n : Nat) A (z_ts 0 n) 4 = z_ug (z_dg 0 n) d A (z_ts 0 n) 0 := by
  intro n hn
  have e : z_eB false false false false n = 0 + 0 * 4 + 0 * 16 + 0 * 64 := rfl
  rw [e]
  have q := z_cg (show 0 < 4 by omega) (show 0 < 4 by omega) (show 0 < 4 by omega) (show 0 < 4 by omega)
  have t : z_ts 0 n = 0 := rfl
  have s : z_suI D ((0 + 0 * 4 + 0 * 16 + 0 * 64 : Nat) : Int) 4 = 0 + (if 0 < D 0 then 1 + z_c4 ((0 + 0 * 4 + 0 * 16 + 0 * 64 : Nat) : Int) 0 else 0) + (if 0 < D 1 then 1 + z_c4 ((0 + 0 * 4 + 0 * 16 + 0 * 64 : Nat) : Int) 1 else 0) + (if 0 < D 2 then 1 + z_c4 ((0 + 0 * 4 + 0 * 16 + 0 * 64 : Nat) : Int) 2 else 0) + (if 0 < D 3 then 1 + z_c4 ((0 + 0 * 4 + 0 * 16 + 0 * 64 : Nat) : Int) 3 else 0) := rfl
  rw [if_neg (show ¬ 0 < D 0 by omega), if_neg (show ¬ 0 < D 1 by omega), if_neg (show ¬ 0 < D 2 by omega), if_neg (show ¬ 0 < D 3 by omega)] at s
  generalize ((0 + 0 * 4 + 0 * 16 + 0 * 64 : Nat) : Int) = x at *
  exact ⟨by omega, (z_byI_n (p := 3) (j := 0) h3 (z_byI_n (p := 2) (j := 0) h2 (z_byI_n (p := 1) (j := 0) h1 (z_byI_n (p := 0) (j := 0) h0 (rfl : z_byI D x A (z_ts 0 n) 0 = z_ug (z_dg 0 n) d A (z_ts 0 n) 0)))))⟩
theorem z_fa_0001 {D d : Int → Int} {A : Int} (h0 : D 0 = 0) (h1 : D 1 = 0) (h2 : D 2 = 0) (h3 : 0 < D 3) (d0 : d 0 = D 3) : ∀ n : Nat, n < 4 ^ 1 → z_suI D (z_eB false false false true n : Nat) 4 = z_ts 1 n ∧ z_byI D (z_eB false false false true n : Nat) A (z_ts 1 n) 4 = z_ug (z_dg 1 n) d A (z_ts 1 n) 1 ∧ 1 + z_c4 (z_eB false false false true n : Nat) 3 = z_dg 1 n 0 := by
  intro n hn
  have e : z_eB false false false true n = n % 4 + 0 * 4 + 0 * 16 + 0 * 64 := rfl
  rw [e]
  have q := z_cg (show n % 4 < 4 by omega) (show 0 < 4 by omega) (show 0 < 4 by omega) (show 0 < 4 by omega)
  have g0 : z_dg 1 n 0 = 1 + (n : Int) % 4 := rfl
  have c0 : 1 + z_c4 ((n % 4 + 0 * 4 + 0 * 16 + 0 * 64 : Nat) : Int) 3 = z_dg 1 n 0 := by rw [q.2.2.2, g0]; rfl
  have t : z_ts 1 n = 0 + z_dg 1 n 0 := rfl
  have s : z_suI D ((n % 4 + 0 * 4 + 0 * 16 + 0 * 64 : Nat) : Int) 4 = 0 + (if 0 < D 0 then 1 + z_c4 ((n % 4 + 0 * 4 + 0 * 16 + 0 * 64 : Nat) : Int) 0 else 0) + (if 0 < D 1 then 1 + z_c4 ((n % 4 + 0 * 4 + 0 * 16 + 0 * 64 : Nat) : Int) 1 else 0) + (if 0 < D 2 then 1 + z_c4 ((n % 4 + 0 * 4 + 0 * 16 + 0 * 64 : Nat) : Int) 2 else 0) + (if 0 < D 3 then 1 + z_c4 ((n % 4 + 0 * 4 + 0 * 16 + 0 * 64 : Nat) : Int) 3 else 0) := rfl
  rw [if_neg (show ¬ 0 < D 0 by omega), if_neg (show ¬ 0 < D 1 by omega), if_neg (show ¬ 0 < D 2 by omega), if_pos h3] at s
  generalize ((n % 4 + 0 * 4 + 0 * 16 + 0 * 64 : Nat) : Int) = x at *
  exact ⟨by omega, (z_byI_w (p := 3) (j := 0) h3 c0 d0 (z_byI_n (p := 2) (j := 0) h2 (z_byI_n (p := 1) (j := 0) h1 (z_byI_n (p := 0) (j := 0) h0 (rfl : z_byI D x A (z_ts 1 n) 0 = z_ug (z_dg 1 n) d A (z_ts 1 n) 0))))), c0⟩
theorem z_fa_0010 {D d : Int → Int} {A : Int} (h0 : D 0 = 0) (h1 : D 1 = 0) (h2 : 0 < D 2) (h3 : D 3 = 0) (d0 : d 0 = D 2) : ∀ n : Nat, n < 4 ^ 1 → z_suI D (z_eB false false true false n : Nat) 4 = z_ts 1 n ∧ z_byI D (z_eB false false true false n : Nat) A (z_ts 1 n) 4 = z_ug (z_dg 1 n) d A (z_ts 1 n) 1 ∧ 1 + z_c4 (z_eB false false true false n : Nat) 2 = z_dg 1 n 0 := by
  intro n hn
  have e : z_eB false false true false n = 0 + n % 4 * 4 + 0 * 16 + 0 * 64 := rfl
  rw [e]
  have q := z_cg (show 0 < 4 by omega) (show n % 4 < 4 by omega) (show 0 < 4 by omega) (show 0 < 4 by omega)
  have g0 : z_dg 1 n 0 = 1 + (n : Int) % 4 := rfl
  have c0 : 1 + z_c4 ((0 + n % 4 * 4 + 0 * 16 + 0 * 64 : Nat) : Int) 2 = z_dg 1 n 0 := by rw [q.2.2.1, g0]; rfl
  have t : z_ts 1 n = 0 + z_dg 1 n 0 := rfl
  have s : z_suI D ((0 + n % 4 * 4 + 0 * 16 + 0 * 64 : Nat) : Int) 4 = 0 + (if 0 < D 0 then 1 + z_c4 ((0 + n % 4 * 4 + 0 * 16 + 0 * 64 : Nat) : Int) 0 else 0) + (if 0 < D 1 then 1 + z_c4 ((0 + n % 4 * 4 + 0 * 16 + 0 * 64 : Nat) : Int) 1 else 0) + (if 0 < D 2 then 1 + z_c4 ((0 + n % 4 * 4 + 0 * 16 + 0 * 64 : Nat) : Int) 2 else 0) + (if 0 < D 3 then 1 + z_c4 ((0 + n % 4 * 4 + 0 * 16 + 0 * 64 : Nat) : Int) 3 else 0) := rfl
  rw [if_neg (show ¬ 0 < D 0 by omega), if_neg (show ¬ 0 < D 1 by omega), if_pos h2, if_neg (show ¬ 0 < D 3 by omega)] at s
  generalize ((0 + n % 4 * 4 + 0 * 16 + 0 * 64 : Nat) : Int) = x at *
  exact ⟨by omega, (z_byI_n (p := 3) (j := 1) h3 (z_byI_w (p := 2) (j := 0) h2 c0 d0 (z_byI_n (p := 1) (j := 0) h1 (z_byI_n (p := 0) (j := 0) h0 (rfl : z_byI D x A (z_ts 1 n) 0 = z_ug (z_dg 1 n) d A (z_ts 1 n) 0))))), c0⟩
theorem z_fa_0011 {D d : Int → Int} {A : Int} (h0 : D 0 = 0) (h1 : D 1 = 0) (h2 : 0 < D 2) (h3 : 0 < D 3) (d0 : d 0 = D 2) (d1 : d 1 = D 3) : ∀ n : Nat, n < 4 ^ 2 → z_suI D (z_eB false false true true n : Nat) 4 = z_ts 2 n ∧ z_byI D (z_eB false false true true n : Nat) A (z_ts 2 n) 4 = z_ug (z_dg 2 n) d A (z_ts 2 n) 2 ∧ 1 + z_c4 (z_eB false false true true n : Nat) 2 = z_dg 2 n 0 ∧ 1 + z_c4 (z_eB false false true true n : Nat) 3 = z_dg 2 n 1 := by
  intro n hn
  have e : z_eB false false true true n = n % 4 + n / 4 % 4 * 4 + 0 * 16 + 0 * 64 := rfl
  rw [e]
  have q := z_cg (show n % 4 < 4 by omega) (show n / 4 % 4 < 4 by omega) (show 0 < 4 by omega) (show 0 < 4 by omega)
  have g0 : z_dg 2 n 0 = 1 + (n : Int) / 4 % 4 := rfl
  have c0 : 1 + z_c4 ((n % 4 + n / 4 % 4 * 4 + 0 * 16 + 0 * 64 : Nat) : Int) 2 = z_dg 2 n 0 := by rw [q.2.2.1, g0]; rfl
  have g1 : z_dg 2 n 1 = 1 + (n : Int) % 4 := rfl
  have c1 : 1 + z_c4 ((n % 4 + n / 4 % 4 * 4 + 0 * 16 + 0 * 64 : Nat) : Int) 3 = z_dg 2 n 1 := by rw [q.2.2.2, g1]; rfl
  have t : z_ts 2 n = 0 + z_dg 2 n 1 + z_dg 2 n 0 := rfl
  have s : z_suI D ((n % 4 + n / 4 % 4 * 4 + 0 * 16 + 0 * 64 : Nat) : Int) 4 = 0 + (if 0 < D 0 then 1 + z_c4 ((n % 4 + n / 4 % 4 * 4 + 0 * 16 + 0 * 64 : Nat) : Int) 0 else 0) + (if 0 < D 1 then 1 + z_c4 ((n % 4 + n / 4 % 4 * 4 + 0 * 16 + 0 * 64 : Nat) : Int) 1 else 0) + (if 0 < D 2 then 1 + z_c4 ((n % 4 + n / 4 % 4 * 4 + 0 * 16 + 0 * 64 : Nat) : Int) 2 else 0) + (if 0 < D 3 then 1 + z_c4 ((n % 4 + n / 4 % 4 * 4 + 0 * 16 + 0 * 64 : Nat) : Int) 3 else 0) := rfl
  rw [if_neg (show ¬ 0 < D 0 by omega), if_neg (show ¬ 0 < D 1 by omega), if_pos h2, if_pos h3] at s
  generalize ((n % 4 + n / 4 % 4 * 4 + 0 * 16 + 0 * 64 : Nat) : Int) = x at *
  exact ⟨by omega, (z_byI_w (p := 3) (j := 1) h3 c1 d1 (z_byI_w (p := 2) (j := 0) h2 c0 d0 (z_byI_n (p := 1) (j := 0) h1 (z_byI_n (p := 0) (j := 0) h0 (rfl : z_byI D x A (z_ts 2 n) 0 = z_ug (z_dg 2 n) d A (z_ts 2 n) 0))))), c0, c1⟩
theorem z_fa_0100 {D d : Int → Int} {A : Int} (h0 : D 0 = 0) (h1 : 0 < D 1) (h2 : D 2 = 0) (h3 : D 3 = 0) (d0 : d 0 = D 1) : ∀ n : Nat, n < 4 ^ 1 → z_suI D (z_eB false true false false n : Nat) 4 = z_ts 1 n ∧ z_byI D (z_eB false true false false n : Nat) A (z_ts 1 n) 4 = z_ug (z_dg 1 n) d A (z_ts 1 n) 1 ∧ 1 + z_c4 (z_eB false true false false n : Nat) 1 = z_dg 1 n 0 := by
  intro n hn
  have e : z_eB false true false false n = 0 + 0 * 4 + n % 4 * 16 + 0 * 64 := rfl
  rw [e]
  have q := z_cg (show 0 < 4 by omega) (show 0 < 4 by omega) (show n % 4 < 4 by omega) (show 0 < 4 by omega)
  have g0 : z_dg 1 n 0 = 1 + (n : Int) % 4 := rfl
  have c0 : 1 + z_c4 ((0 + 0 * 4 + n % 4 * 16 + 0 * 64 : Nat) : Int) 1 = z_dg 1 n 0 := by rw [q.2.1, g0]; rfl
  have t : z_ts 1 n = 0 + z_dg 1 n 0 := rfl
  have s : z_suI D ((0 + 0 * 4 + n % 4 * 16 + 0 * 64 : Nat) : Int) 4 = 0 + (if 0 < D 0 then 1 + z_c4 ((0 + 0 * 4 + n % 4 * 16 + 0 * 64 : Nat) : Int) 0 else 0) + (if 0 < D 1 then 1 + z_c4 ((0 + 0 * 4 + n % 4 * 16 + 0 * 64 : Nat) : Int) 1 else 0) + (if 0 < D 2 then 1 + z_c4 ((0 + 0 * 4 + n % 4 * 16 + 0 * 64 : Nat) : Int) 2 else 0) + (if 0 < D 3 then 1 + z_c4 ((0 + 0 * 4 + n % 4 * 16 + 0 * 64 : Nat) : Int) 3 else 0) := rfl
  rw [if_neg (show ¬ 0 < D 0 by omega), if_pos h1, if_neg (show ¬ 0 < D 2 by omega), if_neg (show ¬ 0 < D 3 by omega)] at s
  generalize ((0 + 0 * 4 + n % 4 * 16 + 0 * 64 : Nat) : Int) = x at *
  exact ⟨by omega, (z_byI_n (p := 3) (j := 1) h3 (z_byI_n (p := 2) (j := 1) h2 (z_byI_w (p := 1) (j := 0) h1 c0 d0 (z_byI_n (p := 0) (j := 0) h0 (rfl : z_byI D x A (z_ts 1 n) 0 = z_ug (z_dg 1 n) d A (z_ts 1 n) 0))))), c0⟩
theorem z_fa_0101 {D d : Int → Int} {A : Int} (h0 : D 0 = 0) (h1 : 0 < D 1) (h2 : D 2 = 0) (h3 : 0 < D 3) (d0 : d 0 = D 1) (d1 : d 1 = D 3) : ∀ n : Nat, n < 4 ^ 2 → z_suI D (z_eB false true false true n : Nat) 4 = z_ts 2 n ∧ z_byI D (z_eB false true false true n : Nat) A (z_ts 2 n) 4 = z_ug (z_dg 2 n) d A (z_ts 2 n) 2 ∧ 1 + z_c4 (z_eB false true false true n : Nat) 1 = z_dg 2 n 0 ∧ 1 + z_c4 (z_eB false true false true n : Nat) 3 = z_dg 2 n 1 := by
  intro n hn
  have e : z_eB false true false true n = n % 4 + 0 * 4 + n / 4 % 4 * 16 + 0 * 64 := rfl
  rw [e]
  have q := z_cg (show n % 4 < 4 by omega) (show 0 < 4 by omega) (show n / 4 % 4 < 4 by omega) (show 0 < 4 by omega)
  have g0 : z_dg 2 n 0 = 1 + (n : Int) / 4 % 4 := rfl
  have c0 : 1 + z_c4 ((n % 4 + 0 * 4 + n / 4 % 4 * 16 + 0 * 64 : Nat) : Int) 1 = z_dg 2 n 0 := by rw [q.2.1, g0]; rfl
  have g1 : z_dg 2 n 1 = 1 + (n : Int) % 4 := rfl
  have c1 : 1 + z_c4 ((n % 4 + 0 * 4 + n / 4 % 4 * 16 + 0 * 64 : Nat) : Int) 3 = z_dg 2 n 1 := by rw [q.2.2.2, g1]; rfl
  have t : z_ts 2 n = 0 + z_dg 2 n 1 + z_dg 2 n 0 := rfl
  have s : z_suI D ((n % 4 + 0 * 4 + n / 4 % 4 * 16 + 0 * 64 : Nat) : Int) 4 = 0 + (if 0 < D 0 then 1 + z_c4 ((n % 4 + 0 * 4 + n / 4 % 4 * 16 + 0 * 64 : Nat) : Int) 0 else 0) + (if 0 < D 1 then 1 + z_c4 ((n % 4 + 0 * 4 + n / 4 % 4 * 16 + 0 * 64 : Nat) : Int) 1 else 0) + (if 0 < D 2 then 1 + z_c4 ((n % 4 + 0 * 4 + n / 4 % 4 * 16 + 0 * 64 : Nat) : Int) 2 else 0) + (if 0 < D 3 then 1 + z_c4 ((n % 4 + 0 * 4 + n / 4 % 4 * 16 + 0 * 64 : Nat) : Int) 3 else 0) := rfl
  rw [if_neg (show ¬ 0 < D 0 by omega), if_pos h1, if_neg (show ¬ 0 < D 2 by omega), if_pos h3] at s
  generalize ((n % 4 + 0 * 4 + n / 4 % 4 * 16 + 0 * 64 : Nat) : Int) = x at *
  exact ⟨by omega, (z_byI_w (p := 3) (j := 1) h3 c1 d1 (z_byI_n (p := 2) (j := 1) h2 (z_byI_w (p := 1) (j := 0) h1 c0 d0 (z_byI_n (p := 0) (j := 0) h0 (rfl : z_byI D x A (z_ts 2 n) 0 = z_ug (z_dg 2 n) d A (z_ts 2 n) 0))))), c0, c1⟩
theorem z_fa_0110 {D d : Int → Int} {A : Int} (h0 : D 0 = 0) (h1 : 0 < D 1) (h2 : 0 < D 2) (h3 : D 3 = 0) (d0 : d 0 = D 1) (d1 : d 1 = D 2) : ∀ n : Nat, n < 4 ^ 2 → z_suI D (z_eB false true true false n : Nat) 4 = z_ts 2 n ∧ z_byI D (z_eB false true true false n : Nat) A (z_ts 2 n) 4 = z_ug (z_dg 2 n) d A (z_ts 2 n) 2 ∧ 1 + z_c4 (z_eB false true true false n : Nat) 1 = z_dg 2 n 0 ∧ 1 + z_c4 (z_eB false true true false n : Nat) 2 = z_dg 2 n 1 := by
  intro n hn
  have e : z_eB false true true false n = 0 + n % 4 * 4 + n / 4 % 4 * 16 + 0 * 64 := rfl
  rw [e]
  have q := z_cg (show 0 < 4 by omega) (show n % 4 < 4 by omega) (show n / 4 % 4 < 4 by omega) (show 0 < 4 by omega)
  have g0 : z_dg 2 n 0 = 1 + (n : Int) / 4 % 4 := rfl
  have c0 : 1 + z_c4 ((0 + n % 4 * 4 + n / 4 % 4 * 16 + 0 * 64 : Nat) : Int) 1 = z_dg 2 n 0 := by rw [q.2.1, g0]; rfl
  have g1 : z_dg 2 n 1 = 1 + (n : Int) % 4 := rfl
  have c1 : 1 + z_c4 ((0 + n % 4 * 4 + n / 4 % 4 * 16 + 0 * 64 : Nat) : Int) 2 = z_dg 2 n 1 := by rw [q.2.2.1, g1]; rfl
  have t : z_ts 2 n = 0 + z_dg 2 n 1 + z_dg 2 n 0 := rfl
  have s : z_suI D ((0 + n % 4 * 4 + n / 4 % 4 * 16 + 0 * 64 : Nat) : Int) 4 = 0 + (if 0 < D 0 then 1 + z_c4 ((0 + n % 4 * 4 + n / 4 % 4 * 16 + 0 * 64 : Nat) : Int) 0 else 0) + (if 0 < D 1 then 1 + z_c4 ((0 + n % 4 * 4 + n / 4 % 4 * 16 + 0 * 64 : Nat) : Int) 1 else 0) + (if 0 < D 2 then 1 + z_c4 ((0 + n % 4 * 4 + n / 4 % 4 * 16 + 0 * 64 : Nat) : Int) 2 else 0) + (if 0 < D 3 then 1 + z_c4 ((0 + n % 4 * 4 + n / 4 % 4 * 16 + 0 * 64 : Nat) : Int) 3 else 0) := rfl
  rw [if_neg (show ¬ 0 < D 0 by omega), if_pos h1, if_pos h2, if_neg (show ¬ 0 < D 3 by omega)] at s
  generalize ((0 + n % 4 * 4 + n / 4 % 4 * 16 + 0 * 64 : Nat) : Int) = x at *
  exact ⟨by omega, (z_byI_n (p := 3) (j := 2) h3 (z_byI_w (p := 2) (j := 1) h2 c1 d1 (z_byI_w (p := 1) (j := 0) h1 c0 d0 (z_byI_n (p := 0) (j := 0) h0 (rfl : z_byI D x A (z_ts 2 n) 0 = z_ug (z_dg 2 n) d A (z_ts 2 n) 0))))), c0, c1⟩
theorem z_fa_0111 {D d : Int → Int} {A : Int} (h0 : D 0 = 0) (h1 : 0 < D 1) (h2 : 0 < D 2) (h3 : 0 < D 3) (d0 : d 0 = D 1) (d1 : d 1 = D 2) (d2 : d 2 = D 3) : ∀ n : Nat, n < 4 ^ 3 → z_suI D (z_eB false true true true n : Nat) 4 = z_ts 3 n ∧ z_byI D (z_eB false true true true n : Nat) A (z_ts 3 n) 4 = z_ug (z_dg 3 n) d A (z_ts 3 n) 3 ∧ 1 + z_c4 (z_eB false true true true n : Nat) 1 = z_dg 3 n 0 ∧ 1 + z_c4 (z_eB false true true true n : Nat) 2 = z_dg 3 n 1 ∧ 1 + z_c4 (z_eB false true true true n : Nat) 3 = z_dg 3 n 2 := by
  intro n hn
  have e : z_eB false true true true n = n % 4 + n / 4 % 4 * 4 + n / 4 / 4 % 4 * 16 + 0 * 64 := rfl
  rw [e]
  have q := z_cg (show n % 4 < 4 by omega) (show n / 4 % 4 < 4 by omega) (show n / 4 / 4 % 4 < 4 by omega) (show 0 < 4 by omega)
  have g0 : z_dg 3 n 0 = 1 + (n : Int) / 4 / 4 % 4 := rfl
  have c0 : 1 + z_c4 ((n % 4 + n / 4 % 4 * 4 + n / 4 / 4 % 4 * 16 + 0 * 64 : Nat) : Int) 1 = z_dg 3 n 0 := by rw [q.2.1, g0]; rfl
  have g1 : z_dg 3 n 1 = 1 + (n : Int) / 4 % 4 := rfl
  have c1 : 1 + z_c4 ((n % 4 + n / 4 % 4 * 4 + n / 4 / 4 % 4 * 16 + 0 * 64 : Nat) : Int) 2 = z_dg 3 n 1 := by rw [q.2.2.1, g1]; rfl
  have g2 : z_dg 3 n 2 = 1 + (n : Int) % 4 := rfl
  have c2 : 1 + z_c4 ((n % 4 + n / 4 % 4 * 4 + n / 4 / 4 % 4 * 16 + 0 * 64 : Nat) : Int) 3 = z_dg 3 n 2 := by rw [q.2.2.2, g2]; rfl
  have t : z_ts 3 n = 0 + z_dg 3 n 2 + z_dg 3 n 1 + z_dg 3 n 0 := rfl
  have s : z_suI D ((n % 4 + n / 4 % 4 * 4 + n / 4 / 4 % 4 * 16 + 0 * 64 : Nat) : Int) 4 = 0 + (if 0 < D 0 then 1 + z_c4 ((n % 4 + n / 4 % 4 * 4 + n / 4 / 4 % 4 * 16 + 0 * 64 : Nat) : Int) 0 else 0) + (if 0 < D 1 then 1 + z_c4 ((n % 4 + n / 4 % 4 * 4 + n / 4 / 4 % 4 * 16 + 0 * 64 : Nat) : Int) 1 else 0) + (if 0 < D 2 then 1 + z_c4 ((n % 4 + n / 4 % 4 * 4 + n / 4 / 4 % 4 * 16 + 0 * 64 : Nat) : Int) 2 else 0) + (if 0 < D 3 then 1 + z_c4 ((n % 4 + n / 4 % 4 * 4 + n / 4 / 4 % 4 * 16 + 0 * 64 : Nat) : Int) 3 else 0) := rfl
  rw [if_neg (show ¬ 0 < D 0 by omega), if_pos h1, if_pos h2, if_pos h3] at s
  generalize ((n % 4 + n / 4 % 4 * 4 + n / 4 / 4 % 4 * 16 + 0 * 64 : Nat) : Int) = x at *
  exact ⟨by omega, (z_byI_w (p := 3) (j := 2) h3 c2 d2 (z_byI_w (p := 2) (j := 1) h2 c1 d1 (z_byI_w (p := 1) (j := 0) h1 c0 d0 (z_byI_n (p := 0) (j := 0) h0 (rfl : z_byI D x A (z_ts 3 n) 0 = z_ug (z_dg 3 n) d A (z_ts 3 n) 0))))), c0, c1, c2⟩
theorem z_fa_1000 {D d : Int → Int} {A : Int} (h0 : 0 < D 0) (h1 : D 1 = 0) (h2 : D 2 = 0) (h3 : D 3 = 0) (d0 : d 0 = D 0) : ∀ n : Nat, n < 4 ^ 1 → z_suI D (z_eB true false false false n : Nat) 4 = z_ts 1 n ∧ z_byI D (z_eB true false false false n : Nat) A (z_ts 1 n) 4 = z_ug (z_dg 1 n) d A (z_ts 1 n) 1 ∧ 1 + z_c4 (z_eB true false false false n : Nat) 0 = z_dg 1 n 0 := by
  intro n hn
  have e : z_eB true false false false n = 0 + 0 * 4 + 0 * 16 + n % 4 * 64 := rfl
  rw [e]
  have q := z_cg (show 0 < 4 by omega) (show 0 < 4 by omega) (show 0 < 4 by omega) (show n % 4 < 4 by omega)
  have g0 : z_dg 1 n 0 = 1 + (n : Int) % 4 := rfl
  have c0 : 1 + z_c4 ((0 + 0 * 4 + 0 * 16 + n % 4 * 64 : Nat) : Int) 0 = z_dg 1 n 0 := by rw [q.1, g0]; rfl
  have t : z_ts 1 n = 0 + z_dg 1 n 0 := rfl
  have s : z_suI D ((0 + 0 * 4 + 0 * 16 + n % 4 * 64 : Nat) : Int) 4 = 0 + (if 0 < D 0 then 1 + z_c4 ((0 + 0 * 4 + 0 * 16 + n % 4 * 64 : Nat) : Int) 0 else 0) + (if 0 < D 1 then 1 + z_c4 ((0 + 0 * 4 + 0 * 16 + n % 4 * 64 : Nat) : Int) 1 else 0) + (if 0 < D 2 then 1 + z_c4 ((0 + 0 * 4 + 0 * 16 + n % 4 * 64 : Nat) : Int) 2 else 0) + (if 0 < D 3 then 1 + z_c4 ((0 + 0 * 4 + 0 * 16 + n % 4 * 64 : Nat) : Int) 3 else 0) := rfl
  rw [if_pos h0, if_neg (show ¬ 0 < D 1 by omega), if_neg (show ¬ 0 < D 2 by omega), if_neg (show ¬ 0 < D 3 by omega)] at s
  generalize ((0 + 0 * 4 + 0 * 16 + n % 4 * 64 : Nat) : Int) = x at *
  exact ⟨by omega, (z_byI_n (p := 3) (j := 1) h3 (z_byI_n (p := 2) (j := 1) h2 (z_byI_n (p := 1) (j := 1) h1 (z_byI_w (p := 0) (j := 0) h0 c0 d0 (rfl : z_byI D x A (z_ts 1 n) 0 = z_ug (z_dg 1 n) d A (z_ts 1 n) 0))))), c0⟩
theorem z_fa_1001 {D d : Int → Int} {A : Int} (h0 : 0 < D 0) (h1 : D 1 = 0) (h2 : D 2 = 0) (h3 : 0 < D 3) (d0 : d 0 = D 0) (d1 : d 1 = D 3) : ∀ n : Nat, n < 4 ^ 2 → z_suI D (z_eB true false false true n : Nat) 4 = z_ts 2 n ∧ z_byI D (z_eB true false false true n : Nat) A (z_ts 2 n) 4 = z_ug (z_dg 2 n) d A (z_ts 2 n) 2 ∧ 1 + z_c4 (z_eB true false false true n : Nat) 0 = z_dg 2 n 0 ∧ 1 + z_c4 (z_eB true false false true n : Nat) 3 = z_dg 2 n 1 := by
  intro n hn
  have e : z_eB true false false true n = n % 4 + 0 * 4 + 0 * 16 + n / 4 % 4 * 64 := rfl
  rw [e]
  have q := z_cg (show n % 4 < 4 by omega) (show 0 < 4 by omega) (show 0 < 4 by omega) (show n / 4 % 4 < 4 by omega)
  have g0 : z_dg 2 n 0 = 1 + (n : Int) / 4 % 4 := rfl
  have c0 : 1 + z_c4 ((n % 4 + 0 * 4 + 0 * 16 + n / 4 % 4 * 64 : Nat) : Int) 0 = z_dg 2 n 0 := by rw [q.1, g0]; rfl
  have g1 : z_dg 2 n 1 = 1 + (n : Int) % 4 := rfl
  have c1 : 1 + z_c4 ((n % 4 + 0 * 4 + 0 * 16 + n / 4 % 4 * 64 : Nat) : Int) 3 = z_dg 2 n 1 := by rw [q.2.2.2, g1]; rfl
  have t : z_ts 2 n = 0 + z_dg 2 n 1 + z_dg 2 n 0 := rfl
  have s : z_suI D ((n % 4 + 0 * 4 + 0 * 16 + n / 4 % 4 * 64 : Nat) : Int) 4 = 0 + (if 0 < D 0 then 1 + z_c4 ((n % 4 + 0 * 4 + 0 * 16 + n / 4 % 4 * 64 : Nat) : Int) 0 else 0) + (if 0 < D 1 then 1 + z_c4 ((n % 4 + 0 * 4 + 0 * 16 + n / 4 % 4 * 64 : Nat) : Int) 1 else 0) + (if 0 < D 2 then 1 + z_c4 ((n % 4 + 0 * 4 + 0 * 16 + n / 4 % 4 * 64 : Nat) : Int) 2 else 0) + (if 0 < D 3 then 1 + z_c4 ((n % 4 + 0 * 4 + 0 * 16 + n / 4 % 4 * 64 : Nat) : Int) 3 else 0) := rfl
  rw [if_pos h0, if_neg (show ¬ 0 < D 1 by omega), if_neg (show ¬ 0 < D 2 by omega), if_pos h3] at s
  generalize ((n % 4 + 0 * 4 + 0 * 16 + n / 4 % 4 * 64 : Nat) : Int) = x at *
  exact ⟨by omega, (z_byI_w (p := 3) (j := 1) h3 c1 d1 (z_byI_n (p := 2) (j := 1) h2 (z_byI_n (p := 1) (j := 1) h1 (z_byI_w (p := 0) (j := 0) h0 c0 d0 (rfl : z_byI D x A (z_ts 2 n) 0 = z_ug (z_dg 2 n) d A (z_ts 2 n) 0))))), c0, c1⟩
theorem z_fa_1010 {D d : Int → Int} {A : Int} (h0 : 0 < D 0) (h1 : D 1 = 0) (h2 : 0 < D 2) (h3 : D 3 = 0) (d0 : d 0 = D 0) (d1 : d 1 = D 2) : ∀ n : Nat, n < 4 ^ 2 → z_suI D (z_eB true false true false n : Nat) 4 = z_ts 2 n ∧ z_byI D (z_eB true false true false n : Nat) A (z_ts 2 n) 4 = z_ug (z_dg 2 n) d A (z_ts 2 n) 2 ∧ 1 + z_c4 (z_eB true false true false n : Nat) 0 = z_dg 2 n 0 ∧ 1 + z_c4 (z_eB true false true false n : Nat) 2 = z_dg 2 n 1 := by
  intro n hn
  have e : z_eB true false true false n = 0 + n % 4 * 4 + 0 * 16 + n / 4 % 4 * 64 := rfl
  rw [e]
  have q := z_cg (show 0 < 4 by omega) (show n % 4 < 4 by omega) (show 0 < 4 by omega) (show n / 4 % 4 < 4 by omega)
  have g0 : z_dg 2 n 0 = 1 + (n : Int) / 4 % 4 := rfl
  have c0 : 1 + z_c4 ((0 + n % 4 * 4 + 0 * 16 + n / 4 % 4 * 64 : Nat) : Int) 0 = z_dg 2 n 0 := by rw [q.1, g0]; rfl
  have g1 : z_dg 2 n 1 = 1 + (n : Int) % 4 := rfl
  have c1 : 1 + z_c4 ((0 + n % 4 * 4 + 0 * 16 + n / 4 % 4 * 64 : Nat) : Int) 2 = z_dg 2 n 1 := by rw [q.2.2.1, g1]; rfl
  have t : z_ts 2 n = 0 + z_dg 2 n 1 + z_dg 2 n 0 := rfl
  have s : z_suI D ((0 + n % 4 * 4 + 0 * 16 + n / 4 % 4 * 64 : Nat) : Int) 4 = 0 + (if 0 < D 0 then 1 + z_c4 ((0 + n % 4 * 4 + 0 * 16 + n / 4 % 4 * 64 : Nat) : Int) 0 else 0) + (if 0 < D 1 then 1 + z_c4 ((0 + n % 4 * 4 + 0 * 16 + n / 4 % 4 * 64 : Nat) : Int) 1 else 0) + (if 0 < D 2 then 1 + z_c4 ((0 + n % 4 * 4 + 0 * 16 + n / 4 % 4 * 64 : Nat) : Int) 2 else 0) + (if 0 < D 3 then 1 + z_c4 ((0 + n % 4 * 4 + 0 * 16 + n / 4 % 4 * 64 : Nat) : Int) 3 else 0) := rfl
  rw [if_pos h0, if_neg (show ¬ 0 < D 1 by omega), if_pos h2, if_neg (show ¬ 0 < D 3 by omega)] at s
  generalize ((0 + n % 4 * 4 + 0 * 16 + n / 4 % 4 * 64 : Nat) : Int) = x at *
  exact ⟨by omega, (z_byI_n (p := 3) (j := 2) h3 (z_byI_w (p := 2) (j := 1) h2 c1 d1 (z_byI_n (p := 1) (j := 1) h1 (z_byI_w (p := 0) (j := 0) h0 c0 d0 (rfl : z_byI D x A (z_ts 2 n) 0 = z_ug (z_dg 2 n) d A (z_ts 2 n) 0))))), c0, c1⟩
theorem z_fa_1011 {D d : Int → Int} {A : Int} (h0 : 0 < D 0) (h1 : D 1 = 0) (h2 : 0 < D 2) (h3 : 0 < D 3) (d0 : d 0 = D 0) (d1 : d 1 = D 2) (d2 : d 2 = D 3) : ∀ n : Nat, n < 4 ^ 3 → z_suI D (z_eB true false true true n : Nat) 4 = z_ts 3 n ∧ z_byI D (z_eB true false true true n : Nat) A (z_ts 3 n) 4 = z_ug (z_dg 3 n) d A (z_ts 3 n) 3 ∧ 1 + z_c4 (z_eB true false true true n : Nat) 0 = z_dg 3 n 0 ∧ 1 + z_c4 (z_eB true false true true n : Nat) 2 = z_dg 3 n 1 ∧ 1 + z_c4 (z_eB true false true true n : Nat) 3 = z_dg 3 n 2 := by
  intro n hn
  have e : z_eB true false true true n = n % 4 + n / 4 % 4 * 4 + 0 * 16 + n / 4 / 4 % 4 * 64 := rfl
  rw [e]
  have q := z_cg (show n % 4 < 4 by omega) (show n / 4 % 4 < 4 by omega) (show 0 < 4 by omega) (show n / 4 / 4 % 4 < 4 by omega)
  have g0 : z_dg 3 n 0 = 1 + (n : Int) / 4 / 4 % 4 := rfl
  have c0 : 1 + z_c4 ((n % 4 + n / 4 % 4 * 4 + 0 * 16 + n / 4 / 4 % 4 * 64 : Nat) : Int) 0 = z_dg 3 n 0 := by rw [q.1, g0]; rfl
  have g1 : z_dg 3 n 1 = 1 + (n : Int) / 4 % 4 := rfl
  have c1 : 1 + z_c4 ((n % 4 + n / 4 % 4 * 4 + 0 * 16 + n / 4 / 4 % 4 * 64 : Nat) : Int) 2 = z_dg 3 n 1 := by rw [q.2.2.1, g1]; rfl
  have g2 : z_dg 3 n 2 = 1 + (n : Int) % 4 := rfl
  have c2 : 1 + z_c4 ((n % 4 + n / 4 % 4 * 4 + 0 * 16 + n / 4 / 4 % 4 * 64 : Nat) : Int) 3 = z_dg 3 n 2 := by rw [q.2.2.2, g2]; rfl
  have t : z_ts 3 n = 0 + z_dg 3 n 2 + z_dg 3 n 1 + z_dg 3 n 0 := rfl
  have s : z_suI D ((n % 4 + n / 4 % 4 * 4 + 0 * 16 + n / 4 / 4 % 4 * 64 : Nat) : Int) 4 = 0 + (if 0 < D 0 then 1 + z_c4 ((n % 4 + n / 4 % 4 * 4 + 0 * 16 + n / 4 / 4 % 4 * 64 : Nat) : Int) 0 else 0) + (if 0 < D 1 then 1 + z_c4 ((n % 4 + n / 4 % 4 * 4 + 0 * 16 + n / 4 / 4 % 4 * 64 : Nat) : Int) 1 else 0) + (if 0 < D 2 then 1 + z_c4 ((n % 4 + n / 4 % 4 * 4 + 0 * 16 + n / 4 / 4 % 4 * 64 : Nat) : Int) 2 else 0) + (if 0 < D 3 then 1 + z_c4 ((n % 4 + n / 4 % 4 * 4 + 0 * 16 + n / 4 / 4 % 4 * 64 : Nat) : Int) 3 else 0) := rfl
  rw [if_pos h0, if_neg (show ¬ 0 < D 1 by omega), if_pos h2, if_pos h3] at s
  generalize ((n % 4 + n / 4 % 4 * 4 + 0 * 16 + n / 4 / 4 % 4 * 64 : Nat) : Int) = x at *
  exact ⟨by omega, (z_byI_w (p := 3) (j := 2) h3 c2 d2 (z_byI_w (p := 2) (j := 1) h2 c1 d1 (z_byI_n (p := 1) (j := 1) h1 (z_byI_w (p := 0) (j := 0) h0 c0 d0 (rfl : z_byI D x A (z_ts 3 n) 0 = z_ug (z_dg 3 n) d A (z_ts 3 n) 0))))), c0, c1, c2⟩
theorem z_fa_1100 {D d : Int → Int} {A : Int} (h0 : 0 < D 0) (h1 : 0 < D 1) (h2 : D 2 = 0) (h3 : D 3 = 0) (d0 : d 0 = D 0) (d1 : d 1 = D 1) : ∀ n : Nat, n < 4 ^ 2 → z_suI D (z_eB true true false false n : Nat) 4 = z_ts 2 n ∧ z_byI D (z_eB true true false false n : Nat) A (z_ts 2 n) 4 = z_ug (z_dg 2 n) d A (z_ts 2 n) 2 ∧ 1 + z_c4 (z_eB true true false false n : Nat) 0 = z_dg 2 n 0 ∧ 1 + z_c4 (z_eB true true false false n : Nat) 1 = z_dg 2 n 1 := by
  intro n hn
  have e : z_eB true true false false n = 0 + 0 * 4 + n % 4 * 16 + n / 4 % 4 * 64 := rfl
  rw [e]
  have q := z_cg (show 0 < 4 by omega) (show 0 < 4 by omega) (show n % 4 < 4 by omega) (show n / 4 % 4 < 4 by omega)
  have g0 : z_dg 2 n 0 = 1 + (n : Int) / 4 % 4 := rfl
  have c0 : 1 + z_c4 ((0 + 0 * 4 + n % 4 * 16 + n / 4 % 4 * 64 : Nat) : Int) 0 = z_dg 2 n 0 := by rw [q.1, g0]; rfl
  have g1 : z_dg 2 n 1 = 1 + (n : Int) % 4 := rfl
  have c1 : 1 + z_c4 ((0 + 0 * 4 + n % 4 * 16 + n / 4 % 4 * 64 : Nat) : Int) 1 = z_dg 2 n 1 := by rw [q.2.1, g1]; rfl
  have t : z_ts 2 n = 0 + z_dg 2 n 1 + z_dg 2 n 0 := rfl
  have s : z_suI D ((0 + 0 * 4 + n % 4 * 16 + n / 4 % 4 * 64 : Nat) : Int) 4 = 0 + (if 0 < D 0 then 1 + z_c4 ((0 + 0 * 4 + n % 4 * 16 + n / 4 % 4 * 64 : Nat) : Int) 0 else 0) + (if 0 < D 1 then 1 + z_c4 ((0 + 0 * 4 + n % 4 * 16 + n / 4 % 4 * 64 : Nat) : Int) 1 else 0) + (if 0 < D 2 then 1 + z_c4 ((0 + 0 * 4 + n % 4 * 16 + n / 4 % 4 * 64 : Nat) : Int) 2 else 0) + (if 0 < D 3 then 1 + z_c4 ((0 + 0 * 4 + n % 4 * 16 + n / 4 % 4 * 64 : Nat) : Int) 3 else 0) := rfl
  rw [if_pos h0, if_pos h1, if_neg (show ¬ 0 < D 2 by omega), if_neg (show ¬ 0 < D 3 by omega)] at s
  generalize ((0 + 0 * 4 + n % 4 * 16 + n / 4 % 4 * 64 : Nat) : Int) = x at *
  exact ⟨by omega, (z_byI_n (p := 3) (j := 2) h3 (z_byI_n (p := 2) (j := 2) h2 (z_byI_w (p := 1) (j := 1) h1 c1 d1 (z_byI_w (p := 0) (j := 0) h0 c0 d0 (rfl : z_byI D x A (z_ts 2 n) 0 = z_ug (z_dg 2 n) d A (z_ts 2 n) 0))))), c0, c1⟩
theorem z_fa_1101 {D d : Int → Int} {A : Int} (h0 : 0 < D 0) (h1 : 0 < D 1) (h2 : D 2 = 0) (h3 : 0 < D 3) (d0 : d 0 = D 0) (d1 : d 1 = D 1) (d2 : d 2 = D 3) : ∀ n : Nat, n < 4 ^ 3 → z_suI D (z_eB true true false true n : Nat) 4 = z_ts 3 n ∧ z_byI D (z_eB true true false true n : Nat) A (z_ts 3 n) 4 = z_ug (z_dg 3 n) d A (z_ts 3 n) 3 ∧ 1 + z_c4 (z_eB true true false true n : Nat) 0 = z_dg 3 n 0 ∧ 1 + z_c4 (z_eB true true false true n : Nat) 1 = z_dg 3 n 1 ∧ 1 + z_c4 (z_eB true true false true n : Nat) 3 = z_dg 3 n 2 := by
  intro n hn
  have e : z_eB true true false true n = n % 4 + 0 * 4 + n / 4 % 4 * 16 + n / 4 / 4 % 4 * 64 := rfl
  rw [e]
  have q := z_cg (show n % 4 < 4 by omega) (show 0 < 4 by omega) (show n / 4 % 4 < 4 by omega) (show n / 4 / 4 % 4 < 4 by omega)
  have g0 : z_dg 3 n 0 = 1 + (n : Int) / 4 / 4 % 4 := rfl
  have c0 : 1 + z_c4 ((n % 4 + 0 * 4 + n / 4 % 4 * 16 + n / 4 / 4 % 4 * 64 : Nat) : Int) 0 = z_dg 3 n 0 := by rw [q.1, g0]; rfl
  have g1 : z_dg 3 n 1 = 1 + (n : Int) / 4 % 4 := rfl
  have c1 : 1 + z_c4 ((n % 4 + 0 * 4 + n / 4 % 4 * 16 + n / 4 / 4 % 4 * 64 : Nat) : Int) 1 = z_dg 3 n 1 := by rw [q.2.1, g1]; rfl
  have g2 : z_dg 3 n 2 = 1 + (n : Int) % 4 := rfl
  have c2 : 1 + z_c4 ((n % 4 + 0 * 4 + n / 4 % 4 * 16 + n / 4 / 4 % 4 * 64 : Nat) : Int) 3 = z_dg 3 n 2 := by rw [q.2.2.2, g2]; rfl
  have t : z_ts 3 n = 0 + z_dg 3 n 2 + z_dg 3 n 1 + z_dg 3 n 0 := rfl
  have s : z_suI D ((n % 4 + 0 * 4 + n / 4 % 4 * 16 + n / 4 / 4 % 4 * 64 : Nat) : Int) 4 = 0 + (if 0 < D 0 then 1 + z_c4 ((n % 4 + 0 * 4 + n / 4 % 4 * 16 + n / 4 / 4 % 4 * 64 : Nat) : Int) 0 else 0) + (if 0 < D 1 then 1 + z_c4 ((n % 4 + 0 * 4 + n / 4 % 4 * 16 + n / 4 / 4 % 4 * 64 : Nat) : Int) 1 else 0) + (if 0 < D 2 then 1 + z_c4 ((n % 4 + 0 * 4 + n / 4 % 4 * 16 + n / 4 / 4 % 4 * 64 : Nat) : Int) 2 else 0) + (if 0 < D 3 then 1 + z_c4 ((n % 4 + 0 * 4 + n / 4 % 4 * 16 + n / 4 / 4 % 4 * 64 : Nat) : Int) 3 else 0) := rfl
  rw [if_pos h0, if_pos h1, if_neg (show ¬ 0 < D 2 by omega), if_pos h3] at s
  generalize ((n % 4 + 0 * 4 + n / 4 % 4 * 16 + n / 4 / 4 % 4 * 64 : Nat) : Int) = x at *
  exact ⟨by omega, (z_byI_w (p := 3) (j := 2) h3 c2 d2 (z_byI_n (p := 2) (j := 2) h2 (z_byI_w (p := 1) (j := 1) h1 c1 d1 (z_byI_w (p := 0) (j := 0) h0 c0 d0 (rfl : z_byI D x A (z_ts 3 n) 0 = z_ug (z_dg 3 n) d A (z_ts 3 n) 0))))), c0, c1, c2⟩
theorem z_fa_1110 {D d : Int → Int} {A : Int} (h0 : 0 < D 0) (h1 : 0 < D 1) (h2 : 0 < D 2) (h3 : D 3 = 0) (d0 : d 0 = D 0) (d1 : d 1 = D 1) (d2 : d 2 = D 2) : ∀ n : Nat, n < 4 ^ 3 → z_suI D (z_eB true true true false n : Nat) 4 = z_ts 3 n ∧ z_byI D (z_eB true true true false n : Nat) A (z_ts 3 n) 4 = z_ug (z_dg 3 n) d A (z_ts 3 n) 3 ∧ 1 + z_c4 (z_eB true true true false n : Nat) 0 = z_dg 3 n 0 ∧ 1 + z_c4 (z_eB true true true false n : Nat) 1 = z_dg 3 n 1 ∧ 1 + z_c4 (z_eB true true true false n : Nat) 2 = z_dg 3 n 2 := by
  intro n hn
  have e : z_eB true true true false n = 0 + n % 4 * 4 + n / 4 % 4 * 16 + n / 4 / 4 % 4 * 64 := rfl
  rw [e]
  have q := z_cg (show 0 < 4 by omega) (show n % 4 < 4 by omega) (show n / 4 % 4 < 4 by omega) (show n / 4 / 4 % 4 < 4 by omega)
  have g0 : z_dg 3 n 0 = 1 + (n : Int) / 4 / 4 % 4 := rfl
  have c0 : 1 + z_c4 ((0 + n % 4 * 4 + n / 4 % 4 * 16 + n / 4 / 4 % 4 * 64 : Nat) : Int) 0 = z_dg 3 n 0 := by rw [q.1, g0]; rfl
  have g1 : z_dg 3 n 1 = 1 + (n : Int) / 4 % 4 := rfl
  have c1 : 1 + z_c4 ((0 + n % 4 * 4 + n / 4 % 4 * 16 + n / 4 / 4 % 4 * 64 : Nat) : Int) 1 = z_dg 3 n 1 := by rw [q.2.1, g1]; rfl
  have g2 : z_dg 3 n 2 = 1 + (n : Int) % 4 := rfl
  have c2 : 1 + z_c4 ((0 + n % 4 * 4 + n / 4 % 4 * 16 + n / 4 / 4 % 4 * 64 : Nat) : Int) 2 = z_dg 3 n 2 := by rw [q.2.2.1, g2]; rfl
  have t : z_ts 3 n = 0 + z_dg 3 n 2 + z_dg 3 n 1 + z_dg 3 n 0 := rfl
  have s : z_suI D ((0 + n % 4 * 4 + n / 4 % 4 * 16 + n / 4 / 4 % 4 * 64 : Nat) : Int) 4 = 0 + (if 0 < D 0 then 1 + z_c4 ((0 + n % 4 * 4 + n / 4 % 4 * 16 + n / 4 / 4 % 4 * 64 : Nat) : Int) 0 else 0) + (if 0 < D 1 then 1 + z_c4 ((0 + n % 4 * 4 + n / 4 % 4 * 16 + n / 4 / 4 % 4 * 64 : Nat) : Int) 1 else 0) + (if 0 < D 2 then 1 + z_c4 ((0 + n % 4 * 4 + n / 4 % 4 * 16 + n / 4 / 4 % 4 * 64 : Nat) : Int) 2 else 0) + (if 0 < D 3 then 1 + z_c4 ((0 + n % 4 * 4 + n / 4 % 4 * 16 + n / 4 / 4 % 4 * 64 : Nat) : Int) 3 else 0) := rfl
  rw [if_pos h0, if_pos h1, if_pos h2, if_neg (show ¬ 0 < D 3 by omega)] at s
  generalize ((0 + n % 4 * 4 + n / 4 % 4 * 16 + n / 4 / 4 % 4 * 64 : Nat) : Int) = x at *
  exact ⟨by omega, (z_byI_n (p := 3) (j := 3) h3 (z_byI_w (p := 2) (j := 2) h2 c2 d2 (z_byI_w (p := 1) (j := 1) h1 c1 d1 (z_byI_w (p := 0) (j := 0) h0 c0 d0 (rfl : z_byI D x A (z_ts 3 n) 0 = z_ug (z_dg 3 n) d A (z_ts 3 n) 0))))), c0, c1, c2⟩
theorem z_fa_1111 {D d : Int → Int} {A : Int} (h0 : 0 < D 0) (h1 : 0 < D 1) (h2 : 0 < D 2) (h3 : 0 < D 3) (d0 : d 0 = D 0) (d1 : d 1 = D 1) (d2 : d 2 = D 2) (d3 : d 3 = D 3) : ∀ n : Nat, n < 4 ^ 4 → z_suI D (z_eB true true true true n : Nat) 4 = z_ts 4 n ∧ z_byI D (z_eB true true true true n : Nat) A (z_ts 4 n) 4 = z_ug (z_dg 4 n) d A (z_ts 4 n) 4 ∧ 1 + z_c4 (z_eB true true true true n : Nat) 0 = z_dg 4 n 0 ∧ 1 + z_c4 (z_eB true true true true n : Nat) 1 = z_dg 4 n 1 ∧ 1 + z_c4 (z_eB true true true true n : Nat) 2 = z_dg 4 n 2 ∧ 1 + z_c4 (z_eB true true true true n : Nat) 3 = z_dg 4 n 3 := by
  intro n hn
  have e : z_eB true true true true n = n % 4 + n / 4 % 4 * 4 + n / 4 / 4 % 4 * 16 + n / 4 / 4 / 4 % 4 * 64 := rfl
  rw [e]
  have q := z_cg (show n % 4 < 4 by omega) (show n / 4 % 4 < 4 by omega) (show n / 4 / 4 % 4 < 4 by omega) (show n / 4 / 4 / 4 % 4 < 4 by omega)
  have g0 : z_dg 4 n 0 = 1 + (n : Int) / 4 / 4 / 4 % 4 := rfl
  have c0 : 1 + z_c4 ((n % 4 + n / 4 % 4 * 4 + n / 4 / 4 % 4 * 16 + n / 4 / 4 / 4 % 4 * 64 : Nat) : Int) 0 = z_dg 4 n 0 := by rw [q.1, g0]; rfl
  have g1 : z_dg 4 n 1 = 1 + (n : Int) / 4 / 4 % 4 := rfl
  have c1 : 1 + z_c4 ((n % 4 + n / 4 % 4 * 4 + n / 4 / 4 % 4 * 16 + n / 4 / 4 / 4 % 4 * 64 : Nat) : Int) 1 = z_dg 4 n 1 := by rw [q.2.1, g1]; rfl
  have g2 : z_dg 4 n 2 = 1 + (n : Int) / 4 % 4 := rfl
  have c2 : 1 + z_c4 ((n % 4 + n / 4 % 4 * 4 + n / 4 / 4 % 4 * 16 + n / 4 / 4 / 4 % 4 * 64 : Nat) : Int) 2 = z_dg 4 n 2 := by rw [q.2.2.1, g2]; rfl
  have g3 : z_dg 4 n 3 = 1 + (n : Int) % 4 := rfl
  have c3 : 1 + z_c4 ((n % 4 + n / 4 % 4 * 4 + n / 4 / 4 % 4 * 16 + n / 4 / 4 / 4 % 4 * 64 : Nat) : Int) 3 = z_dg 4 n 3 := by rw [q.2.2.2, g3]; rfl
  have t : z_ts 4 n = 0 + z_dg 4 n 3 + z_dg 4 n 2 + z_dg 4 n 1 + z_dg 4 n 0 := rfl
  have s : z_suI D ((n % 4 + n / 4 % 4 * 4 + n / 4 / 4 % 4 * 16 + n / 4 / 4 / 4 % 4 * 64 : Nat) : Int) 4 = 0 + (if 0 < D 0 then 1 + z_c4 ((n % 4 + n / 4 % 4 * 4 + n / 4 / 4 % 4 * 16 + n / 4 / 4 / 4 % 4 * 64 : Nat) : Int) 0 else 0) + (if 0 < D 1 then 1 + z_c4 ((n % 4 + n / 4 % 4 * 4 + n / 4 / 4 % 4 * 16 + n / 4 / 4 / 4 % 4 * 64 : Nat) : Int) 1 else 0) + (if 0 < D 2 then 1 + z_c4 ((n % 4 + n / 4 % 4 * 4 + n / 4 / 4 % 4 * 16 + n / 4 / 4 / 4 % 4 * 64 : Nat) : Int) 2 else 0) + (if 0 < D 3 then 1 + z_c4 ((n % 4 + n / 4 % 4 * 4 + n / 4 / 4 % 4 * 16 + n / 4 / 4 / 4 % 4 * 64 : Nat) : Int) 3 else 0) := rfl
  rw [if_pos h0, if_pos h1, if_pos h2, if_pos h3] at s
  generalize ((n % 4 + n / 4 % 4 * 4 + n / 4 / 4 % 4 * 16 + n / 4 / 4 / 4 % 4 * 64 : Nat) : Int) = x at *
  exact ⟨by omega, (z_byI_w (p := 3) (j := 3) h3 c3 d3 (z_byI_w (p := 2) (j := 2) h2 c2 d2 (z_byI_w (p := 1) (j := 1) h1 c1 d1 (z_byI_w (p := 0) (j := 0) h0 c0 d0 (rfl : z_byI D x A (z_ts 4 n) 0 = z_ug (z_dg 4 n) d A (z_ts 4 n) 0))))), c0, c1, c2, c3⟩
set_option maxHeartbeats 4000000 in
theorem z_lfr_fX {b : Int → Int} {N k p : Int} (hb : z_BI b N) (h4 : b 0 ≤ 4) (k0 : 0 ≤ k) (k1 : k < 20) (p0 : 0 ≤ p) (p1 : p < 4) : z_lfr b k p = z_fX b k z_w0 p := by
  obtain ⟨hm, hw, hwd⟩ := z_WS_4 hb h4 k0 k1
  have hA : z_aD b k = z_dr b k 0 + z_dr b k 1 + z_dr b k 2 + z_dr b k 3 := by
    rw [z_aD4 (z_drz hb h4 k0 k1)]
    show b (186 + 12 * k) + _ + _ + _ = b (186 + 12 * k + 0) + b (186 + 12 * k + 1) + b (186 + 12 * k + 2) + b (186 + 12 * k + 3)
    rw [Int.add_zero]
  have hD : ∀ q : Int, 0 ≤ q → q < 4 → 0 ≤ z_dr b k q := fun q q0 q1 => by
    have h := z_BI_Q hb k q k0 k1 q0 (by omega)
    unfold z_QI at h
    exact h.1
  have hfl := z_fl3_fold (z_dr b k) (z_aD b k) 256
  have hfi : (List.range 256).filter (fun c => decide (z_isI (z_dr b k) (c : Nat) 4 = 1)) = (List.range 256).filter (z_vB (decide (0 < z_dr b k 0)) (decide (0 < z_dr b k 1)) (decide (0 < z_dr b k 2)) (decide (0 < z_dr b k 3))) := List.filter_congr fun c _ => z_vB_iff _ c
  rw [z_C1] at hfi
  have w0 := hw 0 (by decide)
  have w1 := hw 1 (by decide)
  have w2 := hw 2 (by decide)
  have w3 := hw 3 (by decide)
  have d0 := hD 0 (by decide) (by decide)
  have d1 := hD 1 (by decide) (by decide)
  have d2 := hD 2 (by decide) (by decide)
  have d3 := hD 3 (by decide) (by decide)
  change 0 < z_dr b k 0 → z_WS b k z_w0 0 = 0 at w0
  change 0 < z_dr b k 1 → z_WS b k z_w0 (0 + (if 0 < z_dr b k 0 then 1 else 0)) = 1 at w1
  change 0 < z_dr b k 2 → z_WS b k z_w0 (0 + (if 0 < z_dr b k 0 then 1 else 0) + (if 0 < z_dr b k 1 then 1 else 0)) = 2 at w2
  change 0 < z_dr b k 3 → z_WS b k z_w0 (0 + (if 0 < z_dr b k 0 then 1 else 0) + (if 0 < z_dr b k 1 then 1 else 0) + (if 0 < z_dr b k 2 then 1 else 0)) = 3 at w3
  change ((z_fm b k z_w0 : Nat) : Int) = 0 + (if 0 < z_dr b k 0 then 1 else 0) + (if 0 < z_dr b k 1 then 1 else 0) + (if 0 < z_dr b k 2 then 1 else 0) + (if 0 < z_dr b k 3 then 1 else 0) at hm
  have hE : z_lfr b k p = if z_aD b k = 0 ∨ z_dr b k p = 0 then 0 else 1 + z_c4 (z_fl3 (z_dr b k) (z_aD b k) 256).2.2 p := rfl
  have hfd : ∀ j, z_fd b k z_w0 j = z_dr b k (z_WS b k z_w0 j) := fun j => rfl
  unfold z_fX z_fc
  rw [hE]
  generalize z_WS b k z_w0 = w at *
  generalize z_fd b k z_w0 = d at *
  generalize z_fm b k z_w0 = m at *
  generalize z_aD b k = A at *
  generalize z_dr b k = D at *
  by_cases c0 : 0 < D 0
  · by_cases c1 : 0 < D 1
    · by_cases c2 : 0 < D 2
      · by_cases c3 : 0 < D 3
        · rw [if_pos c0, if_pos c1, if_pos c2, if_pos c3] at hm
          rw [decide_eq_true c0, decide_eq_true c1, decide_eq_true c2, decide_eq_true c3] at hfi
          have v0 : w 0 = 0 := by have h := w0 c0; exact h
          have v1 : w 1 = 1 := by have h := w1 c1; rw [if_pos c0] at h; exact h
          have v2 : w 2 = 2 := by have h := w2 c2; rw [if_pos c0, if_pos c1] at h; exact h
          have v3 : w 3 = 3 := by have h := w3 c3; rw [if_pos c0, if_pos c1, if_pos c2] at h; exact h
          obtain rfl : m = 4 := by omega
          have e0 : d 0 = D 0 := by rw [hfd, v0]
          have e1 : d 1 = D 1 := by rw [hfd, v1]
          have e2 : d 2 = D 2 := by rw [hfd, v2]
          have e3 : d 3 = D 3 := by rw [hfd, v3]
          have eA : z_sm 4 d = A := by show 0 + d 0 + d 1 + d 2 + d 3 = A; omega
          rw [eA]
          have F := z_fa_1111 (D := D) (d := d) (A := A) c0 c1 c2 c3 e0 e1 e2 e3
          obtain ⟨r1, r2, r3⟩ := z_fl3_rel (D := D) (d := d) (A := A) (m := 4) (e := z_eB true true true true) hfi rfl (fun n hn => (F n hn).1) (fun n hn => (F n hn).2.1)
          generalize z_fss 4 d A (4 ^ 4) = s at *
          have G := F s.2.2.toNat (by omega)
          rw [Int.toNat_of_nonneg r2] at G
          rw [r1]
          rcases (show p = 0 ∨ p = 1 ∨ p = 2 ∨ p = 3 by omega) with rfl | rfl | rfl | rfl
          · rw [if_neg (by omega), z_fo_1 (i := 0) v0 4 (by decide) (fun j hj hn => by
              rcases (show j = 0 ∨ j = 1 ∨ j = 2 ∨ j = 3 by omega) with rfl | rfl | rfl | rfl
              · exact absurd rfl hn
              · show w 1 ≠ 0; omega
              · show w 2 ≠ 0; omega
              · show w 3 ≠ 0; omega)]
            exact G.2.2.1
          · rw [if_neg (by omega), z_fo_1 (i := 1) v1 4 (by decide) (fun j hj hn => by
              rcases (show j = 0 ∨ j = 1 ∨ j = 2 ∨ j = 3 by omega) with rfl | rfl | rfl | rfl
              · show w 0 ≠ 1; omega
              · exact absurd rfl hn
              · show w 2 ≠ 1; omega
              · show w 3 ≠ 1; omega)]
            exact G.2.2.2.1
          · rw [if_neg (by omega), z_fo_1 (i := 2) v2 4 (by decide) (fun j hj hn => by
              rcases (show j = 0 ∨ j = 1 ∨ j = 2 ∨ j = 3 by omega) with rfl | rfl | rfl | rfl
              · show w 0 ≠ 2; omega
              · show w 1 ≠ 2; omega
              · exact absurd rfl hn
              · show w 3 ≠ 2; omega)]
            exact G.2.2.2.2.1
          · rw [if_neg (by omega), z_fo_1 (i := 3) v3 4 (by decide) (fun j hj hn => by
              rcases (show j = 0 ∨ j = 1 ∨ j = 2 ∨ j = 3 by omega) with rfl | rfl | rfl | rfl
              · show w 0 ≠ 3; omega
              · show w 1 ≠ 3; omega
              · show w 2 ≠ 3; omega
              · exact absurd rfl hn)]
            exact G.2.2.2.2.2
        · rw [if_pos c0, if_pos c1, if_pos c2, if_neg c3] at hm
          rw [decide_eq_true c0, decide_eq_true c1, decide_eq_true c2, decide_eq_false c3] at hfi
          have v0 : w 0 = 0 := by have h := w0 c0; exact h
          have v1 : w 1 = 1 := by have h := w1 c1; rw [if_pos c0] at h; exact h
          have v2 : w 2 = 2 := by have h := w2 c2; rw [if_pos c0, if_pos c1] at h; exact h
          obtain rfl : m = 3 := by omega
          have z3 : D 3 = 0 := by omega
          have e0 : d 0 = D 0 := by rw [hfd, v0]
          have e1 : d 1 = D 1 := by rw [hfd, v1]
          have e2 : d 2 = D 2 := by rw [hfd, v2]
          have eA : z_sm 3 d = A := by show 0 + d 0 + d 1 + d 2 = A; omega
          rw [eA]
          have F := z_fa_1110 (D := D) (d := d) (A := A) c0 c1 c2 z3 e0 e1 e2
          obtain ⟨r1, r2, r3⟩ := z_fl3_rel (D := D) (d := d) (A := A) (m := 3) (e := z_eB true true true false) hfi rfl (fun n hn => (F n hn).1) (fun n hn => (F n hn).2.1)
          generalize z_fss 3 d A (4 ^ 3) = s at *
          have G := F s.2.2.toNat (by omega)
          rw [Int.toNat_of_nonneg r2] at G
          rw [r1]
          rcases (show p = 0 ∨ p = 1 ∨ p = 2 ∨ p = 3 by omega) with rfl | rfl | rfl | rfl
          · rw [if_neg (by omega), z_fo_1 (i := 0) v0 3 (by decide) (fun j hj hn => by
              rcases (show j = 0 ∨ j = 1 ∨ j = 2 by omega) with rfl | rfl | rfl
              · exact absurd rfl hn
              · show w 1 ≠ 0; omega
              · show w 2 ≠ 0; omega)]
            exact G.2.2.1
          · rw [if_neg (by omega), z_fo_1 (i := 1) v1 3 (by decide) (fun j hj hn => by
              rcases (show j = 0 ∨ j = 1 ∨ j = 2 by omega) with rfl | rfl | rfl
              · show w 0 ≠ 1; omega
              · exact absurd rfl hn
              · show w 2 ≠ 1; omega)]
            exact G.2.2.2.1
          · rw [if_neg (by omega), z_fo_1 (i := 2) v2 3 (by decide) (fun j hj hn => by
              rcases (show j = 0 ∨ j = 1 ∨ j = 2 by omega) with rfl | rfl | rfl
              · show w 0 ≠ 2; omega
              · show w 1 ≠ 2; omega
              · exact absurd rfl hn)]
            exact G.2.2.2.2
          · rw [if_pos (Or.inr z3), z_fo_0 3 (fun j hj => by
              rcases (show j = 0 ∨ j = 1 ∨ j = 2 by omega) with rfl | rfl | rfl
              · show w 0 ≠ 3; omega
              · show w 1 ≠ 3; omega
              · show w 2 ≠ 3; omega)]
      · by_cases c3 : 0 < D 3
        · rw [if_pos c0, if_pos c1, if_neg c2, if_pos c3] at hm
          rw [decide_eq_true c0, decide_eq_true c1, decide_eq_false c2, decide_eq_true c3] at hfi
          have v0 : w 0 = 0 := by have h := w0 c0; exact h
          have v1 : w 1 = 1 := by have h := w1 c1; rw [if_pos c0] at h; exact h
          have v2 : w 2 = 3 := by have h := w3 c3; rw [if_pos c0, if_pos c1, if_neg c2] at h; exact h
          obtain rfl : m = 3 := by omega
          have z2 : D 2 = 0 := by omega
          have e0 : d 0 = D 0 := by rw [hfd, v0]
          have e1 : d 1 = D 1 := by rw [hfd, v1]
          have e2 : d 2 = D 3 := by rw [hfd, v2]
          have eA : z_sm 3 d = A := by show 0 + d 0 + d 1 + d 2 = A; omega
          rw [eA]
          have F := z_fa_1101 (D := D) (d := d) (A := A) c0 c1 z2 c3 e0 e1 e2
          obtain ⟨r1, r2, r3⟩ := z_fl3_rel (D := D) (d := d) (A := A) (m := 3) (e := z_eB true true false true) hfi rfl (fun n hn => (F n hn).1) (fun n hn => (F n hn).2.1)
          generalize z_fss 3 d A (4 ^ 3) = s at *
          have G := F s.2.2.toNat (by omega)
          rw [Int.toNat_of_nonneg r2] at G
          rw [r1]
          rcases (show p = 0 ∨ p = 1 ∨ p = 2 ∨ p = 3 by omega) with rfl | rfl | rfl | rfl
          · rw [if_neg (by omega), z_fo_1 (i := 0) v0 3 (by decide) (fun j hj hn => by
              rcases (show j = 0 ∨ j = 1 ∨ j = 2 by omega) with rfl | rfl | rfl
              · exact absurd rfl hn
              · show w 1 ≠ 0; omega
              · show w 2 ≠ 0; omega)]
            exact G.2.2.1
          · rw [if_neg (by omega), z_fo_1 (i := 1) v1 3 (by decide) (fun j hj hn => by
              rcases (show j = 0 ∨ j = 1 ∨ j = 2 by omega) with rfl | rfl | rfl
              · show w 0 ≠ 1; omega
              · exact absurd rfl hn
              · show w 2 ≠ 1; omega)]
            exact G.2.2.2.1
          · rw [if_pos (Or.inr z2), z_fo_0 3 (fun j hj => by
              rcases (show j = 0 ∨ j = 1 ∨ j = 2 by omega) with rfl | rfl | rfl
              · show w 0 ≠ 2; omega
              · show w 1 ≠ 2; omega
              · show w 2 ≠ 2; omega)]
          · rw [if_neg (by omega), z_fo_1 (i := 2) v2 3 (by decide) (fun j hj hn => by
              rcases (show j = 0 ∨ j = 1 ∨ j = 2 by omega) with rfl | rfl | rfl
              · show w 0 ≠ 3; omega
              · show w 1 ≠ 3; omega
              · exact absurd rfl hn)]
            exact G.2.2.2.2
        · rw [if_pos c0, if_pos c1, if_neg c2, if_neg c3] at hm
          rw [decide_eq_true c0, decide_eq_true c1, decide_eq_false c2, decide_eq_false c3] at hfi
          have v0 : w 0 = 0 := by have h := w0 c0; exact h
          have v1 : w 1 = 1 := by have h := w1 c1; rw [if_pos c0] at h; exact h
          obtain rfl : m = 2 := by omega
          have z2 : D 2 = 0 := by omega
          have z3 : D 3 = 0 := by omega
          have e0 : d 0 = D 0 := by rw [hfd, v0]
          have e1 : d 1 = D 1 := by rw [hfd, v1]
          have eA : z_sm 2 d = A := by show 0 + d 0 + d 1 = A; omega
          rw [eA]
          have F := z_fa_1100 (D := D) (d := d) (A := A) c0 c1 z2 z3 e0 e1
          obtain ⟨r1, r2, r3⟩ := z_fl3_rel (D := D) (d := d) (A := A) (m := 2) (e := z_eB true true false false) hfi rfl (fun n hn => (F n hn).1) (fun n hn => (F n hn).2.1)
          generalize z_fss 2 d A (4 ^ 2) = s at *
          have G := F s.2.2.toNat (by omega)
          rw [Int.toNat_of_nonneg r2] at G
          rw [r1]
          rcases (show p = 0 ∨ p = 1 ∨ p = 2 ∨ p = 3 by omega) with rfl | rfl | rfl | rfl
          · rw [if_neg (by omega), z_fo_1 (i := 0) v0 2 (by decide) (fun j hj hn => by
              rcases (show j = 0 ∨ j = 1 by omega) with rfl | rfl
              · exact absurd rfl hn
              · show w 1 ≠ 0; omega)]
            exact G.2.2.1
          · rw [if_neg (by omega), z_fo_1 (i := 1) v1 2 (by decide) (fun j hj hn => by
              rcases (show j = 0 ∨ j = 1 by omega) with rfl | rfl
              · show w 0 ≠ 1; omega
              · exact absurd rfl hn)]
            exact G.2.2.2
          · rw [if_pos (Or.inr z2), z_fo_0 2 (fun j hj => by
              rcases (show j = 0 ∨ j = 1 by omega) with rfl | rfl
              · show w 0 ≠ 2; omega
              · show w 1 ≠ 2; omega)]
          · rw [if_pos (Or.inr z3), z_fo_0 2 (fun j hj => by
              rcases (show j = 0 ∨ j = 1 by omega) with rfl | rfl
              · show w 0 ≠ 3; omega
              · show w 1 ≠ 3; omega)]
    · by_cases c2 : 0 < D 2
      · by_cases c3 : 0 < D 3
        · rw [if_pos c0, if_neg c1, if_pos c2, if_pos c3] at hm
          rw [decide_eq_true c0, decide_eq_false c1, decide_eq_true c2, decide_eq_true c3] at hfi
          have v0 : w 0 = 0 := by have h := w0 c0; exact h
          have v1 : w 1 = 2 := by have h := w2 c2; rw [if_pos c0, if_neg c1] at h; exact h
          have v2 : w 2 = 3 := by have h := w3 c3; rw [if_pos c0, if_neg c1, if_pos c2] at h; exact h
          obtain rfl : m = 3 := by omega
          have z1 : D 1 = 0 := by omega
          have e0 : d 0 = D 0 := by rw [hfd, v0]
          have e1 : d 1 = D 2 := by rw [hfd, v1]
          have e2 : d 2 = D 3 := by rw [hfd, v2]
          have eA : z_sm 3 d = A := by show 0 + d 0 + d 1 + d 2 = A; omega
          rw [eA]
          have F := z_fa_1011 (D := D) (d := d) (A := A) c0 z1 c2 c3 e0 e1 e2
          obtain ⟨r1, r2, r3⟩ := z_fl3_rel (D := D) (d := d) (A := A) (m := 3) (e := z_eB true false true true) hfi rfl (fun n hn => (F n hn).1) (fun n hn => (F n hn).2.1)
          generalize z_fss 3 d A (4 ^ 3) = s at *
          have G := F s.2.2.toNat (by omega)
          rw [Int.toNat_of_nonneg r2] at G
          rw [r1]
          rcases (show p = 0 ∨ p = 1 ∨ p = 2 ∨ p = 3 by omega) with rfl | rfl | rfl | rfl
          · rw [if_neg (by omega), z_fo_1 (i := 0) v0 3 (by decide) (fun j hj hn => by
              rcases (show j = 0 ∨ j = 1 ∨ j = 2 by omega) with rfl | rfl | rfl
              · exact absurd rfl hn
              · show w 1 ≠ 0; omega
              · show w 2 ≠ 0; omega)]
            exact G.2.2.1
          · rw [if_pos (Or.inr z1), z_fo_0 3 (fun j hj => by
              rcases (show j = 0 ∨ j = 1 ∨ j = 2 by omega) with rfl | rfl | rfl
              · show w 0 ≠ 1; omega
              · show w 1 ≠ 1; omega
              · show w 2 ≠ 1; omega)]
          · rw [if_neg (by omega), z_fo_1 (i := 1) v1 3 (by decide) (fun j hj hn => by
              rcases (show j = 0 ∨ j = 1 ∨ j = 2 by omega) with rfl | rfl | rfl
              · show w 0 ≠ 2; omega
              · exact absurd rfl hn
              · show w 2 ≠ 2; omega)]
            exact G.2.2.2.1
          · rw [if_neg (by omega), z_fo_1 (i := 2) v2 3 (by decide) (fun j hj hn => by
              rcases (show j = 0 ∨ j = 1 ∨ j = 2 by omega) with rfl | rfl | rfl
              · show w 0 ≠ 3; omega
              · show w 1 ≠ 3; omega
              · exact absurd rfl hn)]
            exact G.2.2.2.2
        · rw [if_pos c0, if_neg c1, if_pos c2, if_neg c3] at hm
          rw [decide_eq_true c0, decide_eq_false c1, decide_eq_true c2, decide_eq_false c3] at hfi
          have v0 : w 0 = 0 := by have h := w0 c0; exact h
          have v1 : w 1 = 2 := by have h := w2 c2; rw [if_pos c0, if_neg c1] at h; exact h
          obtain rfl : m = 2 := by omega
          have z1 : D 1 = 0 := by omega
          have z3 : D 3 = 0 := by omega
          have e0 : d 0 = D 0 := by rw [hfd, v0]
          have e1 : d 1 = D 2 := by rw [hfd, v1]
          have eA : z_sm 2 d = A := by show 0 + d 0 + d 1 = A; omega
          rw [eA]
          have F := z_fa_1010 (D := D) (d := d) (A := A) c0 z1 c2 z3 e0 e1
          obtain ⟨r1, r2, r3⟩ := z_fl3_rel (D := D) (d := d) (A := A) (m := 2) (e := z_eB true false true false) hfi rfl (fun n hn => (F n hn).1) (fun n hn => (F n hn).2.1)
          generalize z_fss 2 d A (4 ^ 2) = s at *
          have G := F s.2.2.toNat (by omega)
          rw [Int.toNat_of_nonneg r2] at G
          rw [r1]
          rcases (show p = 0 ∨ p = 1 ∨ p = 2 ∨ p = 3 by omega) with rfl | rfl | rfl | rfl
          · rw [if_neg (by omega), z_fo_1 (i := 0) v0 2 (by decide) (fun j hj hn => by
              rcases (show j = 0 ∨ j = 1 by omega) with rfl | rfl
              · exact absurd rfl hn
              · show w 1 ≠ 0; omega)]
            exact G.2.2.1
          · rw [if_pos (Or.inr z1), z_fo_0 2 (fun j hj => by
              rcases (show j = 0 ∨ j = 1 by omega) with rfl | rfl
              · show w 0 ≠ 1; omega
              · show w 1 ≠ 1; omega)]
          · rw [if_neg (by omega), z_fo_1 (i := 1) v1 2 (by decide) (fun j hj hn => by
              rcases (show j = 0 ∨ j = 1 by omega) with rfl | rfl
              · show w 0 ≠ 2; omega
              · exact absurd rfl hn)]
            exact G.2.2.2
          · rw [if_pos (Or.inr z3), z_fo_0 2 (fun j hj => by
              rcases (show j = 0 ∨ j = 1 by omega) with rfl | rfl
              · show w 0 ≠ 3; omega
              · show w 1 ≠ 3; omega)]
      · by_cases c3 : 0 < D 3
        · rw [if_pos c0, if_neg c1, if_neg c2, if_pos c3] at hm
          rw [decide_eq_true c0, decide_eq_false c1, decide_eq_false c2, decide_eq_true c3] at hfi
          have v0 : w 0 = 0 := by have h := w0 c0; exact h
          have v1 : w 1 = 3 := by have h := w3 c3; rw [if_pos c0, if_neg c1, if_neg c2] at h; exact h
          obtain rfl : m = 2 := by omega
          have z1 : D 1 = 0 := by omega
          have z2 : D 2 = 0 := by omega
          have e0 : d 0 = D 0 := by rw [hfd, v0]
          have e1 : d 1 = D 3 := by rw [hfd, v1]
          have eA : z_sm 2 d = A := by show 0 + d 0 + d 1 = A; omega
          rw [eA]
          have F := z_fa_1001 (D := D) (d := d) (A := A) c0 z1 z2 c3 e0 e1
          obtain ⟨r1, r2, r3⟩ := z_fl3_rel (D := D) (d := d) (A := A) (m := 2) (e := z_eB true false false true) hfi rfl (fun n hn => (F n hn).1) (fun n hn => (F n hn).2.1)
          generalize z_fss 2 d A (4 ^ 2) = s at *
          have G := F s.2.2.toNat (by omega)
          rw [Int.toNat_of_nonneg r2] at G
          rw [r1]
          rcases (show p = 0 ∨ p = 1 ∨ p = 2 ∨ p = 3 by omega) with rfl | rfl | rfl | rfl
          · rw [if_neg (by omega), z_fo_1 (i := 0) v0 2 (by decide) (fun j hj hn => by
              rcases (show j = 0 ∨ j = 1 by omega) with rfl | rfl
              · exact absurd rfl hn
              · show w 1 ≠ 0; omega)]
            exact G.2.2.1
          · rw [if_pos (Or.inr z1), z_fo_0 2 (fun j hj => by
              rcases (show j = 0 ∨ j = 1 by omega) with rfl | rfl
              · show w 0 ≠ 1; omega
              · show w 1 ≠ 1; omega)]
          · rw [if_pos (Or.inr z2), z_fo_0 2 (fun j hj => by
              rcases (show j = 0 ∨ j = 1 by omega) with rfl | rfl
              · show w 0 ≠ 2; omega
              · show w 1 ≠ 2; omega)]
          · rw [if_neg (by omega), z_fo_1 (i := 1) v1 2 (by decide) (fun j hj hn => by
              rcases (show j = 0 ∨ j = 1 by omega) with rfl | rfl
              · show w 0 ≠ 3; omega
              · exact absurd rfl hn)]
            exact G.2.2.2
        · rw [if_pos c0, if_neg c1, if_neg c2, if_neg c3] at hm
          rw [decide_eq_true c0, decide_eq_false c1, decide_eq_false c2, decide_eq_false c3] at hfi
          have v0 : w 0 = 0 := by have h := w0 c0; exact h
          obtain rfl : m = 1 := by omega
          have z1 : D 1 = 0 := by omega
          have z2 : D 2 = 0 := by omega
          have z3 : D 3 = 0 := by omega
          have e0 : d 0 = D 0 := by rw [hfd, v0]
          have eA : z_sm 1 d = A := by show 0 + d 0 = A; omega
          rw [eA]
          have F := z_fa_1000 (D := D) (d := d) (A := A) c0 z1 z2 z3 e0
          obtain ⟨r1, r2, r3⟩ := z_fl3_rel (D := D) (d := d) (A := A) (m := 1) (e := z_eB true false false false) hfi rfl (fun n hn => (F n hn).1) (fun n hn => (F n hn).2.1)
          generalize z_fss 1 d A (4 ^ 1) = s at *
          have G := F s.2.2.toNat (by omega)
          rw [Int.toNat_of_nonneg r2] at G
          rw [r1]
          rcases (show p = 0 ∨ p = 1 ∨ p = 2 ∨ p = 3 by omega) with rfl | rfl | rfl | rfl
          · rw [if_neg (by omega), z_fo_1 (i := 0) v0 1 (by decide) (fun j hj hn => by
              rcases (show j = 0 by omega) with rfl
              · exact absurd rfl hn)]
            exact G.2.2
          · rw [if_pos (Or.inr z1), z_fo_0 1 (fun j hj => by
              rcases (show j = 0 by omega) with rfl
              · show w 0 ≠ 1; omega)]
          · rw [if_pos (Or.inr z2), z_fo_0 1 (fun j hj => by
              rcases (show j = 0 by omega) with rfl
              · show w 0 ≠ 2; omega)]
          · rw [if_pos (Or.inr z3), z_fo_0 1 (fun j hj => by
              rcases (show j = 0 by omega) with rfl
              · show w 0 ≠ 3; omega)]
  · by_cases c1 : 0 < D 1
    · by_cases c2 : 0 < D 2
      · by_cases c3 : 0 < D 3
        · rw [if_neg c0, if_pos c1, if_pos c2, if_pos c3] at hm
          rw [decide_eq_false c0, decide_eq_true c1, decide_eq_true c2, decide_eq_true c3] at hfi
          have v0 : w 0 = 1 := by have h := w1 c1; rw [if_neg c0] at h; exact h
          have v1 : w 1 = 2 := by have h := w2 c2; rw [if_neg c0, if_pos c1] at h; exact h
          have v2 : w 2 = 3 := by have h := w3 c3; rw [if_neg c0, if_pos c1, if_pos c2] at h; exact h
          obtain rfl : m = 3 := by omega
          have z0 : D 0 = 0 := by omega
          have e0 : d 0 = D 1 := by rw [hfd, v0]
          have e1 : d 1 = D 2 := by rw [hfd, v1]
          have e2 : d 2 = D 3 := by rw [hfd, v2]
          have eA : z_sm 3 d = A := by show 0 + d 0 + d 1 + d 2 = A; omega
          rw [eA]
          have F := z_fa_0111 (D := D) (d := d) (A := A) z0 c1 c2 c3 e0 e1 e2
          obtain ⟨r1, r2, r3⟩ := z_fl3_rel (D := D) (d := d) (A := A) (m := 3) (e := z_eB false true true true) hfi rfl (fun n hn => (F n hn).1) (fun n hn => (F n hn).2.1)
          generalize z_fss 3 d A (4 ^ 3) = s at *
          have G := F s.2.2.toNat (by omega)
          rw [Int.toNat_of_nonneg r2] at G
          rw [r1]
          rcases (show p = 0 ∨ p = 1 ∨ p = 2 ∨ p = 3 by omega) with rfl | rfl | rfl | rfl
          · rw [if_pos (Or.inr z0), z_fo_0 3 (fun j hj => by
              rcases (show j = 0 ∨ j = 1 ∨ j = 2 by omega) with rfl | rfl | rfl
              · show w 0 ≠ 0; omega
              · show w 1 ≠ 0; omega
              · show w 2 ≠ 0; omega)]
          · rw [if_neg (by omega), z_fo_1 (i := 0) v0 3 (by decide) (fun j hj hn => by
              rcases (show j = 0 ∨ j = 1 ∨ j = 2 by omega) with rfl | rfl | rfl
              · exact absurd rfl hn
              · show w 1 ≠ 1; omega
              · show w 2 ≠ 1; omega)]
            exact G.2.2.1
          · rw [if_neg (by omega), z_fo_1 (i := 1) v1 3 (by decide) (fun j hj hn => by
              rcases (show j = 0 ∨ j = 1 ∨ j = 2 by omega) with rfl | rfl | rfl
              · show w 0 ≠ 2; omega
              · exact absurd rfl hn
              · show w 2 ≠ 2; omega)]
            exact G.2.2.2.1
          · rw [if_neg (by omega), z_fo_1 (i := 2) v2 3 (by decide) (fun j hj hn => by
              rcases (show j = 0 ∨ j = 1 ∨ j = 2 by omega) with rfl | rfl | rfl
              · show w 0 ≠ 3; omega
              · show w 1 ≠ 3; omega
              · exact absurd rfl hn)]
            exact G.2.2.2.2
        · rw [if_neg c0, if_pos c1, if_pos c2, if_neg c3] at hm
          rw [decide_eq_false c0, decide_eq_true c1, decide_eq_true c2, decide_eq_false c3] at hfi
          have v0 : w 0 = 1 := by have h := w1 c1; rw [if_neg c0] at h; exact h
          have v1 : w 1 = 2 := by have h := w2 c2; rw [if_neg c0, if_pos c1] at h; exact h
          obtain rfl : m = 2 := by omega
          have z0 : D 0 = 0 := by omega
          have z3 : D 3 = 0 := by omega
          have e0 : d 0 = D 1 := by rw [hfd, v0]
          have e1 : d 1 = D 2 := by rw [hfd, v1]
          have eA : z_sm 2 d = A := by show 0 + d 0 + d 1 = A; omega
          rw [eA]
          have F := z_fa_0110 (D := D) (d := d) (A := A) z0 c1 c2 z3 e0 e1
          obtain ⟨r1, r2, r3⟩ := z_fl3_rel (D := D) (d := d) (A := A) (m := 2) (e := z_eB false true true false) hfi rfl (fun n hn => (F n hn).1) (fun n hn => (F n hn).2.1)
          generalize z_fss 2 d A (4 ^ 2) = s at *
          have G := F s.2.2.toNat (by omega)
          rw [Int.toNat_of_nonneg r2] at G
          rw [r1]
          rcases (show p = 0 ∨ p = 1 ∨ p = 2 ∨ p = 3 by omega) with rfl | rfl | rfl | rfl
          · rw [if_pos (Or.inr z0), z_fo_0 2 (fun j hj => by
              rcases (show j = 0 ∨ j = 1 by omega) with rfl | rfl
              · show w 0 ≠ 0; omega
              · show w 1 ≠ 0; omega)]
          · rw [if_neg (by omega), z_fo_1 (i := 0) v0 2 (by decide) (fun j hj hn => by
              rcases (show j = 0 ∨ j = 1 by omega) with rfl | rfl
              · exact absurd rfl hn
              · show w 1 ≠ 1; omega)]
            exact G.2.2.1
          · rw [if_neg (by omega), z_fo_1 (i := 1) v1 2 (by decide) (fun j hj hn => by
              rcases (show j = 0 ∨ j = 1 by omega) with rfl | rfl
              · show w 0 ≠ 2; omega
              · exact absurd rfl hn)]
            exact G.2.2.2
          · rw [if_pos (Or.inr z3), z_fo_0 2 (fun j hj => by
              rcases (show j = 0 ∨ j = 1 by omega) with rfl | rfl
              · show w 0 ≠ 3; omega
              · show w 1 ≠ 3; omega)]
      · by_cases c3 : 0 < D 3
        · rw [if_neg c0, if_pos c1, if_neg c2, if_pos c3] at hm
          rw [decide_eq_false c0, decide_eq_true c1, decide_eq_false c2, decide_eq_true c3] at hfi
          have v0 : w 0 = 1 := by have h := w1 c1; rw [if_neg c0] at h; exact h
          have v1 : w 1 = 3 := by have h := w3 c3; rw [if_neg c0, if_pos c1, if_neg c2] at h; exact h
          obtain rfl : m = 2 := by omega
          have z0 : D 0 = 0 := by omega
          have z2 : D 2 = 0 := by omega
          have e0 : d 0 = D 1 := by rw [hfd, v0]
          have e1 : d 1 = D 3 := by rw [hfd, v1]
          have eA : z_sm 2 d = A := by show 0 + d 0 + d 1 = A; omega
          rw [eA]
          have F := z_fa_0101 (D := D) (d := d) (A := A) z0 c1 z2 c3 e0 e1
          obtain ⟨r1, r2, r3⟩ := z_fl3_rel (D := D) (d := d) (A := A) (m := 2) (e := z_eB false true false true) hfi rfl (fun n hn => (F n hn).1) (fun n hn => (F n hn).2.1)
          generalize z_fss 2 d A (4 ^ 2) = s at *
          have G := F s.2.2.toNat (by omega)
          rw [Int.toNat_of_nonneg r2] at G
          rw [r1]
          rcases (show p = 0 ∨ p = 1 ∨ p = 2 ∨ p = 3 by omega) with rfl | rfl | rfl | rfl
          · rw [if_pos (Or.inr z0), z_fo_0 2 (fun j hj => by
              rcases (show j = 0 ∨ j = 1 by omega) with rfl | rfl
              · show w 0 ≠ 0; omega
              · show w 1 ≠ 0; omega)]
          · rw [if_neg (by omega), z_fo_1 (i := 0) v0 2 (by decide) (fun j hj hn => by
              rcases (show j = 0 ∨ j = 1 by omega) with rfl | rfl
              · exact absurd rfl hn
              · show w 1 ≠ 1; omega)]
            exact G.2.2.1
          · rw [if_pos (Or.inr z2), z_fo_0 2 (fun j hj => by
              rcases (show j = 0 ∨ j = 1 by omega) with rfl | rfl
              · show w 0 ≠ 2; omega
              · show w 1 ≠ 2; omega)]
          · rw [if_neg (by omega), z_fo_1 (i := 1) v1 2 (by decide) (fun j hj hn => by
              rcases (show j = 0 ∨ j = 1 by omega) with rfl | rfl
              · show w 0 ≠ 3; omega
              · exact absurd rfl hn)]
            exact G.2.2.2
        · rw [if_neg c0, if_pos c1, if_neg c2, if_neg c3] at hm
          rw [decide_eq_false c0, decide_eq_true c1, decide_eq_false c2, decide_eq_false c3] at hfi
          have v0 : w 0 = 1 := by have h := w1 c1; rw [if_neg c0] at h; exact h
          obtain rfl : m = 1 := by omega
          have z0 : D 0 = 0 := by omega
          have z2 : D 2 = 0 := by omega
          have z3 : D 3 = 0 := by omega
          have e0 : d 0 = D 1 := by rw [hfd, v0]
          have eA : z_sm 1 d = A := by show 0 + d 0 = A; omega
          rw [eA]
          have F := z_fa_0100 (D := D) (d := d) (A := A) z0 c1 z2 z3 e0
          obtain ⟨r1, r2, r3⟩ := z_fl3_rel (D := D) (d := d) (A := A) (m := 1) (e := z_eB false true false false) hfi rfl (fun n hn => (F n hn).1) (fun n hn => (F n hn).2.1)
          generalize z_fss 1 d A (4 ^ 1) = s at *
          have G := F s.2.2.toNat (by omega)
          rw [Int.toNat_of_nonneg r2] at G
          rw [r1]
          rcases (show p = 0 ∨ p = 1 ∨ p = 2 ∨ p = 3 by omega) with rfl | rfl | rfl | rfl
          · rw [if_pos (Or.inr z0), z_fo_0 1 (fun j hj => by
              rcases (show j = 0 by omega) with rfl
              · show w 0 ≠ 0; omega)]
          · rw [if_neg (by omega), z_fo_1 (i := 0) v0 1 (by decide) (fun j hj hn => by
              rcases (show j = 0 by omega) with rfl
              · exact absurd rfl hn)]
            exact G.2.2
          · rw [if_pos (Or.inr z2), z_fo_0 1 (fun j hj => by
              rcases (show j = 0 by omega) with rfl
              · show w 0 ≠ 2; omega)]
          · rw [if_pos (Or.inr z3), z_fo_0 1 (fun j hj => by
              rcases (show j = 0 by omega) with rfl
              · show w 0 ≠ 3; omega)]
    · by_cases c2 : 0 < D 2
      · by_cases c3 : 0 < D 3
        · rw [if_neg c0, if_neg c1, if_pos c2, if_pos c3] at hm
          rw [decide_eq_false c0, decide_eq_false c1, decide_eq_true c2, decide_eq_true c3] at hfi
          have v0 : w 0 = 2 := by have h := w2 c2; rw [if_neg c0, if_neg c1] at h; exact h
          have v1 : w 1 = 3 := by have h := w3 c3; rw [if_neg c0, if_neg c1, if_pos c2] at h; exact h
          obtain rfl : m = 2 := by omega
          have z0 : D 0 = 0 := by omega
          have z1 : D 1 = 0 := by omega
          have e0 : d 0 = D 2 := by rw [hfd, v0]
          have e1 : d 1 = D 3 := by rw [hfd, v1]
          have eA : z_sm 2 d = A := by show 0 + d 0 + d 1 = A; omega
          rw [eA]
          have F := z_fa_0011 (D := D) (d := d) (A := A) z0 z1 c2 c3 e0 e1
          obtain ⟨r1, r2, r3⟩ := z_fl3_rel (D := D) (d := d) (A := A) (m := 2) (e := z_eB false false true true) hfi rfl (fun n hn => (F n hn).1) (fun n hn => (F n hn).2.1)
          generalize z_fss 2 d A (4 ^ 2) = s at *
          have G := F s.2.2.toNat (by omega)
          rw [Int.toNat_of_nonneg r2] at G
          rw [r1]
          rcases (show p = 0 ∨ p = 1 ∨ p = 2 ∨ p = 3 by omega) with rfl | rfl | rfl | rfl
          · rw [if_pos (Or.inr z0), z_fo_0 2 (fun j hj => by
              rcases (show j = 0 ∨ j = 1 by omega) with rfl | rfl
              · show w 0 ≠ 0; omega
              · show w 1 ≠ 0; omega)]
          · rw [if_pos (Or.inr z1), z_fo_0 2 (fun j hj => by
              rcases (show j = 0 ∨ j = 1 by omega) with rfl | rfl
              · show w 0 ≠ 1; omega
              · show w 1 ≠ 1; omega)]
          · rw [if_neg (by omega), z_fo_1 (i := 0) v0 2 (by decide) (fun j hj hn => by
              rcases (show j = 0 ∨ j = 1 by omega) with rfl | rfl
              · exact absurd rfl hn
              · show w 1 ≠ 2; omega)]
            exact G.2.2.1
          · rw [if_neg (by omega), z_fo_1 (i := 1) v1 2 (by decide) (fun j hj hn => by
              rcases (show j = 0 ∨ j = 1 by omega) with rfl | rfl
              · show w 0 ≠ 3; omega
              · exact absurd rfl hn)]
            exact G.2.2.2
        · rw [if_neg c0, if_neg c1, if_pos c2, if_neg c3] at hm
          rw [decide_eq_false c0, decide_eq_false c1, decide_eq_true c2, decide_eq_false c3] at hfi
          have v0 : w 0 = 2 := by have h := w2 c2; rw [if_neg c0, if_neg c1] at h; exact h
          obtain rfl : m = 1 := by omega
          have z0 : D 0 = 0 := by omega
          have z1 : D 1 = 0 := by omega
          have z3 : D 3 = 0 := by omega
          have e0 : d 0 = D 2 := by rw [hfd, v0]
          have eA : z_sm 1 d = A := by show 0 + d 0 = A; omega
          rw [eA]
          have F := z_fa_0010 (D := D) (d := d) (A := A) z0 z1 c2 z3 e0
          obtain ⟨r1, r2, r3⟩ := z_fl3_rel (D := D) (d := d) (A := A) (m := 1) (e := z_eB false false true false) hfi rfl (fun n hn => (F n hn).1) (fun n hn => (F n hn).2.1)
          generalize z_fss 1 d A (4 ^ 1) = s at *
          have G := F s.2.2.toNat (by omega)
          rw [Int.toNat_of_nonneg r2] at G
          rw [r1]
          rcases (show p = 0 ∨ p = 1 ∨ p = 2 ∨ p = 3 by omega) with rfl | rfl | rfl | rfl
          · rw [if_pos (Or.inr z0), z_fo_0 1 (fun j hj => by
              rcases (show j = 0 by omega) with rfl
              · show w 0 ≠ 0; omega)]
          · rw [if_pos (Or.inr z1), z_fo_0 1 (fun j hj => by
              rcases (show j = 0 by omega) with rfl
              · show w 0 ≠ 1; omega)]
          · rw [if_neg (by omega), z_fo_1 (i := 0) v0 1 (by decide) (fun j hj hn => by
              rcases (show j = 0 by omega) with rfl
              · exact absurd rfl hn)]
            exact G.2.2
          · rw [if_pos (Or.inr z3), z_fo_0 1 (fun j hj => by
              rcases (show j = 0 by omega) with rfl
              · show w 0 ≠ 3; omega)]
      · by_cases c3 : 0 < D 3
        · rw [if_neg c0, if_neg c1, if_neg c2, if_pos c3] at hm
          rw [decide_eq_false c0, decide_eq_false c1, decide_eq_false c2, decide_eq_true c3] at hfi
          have v0 : w 0 = 3 := by have h := w3 c3; rw [if_neg c0, if_neg c1, if_neg c2] at h; exact h
          obtain rfl : m = 1 := by omega
          have z0 : D 0 = 0 := by omega
          have z1 : D 1 = 0 := by omega
          have z2 : D 2 = 0 := by omega
          have e0 : d 0 = D 3 := by rw [hfd, v0]
          have eA : z_sm 1 d = A := by show 0 + d 0 = A; omega
          rw [eA]
          have F := z_fa_0001 (D := D) (d := d) (A := A) z0 z1 z2 c3 e0
          obtain ⟨r1, r2, r3⟩ := z_fl3_rel (D := D) (d := d) (A := A) (m := 1) (e := z_eB false false false true) hfi rfl (fun n hn => (F n hn).1) (fun n hn => (F n hn).2.1)
          generalize z_fss 1 d A (4 ^ 1) = s at *
          have G := F s.2.2.toNat (by omega)
          rw [Int.toNat_of_nonneg r2] at G
          rw [r1]
          rcases (show p = 0 ∨ p = 1 ∨ p = 2 ∨ p = 3 by omega) with rfl | rfl | rfl | rfl
          · rw [if_pos (Or.inr z0), z_fo_0 1 (fun j hj => by
              rcases (show j = 0 by omega) with rfl
              · show w 0 ≠ 0; omega)]
          · rw [if_pos (Or.inr z1), z_fo_0 1 (fun j hj => by
              rcases (show j = 0 by omega) with rfl
              · show w 0 ≠ 1; omega)]
          · rw [if_pos (Or.inr z2), z_fo_0 1 (fun j hj => by
              rcases (show j = 0 by omega) with rfl
              · show w 0 ≠ 2; omega)]
          · rw [if_neg (by omega), z_fo_1 (i := 0) v0 1 (by decide) (fun j hj hn => by
              rcases (show j = 0 by omega) with rfl
              · exact absurd rfl hn)]
            exact G.2.2
        · rw [if_neg c0, if_neg c1, if_neg c2, if_neg c3] at hm
          rw [decide_eq_false c0, decide_eq_false c1, decide_eq_false c2, decide_eq_false c3] at hfi
          obtain rfl : m = 0 := by omega
          have z0 : D 0 = 0 := by omega
          have z1 : D 1 = 0 := by omega
          have z2 : D 2 = 0 := by omega
          have z3 : D 3 = 0 := by omega
          rw [if_pos (Or.inl (by omega))]
          rfl
