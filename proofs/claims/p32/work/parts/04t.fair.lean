/-! ===== the fairest parts ===== -/
def z_ab (x : Int) : Int := if x < 0 then -x else x
theorem z_mb {x y a c : Int} (x0 : 0 ≤ x) (x1 : x ≤ a) (y0 : 0 ≤ y) (y1 : y ≤ c) : 0 ≤ x * y ∧ x * y ≤ a * c :=
  ⟨Int.mul_nonneg x0 y0, Int.mul_le_mul x1 y1 y0 (by omega)⟩
def z_rst (c : Int) : Nat → Int
  | 0 => c
  | q + 1 => z_rst c q / 4
theorem z_rst_rg {c : Int} (c0 : 0 ≤ c) : ∀ q : Nat, 0 ≤ z_rst c q ∧ z_rst c q ≤ c := by
  intro q
  induction q with
  | zero => exact ⟨c0, Int.le_refl _⟩
  | succ q ih => unfold z_rst; omega
/-- of the m figures of c the i-th from above, and 1 -/
def z_dg (m : Nat) (c i : Int) : Int := 1 + z_rst c ((m : Int) - 1 - i).toNat % 4
theorem z_dg_rg (m : Nat) (c i : Int) : 1 ≤ z_dg m c i ∧ z_dg m c i ≤ 4 := by unfold z_dg; omega
theorem z_dg_at {m i : Nat} (c : Int) (h : i < m) : 1 + z_rst c i % 4 = z_dg m c ((m : Int) - 1 - i) := by
  unfold z_dg
  rw [show ((m : Int) - 1 - ((m : Int) - 1 - i)).toNat = i by omega]
def z_ts (m : Nat) (c : Int) : Int := z_sm m (fun t => z_dg m c ((m : Int) - 1 - t))
theorem z_smb {f : Int → Int} {a b : Int} : ∀ n : Nat, (∀ i : Nat, i < n → a ≤ f i ∧ f i ≤ b) → a * n ≤ z_sm n f ∧ z_sm n f ≤ b * n := by
  intro n
  induction n with
  | zero => intro _; exact ⟨by rw [show ((0 : Nat) : Int) = 0 from rfl, Int.mul_zero]; exact Int.le_refl 0, by rw [show ((0 : Nat) : Int) = 0 from rfl, Int.mul_zero]; exact Int.le_refl 0⟩
  | succ n ih =>
    intro h
    have h1 := ih (fun i hi => h i (by omega))
    have h2 := h n (by omega)
    rw [z_sm_s, show ((n + 1 : Nat) : Int) = n + 1 from rfl, Int.mul_add, Int.mul_add, Int.mul_one, Int.mul_one]
    omega
theorem z_ts_rg {m : Nat} (c : Int) (m4 : m ≤ 4) : (m : Int) ≤ z_ts m c ∧ z_ts m c ≤ 16 := by
  have h := z_smb (f := fun t => z_dg m c ((m : Int) - 1 - t)) (a := 1) (b := 4) m (fun i _ => z_dg_rg _ _ _)
  unfold z_ts
  omega
theorem z_cp_p (r s : Int → Int) {d d' e v : Int} (n : Nat) (hd : d' = d + 1) (he : e = d) (hv : v = s d) : z_uf (z_cp r s d' d' n) e v = z_cp r s d d ((n + 1 : Nat) : Int) := by
  subst hd he hv
  funext j
  unfold z_uf z_cp
  by_cases h : j = e
  · subst h
    rw [if_pos rfl, if_pos (by omega)]
    congr 1
    omega
  · rw [if_neg h]
    by_cases h2 : e + 1 ≤ j ∧ j < e + 1 + n
    · rw [if_pos h2, if_pos (by omega)]
      congr 1
      omega
    · rw [if_neg h2, if_neg (by omega)]
/-- the greatest difference, times all -/
def z_ug (f d : Int → Int) (D S : Int) : Nat → Int
  | 0 => 0
  | n + 1 => if z_ug f d D S n < z_ab (f n * D - d n * S) then z_ab (f n * D - d n * S) else z_ug f d D S n
theorem z_ab_rg {f d D S : Int} (f0 : 1 ≤ f) (f1 : f ≤ 4) (d0 : 0 ≤ d) (d1 : d ≤ 9) (D0 : 0 ≤ D) (D1 : D ≤ 36) (S0 : 0 ≤ S) (S1 : S ≤ 16) : 0 ≤ z_ab (f * D - d * S) ∧ z_ab (f * D - d * S) ≤ 144 ∧ -144 ≤ f * D - d * S ∧ f * D - d * S ≤ 144 := by
  have h1 := z_mb (show 0 ≤ f by omega) f1 D0 D1
  have h2 := z_mb d0 d1 S0 S1
  unfold z_ab
  split <;> omega
theorem z_ug_rg {f d : Int → Int} {D S : Int} {m : Nat} (hf : ∀ j, 0 ≤ j → j < (m : Int) → 1 ≤ f j ∧ f j ≤ 4) (hd : ∀ j, 0 ≤ j → j < (m : Int) → 0 ≤ d j ∧ d j ≤ 9) (D0 : 0 ≤ D) (D1 : D ≤ 36) (S0 : 0 ≤ S) (S1 : S ≤ 16) : ∀ n : Nat, n ≤ m → 0 ≤ z_ug f d D S n ∧ z_ug f d D S n ≤ 144 := by
  intro n
  induction n with
  | zero => intro _; exact ⟨Int.le_refl _, by show (0 : Int) ≤ 144; decide⟩
  | succ n ih =>
    intro h
    have a := hf n (by omega) (by omega)
    have b := hd n (by omega) (by omega)
    have c := z_ab_rg a.1 a.2 b.1 b.2 D0 D1 S0 S1
    unfold z_ug
    have := ih (by omega)
    split <;> omega
def z_fst (t u S U : Int) : Int := if t = 0 then -1 else U * t - u * S
/-- what is found among the first n numbers: all parts, difference, number -/
def z_fss (m : Nat) (d : Int → Int) (D : Int) : Nat → Int × Int × Int
  | 0 => (0, 0, 0)
  | n + 1 => if z_fst (z_fss m d D n).1 (z_fss m d D n).2.1 (z_ts m n) (z_ug (z_dg m n) d D (z_ts m n) m) < 0 ∨ (z_fst (z_fss m d D n).1 (z_fss m d D n).2.1 (z_ts m n) (z_ug (z_dg m n) d D (z_ts m n) m) = 0 ∧ z_ts m n < (z_fss m d D n).1) then (z_ts m n, z_ug (z_dg m n) d D (z_ts m n) m, (n : Int)) else z_fss m d D n
theorem z_fss_rg {m : Nat} {d : Int → Int} {D : Int} (m4 : m ≤ 4) (hd : ∀ j, 0 ≤ j → j < (m : Int) → 0 ≤ d j ∧ d j ≤ 9) (D0 : 0 ≤ D) (D1 : D ≤ 36) : ∀ n : Nat, 0 ≤ (z_fss m d D n).1 ∧ (z_fss m d D n).1 ≤ 16 ∧ 0 ≤ (z_fss m d D n).2.1 ∧ (z_fss m d D n).2.1 ≤ 144 := by
  intro n
  induction n with
  | zero => exact ⟨Int.le_refl 0, by show (0 : Int) ≤ 16; decide, Int.le_refl 0, by show (0 : Int) ≤ 144; decide⟩
  | succ n ih =>
    unfold z_fss
    have a := z_ts_rg n m4
    have b := z_ug_rg (fun j _ _ => z_dg_rg m n j) hd D0 D1 (show 0 ≤ z_ts m n by omega) a.2 m (Nat.le_refl m)
    split
    · exact ⟨by show 0 ≤ z_ts m n; omega, a.2, b.1, b.2⟩
    · exact ih
theorem z_p4_le {n : Nat} (h : n ≤ 4) : 1 ≤ 4 ^ n ∧ 4 ^ n ≤ 256 := ⟨Nat.pow_pos (by decide), (Nat.pow_le_pow_right (by decide) h : 4 ^ n ≤ 4 ^ 4)⟩
def z_fo (w f : Int → Int) (p : Int) : Nat → Int
  | 0 => 0
  | n + 1 => if w n = p then f n else z_fo w f p n
/-- a row of the found or of the last parts -/
def z_rw (m : Nat) (r : Int → Int) (n : Nat) (c : Int) : Int → Int := if n = 0 then r else z_cp r (z_dg m c) 0 0 m
theorem z_cp_cp (r s t : Int → Int) (m : Int) : z_cp (z_cp r s 0 0 m) t 0 0 m = z_cp r t 0 0 m := by
  funext j
  unfold z_cp
  by_cases h : 0 ≤ j ∧ j < 0 + m
  · rw [if_pos h, if_pos h]
  · rw [if_neg h, if_neg h, if_neg h]
theorem z_rw_s {m : Nat} {r : Int → Int} {n : Nat} {c e e' : Int} (he : e' = e) : z_cp (z_rw m r n c) (z_dg m e) 0 0 m = z_rw m r (n + 1) e' := by
  subst he
  unfold z_rw
  rw [if_neg (Nat.succ_ne_zero n)]
  split
  · rfl
  · exact z_cp_cp _ _ _ _
theorem z_rw_at {m : Nat} {r : Int → Int} {n : Nat} {c j : Int} (j0 : 0 ≤ j) (j1 : j < m) : z_rw m r (n + 1) c j = z_dg m c j := by
  unfold z_rw z_cp
  rw [if_neg (Nat.succ_ne_zero n), if_pos (by omega)]
  congr 1
  omega
def z_fm (b : Int → Int) (k : Int) (w0 : Int → Int) : Nat := (z_WR b k w0).2.toNat
def z_fd (b : Int → Int) (k : Int) (w0 : Int → Int) : Int → Int := fun j => b (186 + 12 * k + z_WS b k w0 j)
def z_fc (b : Int → Int) (k : Int) (w0 : Int → Int) : Int := (z_fss (z_fm b k w0) (z_fd b k w0) (z_sm (z_fm b k w0) (z_fd b k w0)) (4 ^ z_fm b k w0)).2.2
/-- the part of pen p in the fairest parts of piece k -/
def z_fX (b : Int → Int) (k : Int) (w0 : Int → Int) (p : Int) : Int := z_fo (z_WS b k w0) (z_dg (z_fm b k w0) (z_fc b k w0)) p (z_fm b k w0)
def z_c_fairest (b : Int → Int) (k p : Int) : Int := if ¬ (0 ≤ k ∧ k < b 1) ∨ ¬ (0 ≤ p ∧ p < b 0) then 1 else 0
theorem z_WS_rg {b : Int → Int} {N k : Int} {w0 : Int → Int} {m : Nat} (hb : z_BI b N) (hm : (z_WR b k w0).2 = (m : Int)) : m ≤ 4 ∧ ∀ j, 0 ≤ j → j < (m : Int) → 0 ≤ z_WS b k w0 j ∧ z_WS b k w0 j < 12 := by
  have h := z_wst_m (z_dr b k) (b 0).toNat w0 4
  have hh := z_BI_h hb
  have e : z_wst (z_dr b k) (b 0).toNat 4 (w0, 0) = z_WR b k w0 := rfl
  rw [e, hm] at h
  refine ⟨by omega, fun j j0 j1 => ?_⟩
  unfold z_WS
  rw [hm]
  exact z_bb_rg (P := fun x => 0 ≤ x ∧ x < 12) (by omega) _ _ (fun i i0 i1 => by have := h.2.2 i i0 i1; omega) j j0 j1
