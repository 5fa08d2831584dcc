/-! ===== the fairest parts ===== -/
def z_ab (x : Int) : Int := if x < 0 then -x else x
theorem z_mb {x y a c : Int} (x0 : 0 ≤ x) (x1 : x ≤ a) (y0 : 0 ≤ y) (y1 : y ≤ c) : 0 ≤ x * y ∧ x * y ≤ a * c :=
  ⟨Int.mul_nonneg x0 y0, Int.mul_le_mul x1 y1 y0 (by omega)⟩
def z_rst (c : Int) : Nat → Int
  | 0 => c
  | q + 1 => z_rst c q / 4
theorem z_rst_rg {c : Int} (c0 : 0 ≤ c) : ∀ q : Nat, 0 ≤ z_rst c q ∧ z_rst c q ≤ c := by
  intro q
  induction q with
  | zero => exact ⟨c0, Int.le_refl _⟩
  | succ q ih => unfold z_rst; omega
/-- of the m figures of c the i-th from above, and 1 -/
def z_dg (m : Nat) (c i : Int) : Int := 1 + z_rst c ((m : Int) - 1 - i).toNat % 4
theorem z_dg_rg (m : Nat) (c i : Int) : 1 ≤ z_dg m c i ∧ z_dg m c i ≤ 4 := by unfold z_dg; omega
theorem z_dg_at {m i : Nat} (c : Int) (h : i < m) : 1 + z_rst c i % 4 = z_dg m c ((m : Int) - 1 - i) := by
  unfold z_dg
  rw [show ((m : Int) - 1 - ((m : Int) - 1 - i)).toNat = i by omega]
def z_ts (m : Nat) (c : Int) : Int := z_sm m (fun t => z_dg m c ((m : Int) - 1 - t))
theorem z_smb {f : Int → Int} {a b : Int} : ∀ n : Nat, (∀ i : Nat, i < n → a ≤ f i ∧ f i ≤ b) → a * n ≤ z_sm n f ∧ z_sm n f ≤ b * n := by
  intro n
  induction n with
  | zero => intro _; exact ⟨by rw [show ((0 : Nat) : Int) = 0 from rfl, Int.mul_zero]; exact Int.le_refl 0, by rw [show ((0 : Nat) : Int) = 0 from rfl, Int.mul_zero]; exact Int.le_refl 0⟩
  | succ n ih =>
    intro h
    have h1 := ih (fun i hi => h i (by omega))
    have h2 := h n (by omega)
    rw [z_sm_s, show ((n + 1 : Nat) : Int) = n + 1 from rfl, Int.mul_add, Int.mul_add, Int.mul_one, Int.mul_one]
    omega
theorem z_ts_rg {m : Nat} (c : Int) (m4 : m ≤ 4) : (m : Int) ≤ z_ts m c ∧ z_ts m c ≤ 16 := by
  have h := z_smb (f := fun t => z_dg m c ((m : Int) - 1 - t)) (a := 1) (b := 4) m (fun i _ => z_dg_rg _ _ _)
  unfold z_ts
  omega
theorem z_cp_p (r s : Int → Int) {d d' e v : Int} (n : Nat) (hd : d' = d + 1) (he : e = d) (hv : v = s d) : z_uf (z_cp r s d' d' n) e v = z_cp r s d d ((n + 1 : Nat) : Int) := by
  subst hd he hv
  funext j
  unfold z_uf z_cp
  by_cases h : j = e
  · subst h
    rw [if_pos rfl, if_pos (by omega)]
    congr 1
    omega
  · rw [if_neg h]
    by_cases h2 : e + 1 ≤ j ∧ j < e + 1 + n
    · rw [if_pos h2, if_pos (by omega)]
      congr 1
      omega
    · rw [if_neg h2, if_neg (by omega)]
/-- the greatest difference, times all -/
def z_ug (f d : Int → Int) (D S : Int) : Nat → Int
  | 0 => 0
  | n + 1 => if z_ug f d D S n < z_ab (f n * D - d n * S) then z_ab (f n * D - d n * S) else z_ug f d D S n
theorem z_ab_rg {f d D S : Int} (f0 : 1 ≤ f) (f1 : f ≤ 4) (d0 : 0 ≤ d) (d1 : d ≤ 9) (D0 : 0 ≤ D) (D1 : D ≤ 36) (S0 : 0 ≤ S) (S1 : S ≤ 16) : 0 ≤ z_ab (f * D - d * S) ∧ z_ab (f * D - d * S) ≤ 144 ∧ -144 ≤ f * D - d * S ∧ f * D - d * S ≤ 144 := by
  have h1 := z_mb (show 0 ≤ f by omega) f1 D0 D1
  have h2 := z_mb d0 d1 S0 S1
  unfold z_ab
  split <;> omega
theorem z_ug_rg {f d : Int → Int} {D S : Int} {m : Nat} (hf : ∀ j, 0 ≤ j → j < (m : Int) → 1 ≤ f j ∧ f j ≤ 4) (hd : ∀ j, 0 ≤ j → j < (m : Int) → 0 ≤ d j ∧ d j ≤ 9) (D0 : 0 ≤ D) (D1 : D ≤ 36) (S0 : 0 ≤ S) (S1 : S ≤ 16) : ∀ n : Nat, n ≤ m → 0 ≤ z_ug f d D S n ∧ z_ug f d D S n ≤ 144 := by
  intro n
  induction n with
  | zero => intro _; exact ⟨Int.le_refl _, by show (0 : Int) ≤ 144; decide⟩
  | succ n ih =>
    intro h
    have a := hf n (by omega) (by omega)
    have b := hd n (by omega) (by omega)
    have c := z_ab_rg a.1 a.2 b.1 b.2 D0 D1 S0 S1
    unfold z_ug
    have := ih (by omega)
    split <;> omega
def z_fst (t u S U : Int) : Int := if t = 0 then -1 else U * t - u * S
/-- what is found among the first n numbers: all parts, difference, number -/
def z_fss (m : Nat) (d : Int → Int) (D : Int) : Nat → Int × Int × Int
  | 0 => (0, 0, 0)
  | n + 1 => if z_fst (z_fss m d D n).1 (z_fss m d D n).2.1 (z_ts m n) (z_ug (z_dg m n) d D (z_ts m n) m) < 0 ∨ (z_fst (z_fss m d D n).1 (z_fss m d D n).2.1 (z_ts m n) (z_ug (z_dg m n) d D (z_ts m n) m) = 0 ∧ z_ts m n < (z_fss m d D n).1) then (z_ts m n, z_ug (z_dg m n) d D (z_ts m n) m, (n : Int)) else z_fss m d D n
theorem z_fss_rg {m : Nat} {d : Int → Int} {D : Int} (m4 : m ≤ 4) (hd : ∀ j, 0 ≤ j → j < (m : Int) → 0 ≤ d j ∧ d j ≤ 9) (D0 : 0 ≤ D) (D1 : D ≤ 36) : ∀ n : Nat, 0 ≤ (z_fss m d D n).1 ∧ (z_fss m d D n).1 ≤ 16 ∧ 0 ≤ (z_fss m d D n).2.1 ∧ (z_fss m d D n).2.1 ≤ 144 := by
  intro n
  induction n with
  | zero => exact ⟨Int.le_refl 0, by show (0 : Int) ≤ 16; decide, Int.le_refl 0, by show (0 : Int) ≤ 144; decide⟩
  | succ n ih =>
    unfold z_fss
    have a := z_ts_rg n m4
    have b := z_ug_rg (fun j _ _ => z_dg_rg m n j) hd D0 D1 (show 0 ≤ z_ts m n by omega) a.2 m (Nat.le_refl m)
    split
    · exact ⟨by show 0 ≤ z_ts m n; omega, a.2, b.1, b.2⟩
    · exact ih
def z_p4 : Nat → Int
  | 0 => 1
  | n + 1 => z_p4 n * 4
theorem z_p4_nat (n : Nat) : z_p4 n = ((4 ^ n : Nat) : Int) := by
  induction n with
  | zero => rfl
  | succ n ih => unfold z_p4; rw [ih, Nat.pow_succ]; rfl
theorem z_p4_le {n : Nat} (h : n ≤ 4) : 1 ≤ 4 ^ n ∧ 4 ^ n ≤ 256 := ⟨Nat.pow_pos (by decide), (Nat.pow_le_pow_right (by decide) h : 4 ^ n ≤ 4 ^ 4)⟩
def z_fo (w f : Int → Int) (p : Int) : Nat → Int
  | 0 => 0
  | n + 1 => if w n = p then f n else z_fo w f p n
theorem z_fo_rg {w f : Int → Int} {p : Int} {m : Nat} (hf : ∀ j, 0 ≤ j → j < (m : Int) → 1 ≤ f j ∧ f j ≤ 4) : ∀ n : Nat, n ≤ m → 0 ≤ z_fo w f p n ∧ z_fo w f p n ≤ 4 := by
  intro n
  induction n with
  | zero => intro _; exact ⟨Int.le_refl _, by show (0 : Int) ≤ 4; decide⟩
  | succ n ih =>
    intro h
    have a := hf n (by omega) (by omega)
    unfold z_fo
    split
    · omega
    · exact ih (by omega)
/-- a row of the found or of the last parts -/
def z_rw (m : Nat) (r : Int → Int) (n : Nat) (c : Int) : Int → Int := if n = 0 then r else z_cp r (z_dg m c) 0 0 m
theorem z_cp_cp (r s t : Int → Int) (m : Int) : z_cp (z_cp r s 0 0 m) t 0 0 m = z_cp r t 0 0 m := by
  funext j
  unfold z_cp
  by_cases h : 0 ≤ j ∧ j < 0 + m
  · rw [if_pos h, if_pos h]
  · rw [if_neg h, if_neg h, if_neg h]
theorem z_rw_s {m : Nat} {r : Int → Int} {n : Nat} {c e e' : Int} (he : e' = e) : z_cp (z_rw m r n c) (z_dg m e) 0 0 m = z_rw m r (n + 1) e' := by
  subst he
  unfold z_rw
  rw [if_neg (Nat.succ_ne_zero n)]
  split
  · rfl
  · exact z_cp_cp _ _ _ _
theorem z_cp_in {r s t : Int → Int} {m : Int} (h : ∀ j, 0 ≤ j → j < m → s j = t j) : z_cp r s 0 0 m = z_cp r t 0 0 m := by
  funext j
  unfold z_cp
  split
  · exact h _ (by omega) (by omega)
  · rfl
theorem z_rw_at {m : Nat} {r : Int → Int} {n : Nat} {c j : Int} (j0 : 0 ≤ j) (j1 : j < m) : z_rw m r (n + 1) c j = z_dg m c j := by
  unfold z_rw z_cp
  rw [if_neg (Nat.succ_ne_zero n), if_pos (by omega)]
  congr 1
  omega
def z_fm (b : Int → Int) (k : Int) (w0 : Int → Int) : Nat := (z_WR b k w0).2.toNat
def z_fd (b : Int → Int) (k : Int) (w0 : Int → Int) : Int → Int := fun j => b (186 + 12 * k + z_WS b k w0 j)
def z_fc (b : Int → Int) (k : Int) (w0 : Int → Int) : Int := (z_fss (z_fm b k w0) (z_fd b k w0) (z_sm (z_fm b k w0) (z_fd b k w0)) (4 ^ z_fm b k w0)).2.2
/-- the part of pen p in the fairest parts of piece k -/
def z_fX (b : Int → Int) (k : Int) (w0 : Int → Int) (p : Int) : Int := z_fo (z_WS b k w0) (z_dg (z_fm b k w0) (z_fc b k w0)) p (z_fm b k w0)
def z_fM (M : z_M) (k : Int) : z_M := z_sR (z_sR (z_w9 M (z_WS (M 22) k (M 29)) (z_WR (M 22) k (M 29)).2) 30 (z_rw (z_fm (M 22) k (M 29)) (M 30) (4 ^ z_fm (M 22) k (M 29)) (z_fc (M 22) k (M 29)))) 31 (z_rw (z_fm (M 22) k (M 29)) (M 31) (4 ^ z_fm (M 22) k (M 29)) (((4 ^ z_fm (M 22) k (M 29) : Nat) : Int) - 1))
theorem z_fM_22 (M : z_M) (k : Int) : z_fM M k 22 = M 22 := rfl
def z_c_fairest (b : Int → Int) (k p : Int) : Int := if ¬ (0 ≤ k ∧ k < b 1) ∨ ¬ (0 ≤ p ∧ p < b 0) then 1 else 0
theorem z_WS_rg {b : Int → Int} {N k : Int} {w0 : Int → Int} {m : Nat} (hb : z_BI b N) (hm : (z_WR b k w0).2 = (m : Int)) : m ≤ 4 ∧ ∀ j, 0 ≤ j → j < (m : Int) → 0 ≤ z_WS b k w0 j ∧ z_WS b k w0 j < 12 := by
  have h := z_wst_m (z_dr b k) (b 0).toNat w0 4
  have hh := z_BI_h hb
  have e : z_wst (z_dr b k) (b 0).toNat 4 (w0, 0) = z_WR b k w0 := rfl
  rw [e, hm] at h
  refine ⟨by omega, fun j j0 j1 => ?_⟩
  unfold z_WS
  rw [hm]
  exact z_bb_rg (P := fun x => 0 ≤ x ∧ x < 12) (by omega) _ _ (fun i i0 i1 => by have := h.2.2 i i0 i1; omega) j j0 j1
theorem tX7_writersDrafts {G : z_G} {M : z_M} {k : Int} {m : Nat} (k0 : 0 ≤ k) (k1 : k < 20) (m4 : m ≤ 4) (hm : M 21 0 = (m : Int)) (hw : ∀ j, 0 ≤ j → j < (m : Int) → 0 ≤ M 29 j ∧ M 29 j < 12) {D : Int} (hD : z_sm m (fun j => M 22 (186 + 12 * k + M 29 j)) = D) : KX7_writersDrafts G [.ref (z_ad G 0 40), z_I k] M (.inl (some (z_I D))) M := by
  refine z_con (ls := [some (.ref (z_ad G 0 40)), some (z_I k), none, none]) (by decide +kernel) (Nat.le_of_ble_eq_true rfl) rfl ?_
  intro Z htb
  refine z_rng fun hr => ?_
  refine z_iconst dX7_writersDrafts_0 ?_
  refine z_istoren_2 dX7_writersDrafts_1 (Nat.le_of_ble_eq_true rfl) rfl ?_
  refine z_iconst dX7_writersDrafts_2 ?_
  refine z_istoren_3 dX7_writersDrafts_3 (Nat.le_of_ble_eq_true rfl) rfl ?_
  refine z_upn (P := fun i : Nat => z_J G Z _ _ 4 [some (.ref (z_ad G 0 40)), some (z_I k), some (z_I (z_sm i (fun j => M 22 (186 + 12 * k + M 29 j)))), some (z_I i)] [] M 0 0) m ?_ ?_
  · refine z_rng fun hr => ?_
    refine z_iloadn dX7_writersDrafts_4 rfl ?_
    refine z_aloadn dX7_writersDrafts_5 rfl ?_
    refine gX7_166 rfl dX7_writersDrafts_6 ?_
    refine z_icmp_ge (tgt := 32) (by first | (exact hr _ _ (by decide)) | omega) (by first | (exact hr _ _ (by decide)) | omega) dX7_writersDrafts_9 (by decide) (fun h9 => ?_) (fun h9 => ?_)
    · refine z_iloadn dX7_writersDrafts_32 rfl ?_
      exact z_iret dX7_writersDrafts_33 hD rfl
    · exfalso; omega
  · intro i hi y_ih
    refine z_rng fun hr => ?_
    have y_w := hw i (by omega) (by omega)
    refine z_iloadn dX7_writersDrafts_4 rfl ?_
    refine z_aloadn dX7_writersDrafts_5 rfl ?_
    refine gX7_166 rfl dX7_writersDrafts_6 ?_
    refine z_icmp_ge (tgt := 32) (by first | (exact hr _ _ (by decide)) | omega) (by first | (exact hr _ _ (by decide)) | omega) dX7_writersDrafts_9 (by decide) (fun h9 => ?_) (fun h9 => ?_)
    · exfalso; omega
    · refine z_iloadn dX7_writersDrafts_12 rfl ?_
      refine z_aloadn dX7_writersDrafts_13 rfl ?_
      refine z_iloadn dX7_writersDrafts_14 rfl ?_
      refine z_aloadn dX7_writersDrafts_15 rfl ?_
      refine gX7_31 rfl dX7_writersDrafts_16 ?_
      refine z_iloadn dX7_writersDrafts_19 rfl ?_
      refine z_iald (by rfl) (by first | decide | exact Or.inl ⟨by decide, hg⟩) (by omega) (by omega) (by decide) dX7_writersDrafts_20 ?_
      refine kX7_163 (tX7_drafts (by omega) (by omega)) rfl ⟨(Nat.le_of_ble_eq_true rfl), (Nat.le_of_ble_eq_true rfl)⟩ (Nat.le_of_ble_eq_true rfl) dX7_writersDrafts_21 ?_
      refine z_iadd dX7_writersDrafts_24 ?_
      refine z_istoren_2 dX7_writersDrafts_25 (Nat.le_of_ble_eq_true rfl) rfl ?_
      refine z_iinc_3 dX7_writersDrafts_26 (Nat.le_of_ble_eq_true rfl) rfl ?_
      refine z_goto (tgt := 4) dX7_writersDrafts_29 (by decide) ?_
      exact y_ih
theorem tX7_layParts {G : z_G} {M : z_M} {c : Int} {m : Nat} (c0 : 0 ≤ c) (c1 : c < 256) (m4 : m ≤ 4) (hm : M 21 0 = (m : Int)) : KX7_layParts G [.ref (z_ad G 0 40), z_I c] M (.inl (some (z_I (z_ts m c)))) (z_sR M 31 (z_cp (M 31) (z_dg m c) 0 0 m)) := by
  refine z_con (ls := [some (.ref (z_ad G 0 40)), some (z_I c), none, none, none]) (by decide +kernel) (Nat.le_of_ble_eq_true rfl) rfl ?_
  intro Z htb
  refine z_rng fun hr => ?_
  refine z_iloadn dX7_layParts_0 rfl ?_
  refine z_istoren_2 dX7_layParts_1 (Nat.le_of_ble_eq_true rfl) rfl ?_
  refine z_iconst dX7_layParts_2 ?_
  refine z_istoren_3 dX7_layParts_3 (Nat.le_of_ble_eq_true rfl) rfl ?_
  refine z_aloadn dX7_layParts_4 rfl ?_
  refine gX7_166 rfl dX7_layParts_5 ?_
  refine z_iconst dX7_layParts_8 ?_
  refine z_isub dX7_layParts_9 ?_
  refine z_istore_4 dX7_layParts_10 (Nat.le_of_ble_eq_true rfl) rfl ?_
  refine z_mem (M' := z_sR M 31 (z_cp (M 31) (z_dg m c) ((m : Int) - ((0 : Nat) : Int)) ((m : Int) - ((0 : Nat) : Int)) ((0 : Nat) : Int))) (by rw [show ((0 : Nat) : Int) = 0 from rfl, z_cp_0, z_sR_id]) ?_
  have y_e : (m : Int) - 1 = (m : Int) - 1 - ((0 : Nat) : Int) := by omega
  rw [hm, y_e]
  refine z_upn (P := fun i : Nat => z_J G Z _ _ 12 [some (.ref (z_ad G 0 40)), some (z_I c), some (z_I (z_rst c i)), some (z_I (z_sm i (fun t => z_dg m c ((m : Int) - 1 - t)))), some (z_I ((m : Int) - 1 - i))] [] (z_sR M 31 (z_cp (M 31) (z_dg m c) ((m : Int) - i) ((m : Int) - i) i)) 0 0) m ?_ ?_
  · refine z_rng fun hr => ?_
    refine z_iload dX7_layParts_12 rfl ?_
    refine z_if_lt (tgt := 49) (by first | (exact hr _ _ (by decide)) | omega) dX7_layParts_14 (by decide) (fun h14 => ?_) (fun h14 => ?_)
    · refine z_iloadn dX7_layParts_49 rfl ?_
      exact z_iret dX7_layParts_50 (by first | rfl | omega) (by rw [show (m : Int) - m = 0 by omega])
    · exfalso; omega
  · intro i hi y_ih
    refine z_rng fun hr => ?_
    have y_r := z_rst_rg c0 i
    refine z_iload dX7_layParts_12 rfl ?_
    refine z_if_lt (tgt := 49) (by first | (exact hr _ _ (by decide)) | omega) dX7_layParts_14 (by decide) (fun h14 => ?_) (fun h14 => ?_)
    · exfalso; omega
    · refine z_aloadn dX7_layParts_17 rfl ?_
      refine gX7_37 rfl dX7_layParts_18 ?_
      refine z_iload dX7_layParts_21 rfl ?_
      refine z_iconst dX7_layParts_23 ?_
      refine z_iloadn dX7_layParts_24 rfl ?_
      refine z_iconst dX7_layParts_25 ?_
      refine z_irem (by omega) (by omega) (by omega) (by omega) dX7_layParts_26 ?_
      refine z_iadd dX7_layParts_27 ?_
      refine z_iast (by rfl) (by first | decide | exact Or.inl ⟨by decide, hg⟩) (by omega) (by omega) (by decide) (by first | (exact hr _ _ (by decide)) | omega) dX7_layParts_28 ?_
      refine z_rng fun hr => ?_
      refine z_iloadn dX7_layParts_29 rfl ?_
      refine z_iconst dX7_layParts_30 ?_
      refine z_idiv (by omega) (by omega) (by omega) (by omega) dX7_layParts_31 ?_
      refine z_istoren_2 dX7_layParts_32 (Nat.le_of_ble_eq_true rfl) rfl ?_
      refine z_iloadn dX7_layParts_33 rfl ?_
      refine z_aloadn dX7_layParts_34 rfl ?_
      refine gX7_37 rfl dX7_layParts_35 ?_
      refine z_iload dX7_layParts_38 rfl ?_
      refine z_iald (by rfl) (by first | decide | exact Or.inl ⟨by decide, hg⟩) (by omega) (by omega) (by decide) dX7_layParts_40 ?_
      refine z_top (v' := z_dg m c ((m : Int) - 1 - i)) ((z_sM_self _ _ _ _).trans (z_dg_at c (by omega))) ?_
      refine z_iadd dX7_layParts_41 ?_
      refine z_istoren_3 dX7_layParts_42 (Nat.le_of_ble_eq_true rfl) rfl ?_
      refine z_iinc_4 dX7_layParts_43 (Nat.le_of_ble_eq_true rfl) rfl ?_
      refine z_goto (tgt := 12) dX7_layParts_46 (by decide) ?_
      rw [show (m : Int) - 1 - ((i + 1 : Nat) : Int) = (m : Int) - 1 - i + -1 by omega] at y_ih
      refine z_mem ?_ y_ih
      rw [z_sM_sR]
      congr 1
      exact z_cp_p _ _ i (by omega) (by omega) (by rw [z_dg_at c (by omega)]; congr 1; omega)
theorem tX7_unfair {G : z_G} {M : z_M} {k : Int} {m : Nat} (k0 : 0 ≤ k) (k1 : k < 20) (m4 : m ≤ 4) (hm : M 21 0 = (m : Int)) (hw : ∀ j, 0 ≤ j → j < (m : Int) → 0 ≤ M 29 j ∧ M 29 j < 12) {S D : Int} {f d : Int → Int} (S0 : 0 ≤ S) (S1 : S ≤ 16) (D0 : 0 ≤ D) (D1 : D ≤ 36) (hf : ∀ j, 0 ≤ j → j < (m : Int) → M 31 j = f j) (hf1 : ∀ j, 0 ≤ j → j < (m : Int) → 1 ≤ f j ∧ f j ≤ 4) (hd : ∀ j, 0 ≤ j → j < (m : Int) → M 22 (186 + 12 * k + M 29 j) = d j) (hd1 : ∀ j, 0 ≤ j → j < (m : Int) → 0 ≤ d j ∧ d j ≤ 9) : KX7_unfair G [.ref (z_ad G 0 40), z_I k, z_I S, z_I D] M (.inl (some (z_I (z_ug f d D S m)))) M := by
  refine z_con (ls := [some (.ref (z_ad G 0 40)), some (z_I k), some (z_I S), some (z_I D), none, none, none]) (by decide +kernel) (Nat.le_of_ble_eq_true rfl) rfl ?_
  intro Z htb
  refine z_rng fun hr => ?_
  refine z_iconst dX7_unfair_0 ?_
  refine z_istore_4 dX7_unfair_1 (Nat.le_of_ble_eq_true rfl) rfl ?_
  refine z_iconst dX7_unfair_3 ?_
  refine z_istore_5 dX7_unfair_4 (Nat.le_of_ble_eq_true rfl) rfl ?_
  refine z_upn (P := fun i : Nat => z_J G Z _ _ 6 [some (.ref (z_ad G 0 40)), some (z_I k), some (z_I S), some (z_I D), some (z_I (z_ug f d D S i)), some (z_I i), none] [] M 0 0) m ?_ ?_
  · refine z_rng fun hr => ?_
    refine z_iload dX7_unfair_6 rfl ?_
    refine z_aloadn dX7_unfair_8 rfl ?_
    refine gX7_166 rfl dX7_unfair_9 ?_
    refine z_icmp_ge (tgt := 78) (by first | (exact hr _ _ (by decide)) | omega) (by first | (exact hr _ _ (by decide)) | omega) dX7_unfair_12 (by decide) (fun h12 => ?_) (fun h12 => ?_)
    · refine z_iload dX7_unfair_78 rfl ?_
      exact z_iret dX7_unfair_80 (by first | rfl | omega) rfl
    · exfalso; omega
  · intro i hi y_ih
    refine z_rng fun hr => ?_
    have y_w := hw i (by omega) (by omega)
    have y_f := hf1 i (by omega) (by omega)
    have y_d := hd1 i (by omega) (by omega)
    have y_a := z_ab_rg y_f.1 y_f.2 y_d.1 y_d.2 D0 D1 S0 S1
    have y_u := z_ug_rg hf1 hd1 D0 D1 S0 S1 i (by omega)
    have y_s : z_ug f d D S (i + 1) = if z_ug f d D S i < (z_ab (f i * D - d i * S)) then (z_ab (f i * D - d i * S)) else z_ug f d D S i := rfl
    refine z_iload dX7_unfair_6 rfl ?_
    refine z_aloadn dX7_unfair_8 rfl ?_
    refine gX7_166 rfl dX7_unfair_9 ?_
    refine z_icmp_ge (tgt := 78) (by first | (exact hr _ _ (by decide)) | omega) (by first | (exact hr _ _ (by decide)) | omega) dX7_unfair_12 (by decide) (fun h12 => ?_) (fun h12 => ?_)
    · exfalso; omega
    · refine z_aloadn dX7_unfair_15 rfl ?_
      refine gX7_37 rfl dX7_unfair_16 ?_
      refine z_iload dX7_unfair_19 rfl ?_
      refine z_iald (by rfl) (by first | decide | exact Or.inl ⟨by decide, hg⟩) (by omega) (by omega) (by decide) dX7_unfair_21 ?_
      refine z_top (v' := f i) (hf i (by omega) (by omega)) ?_
      refine z_iloadn dX7_unfair_22 rfl ?_
      refine z_imul dX7_unfair_23 ?_
      refine z_aloadn dX7_unfair_24 rfl ?_
      refine z_iloadn dX7_unfair_25 rfl ?_
      refine z_aloadn dX7_unfair_26 rfl ?_
      refine gX7_31 rfl dX7_unfair_27 ?_
      refine z_iload dX7_unfair_30 rfl ?_
      refine z_iald (by rfl) (by first | decide | exact Or.inl ⟨by decide, hg⟩) (by omega) (by omega) (by decide) dX7_unfair_32 ?_
      refine kX7_163 (tX7_drafts (by omega) (by omega)) rfl ⟨(Nat.le_of_ble_eq_true rfl), (Nat.le_of_ble_eq_true rfl)⟩ (Nat.le_of_ble_eq_true rfl) dX7_unfair_33 ?_
      refine z_top (v' := d i) (hd i (by omega) (by omega)) ?_
      refine z_iloadn dX7_unfair_36 rfl ?_
      refine z_imul dX7_unfair_37 ?_
      refine z_isub dX7_unfair_38 ?_
      refine z_istore_6 dX7_unfair_39 (Nat.le_of_ble_eq_true rfl) rfl ?_
      refine z_iload dX7_unfair_41 rfl ?_
      refine z_if_ge (tgt := 52) (by first | (exact hr _ _ (by decide)) | omega) dX7_unfair_43 (by decide) (fun h43 => ?_) (fun h43 => ?_)
      · refine z_iload dX7_unfair_52 rfl ?_
        refine z_top (v' := (z_ab (f i * D - d i * S))) (by unfold z_ab; first | rw [if_pos (by omega)] | rw [if_neg (by omega)]) ?_
        generalize (z_ab (f i * D - d i * S)) = v at *
        refine z_istore_6 dX7_unfair_54 (Nat.le_of_ble_eq_true rfl) rfl ?_
        refine z_iload dX7_unfair_56 rfl ?_
        refine z_iload dX7_unfair_58 rfl ?_
        refine z_icmp_le (tgt := 68) (by first | (exact hr _ _ (by decide)) | omega) (by first | (exact hr _ _ (by decide)) | omega) dX7_unfair_60 (by decide) (fun h60 => ?_) (fun h60 => ?_)
        · refine z_iload dX7_unfair_68 rfl ?_
          refine z_istore_4 dX7_unfair_70 (Nat.le_of_ble_eq_true rfl) rfl ?_
          refine z_iinc_5 dX7_unfair_72 (Nat.le_of_ble_eq_true rfl) rfl ?_
          refine z_goto (tgt := 6) dX7_unfair_75 (by decide) ?_
          refine z_fgt 6 ?_
          first
            | (rw [y_s, if_pos (by omega)] at y_ih; exact y_ih)
            | (rw [y_s, if_neg (by omega)] at y_ih; exact y_ih)
        · refine z_iload dX7_unfair_63 rfl ?_
          refine z_goto (tgt := 70) dX7_unfair_65 (by decide) ?_
          refine z_istore_4 dX7_unfair_70 (Nat.le_of_ble_eq_true rfl) rfl ?_
          refine z_iinc_5 dX7_unfair_72 (Nat.le_of_ble_eq_true rfl) rfl ?_
          refine z_goto (tgt := 6) dX7_unfair_75 (by decide) ?_
          refine z_fgt 6 ?_
          first
            | (rw [y_s, if_pos (by omega)] at y_ih; exact y_ih)
            | (rw [y_s, if_neg (by omega)] at y_ih; exact y_ih)
      · refine z_iload dX7_unfair_46 rfl ?_
        refine z_ineg dX7_unfair_48 ?_
        refine z_goto (tgt := 54) dX7_unfair_49 (by decide) ?_
        refine z_top (v' := (z_ab (f i * D - d i * S))) (by unfold z_ab; first | rw [if_pos (by omega)] | rw [if_neg (by omega)]) ?_
        generalize (z_ab (f i * D - d i * S)) = v at *
        refine z_istore_6 dX7_unfair_54 (Nat.le_of_ble_eq_true rfl) rfl ?_
        refine z_iload dX7_unfair_56 rfl ?_
        refine z_iload dX7_unfair_58 rfl ?_
        refine z_icmp_le (tgt := 68) (by first | (exact hr _ _ (by decide)) | omega) (by first | (exact hr _ _ (by decide)) | omega) dX7_unfair_60 (by decide) (fun h60 => ?_) (fun h60 => ?_)
        · refine z_iload dX7_unfair_68 rfl ?_
          refine z_istore_4 dX7_unfair_70 (Nat.le_of_ble_eq_true rfl) rfl ?_
          refine z_iinc_5 dX7_unfair_72 (Nat.le_of_ble_eq_true rfl) rfl ?_
          refine z_goto (tgt := 6) dX7_unfair_75 (by decide) ?_
          refine z_fgt 6 ?_
          first
            | (rw [y_s, if_pos (by omega)] at y_ih; exact y_ih)
            | (rw [y_s, if_neg (by omega)] at y_ih; exact y_ih)
        · refine z_iload dX7_unfair_63 rfl ?_
          refine z_goto (tgt := 70) dX7_unfair_65 (by decide) ?_
          refine z_istore_4 dX7_unfair_70 (Nat.le_of_ble_eq_true rfl) rfl ?_
          refine z_iinc_5 dX7_unfair_72 (Nat.le_of_ble_eq_true rfl) rfl ?_
          refine z_goto (tgt := 6) dX7_unfair_75 (by decide) ?_
          refine z_fgt 6 ?_
          first
            | (rw [y_s, if_pos (by omega)] at y_ih; exact y_ih)
            | (rw [y_s, if_neg (by omega)] at y_ih; exact y_ih)
theorem tX7_fairOf {G : z_G} {M : z_M} {p : Int} {m : Nat} {w f : Int → Int} (rp : z_rg p) (m4 : m ≤ 4) (hm : M 21 0 = (m : Int)) (hw : ∀ j, 0 ≤ j → j < (m : Int) → M 29 j = w j) (hf : ∀ j, 0 ≤ j → j < (m : Int) → M 30 j = f j) : KX7_fairOf G [.ref (z_ad G 0 40), z_I p] M (.inl (some (z_I (z_fo w f p m)))) M := by
  refine z_con (ls := [some (.ref (z_ad G 0 40)), some (z_I p), none, none]) (by decide +kernel) (Nat.le_of_ble_eq_true rfl) rfl ?_
  intro Z htb
  refine z_rng fun hr => ?_
  refine z_iconst dX7_fairOf_0 ?_
  refine z_istoren_2 dX7_fairOf_1 (Nat.le_of_ble_eq_true rfl) rfl ?_
  refine z_iconst dX7_fairOf_2 ?_
  refine z_istoren_3 dX7_fairOf_3 (Nat.le_of_ble_eq_true rfl) rfl ?_
  refine z_upn (P := fun i : Nat => z_J G Z _ _ 4 [some (.ref (z_ad G 0 40)), some (z_I p), some (z_I (z_fo w f p i)), some (z_I i)] [] M 0 0) m ?_ ?_
  · refine z_rng fun hr => ?_
    refine z_iloadn dX7_fairOf_4 rfl ?_
    refine z_aloadn dX7_fairOf_5 rfl ?_
    refine gX7_166 rfl dX7_fairOf_6 ?_
    refine z_icmp_ge (tgt := 39) (by first | (exact hr _ _ (by decide)) | omega) (by first | (exact hr _ _ (by decide)) | omega) dX7_fairOf_9 (by decide) (fun h9 => ?_) (fun h9 => ?_)
    · refine z_iloadn dX7_fairOf_39 rfl ?_
      exact z_iret dX7_fairOf_40 (by first | rfl | omega) rfl
    · exfalso; omega
  · intro i hi y_ih
    refine z_rng fun hr => ?_
    have y_w := hw i (by omega) (by omega)
    have y_s : z_fo w f p (i + 1) = if w i = p then f i else z_fo w f p i := rfl
    refine z_iloadn dX7_fairOf_4 rfl ?_
    refine z_aloadn dX7_fairOf_5 rfl ?_
    refine gX7_166 rfl dX7_fairOf_6 ?_
    refine z_icmp_ge (tgt := 39) (by first | (exact hr _ _ (by decide)) | omega) (by first | (exact hr _ _ (by decide)) | omega) dX7_fairOf_9 (by decide) (fun h9 => ?_) (fun h9 => ?_)
    · exfalso; omega
    · refine z_aloadn dX7_fairOf_12 rfl ?_
      refine gX7_31 rfl dX7_fairOf_13 ?_
      refine z_iloadn dX7_fairOf_16 rfl ?_
      refine z_iald (by rfl) (by first | decide | exact Or.inl ⟨by decide, hg⟩) (by omega) (by omega) (by decide) dX7_fairOf_17 ?_
      refine z_iloadn dX7_fairOf_18 rfl ?_
      refine z_icmp_ne (tgt := 31) (by first | (exact hr _ _ (by decide)) | omega) (by first | (exact hr _ _ (by decide)) | omega) dX7_fairOf_19 (by decide) (fun h19 => ?_) (fun h19 => ?_)
      · refine z_iloadn dX7_fairOf_31 rfl ?_
        refine z_istoren_2 dX7_fairOf_32 (Nat.le_of_ble_eq_true rfl) rfl ?_
        refine z_iinc_3 dX7_fairOf_33 (Nat.le_of_ble_eq_true rfl) rfl ?_
        refine z_goto (tgt := 4) dX7_fairOf_36 (by decide) ?_
        first
          | (rw [y_s, if_pos (by omega)] at y_ih; exact y_ih)
          | (rw [y_s, if_neg (by omega)] at y_ih; exact y_ih)
      · refine z_aloadn dX7_fairOf_22 rfl ?_
        refine gX7_34 rfl dX7_fairOf_23 ?_
        refine z_iloadn dX7_fairOf_26 rfl ?_
        refine z_iald (by rfl) (by first | decide | exact Or.inl ⟨by decide, hg⟩) (by omega) (by omega) (by decide) dX7_fairOf_27 ?_
        refine z_top (v' := f i) (hf i (by omega) (by omega)) ?_
        refine z_goto (tgt := 32) dX7_fairOf_28 (by decide) ?_
        refine z_istoren_2 dX7_fairOf_32 (Nat.le_of_ble_eq_true rfl) rfl ?_
        refine z_iinc_3 dX7_fairOf_33 (Nat.le_of_ble_eq_true rfl) rfl ?_
        refine z_goto (tgt := 4) dX7_fairOf_36 (by decide) ?_
        first
          | (rw [y_s, if_pos (by omega)] at y_ih; exact y_ih)
          | (rw [y_s, if_neg (by omega)] at y_ih; exact y_ih)
theorem tX7_layFairest {G : z_G} {M : z_M} {N k : Int} (hb : z_BI (M 22) N) (k0 : 0 ≤ k) (k1 : k < 20) : KX7_layFairest G [.ref (z_ad G 0 40), z_I k] M (.inl none) (z_fM M k) := by
  refine z_con (ls := [some (.ref (z_ad G 0 40)), some (z_I k), none, none, none, none, none, none, none, none, none]) (by decide +kernel) (Nat.le_of_ble_eq_true rfl) rfl ?_
  intro Z htb
  refine z_rng fun hr => ?_
  obtain ⟨m, y_M⟩ : ∃ m : Nat, (z_WR (M 22) k (M 29)).2 = (m : Int) := ⟨(z_WR (M 22) k (M 29)).2.toNat, (Int.toNat_of_nonneg (z_wst_m (z_dr (M 22) k) (M 22 0).toNat (M 29) 4).1).symm⟩
  have y_w := z_WS_rg hb y_M
  obtain ⟨m4, y_w⟩ := y_w
  have y_fm : z_fm (M 22) k (M 29) = m := by unfold z_fm; omega
  obtain ⟨W, y_W⟩ : ∃ W, z_WS (M 22) k (M 29) = W := ⟨_, rfl⟩
  obtain ⟨d, y_D⟩ : ∃ d : Int → Int, (fun j => M 22 (186 + 12 * k + W j)) = d := ⟨_, rfl⟩
  have y_fd : z_fd (M 22) k (M 29) = d := by unfold z_fd; rw [y_W, y_D]
  obtain ⟨D, y_S⟩ : ∃ D, z_sm m d = D := ⟨_, rfl⟩
  have y_end : z_sR (z_sR (z_w9 M W m) 30 (z_rw m (M 30) (4 ^ m) (z_fss m d D (4 ^ m)).2.2)) 31 (z_rw m (M 31) (4 ^ m) (((4 ^ m : Nat) : Int) - 1)) = z_fM M k := by
    unfold z_fM z_fc
    rw [y_fm, y_fd, y_W, y_M, y_S]
  rw [y_W] at y_w
  have y_d : ∀ j, 0 ≤ j → j < (m : Int) → 0 ≤ d j ∧ d j ≤ 9 := fun j j0 j1 => by
    have h1 := y_w j j0 j1
    have h2 := z_BI_Q hb k (W j) k0 k1 h1.1 h1.2
    unfold z_QI at h2
    rw [← y_D]
    exact ⟨h2.1, h2.2.1⟩
  have y_D1 := z_smb (f := d) (a := 0) (b := 9) m (fun i hi => y_d i (by omega) (by omega))
  rw [y_S] at y_D1
  have y_p4 := z_p4_le m4
  have y_p := z_p4_nat m
  refine z_aloadn dX7_layFairest_0 rfl ?_
  refine z_iloadn dX7_layFairest_1 rfl ?_
  refine kX7_176 (tX7_layWriters hb (by omega) (by omega)) rfl ⟨(Nat.le_of_ble_eq_true rfl), (Nat.le_of_ble_eq_true rfl)⟩ (Nat.le_of_ble_eq_true rfl) dX7_layFairest_2 ?_
  refine z_rng fun hr => ?_
  refine z_mem (M' := z_w9 M W m) (by rw [y_W, y_M]) ?_
  generalize y_X : z_w9 M W m = X at y_end ⊢
  have y_x22 : X 22 = M 22 := by rw [← y_X]; rfl
  have y_x29 : X 29 = W := by rw [← y_X]; rfl
  have y_x30 : X 30 = M 30 := by rw [← y_X]; rfl
  have y_x31 : X 31 = M 31 := by rw [← y_X]; rfl
  have y_x21 : X 21 0 = m := by rw [← y_X]; rfl
  refine z_rng fun hr => ?_
  refine z_aloadn dX7_layFairest_5 rfl ?_
  refine z_iloadn dX7_layFairest_6 rfl ?_
  refine kX7_224 (tX7_writersDrafts (m := m) (D := D) k0 k1 m4 y_x21 (by rw [y_x29]; exact y_w) (by rw [y_x22, y_x29, y_D, y_S])) rfl ⟨(Nat.le_of_ble_eq_true rfl), (Nat.le_of_ble_eq_true rfl)⟩ (Nat.le_of_ble_eq_true rfl) dX7_layFairest_7 ?_
  refine z_istoren_2 dX7_layFairest_10 (Nat.le_of_ble_eq_true rfl) rfl ?_
  refine z_iconst dX7_layFairest_11 ?_
  refine z_istoren_3 dX7_layFairest_12 (Nat.le_of_ble_eq_true rfl) rfl ?_
  refine z_iconst dX7_layFairest_13 ?_
  refine z_istore_4 dX7_layFairest_14 (Nat.le_of_ble_eq_true rfl) rfl ?_
  refine z_upn (P := fun i : Nat => z_J G Z _ _ 16 [some (.ref (z_ad G 0 40)), some (z_I k), some (z_I D), some (z_I (z_p4 i)), some (z_I i), none, none, none, none, none, none] [] X 0 0) m ?_ ?_
  · refine z_rng fun hr => ?_
    refine z_iload dX7_layFairest_16 rfl ?_
    refine z_aloadn dX7_layFairest_18 rfl ?_
    refine gX7_166 rfl dX7_layFairest_19 ?_
    refine z_icmp_ge (tgt := 35) (by first | (exact hr _ _ (by decide)) | omega) (by first | (exact hr _ _ (by decide)) | omega) dX7_layFairest_22 (by decide) (fun h22 => ?_) (fun h22 => ?_)
    · refine z_iconst dX7_layFairest_35 ?_
      refine z_istore_4 dX7_layFairest_36 (Nat.le_of_ble_eq_true rfl) rfl ?_
      refine z_iconst dX7_layFairest_38 ?_
      refine z_istore_5 dX7_layFairest_39 (Nat.le_of_ble_eq_true rfl) rfl ?_
      refine z_iconst dX7_layFairest_41 ?_
      refine z_istore_6 dX7_layFairest_42 (Nat.le_of_ble_eq_true rfl) rfl ?_
      rcases Nat.eq_zero_or_pos m with y_m0 | y_m0
      · have y_z : X = z_fM M k := by
          rw [← y_end, y_m0]
          show X = z_sR (z_sR X 30 (z_cp (M 30) _ 0 0 ((0 : Nat) : Int))) 31 (z_cp (M 31) _ 0 0 ((0 : Nat) : Int))
          rw [show ((0 : Nat) : Int) = 0 from rfl, z_cp_0, z_cp_0, ← y_x30, z_sR_id, ← y_x31, z_sR_id]
        refine z_iload dX7_layFairest_44 rfl ?_
        refine z_iloadn dX7_layFairest_46 rfl ?_
        refine z_icmp_ge (tgt := 160) (by first | (exact hr _ _ (by decide)) | omega) (by first | (exact hr _ _ (by decide)) | omega) dX7_layFairest_47 (by decide) (fun h47 => ?_) (fun h47 => ?_)
        · exfalso; omega
        · refine z_aloadn dX7_layFairest_50 rfl ?_
          refine gX7_166 rfl dX7_layFairest_51 ?_
          refine z_if_le (tgt := 160) (by first | (exact hr _ _ (by decide)) | omega) dX7_layFairest_54 (by decide) (fun h54 => ?_) (fun h54 => ?_)
          · exact z_vret dX7_layFairest_160 (by first | exact y_z | exact y_end)
          · exfalso; omega
      refine z_mem (M' := z_sR (z_sR X 30 (z_rw m (M 30) 0 (z_fss m d D 0).2.2)) 31 (z_rw m (M 31) 0 (((0 : Nat) : Int) - 1))) (by show X = z_sR (z_sR X 30 (M 30)) 31 (M 31); rw [← y_x30, z_sR_id, ← y_x31, z_sR_id]) ?_
      refine z_upn (P := fun i : Nat => z_J G Z _ _ 44 [some (.ref (z_ad G 0 40)), some (z_I k), some (z_I D), some (z_I (z_p4 m)), some (z_I (z_fss m d D i).1), some (z_I (z_fss m d D i).2.1), some (z_I i), none, none, none, none] [] (z_sR (z_sR X 30 (z_rw m (M 30) i (z_fss m d D i).2.2)) 31 (z_rw m (M 31) i ((i : Int) - 1))) 0 0) (4 ^ m) ?_ ?_
      · refine z_rng fun hr => ?_
        refine z_iload dX7_layFairest_44 rfl ?_
        refine z_iloadn dX7_layFairest_46 rfl ?_
        refine z_icmp_ge (tgt := 160) (by first | (exact hr _ _ (by decide)) | omega) (by first | (exact hr _ _ (by decide)) | omega) dX7_layFairest_47 (by decide) (fun h47 => ?_) (fun h47 => ?_)
        · exact z_vret dX7_layFairest_160 (by first | exact y_z | exact y_end)
        · exfalso; omega
      · intro i hi y_ih
        have y_fs := z_fss_rg m4 y_d (show 0 ≤ D by omega) (show D ≤ 36 by omega) i
        have y_f0 : i = 0 → (z_fss m d D i).1 = 0 := fun e => by subst e; rfl
        have y_ts := z_ts_rg i m4
        have y_ug := z_ug_rg (fun j _ _ => z_dg_rg m i j) y_d (show 0 ≤ D by omega) (show D ≤ 36 by omega) (show 0 ≤ z_ts m i by omega) y_ts.2 m (Nat.le_refl m)
        have y_m1 := z_mb y_ug.1 y_ug.2 y_fs.1 y_fs.2.1
        have y_m2 := z_mb y_fs.2.2.1 y_fs.2.2.2 (show 0 ≤ z_ts m i by omega) y_ts.2
        have y_s : z_fss m d D (i + 1) = if z_fst (z_fss m d D i).1 (z_fss m d D i).2.1 (z_ts m i) (z_ug (z_dg m i) d D (z_ts m i) m) < 0 ∨ (z_fst (z_fss m d D i).1 (z_fss m d D i).2.1 (z_ts m i) (z_ug (z_dg m i) d D (z_ts m i) m) = 0 ∧ z_ts m i < (z_fss m d D i).1) then (z_ts m i, z_ug (z_dg m i) d D (z_ts m i) m, (i : Int)) else z_fss m d D i := rfl
        generalize y_A : z_rw m (M 30) i (z_fss m d D i).2.2 = A
        generalize y_B : z_rw m (M 31) i ((i : Int) - 1) = B
        generalize y_Y : z_sR (z_sR X 30 A) 31 B = Y
        have y_y21 : Y 21 0 = m := by rw [← y_Y]; exact y_x21
        refine z_rng fun hr => ?_
        refine z_iload dX7_layFairest_44 rfl ?_
        refine z_iloadn dX7_layFairest_46 rfl ?_
        refine z_icmp_ge (tgt := 160) (by first | (exact hr _ _ (by decide)) | omega) (by first | (exact hr _ _ (by decide)) | omega) dX7_layFairest_47 (by decide) (fun h47 => ?_) (fun h47 => ?_)
        · exfalso; omega
        · refine z_aloadn dX7_layFairest_50 rfl ?_
          refine gX7_166 rfl dX7_layFairest_51 ?_
          refine z_if_le (tgt := 160) (by first | (exact hr _ _ (by decide)) | omega) dX7_layFairest_54 (by decide) (fun h54 => ?_) (fun h54 => ?_)
          · exfalso; omega
          · refine z_aloadn dX7_layFairest_57 rfl ?_
            refine z_iload dX7_layFairest_58 rfl ?_
            refine kX7_227 (tX7_layParts (m := m) (by omega) (by omega) m4 y_y21) rfl ⟨(Nat.le_of_ble_eq_true rfl), (Nat.le_of_ble_eq_true rfl)⟩ (Nat.le_of_ble_eq_true rfl) dX7_layFairest_60 ?_
            refine z_rng fun hr => ?_
            refine z_mem (M' := z_sR (z_sR X 30 A) 31 (z_rw m (M 31) (i + 1) (((i + 1 : Nat) : Int) - 1))) (by rw [← y_Y, z_sR_R, z_sR_self, ← y_B]; congr 1; exact z_rw_s (by omega)) ?_
            generalize y_Y2 : z_sR (z_sR X 30 A) 31 (z_rw m (M 31) (i + 1) (((i + 1 : Nat) : Int) - 1)) = Y2
            have y_z21 : Y2 21 0 = m := by rw [← y_Y2]; exact y_x21
            have y_z22 : Y2 22 = M 22 := by rw [← y_Y2]; exact y_x22
            have y_z29 : Y2 29 = W := by rw [← y_Y2]; exact y_x29
            have y_z30 : Y2 30 = A := by rw [← y_Y2]; rfl
            have y_z31 : ∀ j, 0 ≤ j → j < (m : Int) → Y2 31 j = z_dg m i j := fun j j0 j1 => by
              rw [← y_Y2]
              show z_rw m (M 31) (i + 1) (((i + 1 : Nat) : Int) - 1) j = _
              rw [z_rw_at j0 j1]
              congr 1
              omega
            have y_A2 : z_cp (Y2 30) (Y2 31) 0 0 m = z_rw m (M 30) (i + 1) i := by
              rw [y_z30, z_cp_in y_z31, ← y_A]
              exact z_rw_s rfl
            refine z_rng fun hr => ?_
            refine z_istore_7 dX7_layFairest_63 (Nat.le_of_ble_eq_true rfl) rfl ?_
            refine z_aloadn dX7_layFairest_65 rfl ?_
            refine z_iloadn dX7_layFairest_66 rfl ?_
            refine z_iload dX7_layFairest_67 rfl ?_
            refine z_iloadn dX7_layFairest_69 rfl ?_
            refine kX7_230 (tX7_unfair (m := m) (f := z_dg m i) (d := d) k0 k1 m4 y_z21 (by rw [y_z29]; exact y_w) (by omega) y_ts.2 (by omega) (by omega) y_z31 (fun j _ _ => z_dg_rg m i j) (by rw [y_z22, y_z29]; exact fun j _ _ => congrFun y_D j) y_d) rfl ⟨(Nat.le_of_ble_eq_true rfl), (Nat.le_of_ble_eq_true rfl)⟩ (Nat.le_of_ble_eq_true rfl) dX7_layFairest_70 ?_
            generalize y_U : z_ug (z_dg m i) d D (z_ts m i) m = U at *
            generalize y_T : z_ts m i = T at *
            refine z_istore_8 dX7_layFairest_73 (Nat.le_of_ble_eq_true rfl) rfl ?_
            refine z_iload dX7_layFairest_75 rfl ?_
            refine z_if_ne (tgt := 84) (by first | (exact hr _ _ (by decide)) | omega) dX7_layFairest_77 (by decide) (fun h77 => ?_) (fun h77 => ?_)
            · refine z_iload dX7_layFairest_84 rfl ?_
              refine z_iload dX7_layFairest_86 rfl ?_
              refine z_imul dX7_layFairest_88 ?_
              refine z_iload dX7_layFairest_89 rfl ?_
              refine z_iload dX7_layFairest_91 rfl ?_
              refine z_imul dX7_layFairest_93 ?_
              refine z_isub dX7_layFairest_94 ?_
              refine z_top (v' := z_fst (z_fss m d D i).1 (z_fss m d D i).2.1 T U) (by unfold z_fst; first | rw [if_pos (by omega)] | rw [if_neg (by omega)]) ?_
              have y_xr : -100000 ≤ z_fst (z_fss m d D i).1 (z_fss m d D i).2.1 T U ∧ z_fst (z_fss m d D i).1 (z_fss m d D i).2.1 T U ≤ 100000 := by unfold z_fst; split <;> omega
              have y_x0 : (z_fss m d D i).1 = 0 → z_fst (z_fss m d D i).1 (z_fss m d D i).2.1 T U < 0 := fun e => by unfold z_fst; rw [if_pos e]; decide
              generalize z_fst (z_fss m d D i).1 (z_fss m d D i).2.1 T U = x at *
              refine z_istore_9 dX7_layFairest_95 (Nat.le_of_ble_eq_true rfl) rfl ?_
              refine z_iload dX7_layFairest_97 rfl ?_
              refine z_if_lt (tgt := 114) (by first | (exact hr _ _ (by decide)) | omega) dX7_layFairest_99 (by decide) (fun h99 => ?_) (fun h99 => ?_)
              · refine z_iload dX7_layFairest_114 rfl ?_
                refine z_istore_4 dX7_layFairest_116 (Nat.le_of_ble_eq_true rfl) rfl ?_
                refine z_iload dX7_layFairest_118 rfl ?_
                refine z_istore_5 dX7_layFairest_120 (Nat.le_of_ble_eq_true rfl) rfl ?_
                refine z_iconst dX7_layFairest_122 ?_
                refine z_istore_10 dX7_layFairest_123 (Nat.le_of_ble_eq_true rfl) rfl ?_
                refine z_mem (M' := z_sR Y2 30 (z_cp (Y2 30) (Y2 31) 0 0 ((0 : Nat) : Int))) (by rw [show ((0 : Nat) : Int) = 0 from rfl, z_cp_0, z_sR_id]) ?_
                refine z_upn (P := fun j : Nat => z_J G Z _ _ 125 [some (.ref (z_ad G 0 40)), some (z_I k), some (z_I D), some (z_I (z_p4 m)), some (z_I T), some (z_I U), some (z_I i), some (z_I T), some (z_I U), some (z_I x), some (z_I j)] [] (z_sR Y2 30 (z_cp (Y2 30) (Y2 31) 0 0 j)) 0 0) m ?_ ?_
                · refine z_rng fun hr => ?_
                  refine z_iload dX7_layFairest_125 rfl ?_
                  refine z_aloadn dX7_layFairest_127 rfl ?_
                  refine gX7_166 rfl dX7_layFairest_128 ?_
                  refine z_top (v' := (m : Int)) y_z21 ?_
                  refine z_icmp_ge (tgt := 154) (by first | (exact hr _ _ (by decide)) | omega) (by first | (exact hr _ _ (by decide)) | omega) dX7_layFairest_131 (by decide) (fun h131 => ?_) (fun h131 => ?_)
                  · refine z_iinc_6 dX7_layFairest_154 (Nat.le_of_ble_eq_true rfl) rfl ?_
                    refine z_goto (tgt := 44) dX7_layFairest_157 (by decide) ?_
                    first
                      | (rw [y_s, if_pos (by omega)] at y_ih
                         refine z_fgt 7 (z_fgt 8 (z_fgt 9 (z_fgt 10 (z_mem ?_ y_ih))))
                         show z_sR Y2 30 _ = z_sR (z_sR X 30 (z_rw m (M 30) (i + 1) ((i : Nat) : Int))) 31 _
                         rw [y_A2, ← y_Y2]
                         exact (z_sR_comm _ _ _ (by decide)).trans (by rw [z_sR_R]))
                      | (rw [y_s, if_neg (by omega)] at y_ih
                         refine z_fgt 7 (z_fgt 8 (z_fgt 9 (z_mem ?_ y_ih)))
                         rw [← y_Y2, ← y_A]
                         congr 2
                         unfold z_rw
                         rw [if_neg (by omega), if_neg (by omega)])
                  · exfalso; omega
                · intro j hj y_jh
                  refine z_rng fun hr => ?_
                  refine z_iload dX7_layFairest_125 rfl ?_
                  refine z_aloadn dX7_layFairest_127 rfl ?_
                  refine gX7_166 rfl dX7_layFairest_128 ?_
                  refine z_top (v' := (m : Int)) y_z21 ?_
                  refine z_icmp_ge (tgt := 154) (by first | (exact hr _ _ (by decide)) | omega) (by first | (exact hr _ _ (by decide)) | omega) dX7_layFairest_131 (by decide) (fun h131 => ?_) (fun h131 => ?_)
                  · exfalso; omega
                  · refine z_aloadn dX7_layFairest_134 rfl ?_
                    refine gX7_34 rfl dX7_layFairest_135 ?_
                    refine z_iload dX7_layFairest_138 rfl ?_
                    refine z_aloadn dX7_layFairest_140 rfl ?_
                    refine gX7_37 rfl dX7_layFairest_141 ?_
                    refine z_iload dX7_layFairest_144 rfl ?_
                    refine z_iald (by rfl) (by first | decide | exact Or.inl ⟨by decide, hg⟩) (by omega) (by omega) (by decide) dX7_layFairest_146 ?_
                    refine z_iast (by rfl) (by first | decide | exact Or.inl ⟨by decide, hg⟩) (by omega) (by omega) (by decide) (by first | (exact hr _ _ (by decide)) | omega) dX7_layFairest_147 ?_
                    refine z_rng fun hr => ?_
                    refine z_iinc_10 dX7_layFairest_148 (Nat.le_of_ble_eq_true rfl) rfl ?_
                    refine z_goto (tgt := 125) dX7_layFairest_151 (by decide) ?_
                    refine z_mem ?_ y_jh
                    rw [z_sM_sR]
                    congr 1
                    exact z_cp_s _ _ _ _ j (by omega) (by rw [z_sR_ne _ _ (by decide)]; congr 1; omega)
              · refine z_iload dX7_layFairest_102 rfl ?_
                refine z_if_ne (tgt := 154) (by first | (exact hr _ _ (by decide)) | omega) dX7_layFairest_104 (by decide) (fun h104 => ?_) (fun h104 => ?_)
                · refine z_iinc_6 dX7_layFairest_154 (Nat.le_of_ble_eq_true rfl) rfl ?_
                  refine z_goto (tgt := 44) dX7_layFairest_157 (by decide) ?_
                  first
                    | (rw [y_s, if_pos (by omega)] at y_ih
                       refine z_fgt 7 (z_fgt 8 (z_fgt 9 (z_fgt 10 (z_mem ?_ y_ih))))
                       show z_sR Y2 30 _ = z_sR (z_sR X 30 (z_rw m (M 30) (i + 1) ((i : Nat) : Int))) 31 _
                       rw [y_A2, ← y_Y2]
                       exact (z_sR_comm _ _ _ (by decide)).trans (by rw [z_sR_R]))
                    | (rw [y_s, if_neg (by omega)] at y_ih
                       refine z_fgt 7 (z_fgt 8 (z_fgt 9 (z_mem ?_ y_ih)))
                       rw [← y_Y2, ← y_A]
                       congr 2
                       unfold z_rw
                       rw [if_neg (by omega), if_neg (by omega)])
                · refine z_iload dX7_layFairest_107 rfl ?_
                  refine z_iload dX7_layFairest_109 rfl ?_
                  refine z_icmp_ge (tgt := 154) (by first | (exact hr _ _ (by decide)) | omega) (by first | (exact hr _ _ (by decide)) | omega) dX7_layFairest_111 (by decide) (fun h111 => ?_) (fun h111 => ?_)
                  · refine z_iinc_6 dX7_layFairest_154 (Nat.le_of_ble_eq_true rfl) rfl ?_
                    refine z_goto (tgt := 44) dX7_layFairest_157 (by decide) ?_
                    first
                      | (rw [y_s, if_pos (by omega)] at y_ih
                         refine z_fgt 7 (z_fgt 8 (z_fgt 9 (z_fgt 10 (z_mem ?_ y_ih))))
                         show z_sR Y2 30 _ = z_sR (z_sR X 30 (z_rw m (M 30) (i + 1) ((i : Nat) : Int))) 31 _
                         rw [y_A2, ← y_Y2]
                         exact (z_sR_comm _ _ _ (by decide)).trans (by rw [z_sR_R]))
                      | (rw [y_s, if_neg (by omega)] at y_ih
                         refine z_fgt 7 (z_fgt 8 (z_fgt 9 (z_mem ?_ y_ih)))
                         rw [← y_Y2, ← y_A]
                         congr 2
                         unfold z_rw
                         rw [if_neg (by omega), if_neg (by omega)])
                  · refine z_iload dX7_layFairest_114 rfl ?_
                    refine z_istore_4 dX7_layFairest_116 (Nat.le_of_ble_eq_true rfl) rfl ?_
                    refine z_iload dX7_layFairest_118 rfl ?_
                    refine z_istore_5 dX7_layFairest_120 (Nat.le_of_ble_eq_true rfl) rfl ?_
                    refine z_iconst dX7_layFairest_122 ?_
                    refine z_istore_10 dX7_layFairest_123 (Nat.le_of_ble_eq_true rfl) rfl ?_
                    refine z_mem (M' := z_sR Y2 30 (z_cp (Y2 30) (Y2 31) 0 0 ((0 : Nat) : Int))) (by rw [show ((0 : Nat) : Int) = 0 from rfl, z_cp_0, z_sR_id]) ?_
                    refine z_upn (P := fun j : Nat => z_J G Z _ _ 125 [some (.ref (z_ad G 0 40)), some (z_I k), some (z_I D), some (z_I (z_p4 m)), some (z_I T), some (z_I U), some (z_I i), some (z_I T), some (z_I U), some (z_I x), some (z_I j)] [] (z_sR Y2 30 (z_cp (Y2 30) (Y2 31) 0 0 j)) 0 0) m ?_ ?_
                    · refine z_rng fun hr => ?_
                      refine z_iload dX7_layFairest_125 rfl ?_
                      refine z_aloadn dX7_layFairest_127 rfl ?_
                      refine gX7_166 rfl dX7_layFairest_128 ?_
                      refine z_top (v' := (m : Int)) y_z21 ?_
                      refine z_icmp_ge (tgt := 154) (by first | (exact hr _ _ (by decide)) | omega) (by first | (exact hr _ _ (by decide)) | omega) dX7_layFairest_131 (by decide) (fun h131 => ?_) (fun h131 => ?_)
                      · refine z_iinc_6 dX7_layFairest_154 (Nat.le_of_ble_eq_true rfl) rfl ?_
                        refine z_goto (tgt := 44) dX7_layFairest_157 (by decide) ?_
                        first
                          | (rw [y_s, if_pos (by omega)] at y_ih
                             refine z_fgt 7 (z_fgt 8 (z_fgt 9 (z_fgt 10 (z_mem ?_ y_ih))))
                             show z_sR Y2 30 _ = z_sR (z_sR X 30 (z_rw m (M 30) (i + 1) ((i : Nat) : Int))) 31 _
                             rw [y_A2, ← y_Y2]
                             exact (z_sR_comm _ _ _ (by decide)).trans (by rw [z_sR_R]))
                          | (rw [y_s, if_neg (by omega)] at y_ih
                             refine z_fgt 7 (z_fgt 8 (z_fgt 9 (z_mem ?_ y_ih)))
                             rw [← y_Y2, ← y_A]
                             congr 2
                             unfold z_rw
                             rw [if_neg (by omega), if_neg (by omega)])
                      · exfalso; omega
                    · intro j hj y_jh
                      refine z_rng fun hr => ?_
                      refine z_iload dX7_layFairest_125 rfl ?_
                      refine z_aloadn dX7_layFairest_127 rfl ?_
                      refine gX7_166 rfl dX7_layFairest_128 ?_
                      refine z_top (v' := (m : Int)) y_z21 ?_
                      refine z_icmp_ge (tgt := 154) (by first | (exact hr _ _ (by decide)) | omega) (by first | (exact hr _ _ (by decide)) | omega) dX7_layFairest_131 (by decide) (fun h131 => ?_) (fun h131 => ?_)
                      · exfalso; omega
                      · refine z_aloadn dX7_layFairest_134 rfl ?_
                        refine gX7_34 rfl dX7_layFairest_135 ?_
                        refine z_iload dX7_layFairest_138 rfl ?_
                        refine z_aloadn dX7_layFairest_140 rfl ?_
                        refine gX7_37 rfl dX7_layFairest_141 ?_
                        refine z_iload dX7_layFairest_144 rfl ?_
                        refine z_iald (by rfl) (by first | decide | exact Or.inl ⟨by decide, hg⟩) (by omega) (by omega) (by decide) dX7_layFairest_146 ?_
                        refine z_iast (by rfl) (by first | decide | exact Or.inl ⟨by decide, hg⟩) (by omega) (by omega) (by decide) (by first | (exact hr _ _ (by decide)) | omega) dX7_layFairest_147 ?_
                        refine z_rng fun hr => ?_
                        refine z_iinc_10 dX7_layFairest_148 (Nat.le_of_ble_eq_true rfl) rfl ?_
                        refine z_goto (tgt := 125) dX7_layFairest_151 (by decide) ?_
                        refine z_mem ?_ y_jh
                        rw [z_sM_sR]
                        congr 1
                        exact z_cp_s _ _ _ _ j (by omega) (by rw [z_sR_ne _ _ (by decide)]; congr 1; omega)
            · refine z_iconst dX7_layFairest_80 ?_
              refine z_goto (tgt := 95) dX7_layFairest_81 (by decide) ?_
              refine z_top (v' := z_fst (z_fss m d D i).1 (z_fss m d D i).2.1 T U) (by unfold z_fst; first | rw [if_pos (by omega)] | rw [if_neg (by omega)]) ?_
              have y_xr : -100000 ≤ z_fst (z_fss m d D i).1 (z_fss m d D i).2.1 T U ∧ z_fst (z_fss m d D i).1 (z_fss m d D i).2.1 T U ≤ 100000 := by unfold z_fst; split <;> omega
              have y_x0 : (z_fss m d D i).1 = 0 → z_fst (z_fss m d D i).1 (z_fss m d D i).2.1 T U < 0 := fun e => by unfold z_fst; rw [if_pos e]; decide
              generalize z_fst (z_fss m d D i).1 (z_fss m d D i).2.1 T U = x at *
              refine z_istore_9 dX7_layFairest_95 (Nat.le_of_ble_eq_true rfl) rfl ?_
              refine z_iload dX7_layFairest_97 rfl ?_
              refine z_if_lt (tgt := 114) (by first | (exact hr _ _ (by decide)) | omega) dX7_layFairest_99 (by decide) (fun h99 => ?_) (fun h99 => ?_)
              · refine z_iload dX7_layFairest_114 rfl ?_
                refine z_istore_4 dX7_layFairest_116 (Nat.le_of_ble_eq_true rfl) rfl ?_
                refine z_iload dX7_layFairest_118 rfl ?_
                refine z_istore_5 dX7_layFairest_120 (Nat.le_of_ble_eq_true rfl) rfl ?_
                refine z_iconst dX7_layFairest_122 ?_
                refine z_istore_10 dX7_layFairest_123 (Nat.le_of_ble_eq_true rfl) rfl ?_
                refine z_mem (M' := z_sR Y2 30 (z_cp (Y2 30) (Y2 31) 0 0 ((0 : Nat) : Int))) (by rw [show ((0 : Nat) : Int) = 0 from rfl, z_cp_0, z_sR_id]) ?_
                refine z_upn (P := fun j : Nat => z_J G Z _ _ 125 [some (.ref (z_ad G 0 40)), some (z_I k), some (z_I D), some (z_I (z_p4 m)), some (z_I T), some (z_I U), some (z_I i), some (z_I T), some (z_I U), some (z_I x), some (z_I j)] [] (z_sR Y2 30 (z_cp (Y2 30) (Y2 31) 0 0 j)) 0 0) m ?_ ?_
                · refine z_rng fun hr => ?_
                  refine z_iload dX7_layFairest_125 rfl ?_
                  refine z_aloadn dX7_layFairest_127 rfl ?_
                  refine gX7_166 rfl dX7_layFairest_128 ?_
                  refine z_top (v' := (m : Int)) y_z21 ?_
                  refine z_icmp_ge (tgt := 154) (by first | (exact hr _ _ (by decide)) | omega) (by first | (exact hr _ _ (by decide)) | omega) dX7_layFairest_131 (by decide) (fun h131 => ?_) (fun h131 => ?_)
                  · refine z_iinc_6 dX7_layFairest_154 (Nat.le_of_ble_eq_true rfl) rfl ?_
                    refine z_goto (tgt := 44) dX7_layFairest_157 (by decide) ?_
                    first
                      | (rw [y_s, if_pos (by omega)] at y_ih
                         refine z_fgt 7 (z_fgt 8 (z_fgt 9 (z_fgt 10 (z_mem ?_ y_ih))))
                         show z_sR Y2 30 _ = z_sR (z_sR X 30 (z_rw m (M 30) (i + 1) ((i : Nat) : Int))) 31 _
                         rw [y_A2, ← y_Y2]
                         exact (z_sR_comm _ _ _ (by decide)).trans (by rw [z_sR_R]))
                      | (rw [y_s, if_neg (by omega)] at y_ih
                         refine z_fgt 7 (z_fgt 8 (z_fgt 9 (z_mem ?_ y_ih)))
                         rw [← y_Y2, ← y_A]
                         congr 2
                         unfold z_rw
                         rw [if_neg (by omega), if_neg (by omega)])
                  · exfalso; omega
                · intro j hj y_jh
                  refine z_rng fun hr => ?_
                  refine z_iload dX7_layFairest_125 rfl ?_
                  refine z_aloadn dX7_layFairest_127 rfl ?_
                  refine gX7_166 rfl dX7_layFairest_128 ?_
                  refine z_top (v' := (m : Int)) y_z21 ?_
                  refine z_icmp_ge (tgt := 154) (by first | (exact hr _ _ (by decide)) | omega) (by first | (exact hr _ _ (by decide)) | omega) dX7_layFairest_131 (by decide) (fun h131 => ?_) (fun h131 => ?_)
                  · exfalso; omega
                  · refine z_aloadn dX7_layFairest_134 rfl ?_
                    refine gX7_34 rfl dX7_layFairest_135 ?_
                    refine z_iload dX7_layFairest_138 rfl ?_
                    refine z_aloadn dX7_layFairest_140 rfl ?_
                    refine gX7_37 rfl dX7_layFairest_141 ?_
                    refine z_iload dX7_layFairest_144 rfl ?_
                    refine z_iald (by rfl) (by first | decide | exact Or.inl ⟨by decide, hg⟩) (by omega) (by omega) (by decide) dX7_layFairest_146 ?_
                    refine z_iast (by rfl) (by first | decide | exact Or.inl ⟨by decide, hg⟩) (by omega) (by omega) (by decide) (by first | (exact hr _ _ (by decide)) | omega) dX7_layFairest_147 ?_
                    refine z_rng fun hr => ?_
                    refine z_iinc_10 dX7_layFairest_148 (Nat.le_of_ble_eq_true rfl) rfl ?_
                    refine z_goto (tgt := 125) dX7_layFairest_151 (by decide) ?_
                    refine z_mem ?_ y_jh
                    rw [z_sM_sR]
                    congr 1
                    exact z_cp_s _ _ _ _ j (by omega) (by rw [z_sR_ne _ _ (by decide)]; congr 1; omega)
              · refine z_iload dX7_layFairest_102 rfl ?_
                refine z_if_ne (tgt := 154) (by first | (exact hr _ _ (by decide)) | omega) dX7_layFairest_104 (by decide) (fun h104 => ?_) (fun h104 => ?_)
                · refine z_iinc_6 dX7_layFairest_154 (Nat.le_of_ble_eq_true rfl) rfl ?_
                  refine z_goto (tgt := 44) dX7_layFairest_157 (by decide) ?_
                  first
                    | (rw [y_s, if_pos (by omega)] at y_ih
                       refine z_fgt 7 (z_fgt 8 (z_fgt 9 (z_fgt 10 (z_mem ?_ y_ih))))
                       show z_sR Y2 30 _ = z_sR (z_sR X 30 (z_rw m (M 30) (i + 1) ((i : Nat) : Int))) 31 _
                       rw [y_A2, ← y_Y2]
                       exact (z_sR_comm _ _ _ (by decide)).trans (by rw [z_sR_R]))
                    | (rw [y_s, if_neg (by omega)] at y_ih
                       refine z_fgt 7 (z_fgt 8 (z_fgt 9 (z_mem ?_ y_ih)))
                       rw [← y_Y2, ← y_A]
                       congr 2
                       unfold z_rw
                       rw [if_neg (by omega), if_neg (by omega)])
                · refine z_iload dX7_layFairest_107 rfl ?_
                  refine z_iload dX7_layFairest_109 rfl ?_
                  refine z_icmp_ge (tgt := 154) (by first | (exact hr _ _ (by decide)) | omega) (by first | (exact hr _ _ (by decide)) | omega) dX7_layFairest_111 (by decide) (fun h111 => ?_) (fun h111 => ?_)
                  · refine z_iinc_6 dX7_layFairest_154 (Nat.le_of_ble_eq_true rfl) rfl ?_
                    refine z_goto (tgt := 44) dX7_layFairest_157 (by decide) ?_
                    first
                      | (rw [y_s, if_pos (by omega)] at y_ih
                         refine z_fgt 7 (z_fgt 8 (z_fgt 9 (z_fgt 10 (z_mem ?_ y_ih))))
                         show z_sR Y2 30 _ = z_sR (z_sR X 30 (z_rw m (M 30) (i + 1) ((i : Nat) : Int))) 31 _
                         rw [y_A2, ← y_Y2]
                         exact (z_sR_comm _ _ _ (by decide)).trans (by rw [z_sR_R]))
                      | (rw [y_s, if_neg (by omega)] at y_ih
                         refine z_fgt 7 (z_fgt 8 (z_fgt 9 (z_mem ?_ y_ih)))
                         rw [← y_Y2, ← y_A]
                         congr 2
                         unfold z_rw
                         rw [if_neg (by omega), if_neg (by omega)])
                  · refine z_iload dX7_layFairest_114 rfl ?_
                    refine z_istore_4 dX7_layFairest_116 (Nat.le_of_ble_eq_true rfl) rfl ?_
                    refine z_iload dX7_layFairest_118 rfl ?_
                    refine z_istore_5 dX7_layFairest_120 (Nat.le_of_ble_eq_true rfl) rfl ?_
                    refine z_iconst dX7_layFairest_122 ?_
                    refine z_istore_10 dX7_layFairest_123 (Nat.le_of_ble_eq_true rfl) rfl ?_
                    refine z_mem (M' := z_sR Y2 30 (z_cp (Y2 30) (Y2 31) 0 0 ((0 : Nat) : Int))) (by rw [show ((0 : Nat) : Int) = 0 from rfl, z_cp_0, z_sR_id]) ?_
                    refine z_upn (P := fun j : Nat => z_J G Z _ _ 125 [some (.ref (z_ad G 0 40)), some (z_I k), some (z_I D), some (z_I (z_p4 m)), some (z_I T), some (z_I U), some (z_I i), some (z_I T), some (z_I U), some (z_I x), some (z_I j)] [] (z_sR Y2 30 (z_cp (Y2 30) (Y2 31) 0 0 j)) 0 0) m ?_ ?_
                    · refine z_rng fun hr => ?_
                      refine z_iload dX7_layFairest_125 rfl ?_
                      refine z_aloadn dX7_layFairest_127 rfl ?_
                      refine gX7_166 rfl dX7_layFairest_128 ?_
                      refine z_top (v' := (m : Int)) y_z21 ?_
                      refine z_icmp_ge (tgt := 154) (by first | (exact hr _ _ (by decide)) | omega) (by first | (exact hr _ _ (by decide)) | omega) dX7_layFairest_131 (by decide) (fun h131 => ?_) (fun h131 => ?_)
                      · refine z_iinc_6 dX7_layFairest_154 (Nat.le_of_ble_eq_true rfl) rfl ?_
                        refine z_goto (tgt := 44) dX7_layFairest_157 (by decide) ?_
                        first
                          | (rw [y_s, if_pos (by omega)] at y_ih
                             refine z_fgt 7 (z_fgt 8 (z_fgt 9 (z_fgt 10 (z_mem ?_ y_ih))))
                             show z_sR Y2 30 _ = z_sR (z_sR X 30 (z_rw m (M 30) (i + 1) ((i : Nat) : Int))) 31 _
                             rw [y_A2, ← y_Y2]
                             exact (z_sR_comm _ _ _ (by decide)).trans (by rw [z_sR_R]))
                          | (rw [y_s, if_neg (by omega)] at y_ih
                             refine z_fgt 7 (z_fgt 8 (z_fgt 9 (z_mem ?_ y_ih)))
                             rw [← y_Y2, ← y_A]
                             congr 2
                             unfold z_rw
                             rw [if_neg (by omega), if_neg (by omega)])
                      · exfalso; omega
                    · intro j hj y_jh
                      refine z_rng fun hr => ?_
                      refine z_iload dX7_layFairest_125 rfl ?_
                      refine z_aloadn dX7_layFairest_127 rfl ?_
                      refine gX7_166 rfl dX7_layFairest_128 ?_
                      refine z_top (v' := (m : Int)) y_z21 ?_
                      refine z_icmp_ge (tgt := 154) (by first | (exact hr _ _ (by decide)) | omega) (by first | (exact hr _ _ (by decide)) | omega) dX7_layFairest_131 (by decide) (fun h131 => ?_) (fun h131 => ?_)
                      · exfalso; omega
                      · refine z_aloadn dX7_layFairest_134 rfl ?_
                        refine gX7_34 rfl dX7_layFairest_135 ?_
                        refine z_iload dX7_layFairest_138 rfl ?_
                        refine z_aloadn dX7_layFairest_140 rfl ?_
                        refine gX7_37 rfl dX7_layFairest_141 ?_
                        refine z_iload dX7_layFairest_144 rfl ?_
                        refine z_iald (by rfl) (by first | decide | exact Or.inl ⟨by decide, hg⟩) (by omega) (by omega) (by decide) dX7_layFairest_146 ?_
                        refine z_iast (by rfl) (by first | decide | exact Or.inl ⟨by decide, hg⟩) (by omega) (by omega) (by decide) (by first | (exact hr _ _ (by decide)) | omega) dX7_layFairest_147 ?_
                        refine z_rng fun hr => ?_
                        refine z_iinc_10 dX7_layFairest_148 (Nat.le_of_ble_eq_true rfl) rfl ?_
                        refine z_goto (tgt := 125) dX7_layFairest_151 (by decide) ?_
                        refine z_mem ?_ y_jh
                        rw [z_sM_sR]
                        congr 1
                        exact z_cp_s _ _ _ _ j (by omega) (by rw [z_sR_ne _ _ (by decide)]; congr 1; omega)
    · exfalso; omega
  · intro i hi y_ih
    refine z_rng fun hr => ?_
    refine z_iload dX7_layFairest_16 rfl ?_
    refine z_aloadn dX7_layFairest_18 rfl ?_
    refine gX7_166 rfl dX7_layFairest_19 ?_
    refine z_icmp_ge (tgt := 35) (by first | (exact hr _ _ (by decide)) | omega) (by first | (exact hr _ _ (by decide)) | omega) dX7_layFairest_22 (by decide) (fun h22 => ?_) (fun h22 => ?_)
    · exfalso; omega
    · refine z_iloadn dX7_layFairest_25 rfl ?_
      refine z_iconst dX7_layFairest_26 ?_
      refine z_imul dX7_layFairest_27 ?_
      refine z_istoren_3 dX7_layFairest_28 (Nat.le_of_ble_eq_true rfl) rfl ?_
      refine z_iinc_4 dX7_layFairest_29 (Nat.le_of_ble_eq_true rfl) rfl ?_
      refine z_goto (tgt := 16) dX7_layFairest_32 (by decide) ?_
      exact y_ih
theorem z_fM_30 {M : z_M} {k j : Int} (j0 : 0 ≤ j) (j1 : j < (z_WR (M 22) k (M 29)).2) : z_fM M k 30 j = z_dg (z_fm (M 22) k (M 29)) (z_fc (M 22) k (M 29)) j := by
  show z_rw (z_fm (M 22) k (M 29)) (M 30) (4 ^ z_fm (M 22) k (M 29)) (z_fc (M 22) k (M 29)) j = _
  have h : 1 ≤ 4 ^ z_fm (M 22) k (M 29) := Nat.pow_pos (by decide)
  obtain ⟨n, e⟩ : ∃ n, 4 ^ z_fm (M 22) k (M 29) = n + 1 := ⟨_, (Nat.sub_add_cancel h).symm⟩
  rw [e]
  exact z_rw_at j0 (by unfold z_fm; omega)
theorem tX7_fairOfX {G : z_G} {A : z_M} {b : Int → Int} {N k p : Int} {w0 : Int → Int} (hb : z_BI b N) (rp : z_rg p) (h21 : A 21 0 = (z_WR b k w0).2) (h29 : A 29 = z_WS b k w0) (h30 : ∀ j, 0 ≤ j → j < (z_WR b k w0).2 → A 30 j = z_dg (z_fm b k w0) (z_fc b k w0) j) : KX7_fairOf G [.ref (z_ad G 0 40), z_I p] A (.inl (some (z_I (z_fX b k w0 p)))) A := by
  have y_M : (z_WR b k w0).2 = (z_fm b k w0 : Nat) := (Int.toNat_of_nonneg (z_wst_m (z_dr b k) (b 0).toNat w0 4).1).symm
  have y_w := z_WS_rg hb y_M
  rw [y_M] at h21 h30
  exact tX7_fairOf rp y_w.1 h21 (fun j _ _ => congrFun h29 j) h30
theorem z_fX_rg {b : Int → Int} {k p : Int} {w0 : Int → Int} : z_rg (z_fX b k w0 p) := by
  have h := z_fo_rg (w := z_WS b k w0) (p := p) (m := z_fm b k w0) (fun j _ _ => z_dg_rg (z_fm b k w0) (z_fc b k w0) j) _ (Nat.le_refl _)
  unfold z_fX
  unfold z_rg
  omega
theorem tX7_fairest {G : z_G} {M : z_M} {N c k p : Int} (hb : z_BI (M 22) N) (rk : z_rg k) (rp : z_rg p) (hc : z_c_fairest (M 22) k p = c) : KX7_fairest G [.ref (z_ad G 0 40), z_I k, z_I p] M (.inl (some (z_I (if c = 0 then z_fX (M 22) k (M 29) p else 0)))) (if c = 0 then z_fM (z_sM M 21 4 0) k else z_sM M 21 4 c) := by
  refine z_con (ls := [some (.ref (z_ad G 0 40)), some (z_I k), some (z_I p)]) (by decide +kernel) (Nat.le_of_ble_eq_true rfl) rfl ?_
  intro Z htb
  refine z_rng fun hr => ?_
  refine z_aloadn dX7_fairest_0 rfl ?_
  refine z_iconst dX7_fairest_1 ?_
  refine pX7_40 (by first | (exact hr _ _ (by decide)) | omega) rfl dX7_fairest_2 ?_
  refine z_rng fun hr => ?_
  generalize hM0 : z_sM M 21 4 0 = M0
  have hz : M0 22 = M 22 := by rw [← hM0]; exact z_sM_row _ _ _ (by decide)
  have hz2 : M0 21 2 = M 21 2 := by rw [← hM0]; exact z_sM_ne _ _ _ (by decide)
  rw [hM0] at hr
  rw [← hz] at hb
  try rw [← hz] at hc
  have hh := z_BI_h hb
  refine z_aloadn dX7_fairest_5 rfl ?_
  refine z_iloadn dX7_fairest_6 rfl ?_
  refine kX7_77 (tX7_isPiece (by first | (exact hr _ _ (by decide)) | omega) (by first | assumption | omega)) rfl ⟨(Nat.le_of_ble_eq_true rfl), (Nat.le_of_ble_eq_true rfl)⟩ (Nat.le_of_ble_eq_true rfl) dX7_fairest_7 ?_
  refine z_ifb_eq (tgt := 21) dX7_fairest_10 (by decide) (fun h10 => ?_) (fun h10 => ?_)
  · refine z_aloadn dX7_fairest_21 rfl ?_
    refine z_iconst dX7_fairest_22 ?_
    refine kX7_55 (tX7_fails (by first | decide | omega)) rfl ⟨(Nat.le_of_ble_eq_true rfl), (Nat.le_of_ble_eq_true rfl)⟩ (Nat.le_of_ble_eq_true rfl) dX7_fairest_23 ?_
    refine z_rng fun hr => ?_
    obtain rfl : c = 1 := by rw [← hc]; unfold z_c_fairest; (repeat' split) <;> omega
    exact z_iret dX7_fairest_26 (if_neg (by decide)).symm (by rw [if_neg (by decide), ← hM0, z_sM_sM])
  · refine z_aloadn dX7_fairest_13 rfl ?_
    refine z_iloadn dX7_fairest_14 rfl ?_
    refine kX7_65 (tX7_isPen (by first | (exact hr _ _ (by decide)) | omega) (by first | assumption | omega)) rfl ⟨(Nat.le_of_ble_eq_true rfl), (Nat.le_of_ble_eq_true rfl)⟩ (Nat.le_of_ble_eq_true rfl) dX7_fairest_15 ?_
    refine z_ifb_ne (tgt := 27) dX7_fairest_18 (by decide) (fun h18 => ?_) (fun h18 => ?_)
    · refine z_aloadn dX7_fairest_27 rfl ?_
      refine z_iloadn dX7_fairest_28 rfl ?_
      refine kX7_233 (tX7_layFairest hb (by omega) (by omega)) rfl ⟨(Nat.le_of_ble_eq_true rfl), (Nat.le_of_ble_eq_true rfl)⟩ (Nat.le_of_ble_eq_true rfl) dX7_fairest_29 ?_
      refine z_rng fun hr => ?_
      refine z_aloadn dX7_fairest_32 rfl ?_
      refine z_iloadn dX7_fairest_33 rfl ?_
      refine kX7_236 (tX7_fairOfX hb (by omega) rfl rfl (fun j => z_fM_30)) rfl ⟨(Nat.le_of_ble_eq_true rfl), (Nat.le_of_ble_eq_true rfl)⟩ (Nat.le_of_ble_eq_true rfl) dX7_fairest_34 ?_
      exact z_iret dX7_fairest_37 (by obtain rfl : c = 0 := by { rw [← hc]; unfold z_c_fairest; (repeat' split) <;> omega }; rw [if_pos rfl, ← hz]; rw [← hM0]; rfl) (by obtain rfl : c = 0 := by { rw [← hc]; unfold z_c_fairest; (repeat' split) <;> omega }; rw [if_pos rfl])
    · refine z_aloadn dX7_fairest_21 rfl ?_
      refine z_iconst dX7_fairest_22 ?_
      refine kX7_55 (tX7_fails (by first | decide | omega)) rfl ⟨(Nat.le_of_ble_eq_true rfl), (Nat.le_of_ble_eq_true rfl)⟩ (Nat.le_of_ble_eq_true rfl) dX7_fairest_23 ?_
      refine z_rng fun hr => ?_
      obtain rfl : c = 1 := by rw [← hc]; unfold z_c_fairest; (repeat' split) <;> omega
      exact z_iret dX7_fairest_26 (if_neg (by decide)).symm (by rw [if_neg (by decide), ← hM0, z_sM_sM])
