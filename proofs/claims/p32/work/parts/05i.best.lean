/-! ===== the class: the best piece of each pen ===== -/
def z_pfb (b B S : Int → Int) (k : Int) (x : (Int → Int) × (Int → Int)) : Nat → (Int → Int) × (Int → Int)
  | 0 => x
  | p + 1 => if (z_pfb b B S k x p).1 p = -1 ∨ (z_pfb b B S k x p).2 p < z_gain b B S p then (z_uf (z_pfb b B S k x p).1 p k, z_uf (z_pfb b B S k x p).2 p (z_gain b B S p)) else z_pfb b B S k x p
abbrev z_b2 (M : z_M) (x : (Int → Int) × (Int → Int)) : z_M := z_sR (z_sR M 16 x.1) 17 x.2
theorem z_b2_row {M : z_M} {x : (Int → Int) × (Int → Int)} {r : Nat} (h : r ≠ 16 ∧ r ≠ 17) : z_b2 M x r = M r := (z_sR_ne _ _ h.2).trans (z_sR_ne _ _ h.1)
theorem z_cu_at {b : Int → Int} {k p : Int} {s : Int → Int} (p0 : 0 ≤ p) (p1 : p < 12) : z_cu b k s p = s p - z_ov b k p (s p) := by
  unfold z_cu z_cp
  rw [if_pos (by omega), show p - 0 + 0 = p by omega]
def z_pfM (M : z_M) (g : Nat) (k : Int) : z_M := z_b2 M (z_pfb (M g) (M 7) (M 10) k (M 16, M 17) (M g 0).toNat)
def z_dRM (M : z_M) (g : Nat) (k a : Int) : z_M := z_dR M g k a (M 7) (M 10) (M 11)
def z_fbM (M : z_M) (g : Nat) (a : Int) : Nat → z_M
  | 0 => z_sR M 16 (z_cp (M 16) (fun _ => -1) 0 0 12)
  | k + 1 => if M g (86 + 5 * (k : Int) + 2) = 3 then z_pfM (z_dRM (z_fbM M g a k) g k a) g k else z_fbM M g a k
theorem z_pfM_row {M : z_M} {g : Nat} {k : Int} {r : Nat} (h : r ≠ 16 ∧ r ≠ 17) : z_pfM M g k r = M r := by
  exact z_b2_row h
theorem z_dRM_row {M : z_M} {g : Nat} {k a : Int} {r : Nat} (h : r ≠ 7 ∧ r ≠ 10 ∧ r ≠ 11) : z_dRM M g k a r = M r := by
  show z_sR (z_sR (z_sR M 7 _) 10 _) 11 _ r = M r
  rw [z_sR_ne _ _ h.2.2, z_sR_ne _ _ h.2.1, z_sR_ne _ _ h.1]
theorem z_dRM_7 {M : z_M} {g : Nat} {k a : Int} {i : Int} (h : i < 8 ∨ 12 ≤ i) : z_dRM M g k a 7 i = M 7 i := by
  show z_uf (z_uf (z_uf (z_uf (z_uf (z_uf (M 7) 8 _) 9 _) 10 _) 11 _) 11 _) 9 _ i = _
  rw [z_uf_ne _ _ (by omega), z_uf_ne _ _ (by omega), z_uf_ne _ _ (by omega), z_uf_ne _ _ (by omega), z_uf_ne _ _ (by omega), z_uf_ne _ _ (by omega)]
theorem z_fbM_row (M : z_M) (g : Nat) (a : Int) {r : Nat} (h : r ≠ 7 ∧ r ≠ 10 ∧ r ≠ 11 ∧ r ≠ 16 ∧ r ≠ 17) (n : Nat) : z_fbM M g a n r = M r := by
  induction n with
  | zero => exact z_sR_ne _ _ h.2.2.2.1
  | succ n ih =>
    unfold z_fbM
    split
    · rw [z_pfM_row ⟨h.2.2.2.1, h.2.2.2.2⟩, z_dRM_row ⟨h.1, h.2.1, h.2.2.1⟩, ih]
    · exact ih
theorem z_fbM_7 (M : z_M) (g : Nat) (a : Int) {i : Int} (h : i < 8 ∨ 12 ≤ i) (n : Nat) : z_fbM M g a n 7 i = M 7 i := by
  induction n with
  | zero => rfl
  | succ n ih =>
    unfold z_fbM
    split
    · rw [z_pfM_row (by decide), z_dRM_7 h, ih]
    · exact ih
theorem z_gain_rg {b B S : Int → Int} {p Bd : Int} (p0 : 0 ≤ p) (p1 : p < 12) (he : z_ebd b Bd) (B1 : Bd ≤ 1000000000) (p11 : 0 ≤ B 11 ∧ B 11 ≤ 2000000) (hS : 0 ≤ S p ∧ S p ≤ 2000000) : 0 ≤ z_gain b B S p ∧ z_gain b B S p ≤ 4000000 := by
  have e := he p p0 p1
  unfold z_gain
  have hx : 0 ≤ (if p = B 10 then B 11 else 0) ∧ (if p = B 10 then B 11 else 0) ≤ 2000000 := by split <;> omega
  generalize (if p = B 10 then B 11 else 0) = x at *
  have h1 := z_hl_rg hx.1 e.2.2.1
  have h2 := z_hl_rg (w := b (14 + 6 * p + 1) - z_hl x (b (14 + 6 * p + 1))) hS.1 (by omega)
  omega
/-- the division behind divideRoyalty is in its bounds -/
theorem z_dRM_bd {M : z_M} {g : Nat} {k a : Int} (a0 : 0 ≤ a) (a1 : a ≤ 100000) (hc : z_cF (M g) k) (h4 : z_p4c (M g) k) : (0 ≤ z_dRM M g k a 7 8 ∧ z_dRM M g k a 7 8 ≤ 100000) ∧ (0 ≤ z_dRM M g k a 7 9 ∧ z_dRM M g k a 7 9 ≤ 12000000) ∧ (0 ≤ z_dRM M g k a 7 10 ∧ z_dRM M g k a 7 10 < 12) ∧ (0 ≤ z_dRM M g k a 7 11 ∧ z_dRM M g k a 7 11 ≤ 2000000) ∧ ∀ p, 0 ≤ p → p < 12 → 0 ≤ z_dRM M g k a 10 p ∧ z_dRM M g k a 10 p ≤ 2000000 := by
  obtain ⟨h1, h2, h3, h4', h5, h6, h7, h8, h9, h10, h11⟩ := hc
  have rs := z_rs_rg (b := M g) (y := 1) a0 a1 h6 h7
  have sp := z_sp_rg (s := M 10) (r := M 11) h1 h2 h4 rs.1 rs.2
  have m8 := z_mb a0 a1 h6.1 h6.2
  have m9 := z_mb a0 a1 h7.1 h7.2
  refine ⟨?_, ?_, ?_, ?_, ?_⟩
  · show 0 ≤ z_kp (M g) a ∧ z_kp (M g) a ≤ 100000
    unfold z_kp
    omega
  · show 0 ≤ z_oca (M g) k _ ∧ z_oca (M g) k _ ≤ 12000000
    have := z_smb (f := fun p => z_ov (M g) k p ((z_sp (M g) k (z_rs (M g) a 1) (M 10) (M 11)).1 p)) (a := 0) (b := 1000000) 12 (fun i hi => by
      have q := sp i (by omega) (by omega)
      have q2 := z_ov_rg (b := M g) (k := k) (p := i) q.1
      exact ⟨q2.1, Int.le_trans q2.2 q.2⟩)
    unfold z_oca
    omega
  · exact h11
  · show 0 ≤ z_ow2 (M g) a 1 ∧ z_ow2 (M g) a 1 ≤ 2000000
    unfold z_ow2
    rw [if_neg (by decide)]
    omega
  · intro p p0 p1
    have q := sp p p0 p1
    have q2 := z_ov_rg (b := M g) (k := k) (p := p) q.1
    show 0 ≤ z_cu (M g) k _ p ∧ z_cu (M g) k _ p ≤ 2000000
    rw [z_cu_at p0 p1]
    omega
theorem z_BI_ebd {b : Int → Int} {N : Int} (h : z_BI b N) : z_ebd b 100000000 := by
  intro p p0 p1
  have hh := z_BI_h h
  have h1 := z_BI_bal h p0 p1
  have h2 := z_BI_P h p p0 p1
  have h3 := z_BI_one (w := 2) h (Or.inl rfl) p0 p1
  unfold z_PI at h2
  omega
theorem z_BI_p4c {b : Int → Int} {N k : Int} (h : z_BI b N) (k0 : 0 ≤ k) (k1 : k < 20) : z_p4c b k := by
  have h1 := z_BI_K h k k0 k1
  unfold z_KI at h1
  exact h1.2.2.2.2.2.2.2.2.2.2.2.2.2.2.1
theorem tX6_gainOf {G : z_G} {M : z_M} {g : Nat} (hg : g < 7) (hn : M 7 2 = (g : Int)) {p B : Int} (p0 : 0 ≤ p) (p1 : p < 12) (he : z_ebd (M g) B) (B1 : B ≤ 1000000000) (p10 : 0 ≤ M 7 10 ∧ M 7 10 < 12) (p11 : 0 ≤ M 7 11 ∧ M 7 11 ≤ 2000000) (hS : ∀ p, 0 ≤ p → p < 12 → 0 ≤ M 10 p ∧ M 10 p ≤ 2000000) : KX6_gainOf G [.ref (z_ad G 0 20), z_I p] M (.inl (some (z_I (z_gain (M g) (M 7) (M 10) p)))) M := by
  refine z_con (ls := [some (.ref (z_ad G 0 20)), some (z_I p), none, none, none, none, none]) (by decide +kernel) (Nat.le_of_ble_eq_true rfl) rfl ?_
  intro Z htb
  refine z_rng fun hr => ?_
  have y_e := he p p0 p1
  have y_s := hS p p0 p1
  have y_x : 0 ≤ (if p = M 7 10 then M 7 11 else 0) ∧ (if p = M 7 10 then M 7 11 else 0) ≤ 2000000 := by split <;> omega
  have y_h := z_hl_rg y_x.1 y_e.2.2.1
  have y_h2 := z_hl_rg (w := M g (14 + 6 * p + 1) - z_hl (if p = M 7 10 then M 7 11 else 0) (M g (14 + 6 * p + 1))) y_s.1 (by omega)
  refine z_aloadn dX6_gainOf_0 rfl ?_
  refine gX6_44 hn rfl dX6_gainOf_1 ?_
  refine gX6_48 hg rfl dX6_gainOf_4 ?_
  refine gX6_103 hg rfl dX6_gainOf_7 ?_
  refine z_iloadn dX6_gainOf_10 rfl ?_
  refine z_iald (by rfl) (by first | exact Or.inl (by decide) | exact Or.inl (Or.inl ⟨by decide, hg⟩)) (by omega) (by omega) (by decide) dX6_gainOf_11 ?_
  refine z_istoren_2 dX6_gainOf_12 (Nat.le_of_ble_eq_true rfl) rfl ?_
  refine z_iloadn dX6_gainOf_13 rfl ?_
  refine z_aloadn dX6_gainOf_14 rfl ?_
  refine gX6_25 rfl dX6_gainOf_15 ?_
  refine gX6_356 rfl dX6_gainOf_18 ?_
  refine z_icmp_ne (tgt := 34) (by first | (exact hr _ _ (by decide)) | (exact hr _ _ (by omega)) | omega) (by first | (exact hr _ _ (by decide)) | (exact hr _ _ (by omega)) | omega) dX6_gainOf_21 (by decide) (fun h21 => ?_) (fun h21 => ?_)
  · refine z_iconst dX6_gainOf_34 ?_
    refine z_top (v' := (if p = M 7 10 then M 7 11 else 0)) (by first | rw [if_pos (by omega)] | rw [if_neg (by omega)]) ?_
    refine z_istoren_3 dX6_gainOf_35 (Nat.le_of_ble_eq_true rfl) rfl ?_
    refine z_iloadn dX6_gainOf_36 rfl ?_
    refine z_iloadn dX6_gainOf_37 rfl ?_
    refine kX6_365 (tX6_withheld (by omega) (by omega) (by first | (exact hr _ _ (by decide)) | (exact hr _ _ (by omega)) | omega)) rfl ⟨(Nat.le_of_ble_eq_true rfl), (Nat.le_of_ble_eq_true rfl)⟩ (Nat.le_of_ble_eq_true rfl) dX6_gainOf_38 ?_
    refine z_istore_4 dX6_gainOf_41 (Nat.le_of_ble_eq_true rfl) rfl ?_
    refine z_aloadn dX6_gainOf_43 rfl ?_
    refine gX6_25 rfl dX6_gainOf_44 ?_
    refine gX6_216 rfl dX6_gainOf_47 ?_
    refine z_iloadn dX6_gainOf_50 rfl ?_
    refine z_iald (by rfl) (by first | exact Or.inl (by decide) | exact Or.inl (Or.inl ⟨by decide, hg⟩)) (by omega) (by omega) (by decide) dX6_gainOf_51 ?_
    refine z_istore_5 dX6_gainOf_52 (Nat.le_of_ble_eq_true rfl) rfl ?_
    refine z_iload dX6_gainOf_54 rfl ?_
    refine z_iloadn dX6_gainOf_56 rfl ?_
    refine z_iload dX6_gainOf_57 rfl ?_
    refine z_isub dX6_gainOf_59 ?_
    refine kX6_365 (tX6_withheld (by omega) (by omega) (by first | (exact hr _ _ (by decide)) | (exact hr _ _ (by omega)) | omega)) rfl ⟨(Nat.le_of_ble_eq_true rfl), (Nat.le_of_ble_eq_true rfl)⟩ (Nat.le_of_ble_eq_true rfl) dX6_gainOf_60 ?_
    refine z_istore_6 dX6_gainOf_63 (Nat.le_of_ble_eq_true rfl) rfl ?_
    refine z_iloadn dX6_gainOf_65 rfl ?_
    refine z_iload dX6_gainOf_66 rfl ?_
    refine z_isub dX6_gainOf_68 ?_
    refine z_iload dX6_gainOf_69 rfl ?_
    refine z_iadd dX6_gainOf_71 ?_
    refine z_iload dX6_gainOf_72 rfl ?_
    refine z_isub dX6_gainOf_74 ?_
    exact z_iret dX6_gainOf_75 (by unfold z_gain; omega) rfl
  · refine z_aloadn dX6_gainOf_24 rfl ?_
    refine gX6_25 rfl dX6_gainOf_25 ?_
    refine gX6_359 rfl dX6_gainOf_28 ?_
    refine z_goto (tgt := 35) dX6_gainOf_31 (by decide) ?_
    refine z_top (v' := (if p = M 7 10 then M 7 11 else 0)) (by first | rw [if_pos (by omega)] | rw [if_neg (by omega)]) ?_
    refine z_istoren_3 dX6_gainOf_35 (Nat.le_of_ble_eq_true rfl) rfl ?_
    refine z_iloadn dX6_gainOf_36 rfl ?_
    refine z_iloadn dX6_gainOf_37 rfl ?_
    refine kX6_365 (tX6_withheld (by omega) (by omega) (by first | (exact hr _ _ (by decide)) | (exact hr _ _ (by omega)) | omega)) rfl ⟨(Nat.le_of_ble_eq_true rfl), (Nat.le_of_ble_eq_true rfl)⟩ (Nat.le_of_ble_eq_true rfl) dX6_gainOf_38 ?_
    refine z_istore_4 dX6_gainOf_41 (Nat.le_of_ble_eq_true rfl) rfl ?_
    refine z_aloadn dX6_gainOf_43 rfl ?_
    refine gX6_25 rfl dX6_gainOf_44 ?_
    refine gX6_216 rfl dX6_gainOf_47 ?_
    refine z_iloadn dX6_gainOf_50 rfl ?_
    refine z_iald (by rfl) (by first | exact Or.inl (by decide) | exact Or.inl (Or.inl ⟨by decide, hg⟩)) (by omega) (by omega) (by decide) dX6_gainOf_51 ?_
    refine z_istore_5 dX6_gainOf_52 (Nat.le_of_ble_eq_true rfl) rfl ?_
    refine z_iload dX6_gainOf_54 rfl ?_
    refine z_iloadn dX6_gainOf_56 rfl ?_
    refine z_iload dX6_gainOf_57 rfl ?_
    refine z_isub dX6_gainOf_59 ?_
    refine kX6_365 (tX6_withheld (by omega) (by omega) (by first | (exact hr _ _ (by decide)) | (exact hr _ _ (by omega)) | omega)) rfl ⟨(Nat.le_of_ble_eq_true rfl), (Nat.le_of_ble_eq_true rfl)⟩ (Nat.le_of_ble_eq_true rfl) dX6_gainOf_60 ?_
    refine z_istore_6 dX6_gainOf_63 (Nat.le_of_ble_eq_true rfl) rfl ?_
    refine z_iloadn dX6_gainOf_65 rfl ?_
    refine z_iload dX6_gainOf_66 rfl ?_
    refine z_isub dX6_gainOf_68 ?_
    refine z_iload dX6_gainOf_69 rfl ?_
    refine z_iadd dX6_gainOf_71 ?_
    refine z_iload dX6_gainOf_72 rfl ?_
    refine z_isub dX6_gainOf_74 ?_
    exact z_iret dX6_gainOf_75 (by unfold z_gain; omega) rfl
theorem tX6_preferIfBetter {G : z_G} {M : z_M} {g : Nat} (hg : g < 7) (hn : M 7 2 = (g : Int)) {k B : Int} (rk : z_rg k) (he : z_ebd (M g) B) (B1 : B ≤ 1000000000) (b0 : 0 ≤ M g 0 ∧ M g 0 ≤ 12) (p10 : 0 ≤ M 7 10 ∧ M 7 10 < 12) (p11 : 0 ≤ M 7 11 ∧ M 7 11 ≤ 2000000) (hS : ∀ p, 0 ≤ p → p < 12 → 0 ≤ M 10 p ∧ M 10 p ≤ 2000000) : KX6_preferIfBetter G [.ref (z_ad G 0 20), z_I k] M (.inl none) (z_pfM M g k) := by
  refine z_con (ls := [some (.ref (z_ad G 0 20)), some (z_I k), none, none]) (by decide +kernel) (Nat.le_of_ble_eq_true rfl) rfl ?_
  intro Z htb
  refine z_rng fun hr => ?_
  refine z_iconst dX6_preferIfBetter_0 ?_
  refine z_istoren_2 dX6_preferIfBetter_1 (Nat.le_of_ble_eq_true rfl) rfl ?_
  refine z_mem (M' := z_b2 M (z_pfb (M g) (M 7) (M 10) k (M 16, M 17) 0)) (by show M = z_sR (z_sR M 16 (M 16)) 17 (M 17); rw [z_sR_id, z_sR_id]) ?_
  refine z_upn (P := fun i : Nat => z_J G Z _ _ 2 [some (.ref (z_ad G 0 20)), some (z_I k), some (z_I i), none] [] (z_b2 M (z_pfb (M g) (M 7) (M 10) k (M 16, M 17) i)) 0 0) (M g 0).toNat ?_ ?_
  · refine z_rng fun hr => ?_
    have y_ag : z_b2 M (z_pfb (M g) (M 7) (M 10) k (M 16, M 17) (M g 0).toNat) g = M g := z_b2_row (by omega)
    have y_an : z_b2 M (z_pfb (M g) (M 7) (M 10) k (M 16, M 17) (M g 0).toNat) 7 2 = (g : Int) := hn
    refine z_iloadn dX6_preferIfBetter_2 rfl ?_
    refine z_aloadn dX6_preferIfBetter_3 rfl ?_
    refine gX6_44 y_an rfl dX6_preferIfBetter_4 ?_
    refine gX6_48 hg rfl dX6_preferIfBetter_7 ?_
    refine gX6_52 hg rfl dX6_preferIfBetter_10 ?_
    refine z_top (v' := M g 0) (by rw [y_ag]) ?_
    refine z_icmp_ge (tgt := 62) (by omega) (by omega) dX6_preferIfBetter_13 (by decide) (fun h13 => ?_) (fun h13 => ?_)
    · exact z_vret dX6_preferIfBetter_62 rfl
    · exfalso; omega
  · intro i hi y_ih
    have y_gr := z_gain_rg (p := (i : Int)) (by omega) (by omega) he B1 p11 (hS i (by omega) (by omega))
    have y_s : z_pfb (M g) (M 7) (M 10) k (M 16, M 17) (i + 1) = if (z_pfb (M g) (M 7) (M 10) k (M 16, M 17) i).1 i = -1 ∨ (z_pfb (M g) (M 7) (M 10) k (M 16, M 17) i).2 i < z_gain (M g) (M 7) (M 10) i then (z_uf (z_pfb (M g) (M 7) (M 10) k (M 16, M 17) i).1 i k, z_uf (z_pfb (M g) (M 7) (M 10) k (M 16, M 17) i).2 i (z_gain (M g) (M 7) (M 10) i)) else (z_pfb (M g) (M 7) (M 10) k (M 16, M 17) i) := rfl
    obtain ⟨x, y_x⟩ : ∃ x, (z_pfb (M g) (M 7) (M 10) k (M 16, M 17) i) = x := ⟨_, rfl⟩
    rw [y_x] at y_s ⊢
    obtain ⟨A, y_A⟩ : ∃ A, z_b2 M x = A := ⟨_, rfl⟩
    have y_ag : A g = M g := by rw [← y_A]; exact z_b2_row (by omega)
    have y_an : A 7 2 = (g : Int) := by rw [← y_A]; exact hn
    have y_a7 : A 7 = M 7 := by rw [← y_A]; rfl
    have y_a10 : A 10 = M 10 := by rw [← y_A]; rfl
    have y_a16 : A 16 = x.1 := by rw [← y_A]; rfl
    have y_a17 : A 17 = x.2 := by rw [← y_A]; rfl
    rw [y_A]
    refine z_rng fun hr => ?_
    have y_r1 : z_rg (x.1 i) := by rw [← y_a16]; exact hr 16 i (by decide)
    have y_r2 : z_rg (x.2 i) := by rw [← y_a17]; exact hr 17 i (by decide)
    refine z_iloadn dX6_preferIfBetter_2 rfl ?_
    refine z_aloadn dX6_preferIfBetter_3 rfl ?_
    refine gX6_44 y_an rfl dX6_preferIfBetter_4 ?_
    refine gX6_48 hg rfl dX6_preferIfBetter_7 ?_
    refine gX6_52 hg rfl dX6_preferIfBetter_10 ?_
    refine z_top (v' := M g 0) (by rw [y_ag]) ?_
    refine z_icmp_ge (tgt := 62) (by omega) (by omega) dX6_preferIfBetter_13 (by decide) (fun h13 => ?_) (fun h13 => ?_)
    · exfalso; omega
    · refine z_aloadn dX6_preferIfBetter_16 rfl ?_
      refine z_iloadn dX6_preferIfBetter_17 rfl ?_
      refine kX6_289 (tX6_gainOf (B := B) hg y_an (by omega) (by omega) (by rw [y_ag]; exact he) B1 (by rw [y_a7]; exact p10) (by rw [y_a7]; exact p11) (by rw [y_a10]; exact hS)) rfl ⟨(Nat.le_of_ble_eq_true rfl), (Nat.le_of_ble_eq_true rfl)⟩ (Nat.le_of_ble_eq_true rfl) dX6_preferIfBetter_18 ?_
      refine z_top (v' := z_gain (M g) (M 7) (M 10) i) (by rw [y_ag, y_a7, y_a10]) ?_
      refine z_istoren_3 dX6_preferIfBetter_21 (Nat.le_of_ble_eq_true rfl) rfl ?_
      refine z_aloadn dX6_preferIfBetter_22 rfl ?_
      refine gX6_36 rfl dX6_preferIfBetter_23 ?_
      refine z_iloadn dX6_preferIfBetter_26 rfl ?_
      refine z_iald (by rfl) (by first | exact Or.inl (by decide) | exact Or.inl (Or.inl ⟨by decide, hg⟩)) (by omega) (by omega) (by decide) dX6_preferIfBetter_27 ?_
      refine z_top (v' := x.1 i) (by rw [y_a16]) ?_
      refine z_iconst dX6_preferIfBetter_28 ?_
      refine z_icmp_eq (tgt := 42) y_r1 (by decide) dX6_preferIfBetter_29 (by decide) (fun h29 => ?_) (fun h29 => ?_)
      · refine z_aloadn dX6_preferIfBetter_42 rfl ?_
        refine gX6_36 rfl dX6_preferIfBetter_43 ?_
        refine z_iloadn dX6_preferIfBetter_46 rfl ?_
        refine z_iloadn dX6_preferIfBetter_47 rfl ?_
        refine z_iast (by rfl) (by first | exact Or.inl (by decide) | exact Or.inl (Or.inl ⟨by decide, hg⟩)) (by omega) (by omega) (by decide) (by first | (exact hr _ _ (by decide)) | (exact hr _ _ (by omega)) | omega) dX6_preferIfBetter_48 ?_
        refine z_rng fun hr => ?_
        refine z_aloadn dX6_preferIfBetter_49 rfl ?_
        refine gX6_40 rfl dX6_preferIfBetter_50 ?_
        refine z_iloadn dX6_preferIfBetter_53 rfl ?_
        refine z_iloadn dX6_preferIfBetter_54 rfl ?_
        refine z_iast (by rfl) (by first | exact Or.inl (by decide) | exact Or.inl (Or.inl ⟨by decide, hg⟩)) (by omega) (by omega) (by decide) (by first | (exact hr _ _ (by decide)) | (exact hr _ _ (by omega)) | omega) dX6_preferIfBetter_55 ?_
        refine z_rng fun hr => ?_
        refine z_iinc_2 dX6_preferIfBetter_56 (Nat.le_of_ble_eq_true rfl) rfl ?_
        refine z_goto (tgt := 2) dX6_preferIfBetter_59 (by decide) ?_
        refine z_fgt 3 ?_
        first
          | (rw [y_s, if_pos (by omega)] at y_ih
             refine z_mem ?_ y_ih
             rw [← y_A]
             show z_sM (z_sM (z_sR (z_sR M 16 x.1) 17 x.2) 16 _ _) 17 _ _ = z_sR (z_sR M 16 (z_uf x.1 _ _)) 17 (z_uf x.2 _ _)
             rw [← z_sR_sM _ _ _ _ (show (17 : Nat) ≠ 16 by decide), z_sM_sR, z_sM_sR])
          | (rw [y_s, if_neg (by omega)] at y_ih
             refine z_mem ?_ y_ih
             exact y_A.symm)
      · refine z_iloadn dX6_preferIfBetter_32 rfl ?_
        refine z_aloadn dX6_preferIfBetter_33 rfl ?_
        refine gX6_40 rfl dX6_preferIfBetter_34 ?_
        refine z_iloadn dX6_preferIfBetter_37 rfl ?_
        refine z_iald (by rfl) (by first | exact Or.inl (by decide) | exact Or.inl (Or.inl ⟨by decide, hg⟩)) (by omega) (by omega) (by decide) dX6_preferIfBetter_38 ?_
        refine z_top (v' := x.2 i) (by rw [y_a17]) ?_
        refine z_icmp_le (tgt := 56) (by omega) y_r2 dX6_preferIfBetter_39 (by decide) (fun h39 => ?_) (fun h39 => ?_)
        · refine z_iinc_2 dX6_preferIfBetter_56 (Nat.le_of_ble_eq_true rfl) rfl ?_
          refine z_goto (tgt := 2) dX6_preferIfBetter_59 (by decide) ?_
          refine z_fgt 3 ?_
          first
            | (rw [y_s, if_pos (by omega)] at y_ih
               refine z_mem ?_ y_ih
               rw [← y_A]
               show z_sM (z_sM (z_sR (z_sR M 16 x.1) 17 x.2) 16 _ _) 17 _ _ = z_sR (z_sR M 16 (z_uf x.1 _ _)) 17 (z_uf x.2 _ _)
               rw [← z_sR_sM _ _ _ _ (show (17 : Nat) ≠ 16 by decide), z_sM_sR, z_sM_sR])
            | (rw [y_s, if_neg (by omega)] at y_ih
               refine z_mem ?_ y_ih
               exact y_A.symm)
        · refine z_aloadn dX6_preferIfBetter_42 rfl ?_
          refine gX6_36 rfl dX6_preferIfBetter_43 ?_
          refine z_iloadn dX6_preferIfBetter_46 rfl ?_
          refine z_iloadn dX6_preferIfBetter_47 rfl ?_
          refine z_iast (by rfl) (by first | exact Or.inl (by decide) | exact Or.inl (Or.inl ⟨by decide, hg⟩)) (by omega) (by omega) (by decide) (by first | (exact hr _ _ (by decide)) | (exact hr _ _ (by omega)) | omega) dX6_preferIfBetter_48 ?_
          refine z_rng fun hr => ?_
          refine z_aloadn dX6_preferIfBetter_49 rfl ?_
          refine gX6_40 rfl dX6_preferIfBetter_50 ?_
          refine z_iloadn dX6_preferIfBetter_53 rfl ?_
          refine z_iloadn dX6_preferIfBetter_54 rfl ?_
          refine z_iast (by rfl) (by first | exact Or.inl (by decide) | exact Or.inl (Or.inl ⟨by decide, hg⟩)) (by omega) (by omega) (by decide) (by first | (exact hr _ _ (by decide)) | (exact hr _ _ (by omega)) | omega) dX6_preferIfBetter_55 ?_
          refine z_rng fun hr => ?_
          refine z_iinc_2 dX6_preferIfBetter_56 (Nat.le_of_ble_eq_true rfl) rfl ?_
          refine z_goto (tgt := 2) dX6_preferIfBetter_59 (by decide) ?_
          refine z_fgt 3 ?_
          first
            | (rw [y_s, if_pos (by omega)] at y_ih
               refine z_mem ?_ y_ih
               rw [← y_A]
               show z_sM (z_sM (z_sR (z_sR M 16 x.1) 17 x.2) 16 _ _) 17 _ _ = z_sR (z_sR M 16 (z_uf x.1 _ _)) 17 (z_uf x.2 _ _)
               rw [← z_sR_sM _ _ _ _ (show (17 : Nat) ≠ 16 by decide), z_sM_sR, z_sM_sR])
            | (rw [y_s, if_neg (by omega)] at y_ih
               refine z_mem ?_ y_ih
               exact y_A.symm)
theorem tX6_findBest {G : z_G} {M : z_M} {g : Nat} (hg : g < 7) (hn : M 7 2 = (g : Int)) {N a : Int} (hb : z_BI (M g) N) (a0 : 0 ≤ a) (a1 : a ≤ 100000) : KX6_findBest G [.ref (z_ad G 0 20), z_I a] M (.inl none) (z_fbM M g a (M g 1).toNat) := by
  refine z_con (ls := [some (.ref (z_ad G 0 20)), some (z_I a), none]) (by decide +kernel) (Nat.le_of_ble_eq_true rfl) rfl ?_
  intro Z htb
  refine z_rng fun hr => ?_
  have hh := z_BI_h hb
  refine z_aloadn dX6_findBest_0 rfl ?_
  refine gX6_36 rfl dX6_findBest_1 ?_
  refine z_iconst dX6_findBest_4 ?_
  refine kX6_130 (tJ7_fill_53178 (ix := fun p => p) (n := 12) (by rfl) (Or.inl (by decide)) (by decide) (by decide)) rfl ⟨(Nat.le_of_ble_eq_true rfl), (Nat.le_of_ble_eq_true rfl)⟩ (Nat.le_of_ble_eq_true rfl) dX6_findBest_5 ?_
  refine z_rng fun hr => ?_
  refine z_iconst dX6_findBest_8 ?_
  refine z_istoren_2 dX6_findBest_9 (Nat.le_of_ble_eq_true rfl) rfl ?_
  refine z_mem (M' := z_fbM M g a 0) (by show z_sR M 16 (z_fl (fun p => p) (M 16) (-1) 12) = z_sR M 16 (z_cp (M 16) (fun _ => -1) 0 0 12); rw [z_fl_cp0]; rfl) ?_
  refine z_upn (P := fun i : Nat => z_J G Z _ _ 10 [some (.ref (z_ad G 0 20)), some (z_I a), some (z_I i)] [] (z_fbM M g a i) 0 0) (M g 1).toNat ?_ ?_
  · refine z_rng fun hr => ?_
    have y_ag : z_fbM M g a (M g 1).toNat g = M g := z_fbM_row M g a (by omega) _
    have y_an : z_fbM M g a (M g 1).toNat 7 2 = (g : Int) := (z_fbM_7 M g a (by decide) _).trans hn
    refine z_iloadn dX6_findBest_10 rfl ?_
    refine z_aloadn dX6_findBest_11 rfl ?_
    refine gX6_44 (by first | exact hn | exact y_an | exact y_dn) rfl dX6_findBest_12 ?_
    refine gX6_121 hg rfl dX6_findBest_15 ?_
    refine gX6_136 hg rfl dX6_findBest_18 ?_
    refine z_top (v' := M g 1) (by rw [y_ag]) ?_
    refine z_icmp_ge (tgt := 64) (by omega) (by omega) dX6_findBest_21 (by decide) (fun h21 => ?_) (fun h21 => ?_)
    · exact z_vret dX6_findBest_64 rfl
    · exfalso; omega
  · intro i hi y_ih
    have y_s : z_fbM M g a (i + 1) = if M g (86 + 5 * (i : Int) + 2) = 3 then z_pfM (z_dRM (z_fbM M g a i) g i a) g i else (z_fbM M g a i) := rfl
    have y_ag : (z_fbM M g a i) g = M g := z_fbM_row M g a (by omega) i
    have y_an : (z_fbM M g a i) 7 2 = (g : Int) := (z_fbM_7 M g a (by decide) i).trans hn
    obtain ⟨A, y_A⟩ : ∃ A, (z_fbM M g a i) = A := ⟨_, rfl⟩
    rw [y_A] at y_s y_ag y_an ⊢
    have y_f : z_cF (A g) i := by rw [y_ag]; exact z_BI_cF hb (by omega) (by omega)
    have y_4 : z_p4c (A g) i := by rw [y_ag]; exact z_BI_p4c hb (by omega) (by omega)
    have y_e := z_BI_ebd hb
    have y_k := z_BI_K hb i (by omega) (by omega)
    unfold z_KI at y_k
    refine z_rng fun hr => ?_
    refine z_iloadn dX6_findBest_10 rfl ?_
    refine z_aloadn dX6_findBest_11 rfl ?_
    refine gX6_44 (by first | exact hn | exact y_an | exact y_dn) rfl dX6_findBest_12 ?_
    refine gX6_121 hg rfl dX6_findBest_15 ?_
    refine gX6_136 hg rfl dX6_findBest_18 ?_
    refine z_top (v' := M g 1) (by rw [y_ag]) ?_
    refine z_icmp_ge (tgt := 64) (by omega) (by omega) dX6_findBest_21 (by decide) (fun h21 => ?_) (fun h21 => ?_)
    · exfalso; omega
    · refine z_aloadn dX6_findBest_24 rfl ?_
      refine gX6_44 (by first | exact hn | exact y_an | exact y_dn) rfl dX6_findBest_25 ?_
      refine gX6_121 hg rfl dX6_findBest_28 ?_
      refine gX6_161 hg rfl dX6_findBest_31 ?_
      refine z_iloadn dX6_findBest_34 rfl ?_
      refine z_iald (by rfl) (by first | exact Or.inl (by decide) | exact Or.inl (Or.inl ⟨by decide, hg⟩)) (by omega) (by omega) (by decide) dX6_findBest_35 ?_
      refine z_top (v' := M g (86 + 5 * (i : Int) + 2)) (by rw [y_ag]) ?_
      refine z_iconst dX6_findBest_36 ?_
      refine z_icmp_ne (tgt := 58) (by omega) (by decide) dX6_findBest_37 (by decide) (fun h37 => ?_) (fun h37 => ?_)
      · refine z_iinc_2 dX6_findBest_58 (Nat.le_of_ble_eq_true rfl) rfl ?_
        refine z_goto (tgt := 10) dX6_findBest_61 (by decide) ?_
        first
          | (rw [y_s, if_pos (by omega)] at y_ih; exact y_ih)
          | (rw [y_s, if_neg (by omega)] at y_ih; exact y_ih)
      · refine z_aloadn dX6_findBest_40 rfl ?_
        refine gX6_25 rfl dX6_findBest_41 ?_
        refine z_aloadn dX6_findBest_44 rfl ?_
        refine gX6_44 (by first | exact hn | exact y_an | exact y_dn) rfl dX6_findBest_45 ?_
        refine z_iloadn dX6_findBest_48 rfl ?_
        refine z_iloadn dX6_findBest_49 rfl ?_
        refine z_mem (M' := z_d3 A (A 7) (A 10) (A 11)) (z_d3_id A) ?_
        refine kX6_210 (tX0_divideRoyalty hg (by omega) (by omega) a0 a1 y_f y_4) rfl ⟨(Nat.le_of_ble_eq_true rfl), (Nat.le_of_ble_eq_true rfl)⟩ (Nat.le_of_ble_eq_true rfl) dX6_findBest_50 ?_
        have y_D : z_dR A g i a (A 7) (A 10) (A 11) = z_dRM A g i a := rfl
        rw [y_D]
        have y_bd := z_dRM_bd a0 a1 y_f y_4
        have y_dg : z_dRM A g i a g = M g := (z_dRM_row (by omega)).trans y_ag
        have y_dn : z_dRM A g i a 7 2 = (g : Int) := (z_dRM_7 (by decide)).trans y_an
        obtain ⟨D, y_DD⟩ : ∃ D, z_dRM A g i a = D := ⟨_, rfl⟩
        rw [y_DD] at y_s y_bd y_dg y_dn ⊢
        refine z_rng fun hr => ?_
        refine z_aloadn dX6_findBest_53 rfl ?_
        refine z_iloadn dX6_findBest_54 rfl ?_
        refine kX6_368 (tX6_preferIfBetter (B := 100000000) hg y_dn (by omega) (by rw [y_dg]; exact y_e) (by decide) (by rw [y_dg]; exact hh.2.1) y_bd.2.2.1 y_bd.2.2.2.1 y_bd.2.2.2.2) rfl ⟨(Nat.le_of_ble_eq_true rfl), (Nat.le_of_ble_eq_true rfl)⟩ (Nat.le_of_ble_eq_true rfl) dX6_findBest_55 ?_
        refine z_rng fun hr => ?_
        refine z_iinc_2 dX6_findBest_58 (Nat.le_of_ble_eq_true rfl) rfl ?_
        refine z_goto (tgt := 10) dX6_findBest_61 (by decide) ?_
        first
          | (rw [y_s, if_pos (by omega)] at y_ih; exact y_ih)
          | (rw [y_s, if_neg (by omega)] at y_ih; exact y_ih)
