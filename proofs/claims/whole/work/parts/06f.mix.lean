/-! ===== the class: spread, digest ===== -/
section ZTL
variable {G : z_G} {Z : z_Z} {d : z_Md} {Q : State → Prop} {pc : Nat} {ls : List (Option Value)} {st : List Value} {M : z_M} {k n : Nat}
theorem z_topL {x : Int64} {m : Int} (e : x = Int64.ofInt m) (kk : z_J G Z d Q pc ls (z_L m :: st) M k n) : z_J G Z d Q pc ls (.long x :: st) M k n := by
  subst e
  exact kk
theorem z_topLL {v v' : Int} (e : v = v') (kk : z_J G Z d Q pc ls (z_L v' :: st) M k n) : z_J G Z d Q pc ls (z_L v :: st) M k n := e ▸ kk
theorem z_topD {v v' : UInt64} (e : v = v') (kk : z_J G Z d Q pc ls (.double v' :: st) M k n) : z_J G Z d Q pc ls (.double v :: st) M k n := e ▸ kk
end ZTL
def z_hqR (b : Int → Int) (k : Int) (R : Int → Int) (h : Int) : Nat → Int
  | 0 => h
  | p + 1 => 31 * z_hm (fun w => z_iw (z_bv b k p w)) (z_hqR b k R h p) 3 + z_iw (R p)
def z_hpR (b R : Int → Int) (p h : Int) : Int := 31 * z_hm (fun w => z_iw (z_pnv b p w)) h 9 + z_iw (R p)
def z_hpsR (b R : Int → Int) (h : Int) : Nat → Int
  | 0 => h
  | p + 1 => z_hpR b R p (z_hpsR b R h p)
def z_fis (M : z_M) (g : Nat) : Nat → z_M
  | 0 => M
  | k + 1 => z_fiM (z_fis M g k) g k
def z_hmp (M : z_M) (g : Nat) (k h : Int) : Int := z_hqR (M g) k (z_fiM M g k 12) (z_h1 (M g) k h) (M g 0).toNat
def z_hksR (M : z_M) (g : Nat) (h : Int) : Nat → Int
  | 0 => h
  | k + 1 => z_hmp (z_fis M g k) g k (z_hksR M g h k)
theorem z_fis_row (M : z_M) (g : Nat) {r : Nat} (h : r ≠ 7 ∧ r ≠ 12 ∧ r ≠ 13 ∧ r ≠ 14 ∧ r ≠ 15) (n : Nat) : z_fis M g n r = M r := by
  induction n with
  | zero => rfl
  | succ n ih => exact (z_fiM_row h).trans ih
theorem z_fis_7 (M : z_M) (g : Nat) {i : Int} (h : i ≠ 12 ∧ i ≠ 13) (n : Nat) : z_fis M g n 7 i = M 7 i := by
  induction n with
  | zero => rfl
  | succ n ih => exact (z_fiM_7 h).trans ih
/-- what the class's digest answers, and leaves -/
def z_dcA (M : z_M) (g : Nat) : z_M := z_fbM M g 100 (M g 1).toNat
def z_dcM (M : z_M) (g : Nat) : z_M := z_fis (z_dcA M g) g (M g 1).toNat
def z_dch (M : z_M) (g : Nat) : Int := z_hksR (z_dcA M g) g (z_hpsR (M g) (z_dcA M g 16) (z_hcs (M g) (M 7 1)) (M g 0).toNat) (M g 1).toNat
def z_dcall (M : z_M) (g : Nat) : Int := 31 * z_dch M g + (z_spd (M g)).toInt64.toInt
def z_dcV (M : z_M) (g : Nat) : Int := z_hm (fun i => z_iw (M 8 i)) (31 * z_dcall M g + z_iw (M 7 3)) (M 7 3).toNat
theorem z_dcA_row (M : z_M) (g : Nat) {r : Nat} (h : r < 7 ∨ r = 8 ∨ r = 9 ∨ 18 ≤ r) : z_dcA M g r = M r := z_fbM_row M g 100 (by omega) _
theorem z_dcA_7 (M : z_M) (g : Nat) {i : Int} (h : i < 8 ∨ 12 ≤ i) : z_dcA M g 7 i = M 7 i := z_fbM_7 M g 100 h _
theorem z_dcM_row (M : z_M) (g : Nat) {r : Nat} (h : r < 7 ∨ r = 8 ∨ r = 9 ∨ 18 ≤ r) : z_dcM M g r = M r := (z_fis_row _ g (by omega) _).trans (z_dcA_row M g h)
theorem z_dcM_7 (M : z_M) (g : Nat) {i : Int} (h : i < 8) : z_dcM M g 7 i = M 7 i := (z_fis_7 _ g (by omega) _).trans (z_dcA_7 M g (by omega))
theorem z_bsl : ∀ n : Nat, n < 1024 → (Int64.ofInt (n : Int)) <<< ((Int32.ofInt 52).toInt64 &&& 63) = Int64.ofInt ((n : Int) * 4503599627370496) := by decide +kernel
theorem z_bsl2 {x : Int} (x0 : 0 ≤ x) (x1 : x < 1024) : (Int64.ofInt x) <<< ((Int32.ofInt 52).toInt64 &&& 63) = Int64.ofInt (x * 4503599627370496) := by
  have h := z_bsl x.toNat (by omega)
  rwa [Int.toNat_of_nonneg x0] at h
theorem z_ab_n (x : Int) : 0 ≤ z_ab x := by unfold z_ab; split <;> omega
theorem z_ab_le {x y : Int} (hx : 0 ≤ x) (hy : 0 ≤ y) : z_ab (x - y) ≤ x + y := by unfold z_ab; split <;> omega
theorem z_spr_in {b : Int → Int} {B : Int} (hB : 0 ≤ B) : ∀ m : Nat, (∀ j : Nat, j < m → 0 ≤ b (14 + 6 * (j : Int))) → z_sm m (fun j => z_ab (B - b (14 + 6 * j))) ≤ m * B + z_sm m (fun p => b (14 + 6 * p + 0)) := by
  intro m
  induction m with
  | zero =>
    intro _
    show (0 : Int) ≤ ((0 : Nat) : Int) * B + 0
    rw [show ((0 : Nat) : Int) = 0 from rfl, Int.zero_mul]
    exact Int.le_refl _
  | succ m y_ih =>
    intro hj
    have h1 := y_ih (fun j h => hj j (by omega))
    have h2 := z_ab_le hB (hj m (by omega))
    rw [z_sm_s, z_sm_s, show ((m + 1 : Nat) : Int) = (m : Int) + 1 from rfl, Int.add_mul, Int.one_mul, Int.add_zero]
    omega
theorem z_spr_b {b : Int → Int} : ∀ n : Nat, (∀ j : Nat, j < n → 0 ≤ b (14 + 6 * (j : Int))) → 0 ≤ z_spr b n ∧ z_spr b n ≤ n * z_sm n (fun p => b (14 + 6 * p + 0)) := by
  intro n
  induction n with
  | zero =>
    intro _
    refine ⟨Int.le_refl _, ?_⟩
    show (0 : Int) ≤ ((0 : Nat) : Int) * 0
    exact Int.le_refl _
  | succ n y_ih =>
    intro hj
    have h1 := y_ih (fun j h => hj j (by omega))
    have h2 := z_spr_in (b := b) (hj n (by omega)) n (fun j h => hj j (by omega))
    have h3 : 0 ≤ z_sm n (fun j => z_ab (b (14 + 6 * (n : Int)) - b (14 + 6 * j))) := z_sm_nn (fun i _ => z_ab_n _)
    have h4 := hj n (by omega)
    have e1 : z_spr b (n + 1) = z_spr b n + z_sm n (fun j => z_ab (b (14 + 6 * (n : Int)) - b (14 + 6 * j))) := rfl
    rw [e1, z_sm_s, Int.add_zero, show ((n + 1 : Nat) : Int) = (n : Int) + 1 from rfl, Int.add_mul, Int.one_mul, Int.mul_add]
    omega
/-- the part that goes for the spread's double -/
theorem z_spd_bok {b : Int → Int} {N : Int} (hb : z_BI b N) : z_spd b = FP.dconst0 ∨ ∃ e m, z_bok (z_spd b) e m := by
  have hs := z_sumOf_0 hb
  have hh := z_BI_h hb
  have h1 := z_spr_b (b := b) (b 0).toNat (fun j hj => (z_BI_bal hb (p := j) (by omega) (by omega)).1)
  have hm := z_mb (show 0 ≤ b 0 by omega) (show b 0 ≤ 12 by omega) hs.1 hs.2
  change _ ∧ _ ≤ (((b 0).toNat : Nat) : Int) * z_sumOf b 0 at h1
  rw [Int.toNat_of_nonneg (by omega)] at h1
  unfold z_spd
  split
  · exact Or.inl rfl
  · rename_i y_e
    have n0 : b 0 ≠ 0 := fun e0 => y_e (by unfold z_sumOf; rw [e0]; rfl)
    have hp : 0 < b 0 * z_sumOf b 0 := Int.mul_pos (by omega) (by omega)
    by_cases e0 : z_spr b (b 0).toNat = 0
    · rw [e0]
      exact Or.inl (z_dwf0 hp (by omega))
    · exact Or.inr (z_bokq (by omega) h1.2 (by omega))
theorem tX6_spread {G : z_G} {M : z_M} {g : Nat} {N : Int} (hg : g < 7) (hn : M 7 2 = (g : Int)) (hb : z_BI (M g) N) : KX6_spread G [.ref (z_ad G 0 20)] M (.inl (some (.double (z_spd (M g))))) M := by
  refine z_con (ls := [some (.ref (z_ad G 0 20)), none]) (by decide +kernel) (Nat.le_of_ble_eq_true rfl) rfl ?_
  intro Z htb
  refine z_rng fun hr => ?_
  have hh := z_BI_h hb
  have y_s := z_sumOf_0 hb
  have y_s12 : z_sm 12 (fun p => M g (14 + 6 * p)) = z_sumOf (M g) 0 := (z_sm_eq (fun i _ => by show M g _ = M g _; rw [Int.add_zero])).trans (z_sumOf_12 (w := 0) hb (by omega))
  refine z_aloadn dX6_spread_0 rfl ?_
  refine gX6_44 hn rfl dX6_spread_1 ?_
  refine gX6_48 hg rfl dX6_spread_4 ?_
  refine gX6_85 hg rfl dX6_spread_7 ?_
  refine kX6_279 (tX6_sum (n := 12) (ix := fun p => 14 + 6 * p) (by rfl) (Or.inl ⟨by decide, hg⟩) (by decide)) rfl ⟨(Nat.le_of_ble_eq_true rfl), (Nat.le_of_ble_eq_true rfl)⟩ (Nat.le_of_ble_eq_true rfl) dX6_spread_10 ?_
  refine z_top (v' := z_sumOf (M g) 0) y_s12 ?_
  refine z_istoren_1 dX6_spread_13 (Nat.le_of_ble_eq_true rfl) rfl ?_
  refine z_iloadn dX6_spread_14 rfl ?_
  refine z_if_ne (tgt := 20) (by first | (exact hr _ _ (by decide)) | (exact hr _ _ (by omega)) | omega) dX6_spread_15 (by decide) (fun h15 => ?_) (fun h15 => ?_)
  · have y_n : 0 < M g 0 := by
      rcases Int.lt_or_le 0 (M g 0) with h | h
      · exact h
      · exact absurd (show z_sumOf (M g) 0 = 0 by unfold z_sumOf; rw [show (M g 0).toNat = 0 by omega]; rfl) h15
    have y_mm := z_mb (show 0 ≤ M g 0 by omega) (show M g 0 ≤ 12 by omega) y_s.1 y_s.2
    have y_mp : 0 < M g 0 * z_sumOf (M g) 0 := Int.mul_pos y_n (by omega)
    refine z_aloadn dX6_spread_20 rfl ?_
    refine gX6_44 hn rfl dX6_spread_21 ?_
    refine gX6_48 hg rfl dX6_spread_24 ?_
    refine kX6_300 hg (tX3_differences hg hb) rfl ⟨(Nat.le_of_ble_eq_true rfl), (Nat.le_of_ble_eq_true rfl)⟩ (Nat.le_of_ble_eq_true rfl) dX6_spread_27 ?_
    refine z_i2d dX6_spread_30 ?_
    refine z_aloadn dX6_spread_31 rfl ?_
    refine gX6_44 hn rfl dX6_spread_32 ?_
    refine gX6_48 hg rfl dX6_spread_35 ?_
    refine gX6_52 hg rfl dX6_spread_38 ?_
    refine z_i2d dX6_spread_41 ?_
    refine z_iloadn dX6_spread_42 rfl ?_
    refine z_i2d dX6_spread_43 ?_
    refine z_dmul (by rw [z_fmul y_n (by omega) (by omega) (by omega) (by omega)]; exact z_fi2d _) dX6_spread_44 ?_
    refine z_topD (z_fmul y_n (by omega) (by omega) (by omega) (by omega)) ?_
    refine z_ddiv (z_fdiv y_mp (by omega)) dX6_spread_45 ?_
    exact z_dret dX6_spread_46 (by unfold z_spd; first | rw [if_pos h15] | (rw [if_neg h15, z_dif_spr])) rfl
  · refine z_dconst0 dX6_spread_18 ?_
    exact z_dret dX6_spread_19 (by unfold z_spd; first | rw [if_pos h15] | (rw [if_neg h15, z_dif_spr])) rfl
theorem tX6_mix {G : z_G} {M : z_M} {h v : Int} : KX6_mix G [z_L h, z_L v] M (.inl (some (z_L (31 * h + v)))) M := by
  refine z_con (ls := [some (z_L h), none, some (z_L v), none]) (by decide +kernel) (Nat.le_of_ble_eq_true rfl) rfl ?_
  intro Z htb
  refine z_rng fun hr => ?_
  refine z_ldc2 (i := 31) wk_X6_381 dX6_mix_0 ?_
  refine z_lloadn dX6_mix_3 rfl ?_
  refine z_lmul dX6_mix_4 ?_
  refine z_lloadn dX6_mix_5 rfl ?_
  refine z_ladd dX6_mix_6 ?_
  exact z_lret dX6_mix_7 rfl rfl
theorem tX6_mixPen {G : z_G} {M : z_M} {g : Nat} {N : Int} (hg : g < 7) (hn : M 7 2 = (g : Int)) (hb : z_BI (M g) N) {p h : Int} (p0 : 0 ≤ p) (p1 : p < M g 0) : KX6_mixPen G [.ref (z_ad G 0 20), z_L h, z_I p] M (.inl (some (z_L (z_hpR (M g) (M 16) p h)))) M := by
  refine z_con (ls := [some (.ref (z_ad G 0 20)), some (z_L h), none, some (z_I p), none, none, none]) (by decide +kernel) (Nat.le_of_ble_eq_true rfl) rfl ?_
  intro Z htb
  refine z_rng fun hr => ?_
  have hh := z_BI_h hb
  refine z_lloadn dX6_mixPen_0 rfl ?_
  refine z_lstore_4 dX6_mixPen_1 (Nat.le_of_ble_eq_true rfl) rfl ?_
  refine z_iconst dX6_mixPen_3 ?_
  refine z_istore_6 dX6_mixPen_4 (Nat.le_of_ble_eq_true rfl) rfl ?_
  refine z_upn (P := fun i : Nat => z_J G Z _ _ 6 [some (.ref (z_ad G 0 20)), some (z_L h), none, some (z_I p), some (z_L (z_hm (fun w => z_iw (z_pnv (M g) p w)) h i)), none, some (z_I i)] [] M 0 0) 9 ?_ ?_
  · refine z_rng fun hr => ?_
    refine z_iload dX6_mixPen_6 rfl ?_
    refine z_bipush dX6_mixPen_8 (by decide) ?_
    refine z_icmp_ge (tgt := 34) (by first | (exact hr _ _ (by decide)) | (exact hr _ _ (by omega)) | omega) (by first | (exact hr _ _ (by decide)) | (exact hr _ _ (by omega)) | omega) dX6_mixPen_10 (by decide) (fun h10 => ?_) (fun h10 => ?_)
    · refine z_lload dX6_mixPen_34 rfl ?_
      refine z_aloadn dX6_mixPen_36 rfl ?_
      refine gX6_36 rfl dX6_mixPen_37 ?_
      refine z_iloadn dX6_mixPen_40 rfl ?_
      refine z_iald (by rfl) (by first | decide | exact Or.inl ⟨by decide, hg⟩) (by omega) (by omega) (by decide) dX6_mixPen_41 ?_
      refine z_topI rfl ?_
      refine z_i2l (z_iw_rg _) dX6_mixPen_42 ?_
      refine kX6_308 tX6_mix rfl ⟨(Nat.le_of_ble_eq_true rfl), (Nat.le_of_ble_eq_true rfl)⟩ (Nat.le_of_ble_eq_true rfl) dX6_mixPen_43 ?_
      exact z_lret dX6_mixPen_46 rfl rfl
    · exfalso; omega
  · intro i hi y_ih
    refine z_rng fun hr => ?_
    refine z_iload dX6_mixPen_6 rfl ?_
    refine z_bipush dX6_mixPen_8 (by decide) ?_
    refine z_icmp_ge (tgt := 34) (by first | (exact hr _ _ (by decide)) | (exact hr _ _ (by omega)) | omega) (by first | (exact hr _ _ (by decide)) | (exact hr _ _ (by omega)) | omega) dX6_mixPen_10 (by decide) (fun h10 => ?_) (fun h10 => ?_)
    · exfalso; omega
    · refine z_lload dX6_mixPen_13 rfl ?_
      refine z_aloadn dX6_mixPen_15 rfl ?_
      refine z_iloadn dX6_mixPen_16 rfl ?_
      refine z_iload dX6_mixPen_17 rfl ?_
      refine kX6_371 (tX6_pen hg hn hb (by omega) (by omega) (by unfold z_c_pen; (repeat' split) <;> first | rfl | (exfalso; omega))) rfl ⟨(Nat.le_of_ble_eq_true rfl), (Nat.le_of_ble_eq_true rfl)⟩ (Nat.le_of_ble_eq_true rfl) dX6_mixPen_19 ?_
      refine z_topI rfl ?_
      refine z_i2l (z_iw_rg _) dX6_mixPen_22 ?_
      refine kX6_308 tX6_mix rfl ⟨(Nat.le_of_ble_eq_true rfl), (Nat.le_of_ble_eq_true rfl)⟩ (Nat.le_of_ble_eq_true rfl) dX6_mixPen_23 ?_
      refine z_lstore_4 dX6_mixPen_26 (Nat.le_of_ble_eq_true rfl) rfl ?_
      refine z_iinc_6 dX6_mixPen_28 (Nat.le_of_ble_eq_true rfl) rfl ?_
      refine z_goto (tgt := 6) dX6_mixPen_31 (by decide) ?_
      exact y_ih
theorem tX6_mixPiece {G : z_G} {M : z_M} {g : Nat} {N : Int} (hg : g < 7) (hn : M 7 2 = (g : Int)) (hb : z_BI (M g) N) {k h : Int} (k0 : 0 ≤ k) (k1 : k < M g 1) : KX6_mixPiece G [.ref (z_ad G 0 20), z_L h, z_I k] M (.inl (some (z_L (z_hmp M g k h)))) (z_fiM M g k) := by
  refine z_con (ls := [some (.ref (z_ad G 0 20)), some (z_L h), none, some (z_I k), none, none, none, none]) (by decide +kernel) (Nat.le_of_ble_eq_true rfl) rfl ?_
  intro Z htb
  refine z_rng fun hr => ?_
  have hh := z_BI_h hb
  refine z_lloadn dX6_mixPiece_0 rfl ?_
  refine z_lstore_4 dX6_mixPiece_1 (Nat.le_of_ble_eq_true rfl) rfl ?_
  refine z_iconst dX6_mixPiece_3 ?_
  refine z_istore_6 dX6_mixPiece_4 (Nat.le_of_ble_eq_true rfl) rfl ?_
  refine z_upn (P := fun i : Nat => z_J G Z _ _ 6 [some (.ref (z_ad G 0 20)), some (z_L h), none, some (z_I k), some (z_L (z_hm (fun w => z_iw (z_kv (M g) k w)) h i)), none, some (z_I i), none] [] M 0 0) 10 ?_ ?_
  · refine z_rng fun hr => ?_
    refine z_iload dX6_mixPiece_6 rfl ?_
    refine z_bipush dX6_mixPiece_8 (by decide) ?_
    refine z_icmp_ge (tgt := 34) (by first | (exact hr _ _ (by decide)) | (exact hr _ _ (by omega)) | omega) (by first | (exact hr _ _ (by decide)) | (exact hr _ _ (by omega)) | omega) dX6_mixPiece_10 (by decide) (fun h10 => ?_) (fun h10 => ?_)
    · refine z_aloadn dX6_mixPiece_34 rfl ?_
      refine gX6_32 rfl dX6_mixPiece_35 ?_
      refine z_aloadn dX6_mixPiece_38 rfl ?_
      refine gX6_44 (by first | exact hn | exact y_An) rfl dX6_mixPiece_39 ?_
      refine gX6_121 hg rfl dX6_mixPiece_42 ?_
      refine z_iloadn dX6_mixPiece_45 rfl ?_
      refine kX6_292 (tX1_find hg hb (by omega) (by omega)) rfl ⟨(Nat.le_of_ble_eq_true rfl), (Nat.le_of_ble_eq_true rfl)⟩ (Nat.le_of_ble_eq_true rfl) dX6_mixPiece_46 ?_
      have y_Ag : z_fiM M g k g = M g := z_fiM_row (by omega)
      have y_An : z_fiM M g k 7 2 = (g : Int) := (z_fiM_7 (by decide)).trans hn
      obtain ⟨A, y_A⟩ : ∃ A, z_fiM M g k = A := ⟨_, rfl⟩
      have y_V : z_hmp M g k h = z_hqR (M g) k (A 12) (z_h1 (M g) k h) (M g 0).toNat := by rw [← y_A]; rfl
      rw [y_A] at y_Ag y_An ⊢
      rw [y_V]
      have y_hb : z_BI (A g) N := by rw [y_Ag]; exact hb
      refine z_rng fun hr => ?_
      refine z_iconst dX6_mixPiece_49 ?_
      refine z_istore_6 dX6_mixPiece_50 (Nat.le_of_ble_eq_true rfl) rfl ?_
      refine z_upn (P := fun p : Nat => z_J G Z _ _ 52 [some (.ref (z_ad G 0 20)), some (z_L h), none, some (z_I k), some (z_L (z_hqR (M g) k (A 12) (z_h1 (M g) k h) p)), none, some (z_I p), none] [] A 0 0) (M g 0).toNat ?_ ?_
      · refine z_rng fun hr => ?_
        refine z_iload dX6_mixPiece_52 rfl ?_
        refine z_aloadn dX6_mixPiece_54 rfl ?_
        refine gX6_44 (by first | exact hn | exact y_An) rfl dX6_mixPiece_55 ?_
        refine gX6_48 hg rfl dX6_mixPiece_58 ?_
        refine gX6_52 hg rfl dX6_mixPiece_61 ?_
        refine z_top (v' := M g 0) (by rw [y_Ag]) ?_
        refine z_icmp_ge (tgt := 123) (by omega) (by omega) dX6_mixPiece_64 (by decide) (fun h64 => ?_) (fun h64 => ?_)
        · refine z_lload dX6_mixPiece_123 rfl ?_
          exact z_lret dX6_mixPiece_125 rfl rfl
        · exfalso; omega
      · intro p hp y_ph
        refine z_rng fun hr => ?_
        obtain ⟨h2, y_h⟩ : ∃ h2, z_hqR (M g) k (A 12) (z_h1 (M g) k h) p = h2 := ⟨_, rfl⟩
        have y_s : z_hqR (M g) k (A 12) (z_h1 (M g) k h) (p + 1) = 31 * z_hm (fun w => z_iw (z_bv (M g) k p w)) h2 3 + z_iw (A 12 p) := by rw [← y_h]; rfl
        rw [y_h]
        refine z_iload dX6_mixPiece_52 rfl ?_
        refine z_aloadn dX6_mixPiece_54 rfl ?_
        refine gX6_44 (by first | exact hn | exact y_An) rfl dX6_mixPiece_55 ?_
        refine gX6_48 hg rfl dX6_mixPiece_58 ?_
        refine gX6_52 hg rfl dX6_mixPiece_61 ?_
        refine z_top (v' := M g 0) (by rw [y_Ag]) ?_
        refine z_icmp_ge (tgt := 123) (by omega) (by omega) dX6_mixPiece_64 (by decide) (fun h64 => ?_) (fun h64 => ?_)
        · exfalso; omega
        · refine z_iconst dX6_mixPiece_67 ?_
          refine z_istore_7 dX6_mixPiece_68 (Nat.le_of_ble_eq_true rfl) rfl ?_
          refine z_upn (P := fun i : Nat => z_J G Z _ _ 70 [some (.ref (z_ad G 0 20)), some (z_L h), none, some (z_I k), some (z_L (z_hm (fun w => z_iw (z_bv (M g) k p w)) h2 i)), none, some (z_I p), some (z_I i)] [] A 0 0) 3 ?_ ?_
          · refine z_rng fun hr => ?_
            refine z_iload dX6_mixPiece_70 rfl ?_
            refine z_iconst dX6_mixPiece_72 ?_
            refine z_icmp_ge (tgt := 99) (by first | (exact hr _ _ (by decide)) | (exact hr _ _ (by omega)) | omega) (by first | (exact hr _ _ (by decide)) | (exact hr _ _ (by omega)) | omega) dX6_mixPiece_73 (by decide) (fun h73 => ?_) (fun h73 => ?_)
            · refine z_lload dX6_mixPiece_99 rfl ?_
              refine z_aloadn dX6_mixPiece_101 rfl ?_
              refine gX6_32 rfl dX6_mixPiece_102 ?_
              refine gX6_296 rfl dX6_mixPiece_105 ?_
              refine z_iload dX6_mixPiece_108 rfl ?_
              refine z_iald (by rfl) (by first | decide | exact Or.inl ⟨by decide, hg⟩) (by omega) (by omega) (by decide) dX6_mixPiece_110 ?_
              refine z_topI rfl ?_
              refine z_i2l (z_iw_rg _) dX6_mixPiece_111 ?_
              refine kX6_308 tX6_mix rfl ⟨(Nat.le_of_ble_eq_true rfl), (Nat.le_of_ble_eq_true rfl)⟩ (Nat.le_of_ble_eq_true rfl) dX6_mixPiece_112 ?_
              refine z_lstore_4 dX6_mixPiece_115 (Nat.le_of_ble_eq_true rfl) rfl ?_
              refine z_iinc_6 dX6_mixPiece_117 (Nat.le_of_ble_eq_true rfl) rfl ?_
              refine z_goto (tgt := 52) dX6_mixPiece_120 (by decide) ?_
              refine z_fgt 7 ?_
              rw [y_s] at y_ph
              exact y_ph
            · exfalso; omega
          · intro i hi y_ih
            refine z_rng fun hr => ?_
            refine z_iload dX6_mixPiece_70 rfl ?_
            refine z_iconst dX6_mixPiece_72 ?_
            refine z_icmp_ge (tgt := 99) (by first | (exact hr _ _ (by decide)) | (exact hr _ _ (by omega)) | omega) (by first | (exact hr _ _ (by decide)) | (exact hr _ _ (by omega)) | omega) dX6_mixPiece_73 (by decide) (fun h73 => ?_) (fun h73 => ?_)
            · exfalso; omega
            · refine z_lload dX6_mixPiece_76 rfl ?_
              refine z_aloadn dX6_mixPiece_78 rfl ?_
              refine z_iloadn dX6_mixPiece_79 rfl ?_
              refine z_iload dX6_mixPiece_80 rfl ?_
              refine z_iload dX6_mixPiece_82 rfl ?_
              refine kX6_377 (tX6_between hg y_An y_hb (by omega) (by omega) (by omega) (by rw [y_Ag]; unfold z_c_between; (repeat' split) <;> first | rfl | (exfalso; omega))) rfl ⟨(Nat.le_of_ble_eq_true rfl), (Nat.le_of_ble_eq_true rfl)⟩ (Nat.le_of_ble_eq_true rfl) dX6_mixPiece_84 ?_
              refine z_topI (v' := z_bv (M g) k p i) (by rw [y_Ag]) ?_
              refine z_i2l (z_iw_rg _) dX6_mixPiece_87 ?_
              refine kX6_308 tX6_mix rfl ⟨(Nat.le_of_ble_eq_true rfl), (Nat.le_of_ble_eq_true rfl)⟩ (Nat.le_of_ble_eq_true rfl) dX6_mixPiece_88 ?_
              refine z_lstore_4 dX6_mixPiece_91 (Nat.le_of_ble_eq_true rfl) rfl ?_
              refine z_iinc_7 dX6_mixPiece_93 (Nat.le_of_ble_eq_true rfl) rfl ?_
              refine z_goto (tgt := 70) dX6_mixPiece_96 (by decide) ?_
              exact y_ih
    · exfalso; omega
  · intro i hi y_ih
    refine z_rng fun hr => ?_
    refine z_iload dX6_mixPiece_6 rfl ?_
    refine z_bipush dX6_mixPiece_8 (by decide) ?_
    refine z_icmp_ge (tgt := 34) (by first | (exact hr _ _ (by decide)) | (exact hr _ _ (by omega)) | omega) (by first | (exact hr _ _ (by decide)) | (exact hr _ _ (by omega)) | omega) dX6_mixPiece_10 (by decide) (fun h10 => ?_) (fun h10 => ?_)
    · exfalso; omega
    · refine z_lload dX6_mixPiece_13 rfl ?_
      refine z_aloadn dX6_mixPiece_15 rfl ?_
      refine z_iloadn dX6_mixPiece_16 rfl ?_
      refine z_iload dX6_mixPiece_17 rfl ?_
      refine kX6_374 (tX6_piece hg hn hb (by omega) (by omega) (by unfold z_c_piece; (repeat' split) <;> first | rfl | (exfalso; omega))) rfl ⟨(Nat.le_of_ble_eq_true rfl), (Nat.le_of_ble_eq_true rfl)⟩ (Nat.le_of_ble_eq_true rfl) dX6_mixPiece_19 ?_
      refine z_topI rfl ?_
      refine z_i2l (z_iw_rg _) dX6_mixPiece_22 ?_
      refine kX6_308 tX6_mix rfl ⟨(Nat.le_of_ble_eq_true rfl), (Nat.le_of_ble_eq_true rfl)⟩ (Nat.le_of_ble_eq_true rfl) dX6_mixPiece_23 ?_
      refine z_lstore_4 dX6_mixPiece_26 (Nat.le_of_ble_eq_true rfl) rfl ?_
      refine z_iinc_6 dX6_mixPiece_28 (Nat.le_of_ble_eq_true rfl) rfl ?_
      refine z_goto (tgt := 6) dX6_mixPiece_31 (by decide) ?_
      exact y_ih
