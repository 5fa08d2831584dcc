/-! ===== what the questions answer ===== -/
def z_owns (b : Int → Int) (p : Int) : Int := z_sm (b 0).toNat (fun i => if b (14 + 6 * i + 3) = p then 1 else 0)
def z_wrote (b : Int → Int) (p : Int) : Int := z_sm (b 1).toNat (fun k => b (186 + 12 * k + p))
def z_plc (b : Int → Int) (p : Int) : Int := z_sm (b 0).toNat (fun i => if b (14 + 6 * p) < b (14 + 6 * i) ∨ (b (14 + 6 * i) = b (14 + 6 * p) ∧ i < p) then 1 else 0)
def z_pnv (b : Int → Int) (p w : Int) : Int := if w ≤ 4 then b (14 + 6 * p + w) else if w = 5 then z_owns b p else if w = 6 then b (14 + 6 * p + 5) else if w = 7 then z_wrote b p else z_plc b p
def z_c_pen (b : Int → Int) (p w : Int) : Int := if ¬ (0 ≤ p ∧ p < b 0) then 1 else if ¬ (0 ≤ w ∧ w ≤ 8) then 2 else 0
def z_pwi (b : Int → Int) (k : Int) : Int := z_sm (b 0).toNat (fun p => if 0 < b (426 + 12 * k + p) then 1 else 0)
def z_wd (b : Int → Int) (k : Int) : Nat → Int
  | 0 => 0
  | n + 1 => if z_cd b k n then z_bor (z_wd b k n) n else z_wd b k n
theorem z_wd_nn (b : Int → Int) (k : Int) (n : Nat) : 0 ≤ z_wd b k n := by
  induction n with
  | zero => exact Int.le_refl _
  | succ n ih => unfold z_wd; split <;> first | exact z_bor_nn _ _ | exact ih
def z_kv (b : Int → Int) (k w : Int) : Int := if w ≤ 3 then b (86 + 5 * k + w) else if w = 4 then z_aD b k else if w = 5 then z_pwi b k else if w = 6 then z_aP b k else if w = 7 then b (86 + 5 * k + 4) else if w = 8 then z_kf b k else z_wd b k (b 0).toNat
def z_c_piece (b : Int → Int) (k w : Int) : Int := if ¬ (0 ≤ k ∧ k < b 1) then 1 else if ¬ (0 ≤ w ∧ w ≤ 9) then 2 else 0
def z_bv (b : Int → Int) (k p w : Int) : Int := if w = 0 then b (426 + 12 * k + p) else if w = 1 then b (186 + 12 * k + p) else b (666 + 12 * k + p)
def z_c_between (b : Int → Int) (k p w : Int) : Int := if ¬ (0 ≤ k ∧ k < b 1) ∨ ¬ (0 ≤ p ∧ p < b 0) then 1 else if ¬ (0 ≤ w ∧ w ≤ 2) then 2 else 0
def z_sumOf (b : Int → Int) (w : Int) : Int := z_sm (b 0).toNat (fun p => b (14 + 6 * p + w))
def z_stg (b : Int → Int) (s : Int) : Int := z_sm (b 1).toNat (fun k => if b (86 + 5 * k + 2) = s then 1 else 0)
def z_soldN (b : Int → Int) : Int := z_sm (b 0).toNat (fun p => if b (14 + 6 * p + 3) = p then 0 else 1)
def z_cv (b : Int → Int) (sv w : Int) : Int := if w ≤ 4 then b w else if w = 5 then z_sumOf b 0 else if w = 6 then z_sumOf b 1 else if w = 7 then b 5 else if w = 8 then z_stg b 3 else if w = 9 then z_stg b 4 else if w = 10 then b 6 else if w = 11 then z_soldN b else if w = 12 then b 7 else sv
def z_c_count (w : Int) : Int := if 0 ≤ w ∧ w ≤ 13 then 0 else 1
def z_c_setting (w : Int) : Int := if 0 ≤ w ∧ w ≤ 5 then 0 else 1
theorem tX7_owns {G : z_G} {M : z_M} {N p : Int} (hb : z_BI (M 22) N) (rp : z_rg p) : KX7_owns G [.ref (z_ad G 0 40), z_I p] M (.inl (some (z_I (z_owns (M 22) p)))) M := by
  refine z_con (ls := [some (.ref (z_ad G 0 40)), some (z_I p), none, none]) (by decide +kernel) (Nat.le_of_ble_eq_true rfl) rfl ?_
  intro Z htb
  refine z_rng fun hr => ?_
  have hh := z_BI_h hb
  refine z_iconst dX7_owns_0 ?_
  refine z_istoren_2 dX7_owns_1 (Nat.le_of_ble_eq_true rfl) rfl ?_
  refine z_iconst dX7_owns_2 ?_
  refine z_istoren_3 dX7_owns_3 (Nat.le_of_ble_eq_true rfl) rfl ?_
  refine z_upn (P := fun i : Nat => z_J G Z _ _ 4 [some (.ref (z_ad G 0 40)), some (z_I p), some (z_I (z_sm i (fun i => if M 22 (14 + 6 * i + 3) = p then 1 else 0))), some (z_I i)] [] M 0 0) (M 22 0).toNat ?_ ?_
  · refine z_rng fun hr => ?_
    refine z_iloadn dX7_owns_4 rfl ?_
    refine z_aloadn dX7_owns_5 rfl ?_
    refine gX7_7 rfl dX7_owns_6 ?_
    refine z_iconst dX7_owns_9 ?_
    refine z_iald (by rfl) (by first | decide | exact Or.inl ⟨by decide, hg⟩) (by omega) (by omega) (by decide) dX7_owns_10 ?_
    refine z_icmp_ge (tgt := 38) (by first | (exact hr _ _ (by decide)) | omega) (by first | (exact hr _ _ (by decide)) | omega) dX7_owns_11 (by decide) (fun h11 => ?_) (fun h11 => ?_)
    · refine z_iloadn dX7_owns_38 rfl ?_
      exact z_iret dX7_owns_39 (by first | rfl | omega) rfl
    · exfalso; omega
  · intro i hi y_ih
    refine z_rng fun hr => ?_
    refine z_iloadn dX7_owns_4 rfl ?_
    refine z_aloadn dX7_owns_5 rfl ?_
    refine gX7_7 rfl dX7_owns_6 ?_
    refine z_iconst dX7_owns_9 ?_
    refine z_iald (by rfl) (by first | decide | exact Or.inl ⟨by decide, hg⟩) (by omega) (by omega) (by decide) dX7_owns_10 ?_
    refine z_icmp_ge (tgt := 38) (by first | (exact hr _ _ (by decide)) | omega) (by first | (exact hr _ _ (by decide)) | omega) dX7_owns_11 (by decide) (fun h11 => ?_) (fun h11 => ?_)
    · exfalso; omega
    · refine z_iloadn dX7_owns_14 rfl ?_
      refine z_aloadn dX7_owns_15 rfl ?_
      refine z_iloadn dX7_owns_16 rfl ?_
      refine z_iconst dX7_owns_17 ?_
      refine kX7_61 (tX7_of (by omega) (by omega)) rfl ⟨(Nat.le_of_ble_eq_true rfl), (Nat.le_of_ble_eq_true rfl)⟩ (Nat.le_of_ble_eq_true rfl) dX7_owns_18 ?_
      refine z_iloadn dX7_owns_21 rfl ?_
      refine z_icmp_ne (tgt := 29) (by first | (exact hr _ _ (by decide)) | omega) (by first | (exact hr _ _ (by decide)) | omega) dX7_owns_22 (by decide) (fun h22 => ?_) (fun h22 => ?_)
      · refine z_iconst dX7_owns_29 ?_
        refine z_top (v' := if M 22 (14 + 6 * (i : Int) + 3) = p then 1 else 0) (by first | rw [if_pos (by omega)] | rw [if_neg (by omega)]) ?_
        refine z_iadd dX7_owns_30 ?_
        refine z_istoren_2 dX7_owns_31 (Nat.le_of_ble_eq_true rfl) rfl ?_
        refine z_iinc_3 dX7_owns_32 (Nat.le_of_ble_eq_true rfl) rfl ?_
        refine z_goto (tgt := 4) dX7_owns_35 (by decide) ?_
        exact y_ih
      · refine z_iconst dX7_owns_25 ?_
        refine z_goto (tgt := 30) dX7_owns_26 (by decide) ?_
        refine z_top (v' := if M 22 (14 + 6 * (i : Int) + 3) = p then 1 else 0) (by first | rw [if_pos (by omega)] | rw [if_neg (by omega)]) ?_
        refine z_iadd dX7_owns_30 ?_
        refine z_istoren_2 dX7_owns_31 (Nat.le_of_ble_eq_true rfl) rfl ?_
        refine z_iinc_3 dX7_owns_32 (Nat.le_of_ble_eq_true rfl) rfl ?_
        refine z_goto (tgt := 4) dX7_owns_35 (by decide) ?_
        exact y_ih
theorem tX7_wrote {G : z_G} {M : z_M} {N p : Int} (hb : z_BI (M 22) N) (p0 : 0 ≤ p) (p1 : p < 12) : KX7_wrote G [.ref (z_ad G 0 40), z_I p] M (.inl (some (z_I (z_wrote (M 22) p)))) M := by
  refine z_con (ls := [some (.ref (z_ad G 0 40)), some (z_I p), none, none]) (by decide +kernel) (Nat.le_of_ble_eq_true rfl) rfl ?_
  intro Z htb
  refine z_rng fun hr => ?_
  have hh := z_BI_h hb
  refine z_iconst dX7_wrote_0 ?_
  refine z_istoren_2 dX7_wrote_1 (Nat.le_of_ble_eq_true rfl) rfl ?_
  refine z_iconst dX7_wrote_2 ?_
  refine z_istoren_3 dX7_wrote_3 (Nat.le_of_ble_eq_true rfl) rfl ?_
  refine z_upn (P := fun i : Nat => z_J G Z _ _ 4 [some (.ref (z_ad G 0 40)), some (z_I p), some (z_I (z_sm i (fun k => M 22 (186 + 12 * k + p)))), some (z_I i)] [] M 0 0) (M 22 1).toNat ?_ ?_
  · refine z_rng fun hr => ?_
    refine z_iloadn dX7_wrote_4 rfl ?_
    refine z_aloadn dX7_wrote_5 rfl ?_
    refine gX7_7 rfl dX7_wrote_6 ?_
    refine z_iconst dX7_wrote_9 ?_
    refine z_iald (by rfl) (by first | decide | exact Or.inl ⟨by decide, hg⟩) (by omega) (by omega) (by decide) dX7_wrote_10 ?_
    refine z_icmp_ge (tgt := 29) (by first | (exact hr _ _ (by decide)) | omega) (by first | (exact hr _ _ (by decide)) | omega) dX7_wrote_11 (by decide) (fun h11 => ?_) (fun h11 => ?_)
    · refine z_iloadn dX7_wrote_29 rfl ?_
      exact z_iret dX7_wrote_30 (by first | rfl | omega) rfl
    · exfalso; omega
  · intro i hi y_ih
    refine z_rng fun hr => ?_
    refine z_iloadn dX7_wrote_4 rfl ?_
    refine z_aloadn dX7_wrote_5 rfl ?_
    refine gX7_7 rfl dX7_wrote_6 ?_
    refine z_iconst dX7_wrote_9 ?_
    refine z_iald (by rfl) (by first | decide | exact Or.inl ⟨by decide, hg⟩) (by omega) (by omega) (by decide) dX7_wrote_10 ?_
    refine z_icmp_ge (tgt := 29) (by first | (exact hr _ _ (by decide)) | omega) (by first | (exact hr _ _ (by decide)) | omega) dX7_wrote_11 (by decide) (fun h11 => ?_) (fun h11 => ?_)
    · exfalso; omega
    · refine z_iloadn dX7_wrote_14 rfl ?_
      refine z_aloadn dX7_wrote_15 rfl ?_
      refine z_iloadn dX7_wrote_16 rfl ?_
      refine z_iloadn dX7_wrote_17 rfl ?_
      refine kX7_163 (tX7_drafts (by omega) (by omega)) rfl ⟨(Nat.le_of_ble_eq_true rfl), (Nat.le_of_ble_eq_true rfl)⟩ (Nat.le_of_ble_eq_true rfl) dX7_wrote_18 ?_
      refine z_iadd dX7_wrote_21 ?_
      refine z_istoren_2 dX7_wrote_22 (Nat.le_of_ble_eq_true rfl) rfl ?_
      refine z_iinc_3 dX7_wrote_23 (Nat.le_of_ble_eq_true rfl) rfl ?_
      refine z_goto (tgt := 4) dX7_wrote_26 (by decide) ?_
      exact y_ih
theorem tX7_placeOf {G : z_G} {M : z_M} {N p : Int} (hb : z_BI (M 22) N) (p0 : 0 ≤ p) (p1 : p < 12) : KX7_placeOf G [.ref (z_ad G 0 40), z_I p] M (.inl (some (z_I (z_plc (M 22) p)))) M := by
  refine z_con (ls := [some (.ref (z_ad G 0 40)), some (z_I p), none, none]) (by decide +kernel) (Nat.le_of_ble_eq_true rfl) rfl ?_
  intro Z htb
  refine z_rng fun hr => ?_
  have hh := z_BI_h hb
  refine z_iconst dX7_placeOf_0 ?_
  refine z_istoren_2 dX7_placeOf_1 (Nat.le_of_ble_eq_true rfl) rfl ?_
  refine z_iconst dX7_placeOf_2 ?_
  refine z_istoren_3 dX7_placeOf_3 (Nat.le_of_ble_eq_true rfl) rfl ?_
  refine z_upn (P := fun i : Nat => z_J G Z _ _ 4 [some (.ref (z_ad G 0 40)), some (z_I p), some (z_I (z_sm i (fun i => if M 22 (14 + 6 * p) < M 22 (14 + 6 * i) ∨ (M 22 (14 + 6 * i) = M 22 (14 + 6 * p) ∧ i < p) then 1 else 0))), some (z_I i)] [] M 0 0) (M 22 0).toNat ?_ ?_
  · refine z_rng fun hr => ?_
    refine z_iloadn dX7_placeOf_4 rfl ?_
    refine z_aloadn dX7_placeOf_5 rfl ?_
    refine gX7_7 rfl dX7_placeOf_6 ?_
    refine z_iconst dX7_placeOf_9 ?_
    refine z_iald (by rfl) (by first | decide | exact Or.inl ⟨by decide, hg⟩) (by omega) (by omega) (by decide) dX7_placeOf_10 ?_
    refine z_icmp_ge (tgt := 63) (by first | (exact hr _ _ (by decide)) | omega) (by first | (exact hr _ _ (by decide)) | omega) dX7_placeOf_11 (by decide) (fun h11 => ?_) (fun h11 => ?_)
    · refine z_iloadn dX7_placeOf_63 rfl ?_
      exact z_iret dX7_placeOf_64 (by first | rfl | omega) rfl
    · exfalso; omega
  · intro i hi y_ih
    refine z_rng fun hr => ?_
    refine z_iloadn dX7_placeOf_4 rfl ?_
    refine z_aloadn dX7_placeOf_5 rfl ?_
    refine gX7_7 rfl dX7_placeOf_6 ?_
    refine z_iconst dX7_placeOf_9 ?_
    refine z_iald (by rfl) (by first | decide | exact Or.inl ⟨by decide, hg⟩) (by omega) (by omega) (by decide) dX7_placeOf_10 ?_
    refine z_icmp_ge (tgt := 63) (by first | (exact hr _ _ (by decide)) | omega) (by first | (exact hr _ _ (by decide)) | omega) dX7_placeOf_11 (by decide) (fun h11 => ?_) (fun h11 => ?_)
    · exfalso; omega
    · refine z_iloadn dX7_placeOf_14 rfl ?_
      refine z_aloadn dX7_placeOf_15 rfl ?_
      refine z_iloadn dX7_placeOf_16 rfl ?_
      refine z_iconst dX7_placeOf_17 ?_
      refine kX7_61 (tX7_of0 (by omega) (by omega)) rfl ⟨(Nat.le_of_ble_eq_true rfl), (Nat.le_of_ble_eq_true rfl)⟩ (Nat.le_of_ble_eq_true rfl) dX7_placeOf_18 ?_
      refine z_aloadn dX7_placeOf_21 rfl ?_
      refine z_iloadn dX7_placeOf_22 rfl ?_
      refine z_iconst dX7_placeOf_23 ?_
      refine kX7_61 (tX7_of0 (by omega) (by omega)) rfl ⟨(Nat.le_of_ble_eq_true rfl), (Nat.le_of_ble_eq_true rfl)⟩ (Nat.le_of_ble_eq_true rfl) dX7_placeOf_24 ?_
      refine z_icmp_gt (tgt := 50) (by first | (exact hr _ _ (by decide)) | omega) (by first | (exact hr _ _ (by decide)) | omega) dX7_placeOf_27 (by decide) (fun h27 => ?_) (fun h27 => ?_)
      · refine z_iconst dX7_placeOf_50 ?_
        refine z_goto (tgt := 55) dX7_placeOf_51 (by decide) ?_
        refine z_top (v' := if M 22 (14 + 6 * p) < M 22 (14 + 6 * (i : Int)) ∨ (M 22 (14 + 6 * (i : Int)) = M 22 (14 + 6 * p) ∧ (i : Int) < p) then 1 else 0) (by first | rw [if_pos (by omega)] | rw [if_neg (by omega)]) ?_
        refine z_iadd dX7_placeOf_55 ?_
        refine z_istoren_2 dX7_placeOf_56 (Nat.le_of_ble_eq_true rfl) rfl ?_
        refine z_iinc_3 dX7_placeOf_57 (Nat.le_of_ble_eq_true rfl) rfl ?_
        refine z_goto (tgt := 4) dX7_placeOf_60 (by decide) ?_
        exact y_ih
      · refine z_aloadn dX7_placeOf_30 rfl ?_
        refine z_iloadn dX7_placeOf_31 rfl ?_
        refine z_iconst dX7_placeOf_32 ?_
        refine kX7_61 (tX7_of0 (by omega) (by omega)) rfl ⟨(Nat.le_of_ble_eq_true rfl), (Nat.le_of_ble_eq_true rfl)⟩ (Nat.le_of_ble_eq_true rfl) dX7_placeOf_33 ?_
        refine z_aloadn dX7_placeOf_36 rfl ?_
        refine z_iloadn dX7_placeOf_37 rfl ?_
        refine z_iconst dX7_placeOf_38 ?_
        refine kX7_61 (tX7_of0 (by omega) (by omega)) rfl ⟨(Nat.le_of_ble_eq_true rfl), (Nat.le_of_ble_eq_true rfl)⟩ (Nat.le_of_ble_eq_true rfl) dX7_placeOf_39 ?_
        refine z_icmp_ne (tgt := 54) (by first | (exact hr _ _ (by decide)) | omega) (by first | (exact hr _ _ (by decide)) | omega) dX7_placeOf_42 (by decide) (fun h42 => ?_) (fun h42 => ?_)
        · refine z_iconst dX7_placeOf_54 ?_
          refine z_top (v' := if M 22 (14 + 6 * p) < M 22 (14 + 6 * (i : Int)) ∨ (M 22 (14 + 6 * (i : Int)) = M 22 (14 + 6 * p) ∧ (i : Int) < p) then 1 else 0) (by first | rw [if_pos (by omega)] | rw [if_neg (by omega)]) ?_
          refine z_iadd dX7_placeOf_55 ?_
          refine z_istoren_2 dX7_placeOf_56 (Nat.le_of_ble_eq_true rfl) rfl ?_
          refine z_iinc_3 dX7_placeOf_57 (Nat.le_of_ble_eq_true rfl) rfl ?_
          refine z_goto (tgt := 4) dX7_placeOf_60 (by decide) ?_
          exact y_ih
        · refine z_iloadn dX7_placeOf_45 rfl ?_
          refine z_iloadn dX7_placeOf_46 rfl ?_
          refine z_icmp_ge (tgt := 54) (by first | (exact hr _ _ (by decide)) | omega) (by first | (exact hr _ _ (by decide)) | omega) dX7_placeOf_47 (by decide) (fun h47 => ?_) (fun h47 => ?_)
          · refine z_iconst dX7_placeOf_54 ?_
            refine z_top (v' := if M 22 (14 + 6 * p) < M 22 (14 + 6 * (i : Int)) ∨ (M 22 (14 + 6 * (i : Int)) = M 22 (14 + 6 * p) ∧ (i : Int) < p) then 1 else 0) (by first | rw [if_pos (by omega)] | rw [if_neg (by omega)]) ?_
            refine z_iadd dX7_placeOf_55 ?_
            refine z_istoren_2 dX7_placeOf_56 (Nat.le_of_ble_eq_true rfl) rfl ?_
            refine z_iinc_3 dX7_placeOf_57 (Nat.le_of_ble_eq_true rfl) rfl ?_
            refine z_goto (tgt := 4) dX7_placeOf_60 (by decide) ?_
            exact y_ih
          · refine z_iconst dX7_placeOf_50 ?_
            refine z_goto (tgt := 55) dX7_placeOf_51 (by decide) ?_
            refine z_top (v' := if M 22 (14 + 6 * p) < M 22 (14 + 6 * (i : Int)) ∨ (M 22 (14 + 6 * (i : Int)) = M 22 (14 + 6 * p) ∧ (i : Int) < p) then 1 else 0) (by first | rw [if_pos (by omega)] | rw [if_neg (by omega)]) ?_
            refine z_iadd dX7_placeOf_55 ?_
            refine z_istoren_2 dX7_placeOf_56 (Nat.le_of_ble_eq_true rfl) rfl ?_
            refine z_iinc_3 dX7_placeOf_57 (Nat.le_of_ble_eq_true rfl) rfl ?_
            refine z_goto (tgt := 4) dX7_placeOf_60 (by decide) ?_
            exact y_ih
theorem tX7_pensWith {G : z_G} {M : z_M} {N k : Int} (hb : z_BI (M 22) N) (k0 : 0 ≤ k) (k1 : k < 20) : KX7_pensWith G [.ref (z_ad G 0 40), z_I k] M (.inl (some (z_I (z_pwi (M 22) k)))) M := by
  refine z_con (ls := [some (.ref (z_ad G 0 40)), some (z_I k), none, none]) (by decide +kernel) (Nat.le_of_ble_eq_true rfl) rfl ?_
  intro Z htb
  refine z_rng fun hr => ?_
  have hh := z_BI_h hb
  refine z_iconst dX7_pensWith_0 ?_
  refine z_istoren_2 dX7_pensWith_1 (Nat.le_of_ble_eq_true rfl) rfl ?_
  refine z_iconst dX7_pensWith_2 ?_
  refine z_istoren_3 dX7_pensWith_3 (Nat.le_of_ble_eq_true rfl) rfl ?_
  refine z_upn (P := fun i : Nat => z_J G Z _ _ 4 [some (.ref (z_ad G 0 40)), some (z_I k), some (z_I (z_sm i (fun p => if 0 < M 22 (426 + 12 * k + p) then 1 else 0))), some (z_I i)] [] M 0 0) (M 22 0).toNat ?_ ?_
  · refine z_rng fun hr => ?_
    refine z_iloadn dX7_pensWith_4 rfl ?_
    refine z_aloadn dX7_pensWith_5 rfl ?_
    refine gX7_7 rfl dX7_pensWith_6 ?_
    refine z_iconst dX7_pensWith_9 ?_
    refine z_iald (by rfl) (by first | decide | exact Or.inl ⟨by decide, hg⟩) (by omega) (by omega) (by decide) dX7_pensWith_10 ?_
    refine z_icmp_ge (tgt := 37) (by first | (exact hr _ _ (by decide)) | omega) (by first | (exact hr _ _ (by decide)) | omega) dX7_pensWith_11 (by decide) (fun h11 => ?_) (fun h11 => ?_)
    · refine z_iloadn dX7_pensWith_37 rfl ?_
      exact z_iret dX7_pensWith_38 (by first | rfl | omega) rfl
    · exfalso; omega
  · intro i hi y_ih
    refine z_rng fun hr => ?_
    refine z_iloadn dX7_pensWith_4 rfl ?_
    refine z_aloadn dX7_pensWith_5 rfl ?_
    refine gX7_7 rfl dX7_pensWith_6 ?_
    refine z_iconst dX7_pensWith_9 ?_
    refine z_iald (by rfl) (by first | decide | exact Or.inl ⟨by decide, hg⟩) (by omega) (by omega) (by decide) dX7_pensWith_10 ?_
    refine z_icmp_ge (tgt := 37) (by first | (exact hr _ _ (by decide)) | omega) (by first | (exact hr _ _ (by decide)) | omega) dX7_pensWith_11 (by decide) (fun h11 => ?_) (fun h11 => ?_)
    · exfalso; omega
    · refine z_iloadn dX7_pensWith_14 rfl ?_
      refine z_aloadn dX7_pensWith_15 rfl ?_
      refine z_iloadn dX7_pensWith_16 rfl ?_
      refine z_iloadn dX7_pensWith_17 rfl ?_
      refine kX7_143 (tX7_partsOf (by omega) (by omega)) rfl ⟨(Nat.le_of_ble_eq_true rfl), (Nat.le_of_ble_eq_true rfl)⟩ (Nat.le_of_ble_eq_true rfl) dX7_pensWith_18 ?_
      refine z_if_le (tgt := 28) (by first | (exact hr _ _ (by decide)) | omega) dX7_pensWith_21 (by decide) (fun h21 => ?_) (fun h21 => ?_)
      · refine z_iconst dX7_pensWith_28 ?_
        refine z_top (v' := if 0 < M 22 (426 + 12 * k + (i : Int)) then 1 else 0) (by first | rw [if_pos (by omega)] | rw [if_neg (by omega)]) ?_
        refine z_iadd dX7_pensWith_29 ?_
        refine z_istoren_2 dX7_pensWith_30 (Nat.le_of_ble_eq_true rfl) rfl ?_
        refine z_iinc_3 dX7_pensWith_31 (Nat.le_of_ble_eq_true rfl) rfl ?_
        refine z_goto (tgt := 4) dX7_pensWith_34 (by decide) ?_
        exact y_ih
      · refine z_iconst dX7_pensWith_24 ?_
        refine z_goto (tgt := 29) dX7_pensWith_25 (by decide) ?_
        refine z_top (v' := if 0 < M 22 (426 + 12 * k + (i : Int)) then 1 else 0) (by first | rw [if_pos (by omega)] | rw [if_neg (by omega)]) ?_
        refine z_iadd dX7_pensWith_29 ?_
        refine z_istoren_2 dX7_pensWith_30 (Nat.le_of_ble_eq_true rfl) rfl ?_
        refine z_iinc_3 dX7_pensWith_31 (Nat.le_of_ble_eq_true rfl) rfl ?_
        refine z_goto (tgt := 4) dX7_pensWith_34 (by decide) ?_
        exact y_ih
theorem tX7_sumOf {G : z_G} {M : z_M} {N w : Int} (hb : z_BI (M 22) N) (w0 : 0 ≤ w) (w1 : w < 6) : KX7_sumOf G [.ref (z_ad G 0 40), z_I w] M (.inl (some (z_I (z_sumOf (M 22) w)))) M := by
  refine z_con (ls := [some (.ref (z_ad G 0 40)), some (z_I w), none, none]) (by decide +kernel) (Nat.le_of_ble_eq_true rfl) rfl ?_
  intro Z htb
  refine z_rng fun hr => ?_
  have hh := z_BI_h hb
  refine z_iconst dX7_sumOf_0 ?_
  refine z_istoren_2 dX7_sumOf_1 (Nat.le_of_ble_eq_true rfl) rfl ?_
  refine z_iconst dX7_sumOf_2 ?_
  refine z_istoren_3 dX7_sumOf_3 (Nat.le_of_ble_eq_true rfl) rfl ?_
  refine z_upn (P := fun i : Nat => z_J G Z _ _ 4 [some (.ref (z_ad G 0 40)), some (z_I w), some (z_I (z_sm i (fun p => M 22 (14 + 6 * p + w)))), some (z_I i)] [] M 0 0) (M 22 0).toNat ?_ ?_
  · refine z_rng fun hr => ?_
    refine z_iloadn dX7_sumOf_4 rfl ?_
    refine z_aloadn dX7_sumOf_5 rfl ?_
    refine gX7_7 rfl dX7_sumOf_6 ?_
    refine z_iconst dX7_sumOf_9 ?_
    refine z_iald (by rfl) (by first | decide | exact Or.inl ⟨by decide, hg⟩) (by omega) (by omega) (by decide) dX7_sumOf_10 ?_
    refine z_icmp_ge (tgt := 29) (by first | (exact hr _ _ (by decide)) | omega) (by first | (exact hr _ _ (by decide)) | omega) dX7_sumOf_11 (by decide) (fun h11 => ?_) (fun h11 => ?_)
    · refine z_iloadn dX7_sumOf_29 rfl ?_
      exact z_iret dX7_sumOf_30 (by first | rfl | omega) rfl
    · exfalso; omega
  · intro i hi y_ih
    refine z_rng fun hr => ?_
    refine z_iloadn dX7_sumOf_4 rfl ?_
    refine z_aloadn dX7_sumOf_5 rfl ?_
    refine gX7_7 rfl dX7_sumOf_6 ?_
    refine z_iconst dX7_sumOf_9 ?_
    refine z_iald (by rfl) (by first | decide | exact Or.inl ⟨by decide, hg⟩) (by omega) (by omega) (by decide) dX7_sumOf_10 ?_
    refine z_icmp_ge (tgt := 29) (by first | (exact hr _ _ (by decide)) | omega) (by first | (exact hr _ _ (by decide)) | omega) dX7_sumOf_11 (by decide) (fun h11 => ?_) (fun h11 => ?_)
    · exfalso; omega
    · refine z_iloadn dX7_sumOf_14 rfl ?_
      refine z_aloadn dX7_sumOf_15 rfl ?_
      refine z_iloadn dX7_sumOf_16 rfl ?_
      refine z_iloadn dX7_sumOf_17 rfl ?_
      refine kX7_61 (tX7_of (by omega) (by omega)) rfl ⟨(Nat.le_of_ble_eq_true rfl), (Nat.le_of_ble_eq_true rfl)⟩ (Nat.le_of_ble_eq_true rfl) dX7_sumOf_18 ?_
      refine z_iadd dX7_sumOf_21 ?_
      refine z_istoren_2 dX7_sumOf_22 (Nat.le_of_ble_eq_true rfl) rfl ?_
      refine z_iinc_3 dX7_sumOf_23 (Nat.le_of_ble_eq_true rfl) rfl ?_
      refine z_goto (tgt := 4) dX7_sumOf_26 (by decide) ?_
      exact y_ih
theorem tX7_inStage {G : z_G} {M : z_M} {N s : Int} (hb : z_BI (M 22) N) (rs : z_rg s) : KX7_inStage G [.ref (z_ad G 0 40), z_I s] M (.inl (some (z_I (z_stg (M 22) s)))) M := by
  refine z_con (ls := [some (.ref (z_ad G 0 40)), some (z_I s), none, none]) (by decide +kernel) (Nat.le_of_ble_eq_true rfl) rfl ?_
  intro Z htb
  refine z_rng fun hr => ?_
  have hh := z_BI_h hb
  refine z_iconst dX7_inStage_0 ?_
  refine z_istoren_2 dX7_inStage_1 (Nat.le_of_ble_eq_true rfl) rfl ?_
  refine z_iconst dX7_inStage_2 ?_
  refine z_istoren_3 dX7_inStage_3 (Nat.le_of_ble_eq_true rfl) rfl ?_
  refine z_upn (P := fun i : Nat => z_J G Z _ _ 4 [some (.ref (z_ad G 0 40)), some (z_I s), some (z_I (z_sm i (fun k => if M 22 (86 + 5 * k + 2) = s then 1 else 0))), some (z_I i)] [] M 0 0) (M 22 1).toNat ?_ ?_
  · refine z_rng fun hr => ?_
    refine z_iloadn dX7_inStage_4 rfl ?_
    refine z_aloadn dX7_inStage_5 rfl ?_
    refine gX7_7 rfl dX7_inStage_6 ?_
    refine z_iconst dX7_inStage_9 ?_
    refine z_iald (by rfl) (by first | decide | exact Or.inl ⟨by decide, hg⟩) (by omega) (by omega) (by decide) dX7_inStage_10 ?_
    refine z_icmp_ge (tgt := 38) (by first | (exact hr _ _ (by decide)) | omega) (by first | (exact hr _ _ (by decide)) | omega) dX7_inStage_11 (by decide) (fun h11 => ?_) (fun h11 => ?_)
    · refine z_iloadn dX7_inStage_38 rfl ?_
      exact z_iret dX7_inStage_39 (by first | rfl | omega) rfl
    · exfalso; omega
  · intro i hi y_ih
    refine z_rng fun hr => ?_
    refine z_iloadn dX7_inStage_4 rfl ?_
    refine z_aloadn dX7_inStage_5 rfl ?_
    refine gX7_7 rfl dX7_inStage_6 ?_
    refine z_iconst dX7_inStage_9 ?_
    refine z_iald (by rfl) (by first | decide | exact Or.inl ⟨by decide, hg⟩) (by omega) (by omega) (by decide) dX7_inStage_10 ?_
    refine z_icmp_ge (tgt := 38) (by first | (exact hr _ _ (by decide)) | omega) (by first | (exact hr _ _ (by decide)) | omega) dX7_inStage_11 (by decide) (fun h11 => ?_) (fun h11 => ?_)
    · exfalso; omega
    · refine z_iloadn dX7_inStage_14 rfl ?_
      refine z_aloadn dX7_inStage_15 rfl ?_
      refine z_iloadn dX7_inStage_16 rfl ?_
      refine z_iconst dX7_inStage_17 ?_
      refine kX7_80 (tX7_in (by omega) (by omega)) rfl ⟨(Nat.le_of_ble_eq_true rfl), (Nat.le_of_ble_eq_true rfl)⟩ (Nat.le_of_ble_eq_true rfl) dX7_inStage_18 ?_
      refine z_iloadn dX7_inStage_21 rfl ?_
      refine z_icmp_ne (tgt := 29) (by first | (exact hr _ _ (by decide)) | omega) (by first | (exact hr _ _ (by decide)) | omega) dX7_inStage_22 (by decide) (fun h22 => ?_) (fun h22 => ?_)
      · refine z_iconst dX7_inStage_29 ?_
        refine z_top (v' := if M 22 (86 + 5 * (i : Int) + 2) = s then 1 else 0) (by first | rw [if_pos (by omega)] | rw [if_neg (by omega)]) ?_
        refine z_iadd dX7_inStage_30 ?_
        refine z_istoren_2 dX7_inStage_31 (Nat.le_of_ble_eq_true rfl) rfl ?_
        refine z_iinc_3 dX7_inStage_32 (Nat.le_of_ble_eq_true rfl) rfl ?_
        refine z_goto (tgt := 4) dX7_inStage_35 (by decide) ?_
        exact y_ih
      · refine z_iconst dX7_inStage_25 ?_
        refine z_goto (tgt := 30) dX7_inStage_26 (by decide) ?_
        refine z_top (v' := if M 22 (86 + 5 * (i : Int) + 2) = s then 1 else 0) (by first | rw [if_pos (by omega)] | rw [if_neg (by omega)]) ?_
        refine z_iadd dX7_inStage_30 ?_
        refine z_istoren_2 dX7_inStage_31 (Nat.le_of_ble_eq_true rfl) rfl ?_
        refine z_iinc_3 dX7_inStage_32 (Nat.le_of_ble_eq_true rfl) rfl ?_
        refine z_goto (tgt := 4) dX7_inStage_35 (by decide) ?_
        exact y_ih
theorem tX7_soldOnes {G : z_G} {M : z_M} {N  : Int} (hb : z_BI (M 22) N) : KX7_soldOnes G [.ref (z_ad G 0 40)] M (.inl (some (z_I (z_soldN (M 22))))) M := by
  refine z_con (ls := [some (.ref (z_ad G 0 40)), none, none]) (by decide +kernel) (Nat.le_of_ble_eq_true rfl) rfl ?_
  intro Z htb
  refine z_rng fun hr => ?_
  have hh := z_BI_h hb
  refine z_iconst dX7_soldOnes_0 ?_
  refine z_istoren_1 dX7_soldOnes_1 (Nat.le_of_ble_eq_true rfl) rfl ?_
  refine z_iconst dX7_soldOnes_2 ?_
  refine z_istoren_2 dX7_soldOnes_3 (Nat.le_of_ble_eq_true rfl) rfl ?_
  refine z_upn (P := fun i : Nat => z_J G Z _ _ 4 [some (.ref (z_ad G 0 40)), some (z_I (z_sm i (fun p => if M 22 (14 + 6 * p + 3) = p then 0 else 1))), some (z_I i)] [] M 0 0) (M 22 0).toNat ?_ ?_
  · refine z_rng fun hr => ?_
    refine z_iloadn dX7_soldOnes_4 rfl ?_
    refine z_aloadn dX7_soldOnes_5 rfl ?_
    refine gX7_7 rfl dX7_soldOnes_6 ?_
    refine z_iconst dX7_soldOnes_9 ?_
    refine z_iald (by rfl) (by first | decide | exact Or.inl ⟨by decide, hg⟩) (by omega) (by omega) (by decide) dX7_soldOnes_10 ?_
    refine z_icmp_ge (tgt := 38) (by first | (exact hr _ _ (by decide)) | omega) (by first | (exact hr _ _ (by decide)) | omega) dX7_soldOnes_11 (by decide) (fun h11 => ?_) (fun h11 => ?_)
    · refine z_iloadn dX7_soldOnes_38 rfl ?_
      exact z_iret dX7_soldOnes_39 (by first | rfl | omega) rfl
    · exfalso; omega
  · intro i hi y_ih
    refine z_rng fun hr => ?_
    refine z_iloadn dX7_soldOnes_4 rfl ?_
    refine z_aloadn dX7_soldOnes_5 rfl ?_
    refine gX7_7 rfl dX7_soldOnes_6 ?_
    refine z_iconst dX7_soldOnes_9 ?_
    refine z_iald (by rfl) (by first | decide | exact Or.inl ⟨by decide, hg⟩) (by omega) (by omega) (by decide) dX7_soldOnes_10 ?_
    refine z_icmp_ge (tgt := 38) (by first | (exact hr _ _ (by decide)) | omega) (by first | (exact hr _ _ (by decide)) | omega) dX7_soldOnes_11 (by decide) (fun h11 => ?_) (fun h11 => ?_)
    · exfalso; omega
    · refine z_iloadn dX7_soldOnes_14 rfl ?_
      refine z_aloadn dX7_soldOnes_15 rfl ?_
      refine z_iloadn dX7_soldOnes_16 rfl ?_
      refine z_iconst dX7_soldOnes_17 ?_
      refine kX7_61 (tX7_of (by omega) (by omega)) rfl ⟨(Nat.le_of_ble_eq_true rfl), (Nat.le_of_ble_eq_true rfl)⟩ (Nat.le_of_ble_eq_true rfl) dX7_soldOnes_18 ?_
      refine z_iloadn dX7_soldOnes_21 rfl ?_
      refine z_icmp_ne (tgt := 29) (by first | (exact hr _ _ (by decide)) | omega) (by first | (exact hr _ _ (by decide)) | omega) dX7_soldOnes_22 (by decide) (fun h22 => ?_) (fun h22 => ?_)
      · refine z_iconst dX7_soldOnes_29 ?_
        refine z_top (v' := if M 22 (14 + 6 * (i : Int) + 3) = (i : Int) then 0 else 1) (by first | rw [if_pos (by omega)] | rw [if_neg (by omega)]) ?_
        refine z_iadd dX7_soldOnes_30 ?_
        refine z_istoren_1 dX7_soldOnes_31 (Nat.le_of_ble_eq_true rfl) rfl ?_
        refine z_iinc_2 dX7_soldOnes_32 (Nat.le_of_ble_eq_true rfl) rfl ?_
        refine z_goto (tgt := 4) dX7_soldOnes_35 (by decide) ?_
        exact y_ih
      · refine z_iconst dX7_soldOnes_25 ?_
        refine z_goto (tgt := 30) dX7_soldOnes_26 (by decide) ?_
        refine z_top (v' := if M 22 (14 + 6 * (i : Int) + 3) = (i : Int) then 0 else 1) (by first | rw [if_pos (by omega)] | rw [if_neg (by omega)]) ?_
        refine z_iadd dX7_soldOnes_30 ?_
        refine z_istoren_1 dX7_soldOnes_31 (Nat.le_of_ble_eq_true rfl) rfl ?_
        refine z_iinc_2 dX7_soldOnes_32 (Nat.le_of_ble_eq_true rfl) rfl ?_
        refine z_goto (tgt := 4) dX7_soldOnes_35 (by decide) ?_
        exact y_ih
theorem tX7_whoDisputes {G : z_G} {M : z_M} {N k : Int} (hb : z_BI (M 22) N) (k0 : 0 ≤ k) (k1 : k < 20) : KX7_whoDisputes G [.ref (z_ad G 0 40), z_I k] M (.inl (some (z_I (z_wd (M 22) k (M 22 0).toNat)))) M := by
  refine z_con (ls := [some (.ref (z_ad G 0 40)), some (z_I k), none, none]) (by decide +kernel) (Nat.le_of_ble_eq_true rfl) rfl ?_
  intro Z htb
  refine z_rng fun hr => ?_
  have hh := z_BI_h hb
  refine z_iconst dX7_whoDisputes_0 ?_
  refine z_istoren_2 dX7_whoDisputes_1 (Nat.le_of_ble_eq_true rfl) rfl ?_
  refine z_iconst dX7_whoDisputes_2 ?_
  refine z_istoren_3 dX7_whoDisputes_3 (Nat.le_of_ble_eq_true rfl) rfl ?_
  refine z_upn (P := fun i : Nat => z_J G Z _ _ 4 [some (.ref (z_ad G 0 40)), some (z_I k), some (z_I (z_wd (M 22) k i)), some (z_I i)] [] M 0 0) (M 22 0).toNat ?_ ?_
  · refine z_rng fun hr => ?_
    refine z_iloadn dX7_whoDisputes_4 rfl ?_
    refine z_aloadn dX7_whoDisputes_5 rfl ?_
    refine gX7_7 rfl dX7_whoDisputes_6 ?_
    refine z_iconst dX7_whoDisputes_9 ?_
    refine z_iald (by rfl) (by first | decide | exact Or.inl ⟨by decide, hg⟩) (by omega) (by omega) (by decide) dX7_whoDisputes_10 ?_
    refine z_icmp_ge (tgt := 39) (by first | (exact hr _ _ (by decide)) | omega) (by first | (exact hr _ _ (by decide)) | omega) dX7_whoDisputes_11 (by decide) (fun h11 => ?_) (fun h11 => ?_)
    · refine z_iloadn dX7_whoDisputes_39 rfl ?_
      exact z_iret dX7_whoDisputes_40 (by first | rfl | omega) rfl
    · exfalso; omega
  · intro i hi y_ih
    refine z_rng fun hr => ?_
    have y_nn := z_wd_nn (M 22) k i
    have y_s : z_wd (M 22) k (i + 1) = if z_cd (M 22) k i then z_bor (z_wd (M 22) k i) i else z_wd (M 22) k i := rfl
    refine z_iloadn dX7_whoDisputes_4 rfl ?_
    refine z_aloadn dX7_whoDisputes_5 rfl ?_
    refine gX7_7 rfl dX7_whoDisputes_6 ?_
    refine z_iconst dX7_whoDisputes_9 ?_
    refine z_iald (by rfl) (by first | decide | exact Or.inl ⟨by decide, hg⟩) (by omega) (by omega) (by decide) dX7_whoDisputes_10 ?_
    refine z_icmp_ge (tgt := 39) (by first | (exact hr _ _ (by decide)) | omega) (by first | (exact hr _ _ (by decide)) | omega) dX7_whoDisputes_11 (by decide) (fun h11 => ?_) (fun h11 => ?_)
    · exfalso; omega
    · refine z_iloadn dX7_whoDisputes_14 rfl ?_
      refine z_aloadn dX7_whoDisputes_15 rfl ?_
      refine z_iloadn dX7_whoDisputes_16 rfl ?_
      refine z_iloadn dX7_whoDisputes_17 rfl ?_
      refine kX7_172 (tX7_canDispute hb (by omega) (by omega) (by omega) (by omega)) rfl ⟨(Nat.le_of_ble_eq_true rfl), (Nat.le_of_ble_eq_true rfl)⟩ (Nat.le_of_ble_eq_true rfl) dX7_whoDisputes_18 ?_
      refine z_ifb_eq (tgt := 30) dX7_whoDisputes_21 (by decide) (fun h21 => ?_) (fun h21 => ?_)
      · refine z_iconst dX7_whoDisputes_30 ?_
        refine z_ior (by first | exact z_bori y_nn | exact z_bori0 y_nn) dX7_whoDisputes_31 ?_
        refine z_istoren_2 dX7_whoDisputes_32 (Nat.le_of_ble_eq_true rfl) rfl ?_
        refine z_iinc_3 dX7_whoDisputes_33 (Nat.le_of_ble_eq_true rfl) rfl ?_
        refine z_goto (tgt := 4) dX7_whoDisputes_36 (by decide) ?_
        first
          | (rw [y_s, if_pos h21] at y_ih; exact y_ih)
          | (rw [y_s, if_neg h21] at y_ih; exact y_ih)
      · refine z_iconst dX7_whoDisputes_24 ?_
        refine z_iloadn dX7_whoDisputes_25 rfl ?_
        refine z_ishl (z_bshl (by omega) (by omega)) dX7_whoDisputes_26 ?_
        refine z_goto (tgt := 31) dX7_whoDisputes_27 (by decide) ?_
        refine z_ior (by first | exact z_bori y_nn | exact z_bori0 y_nn) dX7_whoDisputes_31 ?_
        refine z_istoren_2 dX7_whoDisputes_32 (Nat.le_of_ble_eq_true rfl) rfl ?_
        refine z_iinc_3 dX7_whoDisputes_33 (Nat.le_of_ble_eq_true rfl) rfl ?_
        refine z_goto (tgt := 4) dX7_whoDisputes_36 (by decide) ?_
        first
          | (rw [y_s, if_pos h21] at y_ih; exact y_ih)
          | (rw [y_s, if_neg h21] at y_ih; exact y_ih)
theorem tX7_penNow {G : z_G} {M : z_M} {N p w : Int} (hb : z_BI (M 22) N) (p0 : 0 ≤ p) (p1 : p < 12) (w0 : 0 ≤ w) (w1 : w ≤ 8) : KX7_penNow G [.ref (z_ad G 0 40), z_I p, z_I w] M (.inl (some (z_I (z_pnv (M 22) p w)))) M := by
  refine z_con (ls := [some (.ref (z_ad G 0 40)), some (z_I p), some (z_I w)]) (by decide +kernel) (Nat.le_of_ble_eq_true rfl) rfl ?_
  intro Z htb
  refine z_rng fun hr => ?_
  refine z_iloadn dX7_penNow_0 rfl ?_
  rcases (by omega : (w < 0 ∨ 7 < w) ∨ (0 ≤ w ∧ w ≤ 4) ∨ (w = 5) ∨ (w = 6) ∨ (w = 7)) with h1 | h1 | h1 | h1 | h1
  · refine z_tabOut (tgt := 74) dX7_penNow_1 (by first | (exact hr _ _ (by decide)) | omega) h1 (by decide) ?_
    obtain rfl : w = 8 := by omega
    refine z_aloadn dX7_penNow_74 rfl ?_
    refine z_iloadn dX7_penNow_75 rfl ?_
    refine kX7_185 (tX7_placeOf hb (by omega) (by omega)) rfl ⟨(Nat.le_of_ble_eq_true rfl), (Nat.le_of_ble_eq_true rfl)⟩ (Nat.le_of_ble_eq_true rfl) dX7_penNow_76 ?_
    exact z_iret dX7_penNow_79 (by first | rfl | omega) rfl
  · refine z_tabIn (tgt := 48) (off := 47) dX7_penNow_1 (by first | (exact hr _ _ (by decide)) | omega) (by omega) (by omega) (by rcases (by omega : w = 0 ∨ w = 1 ∨ w = 2 ∨ w = 3 ∨ w = 4) with e_ | e_ | e_ | e_ | e_ <;> (rw [e_]; decide)) (by decide) ?_
    refine z_aloadn dX7_penNow_48 rfl ?_
    refine z_iloadn dX7_penNow_49 rfl ?_
    refine z_iloadn dX7_penNow_50 rfl ?_
    refine kX7_61 (tX7_of (by omega) (by omega)) rfl ⟨(Nat.le_of_ble_eq_true rfl), (Nat.le_of_ble_eq_true rfl)⟩ (Nat.le_of_ble_eq_true rfl) dX7_penNow_51 ?_
    exact z_iret dX7_penNow_54 (by unfold z_pnv; rw [if_pos (by omega)]) rfl
  · subst h1
    refine z_tabIn (tgt := 55) (off := 54) dX7_penNow_1 (by decide) (by decide) (by decide) (by decide) (by decide) ?_
    refine z_aloadn dX7_penNow_55 rfl ?_
    refine z_iloadn dX7_penNow_56 rfl ?_
    refine kX7_179 (tX7_owns hb (by omega)) rfl ⟨(Nat.le_of_ble_eq_true rfl), (Nat.le_of_ble_eq_true rfl)⟩ (Nat.le_of_ble_eq_true rfl) dX7_penNow_57 ?_
    exact z_iret dX7_penNow_60 (by first | rfl | omega) rfl
  · subst h1
    refine z_tabIn (tgt := 61) (off := 60) dX7_penNow_1 (by decide) (by decide) (by decide) (by decide) (by decide) ?_
    refine z_aloadn dX7_penNow_61 rfl ?_
    refine z_iloadn dX7_penNow_62 rfl ?_
    refine z_iconst dX7_penNow_63 ?_
    refine kX7_61 (tX7_of (by omega) (by omega)) rfl ⟨(Nat.le_of_ble_eq_true rfl), (Nat.le_of_ble_eq_true rfl)⟩ (Nat.le_of_ble_eq_true rfl) dX7_penNow_64 ?_
    exact z_iret dX7_penNow_67 (by first | rfl | omega) rfl
  · subst h1
    refine z_tabIn (tgt := 68) (off := 67) dX7_penNow_1 (by decide) (by decide) (by decide) (by decide) (by decide) ?_
    refine z_aloadn dX7_penNow_68 rfl ?_
    refine z_iloadn dX7_penNow_69 rfl ?_
    refine kX7_182 (tX7_wrote hb (by omega) (by omega)) rfl ⟨(Nat.le_of_ble_eq_true rfl), (Nat.le_of_ble_eq_true rfl)⟩ (Nat.le_of_ble_eq_true rfl) dX7_penNow_70 ?_
    exact z_iret dX7_penNow_73 (by first | rfl | omega) rfl
theorem tX7_pieceNow {G : z_G} {M : z_M} {N k w : Int} (hb : z_BI (M 22) N) (k0 : 0 ≤ k) (k1 : k < 20) (w0 : 0 ≤ w) (w1 : w ≤ 9) : KX7_pieceNow G [.ref (z_ad G 0 40), z_I k, z_I w] M (.inl (some (z_I (z_kv (M 22) k w)))) M := by
  refine z_con (ls := [some (.ref (z_ad G 0 40)), some (z_I k), some (z_I w)]) (by decide +kernel) (Nat.le_of_ble_eq_true rfl) rfl ?_
  intro Z htb
  refine z_rng fun hr => ?_
  refine z_iloadn dX7_pieceNow_0 rfl ?_
  rcases (by omega : (w < 0 ∨ 8 < w) ∨ (0 ≤ w ∧ w ≤ 3) ∨ (w = 4) ∨ (w = 5) ∨ (w = 6) ∨ (w = 7) ∨ (w = 8)) with h1 | h1 | h1 | h1 | h1 | h1 | h1
  · refine z_tabOut (tgt := 90) dX7_pieceNow_1 (by first | (exact hr _ _ (by decide)) | omega) h1 (by decide) ?_
    obtain rfl : w = 9 := by omega
    refine z_aloadn dX7_pieceNow_90 rfl ?_
    refine z_iloadn dX7_pieceNow_91 rfl ?_
    refine kX7_194 (tX7_whoDisputes hb (by omega) (by omega)) rfl ⟨(Nat.le_of_ble_eq_true rfl), (Nat.le_of_ble_eq_true rfl)⟩ (Nat.le_of_ble_eq_true rfl) dX7_pieceNow_92 ?_
    exact z_iret dX7_pieceNow_95 (by first | rfl | omega) rfl
  · refine z_tabIn (tgt := 52) (off := 51) dX7_pieceNow_1 (by first | (exact hr _ _ (by decide)) | omega) (by omega) (by omega) (by rcases (by omega : w = 0 ∨ w = 1 ∨ w = 2 ∨ w = 3) with e_ | e_ | e_ | e_ <;> (rw [e_]; decide)) (by decide) ?_
    refine z_aloadn dX7_pieceNow_52 rfl ?_
    refine z_iloadn dX7_pieceNow_53 rfl ?_
    refine z_iloadn dX7_pieceNow_54 rfl ?_
    refine kX7_80 (tX7_in (by omega) (by omega)) rfl ⟨(Nat.le_of_ble_eq_true rfl), (Nat.le_of_ble_eq_true rfl)⟩ (Nat.le_of_ble_eq_true rfl) dX7_pieceNow_55 ?_
    exact z_iret dX7_pieceNow_58 (by unfold z_kv; rw [if_pos (by omega)]) rfl
  · subst h1
    refine z_tabIn (tgt := 59) (off := 58) dX7_pieceNow_1 (by decide) (by decide) (by decide) (by decide) (by decide) ?_
    refine z_aloadn dX7_pieceNow_59 rfl ?_
    refine z_iloadn dX7_pieceNow_60 rfl ?_
    refine kX7_83 (tX7_allDrafts (by omega) (by omega)) rfl ⟨(Nat.le_of_ble_eq_true rfl), (Nat.le_of_ble_eq_true rfl)⟩ (Nat.le_of_ble_eq_true rfl) dX7_pieceNow_61 ?_
    exact z_iret dX7_pieceNow_64 (by first | rfl | omega) rfl
  · subst h1
    refine z_tabIn (tgt := 65) (off := 64) dX7_pieceNow_1 (by decide) (by decide) (by decide) (by decide) (by decide) ?_
    refine z_aloadn dX7_pieceNow_65 rfl ?_
    refine z_iloadn dX7_pieceNow_66 rfl ?_
    refine kX7_191 (tX7_pensWith hb (by omega) (by omega)) rfl ⟨(Nat.le_of_ble_eq_true rfl), (Nat.le_of_ble_eq_true rfl)⟩ (Nat.le_of_ble_eq_true rfl) dX7_pieceNow_67 ?_
    exact z_iret dX7_pieceNow_70 (by first | rfl | omega) rfl
  · subst h1
    refine z_tabIn (tgt := 71) (off := 70) dX7_pieceNow_1 (by decide) (by decide) (by decide) (by decide) (by decide) ?_
    refine z_aloadn dX7_pieceNow_71 rfl ?_
    refine z_iloadn dX7_pieceNow_72 rfl ?_
    refine kX7_133 (tX7_allParts (by omega) (by omega)) rfl ⟨(Nat.le_of_ble_eq_true rfl), (Nat.le_of_ble_eq_true rfl)⟩ (Nat.le_of_ble_eq_true rfl) dX7_pieceNow_73 ?_
    exact z_iret dX7_pieceNow_76 (by first | rfl | omega) rfl
  · subst h1
    refine z_tabIn (tgt := 77) (off := 76) dX7_pieceNow_1 (by decide) (by decide) (by decide) (by decide) (by decide) ?_
    refine z_aloadn dX7_pieceNow_77 rfl ?_
    refine z_iloadn dX7_pieceNow_78 rfl ?_
    refine z_iconst dX7_pieceNow_79 ?_
    refine kX7_80 (tX7_in (by omega) (by omega)) rfl ⟨(Nat.le_of_ble_eq_true rfl), (Nat.le_of_ble_eq_true rfl)⟩ (Nat.le_of_ble_eq_true rfl) dX7_pieceNow_80 ?_
    exact z_iret dX7_pieceNow_83 (by first | rfl | omega) rfl
  · subst h1
    refine z_tabIn (tgt := 84) (off := 83) dX7_pieceNow_1 (by decide) (by decide) (by decide) (by decide) (by decide) ?_
    refine z_aloadn dX7_pieceNow_84 rfl ?_
    refine z_iloadn dX7_pieceNow_85 rfl ?_
    refine kX7_160 (tX7_killFee hb (by omega) (by omega)) rfl ⟨(Nat.le_of_ble_eq_true rfl), (Nat.le_of_ble_eq_true rfl)⟩ (Nat.le_of_ble_eq_true rfl) dX7_pieceNow_86 ?_
    exact z_iret dX7_pieceNow_89 (by first | rfl | omega) rfl
theorem tX7_betweenNow {G : z_G} {M : z_M} {k p w : Int} (k0 : 0 ≤ k) (k1 : k < 20) (p0 : 0 ≤ p) (p1 : p < 12) (w0 : 0 ≤ w) (w1 : w ≤ 2) : KX7_betweenNow G [.ref (z_ad G 0 40), z_I k, z_I p, z_I w] M (.inl (some (z_I (z_bv (M 22) k p w)))) M := by
  refine z_con (ls := [some (.ref (z_ad G 0 40)), some (z_I k), some (z_I p), some (z_I w)]) (by decide +kernel) (Nat.le_of_ble_eq_true rfl) rfl ?_
  intro Z htb
  refine z_rng fun hr => ?_
  refine z_iloadn dX7_betweenNow_0 rfl ?_
  refine z_if_ne (tgt := 13) (by first | (exact hr _ _ (by decide)) | omega) dX7_betweenNow_1 (by decide) (fun h1 => ?_) (fun h1 => ?_)
  · refine z_iloadn dX7_betweenNow_13 rfl ?_
    refine z_iconst dX7_betweenNow_14 ?_
    refine z_icmp_ne (tgt := 27) (by first | (exact hr _ _ (by decide)) | omega) (by first | (exact hr _ _ (by decide)) | omega) dX7_betweenNow_15 (by decide) (fun h15 => ?_) (fun h15 => ?_)
    · refine z_aloadn dX7_betweenNow_27 rfl ?_
      refine gX7_7 rfl dX7_betweenNow_28 ?_
      refine z_sipush dX7_betweenNow_31 (by decide) ?_
      refine z_bipush dX7_betweenNow_34 (by decide) ?_
      refine z_iloadn dX7_betweenNow_36 rfl ?_
      refine z_imul dX7_betweenNow_37 ?_
      refine z_iadd dX7_betweenNow_38 ?_
      refine z_iloadn dX7_betweenNow_39 rfl ?_
      refine z_iadd dX7_betweenNow_40 ?_
      refine z_iald (by rfl) (by first | decide | exact Or.inl ⟨by decide, hg⟩) (by omega) (by omega) (by decide) dX7_betweenNow_41 ?_
      exact z_iret dX7_betweenNow_42 (by unfold z_bv; first | rw [if_pos (by omega)] | rw [if_neg (by omega), if_pos (by omega)] | rw [if_neg (by omega), if_neg (by omega)]) rfl
    · refine z_aloadn dX7_betweenNow_18 rfl ?_
      refine z_iloadn dX7_betweenNow_19 rfl ?_
      refine z_iloadn dX7_betweenNow_20 rfl ?_
      refine kX7_163 (tX7_drafts (by omega) (by omega)) rfl ⟨(Nat.le_of_ble_eq_true rfl), (Nat.le_of_ble_eq_true rfl)⟩ (Nat.le_of_ble_eq_true rfl) dX7_betweenNow_21 ?_
      refine z_goto (tgt := 42) dX7_betweenNow_24 (by decide) ?_
      exact z_iret dX7_betweenNow_42 (by unfold z_bv; first | rw [if_pos (by omega)] | rw [if_neg (by omega), if_pos (by omega)] | rw [if_neg (by omega), if_neg (by omega)]) rfl
  · refine z_aloadn dX7_betweenNow_4 rfl ?_
    refine z_iloadn dX7_betweenNow_5 rfl ?_
    refine z_iloadn dX7_betweenNow_6 rfl ?_
    refine kX7_143 (tX7_partsOf (by omega) (by omega)) rfl ⟨(Nat.le_of_ble_eq_true rfl), (Nat.le_of_ble_eq_true rfl)⟩ (Nat.le_of_ble_eq_true rfl) dX7_betweenNow_7 ?_
    refine z_goto (tgt := 42) dX7_betweenNow_10 (by decide) ?_
    exact z_iret dX7_betweenNow_42 (by unfold z_bv; first | rw [if_pos (by omega)] | rw [if_neg (by omega), if_pos (by omega)] | rw [if_neg (by omega), if_neg (by omega)]) rfl
theorem tX7_counted {G : z_G} {M : z_M} {N w : Int} (hb : z_BI (M 22) N) (w0 : 0 ≤ w) (w1 : w ≤ 13) : KX7_counted G [.ref (z_ad G 0 40), z_I w] M (.inl (some (z_I (z_cv (M 22) (M 21 2) w)))) M := by
  refine z_con (ls := [some (.ref (z_ad G 0 40)), some (z_I w)]) (by decide +kernel) (Nat.le_of_ble_eq_true rfl) rfl ?_
  intro Z htb
  refine z_rng fun hr => ?_
  refine z_iloadn dX7_counted_0 rfl ?_
  rcases (by omega : (w < 0 ∨ 12 < w) ∨ (w = 0) ∨ (w = 1) ∨ (w = 2) ∨ (w = 3) ∨ (w = 4) ∨ (w = 5) ∨ (w = 6) ∨ (w = 7) ∨ (w = 8) ∨ (w = 9) ∨ (w = 10) ∨ (w = 11) ∨ (w = 12)) with h1 | h1 | h1 | h1 | h1 | h1 | h1 | h1 | h1 | h1 | h1 | h1 | h1 | h1
  · refine z_tabOut (tgt := 155) dX7_counted_1 (by first | (exact hr _ _ (by decide)) | omega) h1 (by decide) ?_
    obtain rfl : w = 13 := by omega
    refine z_aloadn dX7_counted_155 rfl ?_
    refine gX7_48 rfl dX7_counted_156 ?_
    exact z_iret dX7_counted_159 (by first | rfl | omega) rfl
  · subst h1
    refine z_tabIn (tgt := 68) (off := 67) dX7_counted_1 (by decide) (by decide) (by decide) (by decide) (by decide) ?_
    refine z_aloadn dX7_counted_68 rfl ?_
    refine gX7_7 rfl dX7_counted_69 ?_
    refine z_iconst dX7_counted_72 ?_
    refine z_iald (by rfl) (by first | decide | exact Or.inl ⟨by decide, hg⟩) (by omega) (by omega) (by decide) dX7_counted_73 ?_
    exact z_iret dX7_counted_74 (by first | rfl | omega) rfl
  · subst h1
    refine z_tabIn (tgt := 75) (off := 74) dX7_counted_1 (by decide) (by decide) (by decide) (by decide) (by decide) ?_
    refine z_aloadn dX7_counted_75 rfl ?_
    refine gX7_7 rfl dX7_counted_76 ?_
    refine z_iconst dX7_counted_79 ?_
    refine z_iald (by rfl) (by first | decide | exact Or.inl ⟨by decide, hg⟩) (by omega) (by omega) (by decide) dX7_counted_80 ?_
    exact z_iret dX7_counted_81 (by first | rfl | omega) rfl
  · subst h1
    refine z_tabIn (tgt := 82) (off := 81) dX7_counted_1 (by decide) (by decide) (by decide) (by decide) (by decide) ?_
    refine z_aloadn dX7_counted_82 rfl ?_
    refine gX7_7 rfl dX7_counted_83 ?_
    refine z_iconst dX7_counted_86 ?_
    refine z_iald (by rfl) (by first | decide | exact Or.inl ⟨by decide, hg⟩) (by omega) (by omega) (by decide) dX7_counted_87 ?_
    exact z_iret dX7_counted_88 (by first | rfl | omega) rfl
  · subst h1
    refine z_tabIn (tgt := 89) (off := 88) dX7_counted_1 (by decide) (by decide) (by decide) (by decide) (by decide) ?_
    refine z_aloadn dX7_counted_89 rfl ?_
    refine gX7_7 rfl dX7_counted_90 ?_
    refine z_iconst dX7_counted_93 ?_
    refine z_iald (by rfl) (by first | decide | exact Or.inl ⟨by decide, hg⟩) (by omega) (by omega) (by decide) dX7_counted_94 ?_
    exact z_iret dX7_counted_95 (by first | rfl | omega) rfl
  · subst h1
    refine z_tabIn (tgt := 96) (off := 95) dX7_counted_1 (by decide) (by decide) (by decide) (by decide) (by decide) ?_
    refine z_aloadn dX7_counted_96 rfl ?_
    refine gX7_7 rfl dX7_counted_97 ?_
    refine z_iconst dX7_counted_100 ?_
    refine z_iald (by rfl) (by first | decide | exact Or.inl ⟨by decide, hg⟩) (by omega) (by omega) (by decide) dX7_counted_101 ?_
    exact z_iret dX7_counted_102 (by first | rfl | omega) rfl
  · subst h1
    refine z_tabIn (tgt := 103) (off := 102) dX7_counted_1 (by decide) (by decide) (by decide) (by decide) (by decide) ?_
    refine z_aloadn dX7_counted_103 rfl ?_
    refine z_iconst dX7_counted_104 ?_
    refine kX7_203 (tX7_sumOf hb (by omega) (by omega)) rfl ⟨(Nat.le_of_ble_eq_true rfl), (Nat.le_of_ble_eq_true rfl)⟩ (Nat.le_of_ble_eq_true rfl) dX7_counted_105 ?_
    exact z_iret dX7_counted_108 (by first | rfl | omega) rfl
  · subst h1
    refine z_tabIn (tgt := 109) (off := 108) dX7_counted_1 (by decide) (by decide) (by decide) (by decide) (by decide) ?_
    refine z_aloadn dX7_counted_109 rfl ?_
    refine z_iconst dX7_counted_110 ?_
    refine kX7_203 (tX7_sumOf hb (by omega) (by omega)) rfl ⟨(Nat.le_of_ble_eq_true rfl), (Nat.le_of_ble_eq_true rfl)⟩ (Nat.le_of_ble_eq_true rfl) dX7_counted_111 ?_
    exact z_iret dX7_counted_114 (by first | rfl | omega) rfl
  · subst h1
    refine z_tabIn (tgt := 115) (off := 114) dX7_counted_1 (by decide) (by decide) (by decide) (by decide) (by decide) ?_
    refine z_aloadn dX7_counted_115 rfl ?_
    refine gX7_7 rfl dX7_counted_116 ?_
    refine z_iconst dX7_counted_119 ?_
    refine z_iald (by rfl) (by first | decide | exact Or.inl ⟨by decide, hg⟩) (by omega) (by omega) (by decide) dX7_counted_120 ?_
    exact z_iret dX7_counted_121 (by first | rfl | omega) rfl
  · subst h1
    refine z_tabIn (tgt := 122) (off := 121) dX7_counted_1 (by decide) (by decide) (by decide) (by decide) (by decide) ?_
    refine z_aloadn dX7_counted_122 rfl ?_
    refine z_iconst dX7_counted_123 ?_
    refine kX7_206 (tX7_inStage hb (by omega)) rfl ⟨(Nat.le_of_ble_eq_true rfl), (Nat.le_of_ble_eq_true rfl)⟩ (Nat.le_of_ble_eq_true rfl) dX7_counted_124 ?_
    exact z_iret dX7_counted_127 (by first | rfl | omega) rfl
  · subst h1
    refine z_tabIn (tgt := 128) (off := 127) dX7_counted_1 (by decide) (by decide) (by decide) (by decide) (by decide) ?_
    refine z_aloadn dX7_counted_128 rfl ?_
    refine z_iconst dX7_counted_129 ?_
    refine kX7_206 (tX7_inStage hb (by omega)) rfl ⟨(Nat.le_of_ble_eq_true rfl), (Nat.le_of_ble_eq_true rfl)⟩ (Nat.le_of_ble_eq_true rfl) dX7_counted_130 ?_
    exact z_iret dX7_counted_133 (by first | rfl | omega) rfl
  · subst h1
    refine z_tabIn (tgt := 134) (off := 133) dX7_counted_1 (by decide) (by decide) (by decide) (by decide) (by decide) ?_
    refine z_aloadn dX7_counted_134 rfl ?_
    refine gX7_7 rfl dX7_counted_135 ?_
    refine z_bipush dX7_counted_138 (by decide) ?_
    refine z_iald (by rfl) (by first | decide | exact Or.inl ⟨by decide, hg⟩) (by omega) (by omega) (by decide) dX7_counted_140 ?_
    exact z_iret dX7_counted_141 (by first | rfl | omega) rfl
  · subst h1
    refine z_tabIn (tgt := 142) (off := 141) dX7_counted_1 (by decide) (by decide) (by decide) (by decide) (by decide) ?_
    refine z_aloadn dX7_counted_142 rfl ?_
    refine kX7_209 (tX7_soldOnes hb) rfl ⟨(Nat.le_of_ble_eq_true rfl), (Nat.le_of_ble_eq_true rfl)⟩ (Nat.le_of_ble_eq_true rfl) dX7_counted_143 ?_
    exact z_iret dX7_counted_146 (by first | rfl | omega) rfl
  · subst h1
    refine z_tabIn (tgt := 147) (off := 146) dX7_counted_1 (by decide) (by decide) (by decide) (by decide) (by decide) ?_
    refine z_aloadn dX7_counted_147 rfl ?_
    refine gX7_7 rfl dX7_counted_148 ?_
    refine z_bipush dX7_counted_151 (by decide) ?_
    refine z_iald (by rfl) (by first | decide | exact Or.inl ⟨by decide, hg⟩) (by omega) (by omega) (by decide) dX7_counted_153 ?_
    exact z_iret dX7_counted_154 (by first | rfl | omega) rfl
theorem tX7_pen {G : z_G} {M : z_M} {N c p w : Int} (hb : z_BI (M 22) N) (rp : z_rg p) (rw : z_rg w) (hc : z_c_pen (M 22) p w = c) : KX7_pen G [.ref (z_ad G 0 40), z_I p, z_I w] M (.inl (some (z_I (if c = 0 then z_pnv (M 22) p w else 0)))) (if c = 0 then z_sM M 21 4 0 else z_sM M 21 4 c) := by
  refine z_con (ls := [some (.ref (z_ad G 0 40)), some (z_I p), some (z_I w)]) (by decide +kernel) (Nat.le_of_ble_eq_true rfl) rfl ?_
  intro Z htb
  refine z_rng fun hr => ?_
  refine z_aloadn dX7_pen_0 rfl ?_
  refine z_iconst dX7_pen_1 ?_
  refine pX7_40 (by first | (exact hr _ _ (by decide)) | omega) rfl dX7_pen_2 ?_
  refine z_rng fun hr => ?_
  generalize hM0 : z_sM M 21 4 0 = M0
  have hz : M0 22 = M 22 := by rw [← hM0]; exact z_sM_row _ _ _ (by decide)
  have hz2 : M0 21 2 = M 21 2 := by rw [← hM0]; exact z_sM_ne _ _ _ (by decide)
  rw [hM0] at hr
  rw [← hz] at hb
  try rw [← hz] at hc
  have hh := z_BI_h hb
  refine z_aloadn dX7_pen_5 rfl ?_
  refine z_iloadn dX7_pen_6 rfl ?_
  refine kX7_65 (tX7_isPen (by first | (exact hr _ _ (by decide)) | omega) (by first | assumption | omega)) rfl ⟨(Nat.le_of_ble_eq_true rfl), (Nat.le_of_ble_eq_true rfl)⟩ (Nat.le_of_ble_eq_true rfl) dX7_pen_7 ?_
  refine z_ifb_ne (tgt := 19) dX7_pen_10 (by decide) (fun h10 => ?_) (fun h10 => ?_)
  · refine z_iloadn dX7_pen_19 rfl ?_
    refine z_iconst dX7_pen_20 ?_
    refine z_bipush dX7_pen_21 (by decide) ?_
    refine kX7_44 (tX7_within (by first | (exact hr _ _ (by decide)) | omega) (by first | (exact hr _ _ (by decide)) | omega) (by first | (exact hr _ _ (by decide)) | omega)) rfl ⟨(Nat.le_of_ble_eq_true rfl), (Nat.le_of_ble_eq_true rfl)⟩ (Nat.le_of_ble_eq_true rfl) dX7_pen_23 ?_
    refine z_ifb_eq (tgt := 38) dX7_pen_26 (by decide) (fun h26 => ?_) (fun h26 => ?_)
    · refine z_aloadn dX7_pen_38 rfl ?_
      refine z_iconst dX7_pen_39 ?_
      refine kX7_55 (tX7_fails (by first | decide | omega)) rfl ⟨(Nat.le_of_ble_eq_true rfl), (Nat.le_of_ble_eq_true rfl)⟩ (Nat.le_of_ble_eq_true rfl) dX7_pen_40 ?_
      refine z_rng fun hr => ?_
      obtain rfl : c = 2 := by rw [← hc]; unfold z_c_pen; (repeat' split) <;> omega
      exact z_iret dX7_pen_43 (if_neg (by decide)).symm (by rw [if_neg (by decide), ← hM0, z_sM_sM])
    · refine z_aloadn dX7_pen_29 rfl ?_
      refine z_iloadn dX7_pen_30 rfl ?_
      refine z_iloadn dX7_pen_31 rfl ?_
      refine kX7_188 (tX7_penNow hb (by omega) (by omega) (by omega) (by omega)) rfl ⟨(Nat.le_of_ble_eq_true rfl), (Nat.le_of_ble_eq_true rfl)⟩ (Nat.le_of_ble_eq_true rfl) dX7_pen_32 ?_
      refine z_goto (tgt := 43) dX7_pen_35 (by decide) ?_
      exact z_iret dX7_pen_43 (by obtain rfl : c = 0 := by { rw [← hc]; unfold z_c_pen; (repeat' split) <;> omega }; rw [if_pos rfl, ← hz]; try rw [hz2]) (by obtain rfl : c = 0 := by { rw [← hc]; unfold z_c_pen; (repeat' split) <;> omega }; rw [if_pos rfl])
  · refine z_aloadn dX7_pen_13 rfl ?_
    refine z_iconst dX7_pen_14 ?_
    refine kX7_55 (tX7_fails (by first | decide | omega)) rfl ⟨(Nat.le_of_ble_eq_true rfl), (Nat.le_of_ble_eq_true rfl)⟩ (Nat.le_of_ble_eq_true rfl) dX7_pen_15 ?_
    refine z_rng fun hr => ?_
    obtain rfl : c = 1 := by rw [← hc]; unfold z_c_pen; (repeat' split) <;> omega
    exact z_iret dX7_pen_18 (if_neg (by decide)).symm (by rw [if_neg (by decide), ← hM0, z_sM_sM])
theorem tX7_piece {G : z_G} {M : z_M} {N c k w : Int} (hb : z_BI (M 22) N) (rk : z_rg k) (rw : z_rg w) (hc : z_c_piece (M 22) k w = c) : KX7_piece G [.ref (z_ad G 0 40), z_I k, z_I w] M (.inl (some (z_I (if c = 0 then z_kv (M 22) k w else 0)))) (if c = 0 then z_sM M 21 4 0 else z_sM M 21 4 c) := by
  refine z_con (ls := [some (.ref (z_ad G 0 40)), some (z_I k), some (z_I w)]) (by decide +kernel) (Nat.le_of_ble_eq_true rfl) rfl ?_
  intro Z htb
  refine z_rng fun hr => ?_
  refine z_aloadn dX7_piece_0 rfl ?_
  refine z_iconst dX7_piece_1 ?_
  refine pX7_40 (by first | (exact hr _ _ (by decide)) | omega) rfl dX7_piece_2 ?_
  refine z_rng fun hr => ?_
  generalize hM0 : z_sM M 21 4 0 = M0
  have hz : M0 22 = M 22 := by rw [← hM0]; exact z_sM_row _ _ _ (by decide)
  have hz2 : M0 21 2 = M 21 2 := by rw [← hM0]; exact z_sM_ne _ _ _ (by decide)
  rw [hM0] at hr
  rw [← hz] at hb
  try rw [← hz] at hc
  have hh := z_BI_h hb
  refine z_aloadn dX7_piece_5 rfl ?_
  refine z_iloadn dX7_piece_6 rfl ?_
  refine kX7_77 (tX7_isPiece (by first | (exact hr _ _ (by decide)) | omega) (by first | assumption | omega)) rfl ⟨(Nat.le_of_ble_eq_true rfl), (Nat.le_of_ble_eq_true rfl)⟩ (Nat.le_of_ble_eq_true rfl) dX7_piece_7 ?_
  refine z_ifb_ne (tgt := 19) dX7_piece_10 (by decide) (fun h10 => ?_) (fun h10 => ?_)
  · refine z_iloadn dX7_piece_19 rfl ?_
    refine z_iconst dX7_piece_20 ?_
    refine z_bipush dX7_piece_21 (by decide) ?_
    refine kX7_44 (tX7_within (by first | (exact hr _ _ (by decide)) | omega) (by first | (exact hr _ _ (by decide)) | omega) (by first | (exact hr _ _ (by decide)) | omega)) rfl ⟨(Nat.le_of_ble_eq_true rfl), (Nat.le_of_ble_eq_true rfl)⟩ (Nat.le_of_ble_eq_true rfl) dX7_piece_23 ?_
    refine z_ifb_eq (tgt := 38) dX7_piece_26 (by decide) (fun h26 => ?_) (fun h26 => ?_)
    · refine z_aloadn dX7_piece_38 rfl ?_
      refine z_iconst dX7_piece_39 ?_
      refine kX7_55 (tX7_fails (by first | decide | omega)) rfl ⟨(Nat.le_of_ble_eq_true rfl), (Nat.le_of_ble_eq_true rfl)⟩ (Nat.le_of_ble_eq_true rfl) dX7_piece_40 ?_
      refine z_rng fun hr => ?_
      obtain rfl : c = 2 := by rw [← hc]; unfold z_c_piece; (repeat' split) <;> omega
      exact z_iret dX7_piece_43 (if_neg (by decide)).symm (by rw [if_neg (by decide), ← hM0, z_sM_sM])
    · refine z_aloadn dX7_piece_29 rfl ?_
      refine z_iloadn dX7_piece_30 rfl ?_
      refine z_iloadn dX7_piece_31 rfl ?_
      refine kX7_197 (tX7_pieceNow hb (by omega) (by omega) (by omega) (by omega)) rfl ⟨(Nat.le_of_ble_eq_true rfl), (Nat.le_of_ble_eq_true rfl)⟩ (Nat.le_of_ble_eq_true rfl) dX7_piece_32 ?_
      refine z_goto (tgt := 43) dX7_piece_35 (by decide) ?_
      exact z_iret dX7_piece_43 (by obtain rfl : c = 0 := by { rw [← hc]; unfold z_c_piece; (repeat' split) <;> omega }; rw [if_pos rfl, ← hz]; try rw [hz2]) (by obtain rfl : c = 0 := by { rw [← hc]; unfold z_c_piece; (repeat' split) <;> omega }; rw [if_pos rfl])
  · refine z_aloadn dX7_piece_13 rfl ?_
    refine z_iconst dX7_piece_14 ?_
    refine kX7_55 (tX7_fails (by first | decide | omega)) rfl ⟨(Nat.le_of_ble_eq_true rfl), (Nat.le_of_ble_eq_true rfl)⟩ (Nat.le_of_ble_eq_true rfl) dX7_piece_15 ?_
    refine z_rng fun hr => ?_
    obtain rfl : c = 1 := by rw [← hc]; unfold z_c_piece; (repeat' split) <;> omega
    exact z_iret dX7_piece_18 (if_neg (by decide)).symm (by rw [if_neg (by decide), ← hM0, z_sM_sM])
theorem tX7_between {G : z_G} {M : z_M} {N c k p w : Int} (hb : z_BI (M 22) N) (rk : z_rg k) (rp : z_rg p) (rw : z_rg w) (hc : z_c_between (M 22) k p w = c) : KX7_between G [.ref (z_ad G 0 40), z_I k, z_I p, z_I w] M (.inl (some (z_I (if c = 0 then z_bv (M 22) k p w else 0)))) (if c = 0 then z_sM M 21 4 0 else z_sM M 21 4 c) := by
  refine z_con (ls := [some (.ref (z_ad G 0 40)), some (z_I k), some (z_I p), some (z_I w)]) (by decide +kernel) (Nat.le_of_ble_eq_true rfl) rfl ?_
  intro Z htb
  refine z_rng fun hr => ?_
  refine z_aloadn dX7_between_0 rfl ?_
  refine z_iconst dX7_between_1 ?_
  refine pX7_40 (by first | (exact hr _ _ (by decide)) | omega) rfl dX7_between_2 ?_
  refine z_rng fun hr => ?_
  generalize hM0 : z_sM M 21 4 0 = M0
  have hz : M0 22 = M 22 := by rw [← hM0]; exact z_sM_row _ _ _ (by decide)
  have hz2 : M0 21 2 = M 21 2 := by rw [← hM0]; exact z_sM_ne _ _ _ (by decide)
  rw [hM0] at hr
  rw [← hz] at hb
  try rw [← hz] at hc
  have hh := z_BI_h hb
  refine z_aloadn dX7_between_5 rfl ?_
  refine z_iloadn dX7_between_6 rfl ?_
  refine kX7_77 (tX7_isPiece (by first | (exact hr _ _ (by decide)) | omega) (by first | assumption | omega)) rfl ⟨(Nat.le_of_ble_eq_true rfl), (Nat.le_of_ble_eq_true rfl)⟩ (Nat.le_of_ble_eq_true rfl) dX7_between_7 ?_
  refine z_ifb_eq (tgt := 21) dX7_between_10 (by decide) (fun h10 => ?_) (fun h10 => ?_)
  · refine z_aloadn dX7_between_21 rfl ?_
    refine z_iconst dX7_between_22 ?_
    refine kX7_55 (tX7_fails (by first | decide | omega)) rfl ⟨(Nat.le_of_ble_eq_true rfl), (Nat.le_of_ble_eq_true rfl)⟩ (Nat.le_of_ble_eq_true rfl) dX7_between_23 ?_
    refine z_rng fun hr => ?_
    obtain rfl : c = 1 := by rw [← hc]; unfold z_c_between; (repeat' split) <;> omega
    exact z_iret dX7_between_26 (if_neg (by decide)).symm (by rw [if_neg (by decide), ← hM0, z_sM_sM])
  · refine z_aloadn dX7_between_13 rfl ?_
    refine z_iloadn dX7_between_14 rfl ?_
    refine kX7_65 (tX7_isPen (by first | (exact hr _ _ (by decide)) | omega) (by first | assumption | omega)) rfl ⟨(Nat.le_of_ble_eq_true rfl), (Nat.le_of_ble_eq_true rfl)⟩ (Nat.le_of_ble_eq_true rfl) dX7_between_15 ?_
    refine z_ifb_ne (tgt := 27) dX7_between_18 (by decide) (fun h18 => ?_) (fun h18 => ?_)
    · refine z_iloadn dX7_between_27 rfl ?_
      refine z_iconst dX7_between_28 ?_
      refine z_iconst dX7_between_29 ?_
      refine kX7_44 (tX7_within (by first | (exact hr _ _ (by decide)) | omega) (by first | (exact hr _ _ (by decide)) | omega) (by first | (exact hr _ _ (by decide)) | omega)) rfl ⟨(Nat.le_of_ble_eq_true rfl), (Nat.le_of_ble_eq_true rfl)⟩ (Nat.le_of_ble_eq_true rfl) dX7_between_30 ?_
      refine z_ifb_eq (tgt := 46) dX7_between_33 (by decide) (fun h33 => ?_) (fun h33 => ?_)
      · refine z_aloadn dX7_between_46 rfl ?_
        refine z_iconst dX7_between_47 ?_
        refine kX7_55 (tX7_fails (by first | decide | omega)) rfl ⟨(Nat.le_of_ble_eq_true rfl), (Nat.le_of_ble_eq_true rfl)⟩ (Nat.le_of_ble_eq_true rfl) dX7_between_48 ?_
        refine z_rng fun hr => ?_
        obtain rfl : c = 2 := by rw [← hc]; unfold z_c_between; (repeat' split) <;> omega
        exact z_iret dX7_between_51 (if_neg (by decide)).symm (by rw [if_neg (by decide), ← hM0, z_sM_sM])
      · refine z_aloadn dX7_between_36 rfl ?_
        refine z_iloadn dX7_between_37 rfl ?_
        refine z_iloadn dX7_between_38 rfl ?_
        refine z_iloadn dX7_between_39 rfl ?_
        refine kX7_200 (tX7_betweenNow (by omega) (by omega) (by omega) (by omega) (by omega) (by omega)) rfl ⟨(Nat.le_of_ble_eq_true rfl), (Nat.le_of_ble_eq_true rfl)⟩ (Nat.le_of_ble_eq_true rfl) dX7_between_40 ?_
        refine z_goto (tgt := 51) dX7_between_43 (by decide) ?_
        exact z_iret dX7_between_51 (by obtain rfl : c = 0 := by { rw [← hc]; unfold z_c_between; (repeat' split) <;> omega }; rw [if_pos rfl, ← hz]; try rw [hz2]) (by obtain rfl : c = 0 := by { rw [← hc]; unfold z_c_between; (repeat' split) <;> omega }; rw [if_pos rfl])
    · refine z_aloadn dX7_between_21 rfl ?_
      refine z_iconst dX7_between_22 ?_
      refine kX7_55 (tX7_fails (by first | decide | omega)) rfl ⟨(Nat.le_of_ble_eq_true rfl), (Nat.le_of_ble_eq_true rfl)⟩ (Nat.le_of_ble_eq_true rfl) dX7_between_23 ?_
      refine z_rng fun hr => ?_
      obtain rfl : c = 1 := by rw [← hc]; unfold z_c_between; (repeat' split) <;> omega
      exact z_iret dX7_between_26 (if_neg (by decide)).symm (by rw [if_neg (by decide), ← hM0, z_sM_sM])
theorem tX7_count {G : z_G} {M : z_M} {N c w : Int} (hb : z_BI (M 22) N) (rw : z_rg w) (hc : z_c_count w = c) : KX7_count G [.ref (z_ad G 0 40), z_I w] M (.inl (some (z_I (if c = 0 then z_cv (M 22) (M 21 2) w else 0)))) (if c = 0 then z_sM M 21 4 0 else z_sM M 21 4 c) := by
  refine z_con (ls := [some (.ref (z_ad G 0 40)), some (z_I w)]) (by decide +kernel) (Nat.le_of_ble_eq_true rfl) rfl ?_
  intro Z htb
  refine z_rng fun hr => ?_
  refine z_aloadn dX7_count_0 rfl ?_
  refine z_iconst dX7_count_1 ?_
  refine pX7_40 (by first | (exact hr _ _ (by decide)) | omega) rfl dX7_count_2 ?_
  refine z_rng fun hr => ?_
  generalize hM0 : z_sM M 21 4 0 = M0
  have hz : M0 22 = M 22 := by rw [← hM0]; exact z_sM_row _ _ _ (by decide)
  have hz2 : M0 21 2 = M 21 2 := by rw [← hM0]; exact z_sM_ne _ _ _ (by decide)
  rw [hM0] at hr
  rw [← hz] at hb
  try rw [← hz] at hc
  have hh := z_BI_h hb
  refine z_iloadn dX7_count_5 rfl ?_
  refine z_iconst dX7_count_6 ?_
  refine z_bipush dX7_count_7 (by decide) ?_
  refine kX7_44 (tX7_within (by first | (exact hr _ _ (by decide)) | omega) (by first | (exact hr _ _ (by decide)) | omega) (by first | (exact hr _ _ (by decide)) | omega)) rfl ⟨(Nat.le_of_ble_eq_true rfl), (Nat.le_of_ble_eq_true rfl)⟩ (Nat.le_of_ble_eq_true rfl) dX7_count_9 ?_
  refine z_ifb_eq (tgt := 23) dX7_count_12 (by decide) (fun h12 => ?_) (fun h12 => ?_)
  · refine z_aloadn dX7_count_23 rfl ?_
    refine z_iconst dX7_count_24 ?_
    refine kX7_55 (tX7_fails (by first | decide | omega)) rfl ⟨(Nat.le_of_ble_eq_true rfl), (Nat.le_of_ble_eq_true rfl)⟩ (Nat.le_of_ble_eq_true rfl) dX7_count_25 ?_
    refine z_rng fun hr => ?_
    obtain rfl : c = 1 := by rw [← hc]; unfold z_c_count; (repeat' split) <;> omega
    exact z_iret dX7_count_28 (if_neg (by decide)).symm (by rw [if_neg (by decide), ← hM0, z_sM_sM])
  · refine z_aloadn dX7_count_15 rfl ?_
    refine z_iloadn dX7_count_16 rfl ?_
    refine kX7_212 (tX7_counted hb (by omega) (by omega)) rfl ⟨(Nat.le_of_ble_eq_true rfl), (Nat.le_of_ble_eq_true rfl)⟩ (Nat.le_of_ble_eq_true rfl) dX7_count_17 ?_
    refine z_goto (tgt := 28) dX7_count_20 (by decide) ?_
    exact z_iret dX7_count_28 (by obtain rfl : c = 0 := by { rw [← hc]; unfold z_c_count; (repeat' split) <;> omega }; rw [if_pos rfl, ← hz]; try rw [hz2]) (by obtain rfl : c = 0 := by { rw [← hc]; unfold z_c_count; (repeat' split) <;> omega }; rw [if_pos rfl])
theorem tX7_setting {G : z_G} {M : z_M} {N c w : Int} (hb : z_BI (M 22) N) (rw : z_rg w) (hc : z_c_setting w = c) : KX7_setting G [.ref (z_ad G 0 40), z_I w] M (.inl (some (z_I (if c = 0 then M 22 (8 + w) else 0)))) (if c = 0 then z_sM M 21 4 0 else z_sM M 21 4 c) := by
  refine z_con (ls := [some (.ref (z_ad G 0 40)), some (z_I w)]) (by decide +kernel) (Nat.le_of_ble_eq_true rfl) rfl ?_
  intro Z htb
  refine z_rng fun hr => ?_
  refine z_aloadn dX7_setting_0 rfl ?_
  refine z_iconst dX7_setting_1 ?_
  refine pX7_40 (by first | (exact hr _ _ (by decide)) | omega) rfl dX7_setting_2 ?_
  refine z_rng fun hr => ?_
  generalize hM0 : z_sM M 21 4 0 = M0
  have hz : M0 22 = M 22 := by rw [← hM0]; exact z_sM_row _ _ _ (by decide)
  have hz2 : M0 21 2 = M 21 2 := by rw [← hM0]; exact z_sM_ne _ _ _ (by decide)
  rw [hM0] at hr
  rw [← hz] at hb
  try rw [← hz] at hc
  have hh := z_BI_h hb
  refine z_iloadn dX7_setting_5 rfl ?_
  refine z_iconst dX7_setting_6 ?_
  refine z_iconst dX7_setting_7 ?_
  refine kX7_44 (tX7_within (by first | (exact hr _ _ (by decide)) | omega) (by first | (exact hr _ _ (by decide)) | omega) (by first | (exact hr _ _ (by decide)) | omega)) rfl ⟨(Nat.le_of_ble_eq_true rfl), (Nat.le_of_ble_eq_true rfl)⟩ (Nat.le_of_ble_eq_true rfl) dX7_setting_8 ?_
  refine z_ifb_eq (tgt := 26) dX7_setting_11 (by decide) (fun h11 => ?_) (fun h11 => ?_)
  · refine z_aloadn dX7_setting_26 rfl ?_
    refine z_iconst dX7_setting_27 ?_
    refine kX7_55 (tX7_fails (by first | decide | omega)) rfl ⟨(Nat.le_of_ble_eq_true rfl), (Nat.le_of_ble_eq_true rfl)⟩ (Nat.le_of_ble_eq_true rfl) dX7_setting_28 ?_
    refine z_rng fun hr => ?_
    obtain rfl : c = 1 := by rw [← hc]; unfold z_c_setting; (repeat' split) <;> omega
    exact z_iret dX7_setting_31 (if_neg (by decide)).symm (by rw [if_neg (by decide), ← hM0, z_sM_sM])
  · refine z_aloadn dX7_setting_14 rfl ?_
    refine gX7_7 rfl dX7_setting_15 ?_
    refine z_bipush dX7_setting_18 (by decide) ?_
    refine z_iloadn dX7_setting_20 rfl ?_
    refine z_iadd dX7_setting_21 ?_
    refine z_iald (by rfl) (by first | decide | exact Or.inl ⟨by decide, hg⟩) (by omega) (by omega) (by decide) dX7_setting_22 ?_
    refine z_goto (tgt := 31) dX7_setting_23 (by decide) ?_
    exact z_iret dX7_setting_31 (by obtain rfl : c = 0 := by { rw [← hc]; unfold z_c_setting; (repeat' split) <;> omega }; rw [if_pos rfl, ← hz]; try rw [hz2]) (by obtain rfl : c = 0 := by { rw [← hc]; unfold z_c_setting; (repeat' split) <;> omega }; rw [if_pos rfl])
