abbrev z_R0 (M : z_M) : Int × (Int → Int) × (Int → Int) := z_rd (M 25) (M 21 3).toNat 0 (z_f0 (M 21)) (z_r0 (M 26))
abbrev z_isL (M : z_M) : Prop := (z_R0 M).1 = M 21 3 ∧ z_ovr (z_R0 M).2.1
def z_Lf (M : z_M) : Int → Int := if z_isL M then z_endf (z_R0 M).2.1 else (z_R0 M).2.1
def z_Lr (M : z_M) : Int → Int := if z_isL M then z_endr (z_R0 M).2.1 (z_R0 M).2.2 else (z_R0 M).2.2
theorem tX7_isOver2 {G : z_G} {M : z_M} {f r : Int → Int} (hp : z_PF f r) : KX7_isOver G [.ref (z_ad G 0 40)] (z_t2 M f r) (.inl (some (z_I (if z_ovr f then 1 else 0)))) (z_t2 M f r) := by
  have h := tX7_isOver (G := G) (M := z_t2 M f r) (by rw [z_t2_21, z_t2_26]; exact hp)
  rwa [z_t2_21] at h
theorem tX7_ends2 {G : z_G} {M : z_M} {f r : Int → Int} (hp : z_PF f r) (s0 : f 5 ≠ 0) (s3 : f 5 ≠ 3) : KX7_ends G [.ref (z_ad G 0 40)] (z_t2 M f r) (.inl none) (z_t2 M (z_endf f) (z_endr f r)) := by
  have h := tX7_ends (G := G) (M := z_t2 M f r) (by rw [z_t2_21, z_t2_26]; exact hp) (by rw [z_t2_21]; exact s0) (by rw [z_t2_21]; exact s3)
  rwa [z_t2_t2, z_t2_26, z_t2_21] at h
/-- no part of a pen from n on -/
abbrev z_thr (r : Int → Int) (n : Int) : Prop := ∀ p, n ≤ p → p < 12 → r p = 0
theorem tX7_isList {G : z_G} {M : z_M} (l0 : 0 ≤ M 21 3) (l1 : M 21 3 ≤ 60) (tx : ∀ i, 0 ≤ i → i < M 21 3 → 33 ≤ M 25 i ∧ M 25 i ≤ 126) : KX7_isList G [.ref (z_ad G 0 40)] M (.inl (some (z_I (if z_isL M then 1 else 0)))) (z_t2 M (z_Lf M) (z_Lr M)) := by
  refine z_con (ls := [some (.ref (z_ad G 0 40)), none]) (by decide +kernel) (Nat.le_of_ble_eq_true rfl) rfl ?_
  intro Z htb
  refine z_rng fun hr => ?_
  have y_P := z_rd_PF (M 25) (M 21 3).toNat 0 (z_f0 (M 21)) (z_r0 (M 26)) (z_PF_0 _ _)
  have y_3 := z_rd_o (M 25) (j := 3) (by omega) (M 21 3).toNat 0 (z_f0 (M 21)) (z_r0 (M 26))
  have y_k := z_rd_k (M 25) (M 21 3).toNat 0 (z_f0 (M 21)) (z_r0 (M 26))
  have y_L : ∀ R : Int × (Int → Int) × (Int → Int), z_R0 M = R → (z_isL M ↔ R.1 = M 21 3 ∧ z_ovr R.2.1) := fun R h => by subst h; exact Iff.rfl
  have y_Lf : ∀ R : Int × (Int → Int) × (Int → Int), z_R0 M = R → z_Lf M = if z_isL M then z_endf R.2.1 else R.2.1 := fun R h => by subst h; rfl
  have y_Lr : ∀ R : Int × (Int → Int) × (Int → Int), z_R0 M = R → z_Lr M = if z_isL M then z_endr R.2.1 R.2.2 else R.2.2 := fun R h => by subst h; rfl
  obtain ⟨R, hR⟩ : ∃ R, z_rd (M 25) (M 21 3).toNat 0 (z_f0 (M 21)) (z_r0 (M 26)) = R := ⟨_, rfl⟩
  have y_L := y_L R hR
  have y_Lf := y_Lf R hR
  have y_Lr := y_Lr R hR
  rw [hR] at y_P y_3 y_k
  have y_03 : z_f0 (M 21) 3 = M 21 3 := rfl
  rw [y_03] at y_3
  refine z_aloadn dX7_isList_0 rfl ?_
  refine kX7_123 (tX7_read l0 l1 tx hR) rfl ⟨(Nat.le_of_ble_eq_true rfl), (Nat.le_of_ble_eq_true rfl)⟩ (Nat.le_of_ble_eq_true rfl) dX7_isList_1 ?_
  refine z_rng fun hr => ?_
  refine z_aloadn dX7_isList_4 rfl ?_
  refine gX7_117 rfl dX7_isList_5 ?_
  refine z_top (v' := M 21 3) (by rw [z_t2_21]; exact y_3) ?_
  refine z_icmp_ne (tgt := 22) (by omega) (by omega) dX7_isList_8 (by decide) (fun h8 => ?_) (fun h8 => ?_)
  · have y_B : ¬ z_isL M := fun q => by have := y_L.mp q; first | exact h15 this.2 | omega
    refine z_iconst dX7_isList_22 ?_
    refine z_istoren_1 dX7_isList_23 (Nat.le_of_ble_eq_true rfl) rfl ?_
    refine z_iloadn dX7_isList_24 rfl ?_
    refine z_if_eq (tgt := 32) (by first | (exact hr _ _ (by decide)) | omega) dX7_isList_25 (by decide) (fun h25 => ?_) (fun h25 => ?_)
    · refine z_iloadn dX7_isList_32 rfl ?_
      exact z_zret dX7_isList_33 (by first | exact (if_pos y_B).symm | exact (if_neg y_B).symm) (by rw [y_Lf, y_Lr]; first | rw [if_pos y_B, if_pos y_B] | rw [if_neg y_B, if_neg y_B]) (by first | decide | (split <;> simp))
    · exact absurd h25 (by decide)
  · refine z_aloadn dX7_isList_11 rfl ?_
    refine kX7_104 (tX7_isOver2 y_P) rfl ⟨(Nat.le_of_ble_eq_true rfl), (Nat.le_of_ble_eq_true rfl)⟩ (Nat.le_of_ble_eq_true rfl) dX7_isList_12 ?_
    refine z_ifb_eq (tgt := 22) dX7_isList_15 (by decide) (fun h15 => ?_) (fun h15 => ?_)
    · have y_B : ¬ z_isL M := fun q => by have := y_L.mp q; first | exact h15 this.2 | omega
      refine z_iconst dX7_isList_22 ?_
      refine z_istoren_1 dX7_isList_23 (Nat.le_of_ble_eq_true rfl) rfl ?_
      refine z_iloadn dX7_isList_24 rfl ?_
      refine z_if_eq (tgt := 32) (by first | (exact hr _ _ (by decide)) | omega) dX7_isList_25 (by decide) (fun h25 => ?_) (fun h25 => ?_)
      · refine z_iloadn dX7_isList_32 rfl ?_
        exact z_zret dX7_isList_33 (by first | exact (if_pos y_B).symm | exact (if_neg y_B).symm) (by rw [y_Lf, y_Lr]; first | rw [if_pos y_B, if_pos y_B] | rw [if_neg y_B, if_neg y_B]) (by first | decide | (split <;> simp))
      · exact absurd h25 (by decide)
    · have y_B : z_isL M := y_L.mpr ⟨by omega, h15⟩
      refine z_iconst dX7_isList_18 ?_
      refine z_goto (tgt := 23) dX7_isList_19 (by decide) ?_
      refine z_istoren_1 dX7_isList_23 (Nat.le_of_ble_eq_true rfl) rfl ?_
      refine z_iloadn dX7_isList_24 rfl ?_
      refine z_if_eq (tgt := 32) (by first | (exact hr _ _ (by decide)) | omega) dX7_isList_25 (by decide) (fun h25 => ?_) (fun h25 => ?_)
      · exact absurd h25 (by decide)
      · refine z_aloadn dX7_isList_28 rfl ?_
        refine kX7_108 (tX7_ends2 y_P (by unfold z_ovr at h15; omega) (by unfold z_ovr at h15; omega)) rfl ⟨(Nat.le_of_ble_eq_true rfl), (Nat.le_of_ble_eq_true rfl)⟩ (Nat.le_of_ble_eq_true rfl) dX7_isList_29 ?_
        refine z_rng fun hr => ?_
        refine z_iloadn dX7_isList_32 rfl ?_
        exact z_zret dX7_isList_33 (by first | exact (if_pos y_B).symm | exact (if_neg y_B).symm) (by rw [y_Lf, y_Lr]; first | rw [if_pos y_B, if_pos y_B] | rw [if_neg y_B, if_neg y_B]) (by first | decide | (split <;> simp))
theorem tX7_areThere {G : z_G} {M : z_M} (n0 : 0 ≤ M 22 0) (n1 : M 22 0 ≤ 12) : KX7_areThere G [.ref (z_ad G 0 40)] M (.inl (some (z_I (if z_sm 12 (fun p => if M 22 0 ≤ p ∧ M 26 p ≠ 0 then 1 else 0) = 0 then 1 else 0)))) M := by
  refine z_con (ls := [some (.ref (z_ad G 0 40)), none, none]) (by decide +kernel) (Nat.le_of_ble_eq_true rfl) rfl ?_
  intro Z htb
  refine z_rng fun hr => ?_
  have y_n := hr 22 0 (by decide)
  refine z_iconst dX7_areThere_0 ?_
  refine z_istoren_1 dX7_areThere_1 (Nat.le_of_ble_eq_true rfl) rfl ?_
  refine z_aloadn dX7_areThere_2 rfl ?_
  refine gX7_7 rfl dX7_areThere_3 ?_
  refine z_iconst dX7_areThere_6 ?_
  refine z_iald (by rfl) (by first | decide | exact Or.inl ⟨by decide, hg⟩) (by omega) (by omega) (by decide) dX7_areThere_7 ?_
  refine z_istoren_2 dX7_areThere_8 (Nat.le_of_ble_eq_true rfl) rfl ?_
  refine z_upn (P := fun i : Nat => ∀ x j : Int, j = M 22 0 + i → (x = 1 ∨ x = 0) → (x = 1 ↔ z_sm j.toNat (fun p => if M 22 0 ≤ p ∧ M 26 p ≠ 0 then 1 else 0) = 0) → z_J G Z _ _ 9 [some (.ref (z_ad G 0 40)), some (z_I x), some (z_I j)] [] M 0 0) (12 - M 22 0).toNat ?_ ?_ 1 (M 22 0) (by omega) (Or.inl rfl) ?_
  · intro x j y_j y_x y_y
    have y_e : j.toNat = 12 := by omega
    rw [y_e] at y_y
    refine z_iloadn dX7_areThere_9 rfl ?_
    refine z_bipush dX7_areThere_10 (by decide) ?_
    refine z_icmp_ge (tgt := 40) (by first | (exact hr _ _ (by decide)) | omega) (by first | (exact hr _ _ (by decide)) | omega) dX7_areThere_12 (by decide) (fun h12 => ?_) (fun h12 => ?_)
    · refine z_iloadn dX7_areThere_40 rfl ?_
      exact z_zret dX7_areThere_41 (by split <;> omega) rfl (by first | decide | (split <;> simp))
    · exfalso; omega
  · intro i hi y_ih x j y_j y_x y_y
    have y_s := z_sm_nn (n := j.toNat) (f := fun p => if M 22 0 ≤ p ∧ M 26 p ≠ 0 then (1 : Int) else 0) (fun i _ => by split <;> omega)
    have y_e : (j + 1).toNat = j.toNat + 1 := by omega
    have y_v := z_sm_s j.toNat (fun p => if M 22 0 ≤ p ∧ M 26 p ≠ 0 then (1 : Int) else 0)
    have y_f : ((j.toNat : Nat) : Int) = j := by omega
    rw [y_f, ← y_e] at y_v
    refine z_iloadn dX7_areThere_9 rfl ?_
    refine z_bipush dX7_areThere_10 (by decide) ?_
    refine z_icmp_ge (tgt := 40) (by first | (exact hr _ _ (by decide)) | omega) (by first | (exact hr _ _ (by decide)) | omega) dX7_areThere_12 (by decide) (fun h12 => ?_) (fun h12 => ?_)
    · exfalso; omega
    · refine z_iloadn dX7_areThere_15 rfl ?_
      refine z_if_eq (tgt := 32) (by first | (exact hr _ _ (by decide)) | omega) dX7_areThere_16 (by decide) (fun h16 => ?_) (fun h16 => ?_)
      · refine z_iconst dX7_areThere_32 ?_
        refine z_istoren_1 dX7_areThere_33 (Nat.le_of_ble_eq_true rfl) rfl ?_
        refine z_iinc_2 dX7_areThere_34 (Nat.le_of_ble_eq_true rfl) rfl ?_
        refine z_goto (tgt := 9) dX7_areThere_37 (by decide) ?_
        first
          | exact y_ih 1 (j + 1) (by omega) (Or.inl rfl) (by rw [if_neg (by omega)] at y_v; omega)
          | exact y_ih 0 (j + 1) (by omega) (Or.inr rfl) (by (split at y_v) <;> omega)
      · refine z_aloadn dX7_areThere_19 rfl ?_
        refine gX7_22 rfl dX7_areThere_20 ?_
        refine z_iloadn dX7_areThere_23 rfl ?_
        refine z_iald (by rfl) (by first | decide | exact Or.inl ⟨by decide, hg⟩) (by omega) (by omega) (by decide) dX7_areThere_24 ?_
        refine z_if_ne (tgt := 32) (by first | (exact hr _ _ (by decide)) | omega) dX7_areThere_25 (by decide) (fun h25 => ?_) (fun h25 => ?_)
        · refine z_iconst dX7_areThere_32 ?_
          refine z_istoren_1 dX7_areThere_33 (Nat.le_of_ble_eq_true rfl) rfl ?_
          refine z_iinc_2 dX7_areThere_34 (Nat.le_of_ble_eq_true rfl) rfl ?_
          refine z_goto (tgt := 9) dX7_areThere_37 (by decide) ?_
          first
            | exact y_ih 1 (j + 1) (by omega) (Or.inl rfl) (by rw [if_neg (by omega)] at y_v; omega)
            | exact y_ih 0 (j + 1) (by omega) (Or.inr rfl) (by (split at y_v) <;> omega)
        · refine z_iconst dX7_areThere_28 ?_
          refine z_goto (tgt := 33) dX7_areThere_29 (by decide) ?_
          refine z_istoren_1 dX7_areThere_33 (Nat.le_of_ble_eq_true rfl) rfl ?_
          refine z_iinc_2 dX7_areThere_34 (Nat.le_of_ble_eq_true rfl) rfl ?_
          refine z_goto (tgt := 9) dX7_areThere_37 (by decide) ?_
          first
            | exact y_ih 1 (j + 1) (by omega) (Or.inl rfl) (by rw [if_neg (by omega)] at y_v; omega)
            | exact y_ih 0 (j + 1) (by omega) (Or.inr rfl) (by (split at y_v) <;> omega)
  · have y_z : ∀ n : Nat, (n : Int) ≤ M 22 0 → z_sm n (fun p => if M 22 0 ≤ p ∧ M 26 p ≠ 0 then (1 : Int) else 0) = 0 := by
      intro n
      induction n with
      | zero => intro _; rfl
      | succ n ihn => intro hn; rw [z_sm_s, ihn (by omega), if_neg (by omega)]; rfl
    rw [y_z _ (by omega)]
    exact ⟨fun _ => rfl, fun _ => rfl⟩
