theorem z_ifc {α : Type} {P Q : Prop} [Decidable P] [Decidable Q] (h : P ↔ Q) (a b : α) : (if P then a else b) = if Q then a else b := by
  by_cases p : P
  · rw [if_pos p, if_pos (h.mp p)]
  · rw [if_neg p, if_neg (fun q => p (h.mpr q))]
theorem tX2_takesDigit {G : z_G} {M : z_M} {F r : Int → Int} (hp : z_PK F r) {c : Int} (c0 : 33 ≤ c) (c1 : c ≤ 126) : KX2_takesDigit G [.ref (z_ad G 0 22), z_I c] (z_c2 M F r) (.inl (some (z_I (if z_dgB r c then 1 else 0)))) (if z_dgB r c then z_c2 M (z_dgF F c) r else (z_c2 M F r)) := by
  refine z_con (ls := [some (.ref (z_ad G 0 22)), some (z_I c)]) (by decide +kernel) (Nat.le_of_ble_eq_true rfl) rfl ?_
  intro Z htb
  refine z_rng fun hr => ?_
  have hp' := hp
  obtain ⟨h1, h2, h3, h4, h5, h6, h7, h8, h9⟩ := hp'
  refine z_iloadn dX2_takesDigit_0 rfl ?_
  refine z_bipush dX2_takesDigit_1 (by decide) ?_
  refine z_icmp_ne (tgt := 11) (by first | (exact hr _ _ (by decide)) | (exact hr _ _ (by omega)) | omega) (by first | (exact hr _ _ (by decide)) | (exact hr _ _ (by omega)) | omega) dX2_takesDigit_3 (by decide) (fun h3 => ?_) (fun h3 => ?_)
  · refine z_iloadn dX2_takesDigit_11 rfl ?_
    refine z_bipush dX2_takesDigit_12 (by decide) ?_
    refine z_icmp_lt (tgt := 38) (by first | (exact hr _ _ (by decide)) | (exact hr _ _ (by omega)) | omega) (by first | (exact hr _ _ (by decide)) | (exact hr _ _ (by omega)) | omega) dX2_takesDigit_14 (by decide) (fun h14 => ?_) (fun h14 => ?_)
    · refine z_iconst dX2_takesDigit_38 ?_
      exact z_zret dX2_takesDigit_39 (by first | rw [if_pos (by omega)] | rw [if_neg (by omega)] | exact z_ifc (by omega) _ _) (by first | (rw [if_pos (by omega)]; unfold z_dgF; rw [if_neg (by omega)]; done) | (rw [if_neg (by omega)]; done)) (by first | decide | (split <;> simp))
    · refine z_iloadn dX2_takesDigit_17 rfl ?_
      refine z_bipush dX2_takesDigit_18 (by decide) ?_
      refine z_icmp_gt (tgt := 38) (by first | (exact hr _ _ (by decide)) | (exact hr _ _ (by omega)) | omega) (by first | (exact hr _ _ (by decide)) | (exact hr _ _ (by omega)) | omega) dX2_takesDigit_20 (by decide) (fun h20 => ?_) (fun h20 => ?_)
      · refine z_iconst dX2_takesDigit_38 ?_
        exact z_zret dX2_takesDigit_39 (by first | rw [if_pos (by omega)] | rw [if_neg (by omega)] | exact z_ifc (by omega) _ _) (by first | (rw [if_pos (by omega)]; unfold z_dgF; rw [if_neg (by omega)]; done) | (rw [if_neg (by omega)]; done)) (by first | decide | (split <;> simp))
      · refine z_aloadn dX2_takesDigit_23 rfl ?_
        refine z_iloadn dX2_takesDigit_24 rfl ?_
        refine z_bipush dX2_takesDigit_25 (by decide) ?_
        refine z_isub dX2_takesDigit_27 ?_
        refine kX2_70 (tX2_takesPen hp (by omega) (by omega)) rfl ⟨(Nat.le_of_ble_eq_true rfl), (Nat.le_of_ble_eq_true rfl)⟩ (Nat.le_of_ble_eq_true rfl) dX2_takesDigit_28 ?_
        refine z_rng fun hr => ?_
        refine z_ifb_eq (tgt := 38) dX2_takesDigit_31 (by decide) (fun h31 => ?_) (fun h31 => ?_)
        · refine z_mem (if_neg h31) ?_
          refine z_iconst dX2_takesDigit_38 ?_
          exact z_zret dX2_takesDigit_39 (by first | rw [if_pos (by omega)] | rw [if_neg (by omega)] | exact z_ifc (by omega) _ _) (by first | (rw [if_pos (by omega)]; unfold z_dgF; rw [if_neg (by omega)]; done) | (rw [if_neg (by omega)]; done)) (by first | decide | (split <;> simp))
        · refine z_mem (if_pos (by omega)) ?_
          refine z_iconst dX2_takesDigit_34 ?_
          refine z_goto (tgt := 39) dX2_takesDigit_35 (by decide) ?_
          exact z_zret dX2_takesDigit_39 (by first | rw [if_pos (by omega)] | rw [if_neg (by omega)] | exact z_ifc (by omega) _ _) (by first | (rw [if_pos (by omega)]; unfold z_dgF; rw [if_neg (by omega)]; done) | (rw [if_neg (by omega)]; done)) (by first | decide | (split <;> simp))
  · refine z_aloadn dX2_takesDigit_6 rfl ?_
    refine kX2_66 (tX2_takesOne hp) rfl ⟨(Nat.le_of_ble_eq_true rfl), (Nat.le_of_ble_eq_true rfl)⟩ (Nat.le_of_ble_eq_true rfl) dX2_takesDigit_7 ?_
    refine z_rng fun hr => ?_
    exact z_zret dX2_takesDigit_10 (z_ifc (by omega) _ _) (by by_cases e : z_w1 r <;> first | (rw [if_pos e, if_pos (by omega)]; done) | (rw [if_neg (by omega), if_neg (by omega)]; done) | (rw [if_pos (by omega), if_pos (by omega)]; unfold z_dgF; rw [if_pos (by omega)])) (by first | decide | (split <;> simp))
theorem tX2_takesAfterOne {G : z_G} {M : z_M} {F r : Int → Int} (hp : z_PK F r) {c : Int} (c0 : 33 ≤ c) (c1 : c ≤ 126) : KX2_takesAfterOne G [.ref (z_ad G 0 22), z_I c] (z_c2 M F r) (.inl (some (z_I (if z_aoB F r c then 1 else 0)))) (if z_aoB F r c then z_c2 M (z_aoF F c) (z_aoR F r c) else (z_c2 M F r)) := by
  refine z_con (ls := [some (.ref (z_ad G 0 22)), some (z_I c)]) (by decide +kernel) (Nat.le_of_ble_eq_true rfl) rfl ?_
  intro Z htb
  refine z_rng fun hr => ?_
  have hp' := hp
  obtain ⟨h1, h2, h3, h4, h5, h6, h7, h8, h9⟩ := hp'
  have q1 := h9 1 (by decide) (by decide)
  refine z_iloadn dX2_takesAfterOne_0 rfl ?_
  refine z_bipush dX2_takesAfterOne_1 (by decide) ?_
  refine z_icmp_eq (tgt := 12) (by first | (exact hr _ _ (by decide)) | (exact hr _ _ (by omega)) | omega) (by first | (exact hr _ _ (by decide)) | (exact hr _ _ (by omega)) | omega) dX2_takesAfterOne_3 (by decide) (fun h3 => ?_) (fun h3 => ?_)
  · refine z_aloadn dX2_takesAfterOne_12 rfl ?_
    refine z_bipush dX2_takesAfterOne_13 (by decide) ?_
    refine z_iloadn dX2_takesAfterOne_15 rfl ?_
    refine z_iadd dX2_takesAfterOne_16 ?_
    refine z_bipush dX2_takesAfterOne_17 (by decide) ?_
    refine z_isub dX2_takesAfterOne_19 ?_
    refine kX2_70 (tX2_takesPen hp (by omega) (by omega)) rfl ⟨(Nat.le_of_ble_eq_true rfl), (Nat.le_of_ble_eq_true rfl)⟩ (Nat.le_of_ble_eq_true rfl) dX2_takesAfterOne_20 ?_
    refine z_rng fun hr => ?_
    exact z_zret dX2_takesAfterOne_23 (z_ifc (by omega) _ _) (by have e0 : ((0 ≤ 10 + c - 48 ∧ 10 + c - 48 < 12 ∧ r (10 + c - 48) = 0) ↔ z_aoB F r c) := (by omega); have eF : z_aoF F c = z_uf (z_uf F 5 (10 + c - 48)) 4 2 := (by unfold z_aoF; rw [if_pos (by omega)]); have eR : z_aoR F r c = r := (by unfold z_aoR; rw [if_pos (by omega)]); rw [eF, eR]; exact z_ifc e0 _ _) (by first | decide | (split <;> simp))
  · refine z_iloadn dX2_takesAfterOne_6 rfl ?_
    refine z_bipush dX2_takesAfterOne_7 (by decide) ?_
    refine z_icmp_ne (tgt := 24) (by first | (exact hr _ _ (by decide)) | (exact hr _ _ (by omega)) | omega) (by first | (exact hr _ _ (by decide)) | (exact hr _ _ (by omega)) | omega) dX2_takesAfterOne_9 (by decide) (fun h9 => ?_) (fun h9 => ?_)
    · refine z_aloadn dX2_takesAfterOne_24 rfl ?_
      refine gX2_15 rfl dX2_takesAfterOne_25 ?_
      refine z_iconst dX2_takesAfterOne_28 ?_
      refine z_iald (by rfl) (by first | exact Or.inl (by decide) | exact Or.inl (Or.inl ⟨by decide, hg⟩)) (by omega) (by omega) (by decide) dX2_takesAfterOne_29 ?_
      refine z_top (v' := r 1) rfl ?_
      refine z_if_ne (tgt := 53) (by first | (exact hr _ _ (by decide)) | (exact hr _ _ (by omega)) | omega) dX2_takesAfterOne_30 (by decide) (fun h30 => ?_) (fun h30 => ?_)
      · refine z_iconst dX2_takesAfterOne_53 ?_
        exact z_zret dX2_takesAfterOne_54 (by first | rw [if_pos (by omega)] | rw [if_neg (by omega)] | exact z_ifc (by omega) _ _) (by first | (rw [if_pos (by omega)]; unfold z_aoF z_aoR; (repeat' split) <;> first | rfl | (exfalso; omega)) | (rw [if_neg (by omega)]; done)) (by first | decide | (split <;> simp))
      · refine z_aloadn dX2_takesAfterOne_33 rfl ?_
        refine z_iloadn dX2_takesAfterOne_34 rfl ?_
        refine kX2_57 (tX2_takesStar c0 c1) rfl ⟨(Nat.le_of_ble_eq_true rfl), (Nat.le_of_ble_eq_true rfl)⟩ (Nat.le_of_ble_eq_true rfl) dX2_takesAfterOne_35 ?_
        refine z_rng fun hr => ?_
        refine z_ifb_ne (tgt := 49) dX2_takesAfterOne_38 (by decide) (fun h38 => ?_) (fun h38 => ?_)
        · refine z_mem (if_pos h38) ?_
          refine z_iconst dX2_takesAfterOne_49 ?_
          refine z_goto (tgt := 54) dX2_takesAfterOne_50 (by decide) ?_
          exact z_zret dX2_takesAfterOne_54 (by first | rw [if_pos (by omega)] | rw [if_neg (by omega)] | exact z_ifc (by omega) _ _) (by first | (rw [if_pos (by omega)]; unfold z_aoF z_aoR; (repeat' split) <;> first | rfl | (exfalso; omega)) | (rw [if_neg (by omega)]; done)) (by first | decide | (split <;> simp))
        · refine z_mem (if_neg h38) ?_
          refine z_aloadn dX2_takesAfterOne_41 rfl ?_
          refine z_iloadn dX2_takesAfterOne_42 rfl ?_
          refine kX2_60 (tX2_takesComma hp c0 c1) rfl ⟨(Nat.le_of_ble_eq_true rfl), (Nat.le_of_ble_eq_true rfl)⟩ (Nat.le_of_ble_eq_true rfl) dX2_takesAfterOne_43 ?_
          refine z_rng fun hr => ?_
          refine z_ifb_eq (tgt := 53) dX2_takesAfterOne_46 (by decide) (fun h46 => ?_) (fun h46 => ?_)
          · refine z_mem (if_neg h46) ?_
            refine z_iconst dX2_takesAfterOne_53 ?_
            exact z_zret dX2_takesAfterOne_54 (by first | rw [if_pos (by omega)] | rw [if_neg (by omega)] | exact z_ifc (by omega) _ _) (by first | (rw [if_pos (by omega)]; unfold z_aoF z_aoR; (repeat' split) <;> first | rfl | (exfalso; omega)) | (rw [if_neg (by omega)]; done)) (by first | decide | (split <;> simp))
          · refine z_mem (if_pos (by omega)) ?_
            refine z_iconst dX2_takesAfterOne_49 ?_
            refine z_goto (tgt := 54) dX2_takesAfterOne_50 (by decide) ?_
            exact z_zret dX2_takesAfterOne_54 (by first | rw [if_pos (by omega)] | rw [if_neg (by omega)] | exact z_ifc (by omega) _ _) (by first | (rw [if_pos (by omega)]; unfold z_aoF z_aoR; (repeat' split) <;> first | rfl | (exfalso; omega)) | (rw [if_neg (by omega)]; done)) (by first | decide | (split <;> simp))
    · refine z_aloadn dX2_takesAfterOne_12 rfl ?_
      refine z_bipush dX2_takesAfterOne_13 (by decide) ?_
      refine z_iloadn dX2_takesAfterOne_15 rfl ?_
      refine z_iadd dX2_takesAfterOne_16 ?_
      refine z_bipush dX2_takesAfterOne_17 (by decide) ?_
      refine z_isub dX2_takesAfterOne_19 ?_
      refine kX2_70 (tX2_takesPen hp (by omega) (by omega)) rfl ⟨(Nat.le_of_ble_eq_true rfl), (Nat.le_of_ble_eq_true rfl)⟩ (Nat.le_of_ble_eq_true rfl) dX2_takesAfterOne_20 ?_
      refine z_rng fun hr => ?_
      exact z_zret dX2_takesAfterOne_23 (z_ifc (by omega) _ _) (by have e0 : ((0 ≤ 10 + c - 48 ∧ 10 + c - 48 < 12 ∧ r (10 + c - 48) = 0) ↔ z_aoB F r c) := (by omega); have eF : z_aoF F c = z_uf (z_uf F 5 (10 + c - 48)) 4 2 := (by unfold z_aoF; rw [if_pos (by omega)]); have eR : z_aoR F r c = r := (by unfold z_aoR; rw [if_pos (by omega)]); rw [eF, eR]; exact z_ifc e0 _ _) (by first | decide | (split <;> simp))
theorem tX2_takes {G : z_G} {M : z_M} {F r : Int → Int} (hp : z_PK F r) {c : Int} (c0 : 33 ≤ c) (c1 : c ≤ 126) : KX2_takes G [.ref (z_ad G 0 22), z_I c] (z_c2 M F r) (.inl (some (z_I (if z_kB F r c then 1 else 0)))) (if z_kB F r c then z_c2 M (z_kfF F c) (z_kfR F r c) else (z_c2 M F r)) := by
  refine z_con (ls := [some (.ref (z_ad G 0 22)), some (z_I c)]) (by decide +kernel) (Nat.le_of_ble_eq_true rfl) rfl ?_
  intro Z htb
  refine z_rng fun hr => ?_
  have hp' := hp
  obtain ⟨h1, h2, h3, h4, h5, h6, h7, h8, h9⟩ := hp'
  refine z_aloadn dX2_takes_0 rfl ?_
  refine gX2_26 rfl dX2_takes_1 ?_
  obtain ⟨q, y_q⟩ : ∃ q, F 4 = q := ⟨_, rfl⟩
  refine z_top (v' := q) y_q ?_
  have y_q0 : 0 ≤ q := by omega
  have y_q5 : q ≤ 4 := by omega
  rcases (by omega : (q < 0 ∨ 3 < q) ∨ (q = 0) ∨ (q = 1) ∨ (q = 2) ∨ (q = 3)) with h4 | h4 | h4 | h4 | h4
  · refine z_tabOut (tgt := 76) dX2_takes_4 (by omega) h4 (by decide) ?_
    have y_q4 : F 4 = 4 := by omega
    refine z_aloadn dX2_takes_76 rfl ?_
    refine z_iloadn dX2_takes_77 rfl ?_
    refine kX2_60 (tX2_takesComma hp c0 c1) rfl ⟨(Nat.le_of_ble_eq_true rfl), (Nat.le_of_ble_eq_true rfl)⟩ (Nat.le_of_ble_eq_true rfl) dX2_takes_78 ?_
    refine z_rng fun hr => ?_
    exact z_zret dX2_takes_81 (z_ifc (z_kB4 y_q4) _ _) (by rw [z_kfF4 y_q4, z_kfR4 y_q4]; exact z_ifc (z_kB4 y_q4) _ _) (by first | decide | (split <;> simp))
  · subst h4
    refine z_tabIn (tgt := 36) (off := 32) dX2_takes_4 (by decide) (by decide) (by decide) (by decide) (by decide) ?_
    refine z_aloadn dX2_takes_36 rfl ?_
    refine z_iloadn dX2_takes_37 rfl ?_
    refine kX2_51 (tX2_takesDigit hp c0 c1) rfl ⟨(Nat.le_of_ble_eq_true rfl), (Nat.le_of_ble_eq_true rfl)⟩ (Nat.le_of_ble_eq_true rfl) dX2_takes_38 ?_
    refine z_rng fun hr => ?_
    exact z_zret dX2_takes_41 (z_ifc (z_kB0 y_q) _ _) (by rw [z_kfF0 y_q, z_kfR0 y_q]; exact z_ifc (z_kB0 y_q) _ _) (by first | decide | (split <;> simp))
  · subst h4
    refine z_tabIn (tgt := 42) (off := 38) dX2_takes_4 (by decide) (by decide) (by decide) (by decide) (by decide) ?_
    refine z_aloadn dX2_takes_42 rfl ?_
    refine z_iloadn dX2_takes_43 rfl ?_
    refine kX2_54 (tX2_takesAfterOne hp c0 c1) rfl ⟨(Nat.le_of_ble_eq_true rfl), (Nat.le_of_ble_eq_true rfl)⟩ (Nat.le_of_ble_eq_true rfl) dX2_takes_44 ?_
    refine z_rng fun hr => ?_
    exact z_zret dX2_takes_47 (z_ifc (z_kB1 y_q) _ _) (by rw [z_kfF1 y_q, z_kfR1 y_q]; exact z_ifc (z_kB1 y_q) _ _) (by first | decide | (split <;> simp))
  · subst h4
    refine z_tabIn (tgt := 48) (off := 44) dX2_takes_4 (by decide) (by decide) (by decide) (by decide) (by decide) ?_
    refine z_aloadn dX2_takes_48 rfl ?_
    refine z_iloadn dX2_takes_49 rfl ?_
    refine kX2_57 (tX2_takesStar c0 c1) rfl ⟨(Nat.le_of_ble_eq_true rfl), (Nat.le_of_ble_eq_true rfl)⟩ (Nat.le_of_ble_eq_true rfl) dX2_takes_50 ?_
    refine z_rng fun hr => ?_
    refine z_ifb_ne (tgt := 64) dX2_takes_53 (by decide) (fun h53 => ?_) (fun h53 => ?_)
    · refine z_mem (if_pos h53) ?_
      have y_B : z_kB F r c := (z_kB2 y_q).mp (by first | exact Or.inl h53 | exact Or.inr h61)
      refine z_iconst dX2_takes_64 ?_
      refine z_goto (tgt := 69) dX2_takes_65 (by decide) ?_
      exact z_zret dX2_takes_69 (by first | exact (if_pos y_B).symm | exact (if_neg y_B).symm) (by first | (rw [if_pos y_B, z_kfF2 y_q, z_kfR2 y_q]; unfold z_scF z_scR; first | rw [if_pos h53, if_pos h53] | rw [if_neg h53, if_neg h53]) | exact (if_neg y_B).symm) (by first | decide | (split <;> simp))
    · refine z_mem (if_neg h53) ?_
      refine z_aloadn dX2_takes_56 rfl ?_
      refine z_iloadn dX2_takes_57 rfl ?_
      refine kX2_60 (tX2_takesComma hp c0 c1) rfl ⟨(Nat.le_of_ble_eq_true rfl), (Nat.le_of_ble_eq_true rfl)⟩ (Nat.le_of_ble_eq_true rfl) dX2_takes_58 ?_
      refine z_rng fun hr => ?_
      refine z_ifb_eq (tgt := 68) dX2_takes_61 (by decide) (fun h61 => ?_) (fun h61 => ?_)
      · refine z_mem (if_neg h61) ?_
        have y_B : ¬ z_kB F r c := fun q => by
          rcases (z_kB2 y_q).mpr q with e | e
          · exact h53 e
          · exact h61 e
        refine z_iconst dX2_takes_68 ?_
        exact z_zret dX2_takes_69 (by first | exact (if_pos y_B).symm | exact (if_neg y_B).symm) (by first | (rw [if_pos y_B, z_kfF2 y_q, z_kfR2 y_q]; unfold z_scF z_scR; first | rw [if_pos h53, if_pos h53] | rw [if_neg h53, if_neg h53]) | exact (if_neg y_B).symm) (by first | decide | (split <;> simp))
      · refine z_mem (if_pos (by omega)) ?_
        have y_B : z_kB F r c := (z_kB2 y_q).mp (by first | exact Or.inl h53 | exact Or.inr h61)
        refine z_iconst dX2_takes_64 ?_
        refine z_goto (tgt := 69) dX2_takes_65 (by decide) ?_
        exact z_zret dX2_takes_69 (by first | exact (if_pos y_B).symm | exact (if_neg y_B).symm) (by first | (rw [if_pos y_B, z_kfF2 y_q, z_kfR2 y_q]; unfold z_scF z_scR; first | rw [if_pos h53, if_pos h53] | rw [if_neg h53, if_neg h53]) | exact (if_neg y_B).symm) (by first | decide | (split <;> simp))
  · subst h4
    refine z_tabIn (tgt := 70) (off := 66) dX2_takes_4 (by decide) (by decide) (by decide) (by decide) (by decide) ?_
    refine z_aloadn dX2_takes_70 rfl ?_
    refine z_iloadn dX2_takes_71 rfl ?_
    refine kX2_63 (tX2_takesFactor c0 c1) rfl ⟨(Nat.le_of_ble_eq_true rfl), (Nat.le_of_ble_eq_true rfl)⟩ (Nat.le_of_ble_eq_true rfl) dX2_takes_72 ?_
    refine z_rng fun hr => ?_
    exact z_zret dX2_takes_75 (z_ifc (z_kB3 y_q) _ _) (by rw [z_kfF3 y_q, z_kfR3 y_q]; exact z_ifc (z_kB3 y_q) _ _) (by first | decide | (split <;> simp))
theorem tX2_readToError {G : z_G} {M : z_M} {R : Int × (Int → Int) × (Int → Int)} (l0 : 0 ≤ M 7 3) (l1 : M 7 3 ≤ 60) (tx : ∀ i, 0 ≤ i → i < M 7 3 → 33 ≤ M 8 i ∧ M 8 i ≤ 126) (hR : z_KR M = R) : KX2_readToError G [.ref (z_ad G 0 22)] M (.inl (some (z_I R.1))) (z_c2 M R.2.1 R.2.2) := by
  refine z_con (ls := [some (.ref (z_ad G 0 22)), none]) (by decide +kernel) (Nat.le_of_ble_eq_true rfl) rfl ?_
  intro Z htb
  refine z_rng fun hr => ?_
  refine z_aloadn dX2_readToError_0 rfl ?_
  refine gX2_15 rfl dX2_readToError_1 ?_
  refine z_iconst dX2_readToError_4 ?_
  refine kX2_35 (tJ7_fill_53178 (ix := fun p => p) (n := 12) (by rfl) (Or.inl (by decide)) (by decide) (by decide)) rfl ⟨(Nat.le_of_ble_eq_true rfl), (Nat.le_of_ble_eq_true rfl)⟩ (Nat.le_of_ble_eq_true rfl) dX2_readToError_5 ?_
  refine z_rng fun hr => ?_
  refine z_mem (M' := z_c2 M (M 7) (z_kr0 (M 9))) (by rw [z_fl_cp0]; show z_sR M 9 _ = z_sR (z_sR M 7 (M 7)) 9 _; rw [z_sR_id]; rfl) ?_
  refine z_aloadn dX2_readToError_8 rfl ?_
  refine z_iconst dX2_readToError_9 ?_
  refine pX2_26 (by first | (exact hr _ _ (by decide)) | (exact hr _ _ (by omega)) | omega) rfl dX2_readToError_10 ?_
  refine z_rng fun hr => ?_
  refine z_aloadn dX2_readToError_13 rfl ?_
  refine z_iconst dX2_readToError_14 ?_
  refine pX2_29 (by first | (exact hr _ _ (by decide)) | (exact hr _ _ (by omega)) | omega) rfl dX2_readToError_15 ?_
  refine z_rng fun hr => ?_
  refine z_aloadn dX2_readToError_18 rfl ?_
  refine z_iconst dX2_readToError_19 ?_
  refine pX2_41 (by first | (exact hr _ _ (by decide)) | (exact hr _ _ (by omega)) | omega) rfl dX2_readToError_20 ?_
  refine z_rng fun hr => ?_
  refine z_aloadn dX2_readToError_23 rfl ?_
  refine z_iconst dX2_readToError_24 ?_
  refine pX2_44 (by first | (exact hr _ _ (by decide)) | (exact hr _ _ (by omega)) | omega) rfl dX2_readToError_25 ?_
  refine z_rng fun hr => ?_
  refine z_mem (M' := z_c2 M (z_kF0 (M 7)) (z_kr0 (M 9))) (by rw [z_c2_7, z_c2_7, z_c2_7, z_c2_7]; rfl) ?_
  refine z_iconst dX2_readToError_28 ?_
  refine z_istoren_1 dX2_readToError_29 (Nat.le_of_ble_eq_true rfl) rfl ?_
  refine z_indR (P := fun m k F r => z_PK F r → F 3 = M 7 3 → 0 ≤ k → k + m = M 7 3 → z_krd (M 8) m k F r = R → z_J G Z _ _ 30 [some (.ref (z_ad G 0 22)), some (z_I k)] [] (z_c2 M F r) 0 0) ?_ ?_ (M 7 3).toNat 0 (z_kF0 (M 7)) (z_kr0 (M 9)) (z_PK_0 _ _) rfl (by decide) (by omega) hR
  · intro k F r y_p y_3 y_k y_m y_R
    obtain rfl := y_R
    refine z_rng fun hr => ?_
    refine z_iloadn dX2_readToError_30 rfl ?_
    refine z_aloadn dX2_readToError_31 rfl ?_
    refine gX2_22 rfl dX2_readToError_32 ?_
    refine z_top (v' := M 7 3) y_3 ?_
    refine z_icmp_ge (tgt := 59) (by omega) (by omega) dX2_readToError_35 (by decide) (fun h35 => ?_) (fun h35 => ?_)
    · refine z_aloadn dX2_readToError_59 rfl ?_
      refine gX2_22 rfl dX2_readToError_60 ?_
      refine z_top (v' := M 7 3) y_3 ?_
      exact z_iret dX2_readToError_63 (by show M 7 3 = k; omega) rfl
    · exfalso; omega
  · intro m y_ih k F r y_p y_3 y_k y_m y_R
    refine z_rng fun hr => ?_
    have y_c := tx k y_k (by omega)
    unfold z_krd at y_R
    refine z_iloadn dX2_readToError_30 rfl ?_
    refine z_aloadn dX2_readToError_31 rfl ?_
    refine gX2_22 rfl dX2_readToError_32 ?_
    refine z_top (v' := M 7 3) y_3 ?_
    refine z_icmp_ge (tgt := 59) (by omega) (by omega) dX2_readToError_35 (by decide) (fun h35 => ?_) (fun h35 => ?_)
    · exfalso; omega
    · refine z_aloadn dX2_readToError_38 rfl ?_
      refine z_aloadn dX2_readToError_39 rfl ?_
      refine gX2_11 rfl dX2_readToError_40 ?_
      refine z_iloadn dX2_readToError_43 rfl ?_
      refine z_iald (by rfl) (by first | exact Or.inl (by decide) | exact Or.inl (Or.inl ⟨by decide, hg⟩)) (by omega) (by omega) (by decide) dX2_readToError_44 ?_
      refine z_top (v' := M 8 k) (by rw [z_c2_row (by decide)]) ?_
      refine kX2_47 (tX2_takes y_p y_c.1 y_c.2) rfl ⟨(Nat.le_of_ble_eq_true rfl), (Nat.le_of_ble_eq_true rfl)⟩ (Nat.le_of_ble_eq_true rfl) dX2_readToError_45 ?_
      refine z_rng fun hr => ?_
      refine z_ifb_ne (tgt := 53) dX2_readToError_48 (by decide) (fun h48 => ?_) (fun h48 => ?_)
      · refine z_iinc_1 dX2_readToError_53 (Nat.le_of_ble_eq_true rfl) rfl ?_
        refine z_goto (tgt := 30) dX2_readToError_56 (by decide) ?_
        rw [if_pos h48] at y_R
        refine z_mem (if_pos h48) ?_
        exact y_ih _ _ _ (z_PK_k y_p h48) (by rw [z_kfF_o (by omega)]; exact y_3) (by omega) (by omega) y_R
      · refine z_iloadn dX2_readToError_51 rfl ?_
        exact z_iret dX2_readToError_52 (by rw [if_neg h48] at y_R; rw [← y_R]) (by rw [if_neg h48] at y_R; rw [if_neg h48, ← y_R])
theorem tX2_isList {G : z_G} {M : z_M} (l0 : 0 ≤ M 7 3) (l1 : M 7 3 ≤ 60) (tx : ∀ i, 0 ≤ i → i < M 7 3 → 33 ≤ M 8 i ∧ M 8 i ≤ 126) : KX2_isList G [.ref (z_ad G 0 22)] M (.inl (some (z_I (if z_kLB M then 1 else 0)))) (z_c2 M (z_kLF M) (z_kLR M)) := by
  refine z_con (ls := [some (.ref (z_ad G 0 22))]) (by decide +kernel) (Nat.le_of_ble_eq_true rfl) rfl ?_
  intro Z htb
  refine z_rng fun hr => ?_
  have y_P := z_krd_PK (M 8) (M 7 3).toNat 0 (z_kF0 (M 7)) (z_kr0 (M 9)) (z_PK_0 _ _)
  have y_3 := z_krd_o (M 8) (j := 3) (by omega) (M 7 3).toNat 0 (z_kF0 (M 7)) (z_kr0 (M 9))
  have y_k := z_krd_k (M 8) (M 7 3).toNat 0 (z_kF0 (M 7)) (z_kr0 (M 9))
  have y_L : ∀ R : Int × (Int → Int) × (Int → Int), z_KR M = R → (z_kLB M ↔ R.1 = M 7 3 ∧ R.2.1 4 ≠ 0 ∧ R.2.1 4 ≠ 3 ∧ R.2.2 (R.2.1 5) = 0) := fun R h => by subst h; exact Iff.rfl
  have y_Lf : ∀ R : Int × (Int → Int) × (Int → Int), z_KR M = R → z_kLF M = if z_kLB M then z_endF R.2.1 else R.2.1 := fun R h => by subst h; rfl
  have y_Lr : ∀ R : Int × (Int → Int) × (Int → Int), z_KR M = R → z_kLR M = if z_kLB M then z_endW R.2.1 R.2.2 else R.2.2 := fun R h => by subst h; rfl
  have y_7 : ∀ R : Int × (Int → Int) × (Int → Int), z_KR M = R → R.2.1 4 = 1 ∨ R.2.1 4 = 2 ∨ R.2.1 4 = 4 → R.2.1 7 < 4 := fun R h => by subst h; exact fun q => (z_krd_7 (M 8) _ _ _ _ (z_P7_0 _ (M 9))).2 q
  obtain ⟨R, hR⟩ : ∃ R, z_KR M = R := ⟨_, rfl⟩
  have y_L := y_L R hR
  have y_Lf := y_Lf R hR
  have y_Lr := y_Lr R hR
  have y_7 := y_7 R hR
  change z_krd (M 8) (M 7 3).toNat 0 (z_kF0 (M 7)) (z_kr0 (M 9)) = R at hR
  rw [hR] at y_P y_3 y_k
  have y_03 : z_kF0 (M 7) 3 = M 7 3 := rfl
  rw [y_03] at y_3
  have y_PP := y_P
  obtain ⟨h1, h2, h3, h4, h5, h6, h7, h8, h9⟩ := y_PP
  have y_r5 := h9 (R.2.1 5) h3 h4
  refine z_aloadn dX2_isList_0 rfl ?_
  refine kX2_18 (tX2_readToError l0 l1 tx hR) rfl ⟨(Nat.le_of_ble_eq_true rfl), (Nat.le_of_ble_eq_true rfl)⟩ (Nat.le_of_ble_eq_true rfl) dX2_isList_1 ?_
  refine z_rng fun hr => ?_
  refine z_aloadn dX2_isList_4 rfl ?_
  refine gX2_22 rfl dX2_isList_5 ?_
  refine z_top (v' := M 7 3) y_3 ?_
  refine z_icmp_lt (tgt := 26) (by omega) (by omega) dX2_isList_8 (by decide) (fun h8 => ?_) (fun h8 => ?_)
  · have y_B : ¬ z_kLB M := fun q => by have := y_L.mp q; omega
    refine z_iconst dX2_isList_26 ?_
    exact z_zret dX2_isList_27 (by first | exact (if_pos y_B).symm | exact (if_neg y_B).symm) (by rw [y_Lf, y_Lr]; first | rw [if_pos y_B, if_pos y_B] | rw [if_neg y_B, if_neg y_B]) (by first | decide | (split <;> simp))
  · refine z_aloadn dX2_isList_11 rfl ?_
    refine gX2_26 rfl dX2_isList_12 ?_
    refine z_top (v' := R.2.1 4) rfl ?_
    refine z_if_eq (tgt := 26) (by omega) dX2_isList_15 (by decide) (fun h15 => ?_) (fun h15 => ?_)
    · have y_B : ¬ z_kLB M := fun q => by have := y_L.mp q; omega
      refine z_iconst dX2_isList_26 ?_
      exact z_zret dX2_isList_27 (by first | exact (if_pos y_B).symm | exact (if_neg y_B).symm) (by rw [y_Lf, y_Lr]; first | rw [if_pos y_B, if_pos y_B] | rw [if_neg y_B, if_neg y_B]) (by first | decide | (split <;> simp))
    · refine z_aloadn dX2_isList_18 rfl ?_
      refine gX2_26 rfl dX2_isList_19 ?_
      refine z_top (v' := R.2.1 4) rfl ?_
      refine z_iconst dX2_isList_22 ?_
      refine z_icmp_ne (tgt := 28) (by omega) (by decide) dX2_isList_23 (by decide) (fun h23 => ?_) (fun h23 => ?_)
      · refine z_aloadn dX2_isList_28 rfl ?_
        refine gX2_15 rfl dX2_isList_29 ?_
        refine z_aloadn dX2_isList_32 rfl ?_
        refine gX2_29 rfl dX2_isList_33 ?_
        refine z_top (v' := R.2.1 5) rfl ?_
        refine z_iald (by rfl) (by first | exact Or.inl (by decide) | exact Or.inl (Or.inl ⟨by decide, hg⟩)) (by omega) (by omega) (by decide) dX2_isList_36 ?_
        refine z_top (v' := R.2.2 (R.2.1 5)) rfl ?_
        refine z_if_eq (tgt := 42) (by omega) dX2_isList_37 (by decide) (fun h37 => ?_) (fun h37 => ?_)
        · refine z_aloadn dX2_isList_42 rfl ?_
          refine kX2_32 (tX2_endItem y_P (y_7 (by omega))) rfl ⟨(Nat.le_of_ble_eq_true rfl), (Nat.le_of_ble_eq_true rfl)⟩ (Nat.le_of_ble_eq_true rfl) dX2_isList_43 ?_
          refine z_rng fun hr => ?_
          have y_B : z_kLB M := y_L.mpr ⟨by omega, by omega, by omega, by omega⟩
          refine z_iconst dX2_isList_46 ?_
          exact z_zret dX2_isList_47 (by first | exact (if_pos y_B).symm | exact (if_neg y_B).symm) (by rw [y_Lf, y_Lr]; first | rw [if_pos y_B, if_pos y_B] | rw [if_neg y_B, if_neg y_B]) (by first | decide | (split <;> simp))
        · have y_B : ¬ z_kLB M := fun q => by have := y_L.mp q; omega
          refine z_iconst dX2_isList_40 ?_
          exact z_zret dX2_isList_41 (by first | exact (if_pos y_B).symm | exact (if_neg y_B).symm) (by rw [y_Lf, y_Lr]; first | rw [if_pos y_B, if_pos y_B] | rw [if_neg y_B, if_neg y_B]) (by first | decide | (split <;> simp))
      · have y_B : ¬ z_kLB M := fun q => by have := y_L.mp q; omega
        refine z_iconst dX2_isList_26 ?_
        exact z_zret dX2_isList_27 (by first | exact (if_pos y_B).symm | exact (if_neg y_B).symm) (by rw [y_Lf, y_Lr]; first | rw [if_pos y_B, if_pos y_B] | rw [if_neg y_B, if_neg y_B]) (by first | decide | (split <;> simp))
theorem tX2_greatestPen {G : z_G} {M : z_M} : KX2_greatestPen G [.ref (z_ad G 0 22)] M (.inl (some (z_I (z_gtp (M 9) 12)))) M := by
  refine z_con (ls := [some (.ref (z_ad G 0 22)), none, none]) (by decide +kernel) (Nat.le_of_ble_eq_true rfl) rfl ?_
  intro Z htb
  refine z_rng fun hr => ?_
  refine z_iconst dX2_greatestPen_0 ?_
  refine z_istoren_1 dX2_greatestPen_1 (Nat.le_of_ble_eq_true rfl) rfl ?_
  refine z_iconst dX2_greatestPen_2 ?_
  refine z_istoren_2 dX2_greatestPen_3 (Nat.le_of_ble_eq_true rfl) rfl ?_
  refine z_upn (P := fun i : Nat => z_J G Z _ _ 4 [some (.ref (z_ad G 0 22)), some (z_I (z_gtp (M 9) i)), some (z_I i)] [] M 0 0) 12 ?_ ?_
  · refine z_rng fun hr => ?_
    refine z_iloadn dX2_greatestPen_4 rfl ?_
    refine z_bipush dX2_greatestPen_5 (by decide) ?_
    refine z_icmp_ge (tgt := 31) (by first | (exact hr _ _ (by decide)) | (exact hr _ _ (by omega)) | omega) (by first | (exact hr _ _ (by decide)) | (exact hr _ _ (by omega)) | omega) dX2_greatestPen_7 (by decide) (fun h7 => ?_) (fun h7 => ?_)
    · refine z_iloadn dX2_greatestPen_31 rfl ?_
      exact z_iret dX2_greatestPen_32 (by first | rfl | omega) rfl
    · exfalso; omega
  · intro i hi y_ih
    refine z_rng fun hr => ?_
    have y_s : z_gtp (M 9) (i + 1) = if 0 < M 9 i then (i : Int) else z_gtp (M 9) i := rfl
    refine z_iloadn dX2_greatestPen_4 rfl ?_
    refine z_bipush dX2_greatestPen_5 (by decide) ?_
    refine z_icmp_ge (tgt := 31) (by first | (exact hr _ _ (by decide)) | (exact hr _ _ (by omega)) | omega) (by first | (exact hr _ _ (by decide)) | (exact hr _ _ (by omega)) | omega) dX2_greatestPen_7 (by decide) (fun h7 => ?_) (fun h7 => ?_)
    · exfalso; omega
    · refine z_aloadn dX2_greatestPen_10 rfl ?_
      refine gX2_15 rfl dX2_greatestPen_11 ?_
      refine z_iloadn dX2_greatestPen_14 rfl ?_
      refine z_iald (by rfl) (by first | exact Or.inl (by decide) | exact Or.inl (Or.inl ⟨by decide, hg⟩)) (by omega) (by omega) (by decide) dX2_greatestPen_15 ?_
      refine z_if_le (tgt := 23) (by first | (exact hr _ _ (by decide)) | (exact hr _ _ (by omega)) | omega) dX2_greatestPen_16 (by decide) (fun h16 => ?_) (fun h16 => ?_)
      · refine z_iloadn dX2_greatestPen_23 rfl ?_
        refine z_istoren_1 dX2_greatestPen_24 (Nat.le_of_ble_eq_true rfl) rfl ?_
        refine z_iinc_2 dX2_greatestPen_25 (Nat.le_of_ble_eq_true rfl) rfl ?_
        refine z_goto (tgt := 4) dX2_greatestPen_28 (by decide) ?_
        first
          | (rw [y_s, if_pos (by omega)] at y_ih; exact y_ih)
          | (rw [y_s, if_neg (by omega)] at y_ih; exact y_ih)
      · refine z_iloadn dX2_greatestPen_19 rfl ?_
        refine z_goto (tgt := 24) dX2_greatestPen_20 (by decide) ?_
        refine z_istoren_1 dX2_greatestPen_24 (Nat.le_of_ble_eq_true rfl) rfl ?_
        refine z_iinc_2 dX2_greatestPen_25 (Nat.le_of_ble_eq_true rfl) rfl ?_
        refine z_goto (tgt := 4) dX2_greatestPen_28 (by decide) ?_
        first
          | (rw [y_s, if_pos (by omega)] at y_ih; exact y_ih)
          | (rw [y_s, if_neg (by omega)] at y_ih; exact y_ih)
