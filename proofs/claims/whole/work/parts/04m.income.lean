def z_hl (a w : Int) : Int := if (a + 1) / 2 < w then (a + 1) / 2 else w
theorem z_hl_rg {a w : Int} (ha : 0 ≤ a) (hw : 0 ≤ w) : 0 ≤ z_hl a w ∧ z_hl a w ≤ w ∧ z_hl a w ≤ a := by
  unfold z_hl; split <;> omega
def z_inb (b : Int → Int) (p a : Int) : Int → Int := z_uf (z_uf (z_uf (z_uf b (14 + 6 * p + 1) (b (14 + 6 * p + 1) - z_hl a (b (14 + 6 * p + 1)))) (14 + 6 * p + 2) (b (14 + 6 * p + 2) + a)) (14 + 6 * p) (b (14 + 6 * p) + (a - z_hl a (b (14 + 6 * p + 1))))) 3 (b 3 + z_hl a (b (14 + 6 * p + 1)))
def z_ov (b : Int → Int) (k p a : Int) : Int := if 0 < b 10 ∧ (if b (666 + 12 * k + p) < b 10 then b 10 - b (666 + 12 * k + p) else 0) < a then a - (if b (666 + 12 * k + p) < b 10 then b 10 - b (666 + 12 * k + p) else 0) else 0
def z_cpb (b : Int → Int) (k p a : Int) : Int → Int := z_uf (z_uf (z_uf b 3 (b 3 + z_ov b k p a)) 7 (b 7 + z_ov b k p a)) (666 + 12 * k + p) (b (666 + 12 * k + p) + (a - z_ov b k p a))
theorem z_ov_rg {b : Int → Int} {k p a : Int} (ha : 0 ≤ a) : 0 ≤ z_ov b k p a ∧ z_ov b k p a ≤ a := by
  unfold z_ov; (repeat' split) <;> omega
/-- bounds of the money, while it comes in -/
def z_bd (b : Int → Int) (tr B : Int) : Prop := (∀ p, 0 ≤ p → p < 12 → 0 ≤ b (14 + 6 * p) ∧ b (14 + 6 * p) ≤ B ∧ 0 ≤ b (14 + 6 * p + 1) ∧ b (14 + 6 * p + 1) ≤ B ∧ 0 ≤ b (14 + 6 * p + 2) ∧ b (14 + 6 * p + 2) ≤ B) ∧ 0 ≤ b 3 ∧ b 3 ≤ B ∧ 0 ≤ b 7 ∧ b 7 ≤ B ∧ (∀ k p, 0 ≤ k → k < 20 → 0 ≤ p → p < 12 → 0 ≤ b (666 + 12 * k + p) ∧ b (666 + 12 * k + p) ≤ B) ∧ 0 ≤ tr ∧ tr ≤ B
theorem z_bd_inc {b : Int → Int} {tr B p a A : Int} (h : z_bd b tr B) (p0 : 0 ≤ p) (p1 : p < 12) (a0 : 0 ≤ a) (a1 : a ≤ A) : z_bd (z_inb b p a) (tr + z_hl a (b (14 + 6 * p + 1))) (B + A) := by
  obtain ⟨h1, h2, h3, h4, h5, h6, h7, h8⟩ := h
  have hp := h1 p p0 p1
  have hh := z_hl_rg a0 hp.2.2.1
  unfold z_inb
  refine ⟨fun q q0 q1 => ?_, ?_, ?_, ?_, ?_, fun k q k0 k1 q0 q1 => ?_, by omega, by omega⟩
  · have hq := h1 q q0 q1
    simp only [z_uf]
    by_cases e : q = p
    · subst e; (repeat' split) <;> omega
    · (repeat' split) <;> omega
  · simp only [z_uf]; (repeat' split) <;> omega
  · simp only [z_uf]; (repeat' split) <;> omega
  · simp only [z_uf]; (repeat' split) <;> omega
  · simp only [z_uf]; (repeat' split) <;> omega
  · have := h6 k q k0 k1 q0 q1
    simp only [z_uf]; (repeat' split) <;> omega
theorem z_bd_cap {b : Int → Int} {tr B k p a A : Int} (h : z_bd b tr B) (k0 : 0 ≤ k) (k1 : k < 20) (p0 : 0 ≤ p) (p1 : p < 12) (a0 : 0 ≤ a) (a1 : a ≤ A) : z_bd (z_cpb b k p a) (tr + z_ov b k p a) (B + A) := by
  obtain ⟨h1, h2, h3, h4, h5, h6, h7, h8⟩ := h
  have hh := z_ov_rg (b := b) (k := k) (p := p) a0
  have hg := h6 k p k0 k1 p0 p1
  unfold z_cpb
  refine ⟨fun q q0 q1 => ?_, ?_, ?_, ?_, ?_, fun k' q k0' k1' q0 q1 => ?_, by omega, by omega⟩
  · have hq := h1 q q0 q1
    simp only [z_uf]
    (repeat' split) <;> omega
  · simp only [z_uf]; (repeat' split) <;> omega
  · simp only [z_uf]; (repeat' split) <;> omega
  · simp only [z_uf]; (repeat' split) <;> omega
  · simp only [z_uf]; (repeat' split) <;> omega
  · have := h6 k' q k0' k1' q0 q1
    simp only [z_uf]; (repeat' split) <;> omega
theorem z_sM_cm (M : z_M) {a a' : Nat} (i v i' v' : Int) (h : a' ≠ a) : z_sM (z_sM M a' i' v') a i v = z_sM (z_sM M a i v) a' i' v' := by
  funext x y
  unfold z_sM
  by_cases h1 : x = a ∧ y = i
  · rw [if_pos h1, if_neg (fun q => h (q.1.symm.trans h1.1)), if_pos h1]
  · rw [if_neg h1]
    by_cases h2 : x = a' ∧ y = i'
    · rw [if_pos h2, if_pos h2]
    · rw [if_neg h2, if_neg h2, if_neg h1]
theorem tX7_income {G : z_G} {M : z_M} {p a : Int} (p0 : 0 ≤ p) (p1 : p < 12) (a0 : 0 ≤ a) (a1 : a ≤ 3000000) (hd : z_bd (M 22) (M 21 1) 1000000000) : KX7_income G [.ref (z_ad G 0 40), z_I p, z_I a] M (.inl none) (z_sM (z_sR M 22 (z_inb (M 22) p a)) 21 1 (M 21 1 + z_hl a (M 22 (14 + 6 * p + 1)))) := by
  refine z_con (ls := [some (.ref (z_ad G 0 40)), some (z_I p), some (z_I a), none, none]) (by decide +kernel) (Nat.le_of_ble_eq_true rfl) rfl ?_
  intro Z htb
  refine z_rng fun hr => ?_
  have y_d := hd
  obtain ⟨y_1, y_2, y_3, y_4, y_5, y_6, y_7, y_8⟩ := y_d
  have y_p := y_1 p p0 p1
  have y_h := z_hl_rg a0 y_p.2.2.1
  refine z_iloadn dX7_income_0 rfl ?_
  refine z_iconst dX7_income_1 ?_
  refine z_iadd dX7_income_2 ?_
  refine z_iconst dX7_income_3 ?_
  refine z_idiv (by omega) (by omega) (by omega) (by omega) dX7_income_4 ?_
  refine z_istoren_3 dX7_income_5 (Nat.le_of_ble_eq_true rfl) rfl ?_
  refine z_iloadn dX7_income_6 rfl ?_
  refine z_aloadn dX7_income_7 rfl ?_
  refine z_iloadn dX7_income_8 rfl ?_
  refine z_iconst dX7_income_9 ?_
  refine kX7_61 (tX7_of (by omega) (by omega)) rfl ⟨(Nat.le_of_ble_eq_true rfl), (Nat.le_of_ble_eq_true rfl)⟩ (Nat.le_of_ble_eq_true rfl) dX7_income_10 ?_
  refine z_icmp_ge (tgt := 20) (by first | (exact hr _ _ (by decide)) | omega) (by first | (exact hr _ _ (by decide)) | omega) dX7_income_13 (by decide) (fun h13 => ?_) (fun h13 => ?_)
  · refine z_aloadn dX7_income_20 rfl ?_
    refine z_iloadn dX7_income_21 rfl ?_
    refine z_iconst dX7_income_22 ?_
    refine kX7_61 (tX7_of (by omega) (by omega)) rfl ⟨(Nat.le_of_ble_eq_true rfl), (Nat.le_of_ble_eq_true rfl)⟩ (Nat.le_of_ble_eq_true rfl) dX7_income_23 ?_
    refine z_top (v' := z_hl a (M 22 (14 + 6 * p + 1))) (by unfold z_hl; first | rw [if_pos (by omega)] | rw [if_neg (by omega)]) ?_
    refine z_istore_4 dX7_income_26 (Nat.le_of_ble_eq_true rfl) rfl ?_
    refine z_aloadn dX7_income_28 rfl ?_
    refine gX7_7 rfl dX7_income_29 ?_
    refine z_bipush dX7_income_32 (by decide) ?_
    refine z_bipush dX7_income_34 (by decide) ?_
    refine z_iloadn dX7_income_36 rfl ?_
    refine z_imul dX7_income_37 ?_
    refine z_iadd dX7_income_38 ?_
    refine z_iconst dX7_income_39 ?_
    refine z_iadd dX7_income_40 ?_
    refine z_dup2 dX7_income_41 rfl rfl ?_
    refine z_iald (by rfl) (by first | decide | exact Or.inl ⟨by decide, hg⟩) (by omega) (by omega) (by decide) dX7_income_42 ?_
    refine z_iload dX7_income_43 rfl ?_
    refine z_isub dX7_income_45 ?_
    refine z_iast (by rfl) (by first | decide | exact Or.inl ⟨by decide, hg⟩) (by omega) (by omega) (by decide) (by first | (exact hr _ _ (by decide)) | omega) dX7_income_46 ?_
    refine z_rng fun hr => ?_
    refine z_aloadn dX7_income_47 rfl ?_
    refine gX7_7 rfl dX7_income_48 ?_
    refine z_bipush dX7_income_51 (by decide) ?_
    refine z_bipush dX7_income_53 (by decide) ?_
    refine z_iloadn dX7_income_55 rfl ?_
    refine z_imul dX7_income_56 ?_
    refine z_iadd dX7_income_57 ?_
    refine z_iconst dX7_income_58 ?_
    refine z_iadd dX7_income_59 ?_
    refine z_dup2 dX7_income_60 rfl rfl ?_
    refine z_iald (by rfl) (by first | decide | exact Or.inl ⟨by decide, hg⟩) (by omega) (by omega) (by decide) dX7_income_61 ?_
    refine z_top (v' := M 22 (14 + 6 * p + 2)) (z_sM_ne _ _ _ (by omega)) ?_
    refine z_iloadn dX7_income_62 rfl ?_
    refine z_iadd dX7_income_63 ?_
    refine z_iast (by rfl) (by first | decide | exact Or.inl ⟨by decide, hg⟩) (by omega) (by omega) (by decide) (by first | (exact hr _ _ (by decide)) | omega) dX7_income_64 ?_
    refine z_rng fun hr => ?_
    refine z_aloadn dX7_income_65 rfl ?_
    refine gX7_7 rfl dX7_income_66 ?_
    refine z_bipush dX7_income_69 (by decide) ?_
    refine z_bipush dX7_income_71 (by decide) ?_
    refine z_iloadn dX7_income_73 rfl ?_
    refine z_imul dX7_income_74 ?_
    refine z_iadd dX7_income_75 ?_
    refine z_dup2 dX7_income_76 rfl rfl ?_
    refine z_iald (by rfl) (by first | decide | exact Or.inl ⟨by decide, hg⟩) (by omega) (by omega) (by decide) dX7_income_77 ?_
    refine z_top (v' := M 22 (14 + 6 * p)) ((z_sM_ne _ _ _ (by omega)).trans (z_sM_ne _ _ _ (by omega))) ?_
    refine z_iloadn dX7_income_78 rfl ?_
    refine z_iload dX7_income_79 rfl ?_
    refine z_isub dX7_income_81 ?_
    refine z_iadd dX7_income_82 ?_
    refine z_iast (by rfl) (by first | decide | exact Or.inl ⟨by decide, hg⟩) (by omega) (by omega) (by decide) (by first | (exact hr _ _ (by decide)) | omega) dX7_income_83 ?_
    refine z_rng fun hr => ?_
    have y_r3 : z_sM (z_sM (z_sM M 22 (14 + 6 * p + 1) (M 22 (14 + 6 * p + 1) - z_hl a (M 22 (14 + 6 * p + 1)))) 22 (14 + 6 * p + 2) (M 22 (14 + 6 * p + 2) + a)) 22 (14 + 6 * p) (M 22 (14 + 6 * p) + (a - z_hl a (M 22 (14 + 6 * p + 1)))) 22 3 = M 22 3 := (z_sM_ne _ _ _ (by omega)).trans ((z_sM_ne _ _ _ (by omega)).trans (z_sM_ne _ _ _ (by omega)))
    have y_r1 : z_sM (z_sM (z_sM M 22 (14 + 6 * p + 1) (M 22 (14 + 6 * p + 1) - z_hl a (M 22 (14 + 6 * p + 1)))) 22 (14 + 6 * p + 2) (M 22 (14 + 6 * p + 2) + a)) 22 (14 + 6 * p) (M 22 (14 + 6 * p) + (a - z_hl a (M 22 (14 + 6 * p + 1)))) 21 1 = M 21 1 := rfl
    refine z_aloadn dX7_income_84 rfl ?_
    refine z_iload dX7_income_85 rfl ?_
    refine kX7_139 (tX7_reserves (by omega) (by omega) (by omega)) rfl ⟨(Nat.le_of_ble_eq_true rfl), (Nat.le_of_ble_eq_true rfl)⟩ (Nat.le_of_ble_eq_true rfl) dX7_income_87 ?_
    refine z_rng fun hr => ?_
    exact z_vret dX7_income_90 (by rw [y_r3, y_r1]; unfold z_inb; simp only [z_sM_R, z_sR_R, z_sR_self])
  · refine z_iloadn dX7_income_16 rfl ?_
    refine z_goto (tgt := 26) dX7_income_17 (by decide) ?_
    refine z_top (v' := z_hl a (M 22 (14 + 6 * p + 1))) (by unfold z_hl; first | rw [if_pos (by omega)] | rw [if_neg (by omega)]) ?_
    refine z_istore_4 dX7_income_26 (Nat.le_of_ble_eq_true rfl) rfl ?_
    refine z_aloadn dX7_income_28 rfl ?_
    refine gX7_7 rfl dX7_income_29 ?_
    refine z_bipush dX7_income_32 (by decide) ?_
    refine z_bipush dX7_income_34 (by decide) ?_
    refine z_iloadn dX7_income_36 rfl ?_
    refine z_imul dX7_income_37 ?_
    refine z_iadd dX7_income_38 ?_
    refine z_iconst dX7_income_39 ?_
    refine z_iadd dX7_income_40 ?_
    refine z_dup2 dX7_income_41 rfl rfl ?_
    refine z_iald (by rfl) (by first | decide | exact Or.inl ⟨by decide, hg⟩) (by omega) (by omega) (by decide) dX7_income_42 ?_
    refine z_iload dX7_income_43 rfl ?_
    refine z_isub dX7_income_45 ?_
    refine z_iast (by rfl) (by first | decide | exact Or.inl ⟨by decide, hg⟩) (by omega) (by omega) (by decide) (by first | (exact hr _ _ (by decide)) | omega) dX7_income_46 ?_
    refine z_rng fun hr => ?_
    refine z_aloadn dX7_income_47 rfl ?_
    refine gX7_7 rfl dX7_income_48 ?_
    refine z_bipush dX7_income_51 (by decide) ?_
    refine z_bipush dX7_income_53 (by decide) ?_
    refine z_iloadn dX7_income_55 rfl ?_
    refine z_imul dX7_income_56 ?_
    refine z_iadd dX7_income_57 ?_
    refine z_iconst dX7_income_58 ?_
    refine z_iadd dX7_income_59 ?_
    refine z_dup2 dX7_income_60 rfl rfl ?_
    refine z_iald (by rfl) (by first | decide | exact Or.inl ⟨by decide, hg⟩) (by omega) (by omega) (by decide) dX7_income_61 ?_
    refine z_top (v' := M 22 (14 + 6 * p + 2)) (z_sM_ne _ _ _ (by omega)) ?_
    refine z_iloadn dX7_income_62 rfl ?_
    refine z_iadd dX7_income_63 ?_
    refine z_iast (by rfl) (by first | decide | exact Or.inl ⟨by decide, hg⟩) (by omega) (by omega) (by decide) (by first | (exact hr _ _ (by decide)) | omega) dX7_income_64 ?_
    refine z_rng fun hr => ?_
    refine z_aloadn dX7_income_65 rfl ?_
    refine gX7_7 rfl dX7_income_66 ?_
    refine z_bipush dX7_income_69 (by decide) ?_
    refine z_bipush dX7_income_71 (by decide) ?_
    refine z_iloadn dX7_income_73 rfl ?_
    refine z_imul dX7_income_74 ?_
    refine z_iadd dX7_income_75 ?_
    refine z_dup2 dX7_income_76 rfl rfl ?_
    refine z_iald (by rfl) (by first | decide | exact Or.inl ⟨by decide, hg⟩) (by omega) (by omega) (by decide) dX7_income_77 ?_
    refine z_top (v' := M 22 (14 + 6 * p)) ((z_sM_ne _ _ _ (by omega)).trans (z_sM_ne _ _ _ (by omega))) ?_
    refine z_iloadn dX7_income_78 rfl ?_
    refine z_iload dX7_income_79 rfl ?_
    refine z_isub dX7_income_81 ?_
    refine z_iadd dX7_income_82 ?_
    refine z_iast (by rfl) (by first | decide | exact Or.inl ⟨by decide, hg⟩) (by omega) (by omega) (by decide) (by first | (exact hr _ _ (by decide)) | omega) dX7_income_83 ?_
    refine z_rng fun hr => ?_
    have y_r3 : z_sM (z_sM (z_sM M 22 (14 + 6 * p + 1) (M 22 (14 + 6 * p + 1) - z_hl a (M 22 (14 + 6 * p + 1)))) 22 (14 + 6 * p + 2) (M 22 (14 + 6 * p + 2) + a)) 22 (14 + 6 * p) (M 22 (14 + 6 * p) + (a - z_hl a (M 22 (14 + 6 * p + 1)))) 22 3 = M 22 3 := (z_sM_ne _ _ _ (by omega)).trans ((z_sM_ne _ _ _ (by omega)).trans (z_sM_ne _ _ _ (by omega)))
    have y_r1 : z_sM (z_sM (z_sM M 22 (14 + 6 * p + 1) (M 22 (14 + 6 * p + 1) - z_hl a (M 22 (14 + 6 * p + 1)))) 22 (14 + 6 * p + 2) (M 22 (14 + 6 * p + 2) + a)) 22 (14 + 6 * p) (M 22 (14 + 6 * p) + (a - z_hl a (M 22 (14 + 6 * p + 1)))) 21 1 = M 21 1 := rfl
    refine z_aloadn dX7_income_84 rfl ?_
    refine z_iload dX7_income_85 rfl ?_
    refine kX7_139 (tX7_reserves (by omega) (by omega) (by omega)) rfl ⟨(Nat.le_of_ble_eq_true rfl), (Nat.le_of_ble_eq_true rfl)⟩ (Nat.le_of_ble_eq_true rfl) dX7_income_87 ?_
    refine z_rng fun hr => ?_
    exact z_vret dX7_income_90 (by rw [y_r3, y_r1]; unfold z_inb; simp only [z_sM_R, z_sR_R, z_sR_self])
theorem tX7_capped {G : z_G} {M : z_M} {k p a : Int} (k0 : 0 ≤ k) (k1 : k < 20) (p0 : 0 ≤ p) (p1 : p < 12) (a0 : 0 ≤ a) (a1 : a ≤ 3000000) (hd : z_bd (M 22) (M 21 1) 1000000000) (c0 : 0 ≤ M 22 10) (c1 : M 22 10 ≤ 10000) : KX7_capped G [.ref (z_ad G 0 40), z_I k, z_I p, z_I a] M (.inl (some (z_I (a - z_ov (M 22) k p a)))) (z_sM (z_sR M 22 (z_cpb (M 22) k p a)) 21 1 (M 21 1 + z_ov (M 22) k p a)) := by
  refine z_con (ls := [some (.ref (z_ad G 0 40)), some (z_I k), some (z_I p), some (z_I a), none, none, none, none]) (by decide +kernel) (Nat.le_of_ble_eq_true rfl) rfl ?_
  intro Z htb
  refine z_rng fun hr => ?_
  have y_d := hd
  obtain ⟨y_1, y_2, y_3, y_4, y_5, y_6, y_7, y_8⟩ := y_d
  have y_g := y_6 k p k0 k1 p0 p1
  have y_h := z_ov_rg (b := M 22) (k := k) (p := p) a0
  refine z_aloadn dX7_capped_0 rfl ?_
  refine gX7_7 rfl dX7_capped_1 ?_
  refine z_bipush dX7_capped_4 (by decide) ?_
  refine z_iald (by rfl) (by first | decide | exact Or.inl ⟨by decide, hg⟩) (by omega) (by omega) (by decide) dX7_capped_6 ?_
  refine z_istore_4 dX7_capped_7 (Nat.le_of_ble_eq_true rfl) rfl ?_
  refine z_sipush dX7_capped_9 (by decide) ?_
  refine z_bipush dX7_capped_12 (by decide) ?_
  refine z_iloadn dX7_capped_14 rfl ?_
  refine z_imul dX7_capped_15 ?_
  refine z_iadd dX7_capped_16 ?_
  refine z_iloadn dX7_capped_17 rfl ?_
  refine z_iadd dX7_capped_18 ?_
  refine z_istore_5 dX7_capped_19 (Nat.le_of_ble_eq_true rfl) rfl ?_
  refine z_iload dX7_capped_21 rfl ?_
  refine z_aloadn dX7_capped_23 rfl ?_
  refine gX7_7 rfl dX7_capped_24 ?_
  refine z_iload dX7_capped_27 rfl ?_
  refine z_iald (by rfl) (by first | decide | exact Or.inl ⟨by decide, hg⟩) (by omega) (by omega) (by decide) dX7_capped_29 ?_
  refine z_icmp_le (tgt := 46) (by first | (exact hr _ _ (by decide)) | omega) (by first | (exact hr _ _ (by decide)) | omega) dX7_capped_30 (by decide) (fun h30 => ?_) (fun h30 => ?_)
  · refine z_iconst dX7_capped_46 ?_
    refine z_istore_6 dX7_capped_47 (Nat.le_of_ble_eq_true rfl) rfl ?_
    refine z_iload dX7_capped_49 rfl ?_
    refine z_if_le (tgt := 67) (by first | (exact hr _ _ (by decide)) | omega) dX7_capped_51 (by decide) (fun h51 => ?_) (fun h51 => ?_)
    · refine z_iconst dX7_capped_67 ?_
      refine z_top (v' := z_ov (M 22) k p a) (by unfold z_ov; (repeat' split) <;> omega) ?_
      refine z_istore_7 dX7_capped_68 (Nat.le_of_ble_eq_true rfl) rfl ?_
      refine z_aloadn dX7_capped_70 rfl ?_
      refine z_iload dX7_capped_71 rfl ?_
      refine kX7_139 (tX7_reserves (by omega) (by omega) (by omega)) rfl ⟨(Nat.le_of_ble_eq_true rfl), (Nat.le_of_ble_eq_true rfl)⟩ (Nat.le_of_ble_eq_true rfl) dX7_capped_73 ?_
      refine z_rng fun hr => ?_
      refine z_aloadn dX7_capped_76 rfl ?_
      refine gX7_7 rfl dX7_capped_77 ?_
      refine z_bipush dX7_capped_80 (by decide) ?_
      refine z_dup2 dX7_capped_82 rfl rfl ?_
      refine z_iald (by rfl) (by first | decide | exact Or.inl ⟨by decide, hg⟩) (by omega) (by omega) (by decide) dX7_capped_83 ?_
      refine z_top (v' := M 22 7) ((congrFun (z_sM_row _ _ _ (by decide)) _).trans (z_sM_ne _ _ _ (by decide))) ?_
      refine z_iload dX7_capped_84 rfl ?_
      refine z_iadd dX7_capped_86 ?_
      refine z_iast (by rfl) (by first | decide | exact Or.inl ⟨by decide, hg⟩) (by omega) (by omega) (by decide) (by first | (exact hr _ _ (by decide)) | omega) dX7_capped_87 ?_
      refine z_rng fun hr => ?_
      refine z_aloadn dX7_capped_88 rfl ?_
      refine gX7_7 rfl dX7_capped_89 ?_
      refine z_iload dX7_capped_92 rfl ?_
      refine z_dup2 dX7_capped_94 rfl rfl ?_
      refine z_iald (by rfl) (by first | decide | exact Or.inl ⟨by decide, hg⟩) (by omega) (by omega) (by decide) dX7_capped_95 ?_
      refine z_top (v' := M 22 (666 + 12 * k + p)) ((z_sM_ne _ _ _ (by omega)).trans ((congrFun (z_sM_row _ _ _ (by decide)) _).trans (z_sM_ne _ _ _ (by omega)))) ?_
      refine z_iloadn dX7_capped_96 rfl ?_
      refine z_iload dX7_capped_97 rfl ?_
      refine z_isub dX7_capped_99 ?_
      refine z_iadd dX7_capped_100 ?_
      refine z_iast (by rfl) (by first | decide | exact Or.inl ⟨by decide, hg⟩) (by omega) (by omega) (by decide) (by first | (exact hr _ _ (by decide)) | omega) dX7_capped_101 ?_
      refine z_rng fun hr => ?_
      refine z_iloadn dX7_capped_102 rfl ?_
      refine z_iload dX7_capped_103 rfl ?_
      refine z_isub dX7_capped_105 ?_
      exact z_iret dX7_capped_106 (by first | rfl | omega) (by unfold z_cpb; rw [z_sM_cm _ _ _ _ _ (show (21 : Nat) ≠ 22 by decide), z_sM_cm _ _ _ _ _ (show (21 : Nat) ≠ 22 by decide)]; simp only [z_sM_R, z_sR_R, z_sR_self])
    · refine z_iloadn dX7_capped_54 rfl ?_
      refine z_iload dX7_capped_55 rfl ?_
      refine z_icmp_le (tgt := 67) (by first | (exact hr _ _ (by decide)) | omega) (by first | (exact hr _ _ (by decide)) | omega) dX7_capped_57 (by decide) (fun h57 => ?_) (fun h57 => ?_)
      · refine z_iconst dX7_capped_67 ?_
        refine z_top (v' := z_ov (M 22) k p a) (by unfold z_ov; (repeat' split) <;> omega) ?_
        refine z_istore_7 dX7_capped_68 (Nat.le_of_ble_eq_true rfl) rfl ?_
        refine z_aloadn dX7_capped_70 rfl ?_
        refine z_iload dX7_capped_71 rfl ?_
        refine kX7_139 (tX7_reserves (by omega) (by omega) (by omega)) rfl ⟨(Nat.le_of_ble_eq_true rfl), (Nat.le_of_ble_eq_true rfl)⟩ (Nat.le_of_ble_eq_true rfl) dX7_capped_73 ?_
        refine z_rng fun hr => ?_
        refine z_aloadn dX7_capped_76 rfl ?_
        refine gX7_7 rfl dX7_capped_77 ?_
        refine z_bipush dX7_capped_80 (by decide) ?_
        refine z_dup2 dX7_capped_82 rfl rfl ?_
        refine z_iald (by rfl) (by first | decide | exact Or.inl ⟨by decide, hg⟩) (by omega) (by omega) (by decide) dX7_capped_83 ?_
        refine z_top (v' := M 22 7) ((congrFun (z_sM_row _ _ _ (by decide)) _).trans (z_sM_ne _ _ _ (by decide))) ?_
        refine z_iload dX7_capped_84 rfl ?_
        refine z_iadd dX7_capped_86 ?_
        refine z_iast (by rfl) (by first | decide | exact Or.inl ⟨by decide, hg⟩) (by omega) (by omega) (by decide) (by first | (exact hr _ _ (by decide)) | omega) dX7_capped_87 ?_
        refine z_rng fun hr => ?_
        refine z_aloadn dX7_capped_88 rfl ?_
        refine gX7_7 rfl dX7_capped_89 ?_
        refine z_iload dX7_capped_92 rfl ?_
        refine z_dup2 dX7_capped_94 rfl rfl ?_
        refine z_iald (by rfl) (by first | decide | exact Or.inl ⟨by decide, hg⟩) (by omega) (by omega) (by decide) dX7_capped_95 ?_
        refine z_top (v' := M 22 (666 + 12 * k + p)) ((z_sM_ne _ _ _ (by omega)).trans ((congrFun (z_sM_row _ _ _ (by decide)) _).trans (z_sM_ne _ _ _ (by omega)))) ?_
        refine z_iloadn dX7_capped_96 rfl ?_
        refine z_iload dX7_capped_97 rfl ?_
        refine z_isub dX7_capped_99 ?_
        refine z_iadd dX7_capped_100 ?_
        refine z_iast (by rfl) (by first | decide | exact Or.inl ⟨by decide, hg⟩) (by omega) (by omega) (by decide) (by first | (exact hr _ _ (by decide)) | omega) dX7_capped_101 ?_
        refine z_rng fun hr => ?_
        refine z_iloadn dX7_capped_102 rfl ?_
        refine z_iload dX7_capped_103 rfl ?_
        refine z_isub dX7_capped_105 ?_
        exact z_iret dX7_capped_106 (by first | rfl | omega) (by unfold z_cpb; rw [z_sM_cm _ _ _ _ _ (show (21 : Nat) ≠ 22 by decide), z_sM_cm _ _ _ _ _ (show (21 : Nat) ≠ 22 by decide)]; simp only [z_sM_R, z_sR_R, z_sR_self])
      · refine z_iloadn dX7_capped_60 rfl ?_
        refine z_iload dX7_capped_61 rfl ?_
        refine z_isub dX7_capped_63 ?_
        refine z_goto (tgt := 68) dX7_capped_64 (by decide) ?_
        refine z_top (v' := z_ov (M 22) k p a) (by unfold z_ov; (repeat' split) <;> omega) ?_
        refine z_istore_7 dX7_capped_68 (Nat.le_of_ble_eq_true rfl) rfl ?_
        refine z_aloadn dX7_capped_70 rfl ?_
        refine z_iload dX7_capped_71 rfl ?_
        refine kX7_139 (tX7_reserves (by omega) (by omega) (by omega)) rfl ⟨(Nat.le_of_ble_eq_true rfl), (Nat.le_of_ble_eq_true rfl)⟩ (Nat.le_of_ble_eq_true rfl) dX7_capped_73 ?_
        refine z_rng fun hr => ?_
        refine z_aloadn dX7_capped_76 rfl ?_
        refine gX7_7 rfl dX7_capped_77 ?_
        refine z_bipush dX7_capped_80 (by decide) ?_
        refine z_dup2 dX7_capped_82 rfl rfl ?_
        refine z_iald (by rfl) (by first | decide | exact Or.inl ⟨by decide, hg⟩) (by omega) (by omega) (by decide) dX7_capped_83 ?_
        refine z_top (v' := M 22 7) ((congrFun (z_sM_row _ _ _ (by decide)) _).trans (z_sM_ne _ _ _ (by decide))) ?_
        refine z_iload dX7_capped_84 rfl ?_
        refine z_iadd dX7_capped_86 ?_
        refine z_iast (by rfl) (by first | decide | exact Or.inl ⟨by decide, hg⟩) (by omega) (by omega) (by decide) (by first | (exact hr _ _ (by decide)) | omega) dX7_capped_87 ?_
        refine z_rng fun hr => ?_
        refine z_aloadn dX7_capped_88 rfl ?_
        refine gX7_7 rfl dX7_capped_89 ?_
        refine z_iload dX7_capped_92 rfl ?_
        refine z_dup2 dX7_capped_94 rfl rfl ?_
        refine z_iald (by rfl) (by first | decide | exact Or.inl ⟨by decide, hg⟩) (by omega) (by omega) (by decide) dX7_capped_95 ?_
        refine z_top (v' := M 22 (666 + 12 * k + p)) ((z_sM_ne _ _ _ (by omega)).trans ((congrFun (z_sM_row _ _ _ (by decide)) _).trans (z_sM_ne _ _ _ (by omega)))) ?_
        refine z_iloadn dX7_capped_96 rfl ?_
        refine z_iload dX7_capped_97 rfl ?_
        refine z_isub dX7_capped_99 ?_
        refine z_iadd dX7_capped_100 ?_
        refine z_iast (by rfl) (by first | decide | exact Or.inl ⟨by decide, hg⟩) (by omega) (by omega) (by decide) (by first | (exact hr _ _ (by decide)) | omega) dX7_capped_101 ?_
        refine z_rng fun hr => ?_
        refine z_iloadn dX7_capped_102 rfl ?_
        refine z_iload dX7_capped_103 rfl ?_
        refine z_isub dX7_capped_105 ?_
        exact z_iret dX7_capped_106 (by first | rfl | omega) (by unfold z_cpb; rw [z_sM_cm _ _ _ _ _ (show (21 : Nat) ≠ 22 by decide), z_sM_cm _ _ _ _ _ (show (21 : Nat) ≠ 22 by decide)]; simp only [z_sM_R, z_sR_R, z_sR_self])
  · refine z_iload dX7_capped_33 rfl ?_
    refine z_aloadn dX7_capped_35 rfl ?_
    refine gX7_7 rfl dX7_capped_36 ?_
    refine z_iload dX7_capped_39 rfl ?_
    refine z_iald (by rfl) (by first | decide | exact Or.inl ⟨by decide, hg⟩) (by omega) (by omega) (by decide) dX7_capped_41 ?_
    refine z_isub dX7_capped_42 ?_
    refine z_goto (tgt := 47) dX7_capped_43 (by decide) ?_
    refine z_istore_6 dX7_capped_47 (Nat.le_of_ble_eq_true rfl) rfl ?_
    refine z_iload dX7_capped_49 rfl ?_
    refine z_if_le (tgt := 67) (by first | (exact hr _ _ (by decide)) | omega) dX7_capped_51 (by decide) (fun h51 => ?_) (fun h51 => ?_)
    · refine z_iconst dX7_capped_67 ?_
      refine z_top (v' := z_ov (M 22) k p a) (by unfold z_ov; (repeat' split) <;> omega) ?_
      refine z_istore_7 dX7_capped_68 (Nat.le_of_ble_eq_true rfl) rfl ?_
      refine z_aloadn dX7_capped_70 rfl ?_
      refine z_iload dX7_capped_71 rfl ?_
      refine kX7_139 (tX7_reserves (by omega) (by omega) (by omega)) rfl ⟨(Nat.le_of_ble_eq_true rfl), (Nat.le_of_ble_eq_true rfl)⟩ (Nat.le_of_ble_eq_true rfl) dX7_capped_73 ?_
      refine z_rng fun hr => ?_
      refine z_aloadn dX7_capped_76 rfl ?_
      refine gX7_7 rfl dX7_capped_77 ?_
      refine z_bipush dX7_capped_80 (by decide) ?_
      refine z_dup2 dX7_capped_82 rfl rfl ?_
      refine z_iald (by rfl) (by first | decide | exact Or.inl ⟨by decide, hg⟩) (by omega) (by omega) (by decide) dX7_capped_83 ?_
      refine z_top (v' := M 22 7) ((congrFun (z_sM_row _ _ _ (by decide)) _).trans (z_sM_ne _ _ _ (by decide))) ?_
      refine z_iload dX7_capped_84 rfl ?_
      refine z_iadd dX7_capped_86 ?_
      refine z_iast (by rfl) (by first | decide | exact Or.inl ⟨by decide, hg⟩) (by omega) (by omega) (by decide) (by first | (exact hr _ _ (by decide)) | omega) dX7_capped_87 ?_
      refine z_rng fun hr => ?_
      refine z_aloadn dX7_capped_88 rfl ?_
      refine gX7_7 rfl dX7_capped_89 ?_
      refine z_iload dX7_capped_92 rfl ?_
      refine z_dup2 dX7_capped_94 rfl rfl ?_
      refine z_iald (by rfl) (by first | decide | exact Or.inl ⟨by decide, hg⟩) (by omega) (by omega) (by decide) dX7_capped_95 ?_
      refine z_top (v' := M 22 (666 + 12 * k + p)) ((z_sM_ne _ _ _ (by omega)).trans ((congrFun (z_sM_row _ _ _ (by decide)) _).trans (z_sM_ne _ _ _ (by omega)))) ?_
      refine z_iloadn dX7_capped_96 rfl ?_
      refine z_iload dX7_capped_97 rfl ?_
      refine z_isub dX7_capped_99 ?_
      refine z_iadd dX7_capped_100 ?_
      refine z_iast (by rfl) (by first | decide | exact Or.inl ⟨by decide, hg⟩) (by omega) (by omega) (by decide) (by first | (exact hr _ _ (by decide)) | omega) dX7_capped_101 ?_
      refine z_rng fun hr => ?_
      refine z_iloadn dX7_capped_102 rfl ?_
      refine z_iload dX7_capped_103 rfl ?_
      refine z_isub dX7_capped_105 ?_
      exact z_iret dX7_capped_106 (by first | rfl | omega) (by unfold z_cpb; rw [z_sM_cm _ _ _ _ _ (show (21 : Nat) ≠ 22 by decide), z_sM_cm _ _ _ _ _ (show (21 : Nat) ≠ 22 by decide)]; simp only [z_sM_R, z_sR_R, z_sR_self])
    · refine z_iloadn dX7_capped_54 rfl ?_
      refine z_iload dX7_capped_55 rfl ?_
      refine z_icmp_le (tgt := 67) (by first | (exact hr _ _ (by decide)) | omega) (by first | (exact hr _ _ (by decide)) | omega) dX7_capped_57 (by decide) (fun h57 => ?_) (fun h57 => ?_)
      · refine z_iconst dX7_capped_67 ?_
        refine z_top (v' := z_ov (M 22) k p a) (by unfold z_ov; (repeat' split) <;> omega) ?_
        refine z_istore_7 dX7_capped_68 (Nat.le_of_ble_eq_true rfl) rfl ?_
        refine z_aloadn dX7_capped_70 rfl ?_
        refine z_iload dX7_capped_71 rfl ?_
        refine kX7_139 (tX7_reserves (by omega) (by omega) (by omega)) rfl ⟨(Nat.le_of_ble_eq_true rfl), (Nat.le_of_ble_eq_true rfl)⟩ (Nat.le_of_ble_eq_true rfl) dX7_capped_73 ?_
        refine z_rng fun hr => ?_
        refine z_aloadn dX7_capped_76 rfl ?_
        refine gX7_7 rfl dX7_capped_77 ?_
        refine z_bipush dX7_capped_80 (by decide) ?_
        refine z_dup2 dX7_capped_82 rfl rfl ?_
        refine z_iald (by rfl) (by first | decide | exact Or.inl ⟨by decide, hg⟩) (by omega) (by omega) (by decide) dX7_capped_83 ?_
        refine z_top (v' := M 22 7) ((congrFun (z_sM_row _ _ _ (by decide)) _).trans (z_sM_ne _ _ _ (by decide))) ?_
        refine z_iload dX7_capped_84 rfl ?_
        refine z_iadd dX7_capped_86 ?_
        refine z_iast (by rfl) (by first | decide | exact Or.inl ⟨by decide, hg⟩) (by omega) (by omega) (by decide) (by first | (exact hr _ _ (by decide)) | omega) dX7_capped_87 ?_
        refine z_rng fun hr => ?_
        refine z_aloadn dX7_capped_88 rfl ?_
        refine gX7_7 rfl dX7_capped_89 ?_
        refine z_iload dX7_capped_92 rfl ?_
        refine z_dup2 dX7_capped_94 rfl rfl ?_
        refine z_iald (by rfl) (by first | decide | exact Or.inl ⟨by decide, hg⟩) (by omega) (by omega) (by decide) dX7_capped_95 ?_
        refine z_top (v' := M 22 (666 + 12 * k + p)) ((z_sM_ne _ _ _ (by omega)).trans ((congrFun (z_sM_row _ _ _ (by decide)) _).trans (z_sM_ne _ _ _ (by omega)))) ?_
        refine z_iloadn dX7_capped_96 rfl ?_
        refine z_iload dX7_capped_97 rfl ?_
        refine z_isub dX7_capped_99 ?_
        refine z_iadd dX7_capped_100 ?_
        refine z_iast (by rfl) (by first | decide | exact Or.inl ⟨by decide, hg⟩) (by omega) (by omega) (by decide) (by first | (exact hr _ _ (by decide)) | omega) dX7_capped_101 ?_
        refine z_rng fun hr => ?_
        refine z_iloadn dX7_capped_102 rfl ?_
        refine z_iload dX7_capped_103 rfl ?_
        refine z_isub dX7_capped_105 ?_
        exact z_iret dX7_capped_106 (by first | rfl | omega) (by unfold z_cpb; rw [z_sM_cm _ _ _ _ _ (show (21 : Nat) ≠ 22 by decide), z_sM_cm _ _ _ _ _ (show (21 : Nat) ≠ 22 by decide)]; simp only [z_sM_R, z_sR_R, z_sR_self])
      · refine z_iloadn dX7_capped_60 rfl ?_
        refine z_iload dX7_capped_61 rfl ?_
        refine z_isub dX7_capped_63 ?_
        refine z_goto (tgt := 68) dX7_capped_64 (by decide) ?_
        refine z_top (v' := z_ov (M 22) k p a) (by unfold z_ov; (repeat' split) <;> omega) ?_
        refine z_istore_7 dX7_capped_68 (Nat.le_of_ble_eq_true rfl) rfl ?_
        refine z_aloadn dX7_capped_70 rfl ?_
        refine z_iload dX7_capped_71 rfl ?_
        refine kX7_139 (tX7_reserves (by omega) (by omega) (by omega)) rfl ⟨(Nat.le_of_ble_eq_true rfl), (Nat.le_of_ble_eq_true rfl)⟩ (Nat.le_of_ble_eq_true rfl) dX7_capped_73 ?_
        refine z_rng fun hr => ?_
        refine z_aloadn dX7_capped_76 rfl ?_
        refine gX7_7 rfl dX7_capped_77 ?_
        refine z_bipush dX7_capped_80 (by decide) ?_
        refine z_dup2 dX7_capped_82 rfl rfl ?_
        refine z_iald (by rfl) (by first | decide | exact Or.inl ⟨by decide, hg⟩) (by omega) (by omega) (by decide) dX7_capped_83 ?_
        refine z_top (v' := M 22 7) ((congrFun (z_sM_row _ _ _ (by decide)) _).trans (z_sM_ne _ _ _ (by decide))) ?_
        refine z_iload dX7_capped_84 rfl ?_
        refine z_iadd dX7_capped_86 ?_
        refine z_iast (by rfl) (by first | decide | exact Or.inl ⟨by decide, hg⟩) (by omega) (by omega) (by decide) (by first | (exact hr _ _ (by decide)) | omega) dX7_capped_87 ?_
        refine z_rng fun hr => ?_
        refine z_aloadn dX7_capped_88 rfl ?_
        refine gX7_7 rfl dX7_capped_89 ?_
        refine z_iload dX7_capped_92 rfl ?_
        refine z_dup2 dX7_capped_94 rfl rfl ?_
        refine z_iald (by rfl) (by first | decide | exact Or.inl ⟨by decide, hg⟩) (by omega) (by omega) (by decide) dX7_capped_95 ?_
        refine z_top (v' := M 22 (666 + 12 * k + p)) ((z_sM_ne _ _ _ (by omega)).trans ((congrFun (z_sM_row _ _ _ (by decide)) _).trans (z_sM_ne _ _ _ (by omega)))) ?_
        refine z_iloadn dX7_capped_96 rfl ?_
        refine z_iload dX7_capped_97 rfl ?_
        refine z_isub dX7_capped_99 ?_
        refine z_iadd dX7_capped_100 ?_
        refine z_iast (by rfl) (by first | decide | exact Or.inl ⟨by decide, hg⟩) (by omega) (by omega) (by decide) (by first | (exact hr _ _ (by decide)) | omega) dX7_capped_101 ?_
        refine z_rng fun hr => ?_
        refine z_iloadn dX7_capped_102 rfl ?_
        refine z_iload dX7_capped_103 rfl ?_
        refine z_isub dX7_capped_105 ?_
        exact z_iret dX7_capped_106 (by first | rfl | omega) (by unfold z_cpb; rw [z_sM_cm _ _ _ _ _ (show (21 : Nat) ≠ 22 by decide), z_sM_cm _ _ _ _ _ (show (21 : Nat) ≠ 22 by decide)]; simp only [z_sM_R, z_sR_R, z_sR_self])
