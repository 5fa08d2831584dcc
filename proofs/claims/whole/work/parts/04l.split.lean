/-! ===== money that comes in ===== -/
section ZM
variable {G : z_G} {Z : z_Z} {d : z_Md} {Q : State → Prop} {pc : Nat} {ls : List (Option Value)} {st : List Value} {M : z_M} {k n : Nat}
/-- a local is forgotten -/
theorem z_fgt (j : Nat) (kk : z_J G Z d Q pc (ls.set j none) st M k n) : z_J G Z d Q pc ls st M k n := fun hO H locs la hW hS hL => by
  refine kk hO H locs la hW hS ⟨hL.1, hL.2.1, fun i v hi => hL.2.2 i v ?_⟩
  by_cases e : i = j
  · subst e
    rw [List.getElem?_set] at hi
    simp at hi
  · rwa [List.getElem?_set_ne (Ne.symm e)] at hi
end ZM
/-- the place of the greatest of r 0 .. r n, the first of several -/
def z_am (r : Int → Int) : Nat → Int
  | 0 => 0
  | n + 1 => if r (z_am r n) < r ((n + 1 : Nat) : Int) then ((n + 1 : Nat) : Int) else z_am r n
theorem z_am_le (r : Int → Int) : ∀ n : Nat, 0 ≤ z_am r n ∧ z_am r n ≤ n := by
  intro n
  induction n with
  | zero => exact ⟨Int.le_refl _, Int.le_refl _⟩
  | succ n ih => unfold z_am; split <;> omega
/-- m units more, one to each greatest remainder, which is x then -/
def z_gv (x : Int) : Nat → (Int → Int) → (Int → Int) → (Int → Int) × (Int → Int)
  | 0, s, r => (s, r)
  | m + 1, s, r => z_gv x m (z_uf s (z_am r 11) (s (z_am r 11) + 1)) (z_uf r (z_am r 11) x)
def z_s0 (b : Int → Int) (k rest : Int) : Int → Int := fun p => rest * b (426 + 12 * k + p) / z_aP b k
def z_r0m (b : Int → Int) (k rest : Int) : Int → Int := fun p => if b (426 + 12 * k + p) = 0 then -1 else rest * b (426 + 12 * k + p) % z_aP b k
def z_lf (b : Int → Int) (k rest : Int) : Int := rest - z_sm 12 (z_s0 b k rest)
abbrev z_SP (M : z_M) (k rest : Int) : (Int → Int) × (Int → Int) := z_gv (-1) (z_lf (M 22) k rest).toNat (z_cp (M 27) (z_s0 (M 22) k rest) 0 0 12) (z_cp (M 28) (z_r0m (M 22) k rest) 0 0 12)
abbrev z_t7 (M : z_M) (s r : Int → Int) : z_M := z_sR (z_sR M 27 s) 28 r
theorem z_t7_s (M : z_M) (s r : Int → Int) (i v : Int) : z_sM (z_t7 M s r) 27 i v = z_t7 M (z_uf s i v) r := by
  rw [z_sM_R]
  show z_sR (z_sR (z_sR M 27 s) 28 r) 27 (z_uf (z_sR (z_sR M 27 s) 28 r 27) i v) = _
  rw [z_sR_ne _ _ (show (27 : Nat) ≠ 28 by decide), z_sR_self, z_sR_comm _ _ _ (show (28 : Nat) ≠ 27 by decide), z_sR_R]
theorem z_t7_r (M : z_M) (s r : Int → Int) (i v : Int) : z_sM (z_t7 M s r) 28 i v = z_t7 M s (z_uf r i v) := by
  rw [z_sM_R]
  show z_sR (z_sR (z_sR M 27 s) 28 r) 28 (z_uf (z_sR (z_sR M 27 s) 28 r 28) i v) = _
  rw [z_sR_self, z_sR_R]
theorem z_s0_rg {b : Int → Int} {k rest : Int} (hq : ∀ p, 0 ≤ p → p < 12 → 0 ≤ b (426 + 12 * k + p) ∧ b (426 + 12 * k + p) ≤ 9) (ha : 1 ≤ z_aP b k) (h0 : 0 ≤ rest) (h1 : rest ≤ 100000) {p : Int} (p0 : 0 ≤ p) (p1 : p < 12) : 0 ≤ rest * b (426 + 12 * k + p) ∧ rest * b (426 + 12 * k + p) ≤ 900000 ∧ 0 ≤ z_s0 b k rest p ∧ z_s0 b k rest p ≤ 900000 := by
  have h := hq p p0 p1
  have e1 : 0 ≤ rest * b (426 + 12 * k + p) := Int.mul_nonneg h0 h.1
  have e2 : rest * b (426 + 12 * k + p) ≤ 100000 * 9 := Int.mul_le_mul h1 h.2 h.1 (by decide)
  refine ⟨e1, by omega, Int.ediv_nonneg e1 (by omega), ?_⟩
  have := Int.ediv_le_self (z_aP b k) e1
  unfold z_s0
  omega
theorem z_r0_rg {b : Int → Int} {k rest : Int} (ha : 1 ≤ z_aP b k) (p : Int) : -1 ≤ z_r0m b k rest p ∧ (z_r0m b k rest p < z_aP b k) := by
  unfold z_r0m
  split
  · omega
  · have := Int.emod_nonneg (rest * b (426 + 12 * k + p)) (show z_aP b k ≠ 0 by omega)
    have := Int.emod_lt_of_pos (rest * b (426 + 12 * k + p)) (show 0 < z_aP b k by omega)
    omega
theorem z_aP_le {b : Int → Int} {k : Int} (hq : ∀ p, 0 ≤ p → p < 12 → 0 ≤ b (426 + 12 * k + p) ∧ b (426 + 12 * k + p) ≤ 9) : z_aP b k ≤ 108 := by
  have key : ∀ n : Nat, n ≤ 12 → z_sm n (fun p => b (426 + 12 * k + p)) ≤ 9 * n := by
    intro n
    induction n with
    | zero => intro _; exact Int.le_refl _
    | succ n ih => intro hn; rw [z_sm_s]; have := ih (by omega); have := (hq n (by omega) (by omega)).2; omega
  exact key 12 (by decide)
theorem tX7_reserves {G : z_G} {M : z_M} {a : Int} (ra : z_rg a) (g1 : z_rg (M 22 3 + a)) (g2 : z_rg (M 21 1 + a)) : KX7_reserves G [.ref (z_ad G 0 40), z_I a] M (.inl none) (z_sM (z_sM M 22 3 (M 22 3 + a)) 21 1 (M 21 1 + a)) := by
  refine z_con (ls := [some (.ref (z_ad G 0 40)), some (z_I a)]) (by decide +kernel) (Nat.le_of_ble_eq_true rfl) rfl ?_
  intro Z htb
  refine z_rng fun hr => ?_
  refine z_aloadn dX7_reserves_0 rfl ?_
  refine gX7_7 rfl dX7_reserves_1 ?_
  refine z_iconst dX7_reserves_4 ?_
  refine z_dup2 dX7_reserves_5 rfl rfl ?_
  refine z_iald (by rfl) (by first | decide | exact Or.inl ⟨by decide, hg⟩) (by omega) (by omega) (by decide) dX7_reserves_6 ?_
  refine z_iloadn dX7_reserves_7 rfl ?_
  refine z_iadd dX7_reserves_8 ?_
  refine z_iast (by rfl) (by first | decide | exact Or.inl ⟨by decide, hg⟩) (by omega) (by omega) (by decide) (by first | (exact hr _ _ (by decide)) | omega) dX7_reserves_9 ?_
  refine z_rng fun hr => ?_
  refine z_aloadn dX7_reserves_10 rfl ?_
  refine z_dup dX7_reserves_11 rfl ?_
  refine gX7_136 rfl dX7_reserves_12 ?_
  refine z_top (v' := M 21 1) rfl ?_
  refine z_iloadn dX7_reserves_15 rfl ?_
  refine z_iadd dX7_reserves_16 ?_
  refine pX7_136 (by first | (exact hr _ _ (by decide)) | omega) rfl dX7_reserves_17 ?_
  refine z_rng fun hr => ?_
  exact z_vret dX7_reserves_20 rfl
theorem tX7_split {G : z_G} {M : z_M} {k rest : Int} (k0 : 0 ≤ k) (k1 : k < 20) (hq : ∀ p, 0 ≤ p → p < 12 → 0 ≤ M 22 (426 + 12 * k + p) ∧ M 22 (426 + 12 * k + p) ≤ 9) (ha : 1 ≤ z_aP (M 22) k) (h0 : 0 ≤ rest) (h1 : rest ≤ 100000) : KX7_split G [.ref (z_ad G 0 40), z_I k, z_I rest] M (.inl none) (z_t7 M (z_SP M k rest).1 (z_SP M k rest).2) := by
  refine z_con (ls := [some (.ref (z_ad G 0 40)), some (z_I k), some (z_I rest), none, none, none, none]) (by decide +kernel) (Nat.le_of_ble_eq_true rfl) rfl ?_
  intro Z htb
  refine z_rng fun hr => ?_
  have y_al := z_aP_le hq
  refine z_aloadn dX7_split_0 rfl ?_
  refine z_iloadn dX7_split_1 rfl ?_
  refine kX7_133 (tX7_allParts k0 k1) rfl ⟨(Nat.le_of_ble_eq_true rfl), (Nat.le_of_ble_eq_true rfl)⟩ (Nat.le_of_ble_eq_true rfl) dX7_split_2 ?_
  refine z_top (v' := z_aP (M 22) k) rfl ?_
  refine z_istoren_3 dX7_split_5 (Nat.le_of_ble_eq_true rfl) rfl ?_
  refine z_iloadn dX7_split_6 rfl ?_
  refine z_istore_4 dX7_split_7 (Nat.le_of_ble_eq_true rfl) rfl ?_
  refine z_iconst dX7_split_9 ?_
  refine z_istore_5 dX7_split_10 (Nat.le_of_ble_eq_true rfl) rfl ?_
  refine z_mem (M' := z_t7 M (z_cp (M 27) (z_s0 (M 22) k rest) 0 0 ((0 : Nat) : Int)) (z_cp (M 28) (z_r0m (M 22) k rest) 0 0 ((0 : Nat) : Int))) (by rw [show ((0 : Nat) : Int) = 0 from rfl, z_cp_0, z_cp_0]; show M = z_sR (z_sR M 27 (M 27)) 28 (M 28); rw [z_sR_id, z_sR_id]) ?_
  refine z_upn (P := fun i : Nat => ∀ x : Int, x = rest - z_sm i (z_s0 (M 22) k rest) → z_J G Z _ _ 12 [some (.ref (z_ad G 0 40)), some (z_I k), some (z_I rest), some (z_I (z_aP (M 22) k)), some (z_I x), some (z_I i), none] [] (z_t7 M (z_cp (M 27) (z_s0 (M 22) k rest) 0 0 i) (z_cp (M 28) (z_r0m (M 22) k rest) 0 0 i)) 0 0) 12 ?_ ?_ rest (by show rest = rest - 0; omega)
  · intro x y_x
    refine z_rng fun hr => ?_
    refine z_iload dX7_split_12 rfl ?_
    refine z_bipush dX7_split_14 (by decide) ?_
    refine z_icmp_ge (tgt := 87) (by first | (exact hr _ _ (by decide)) | omega) (by first | (exact hr _ _ (by decide)) | omega) dX7_split_16 (by decide) (fun h16 => ?_) (fun h16 => ?_)
    · refine z_fgt 5 ?_
      refine z_fgt 6 ?_
      have y_c0 : ∀ p, 0 ≤ p → p < 12 → 0 ≤ z_cp (M 27) (z_s0 (M 22) k rest) 0 0 ((12 : Nat) : Int) p ∧ z_cp (M 27) (z_s0 (M 22) k rest) 0 0 ((12 : Nat) : Int) p ≤ 2000000 - ((z_lf (M 22) k rest).toNat : Nat) := by
        intro p p0 p1
        have y_v := (z_s0_rg hq ha h0 h1 p0 p1).2.2
        unfold z_cp
        rw [if_pos (by omega), show p - 0 + 0 = p by omega]
        have y_w : 0 ≤ z_sm 12 (z_s0 (M 22) k rest) := z_sm_nn fun j hj => (z_s0_rg hq ha h0 h1 (p := j) (by omega) (by omega)).2.2.1
        unfold z_lf
        omega
      have y_c1 : -90000000 ≤ z_lf (M 22) k rest ∧ z_lf (M 22) k rest ≤ 100000 := by
        have y_w : 0 ≤ z_sm 12 (z_s0 (M 22) k rest) := z_sm_nn fun j hj => (z_s0_rg hq ha h0 h1 (p := j) (by omega) (by omega)).2.2.1
        have key : ∀ n : Nat, n ≤ 12 → z_sm n (z_s0 (M 22) k rest) ≤ 900000 * n := by
          intro n
          induction n with
          | zero => intro _; exact Int.le_refl _
          | succ n ihn => intro hn; rw [z_sm_s]; have := ihn (by omega); have := (z_s0_rg hq ha h0 h1 (p := n) (by omega) (by omega)).2.2.2; omega
        have := key 12 (by decide)
        unfold z_lf
        omega
      have y_x : x = z_lf (M 22) k rest := y_x
      refine z_indR (P := fun m x s r => ((m : Int) = (if 0 ≤ x then x else 0) ∧ x ≤ 100000 ∧ -90000000 ≤ x) → (∀ p, 0 ≤ p → p < 12 → 0 ≤ s p ∧ s p ≤ 2000000 - (m : Int)) → z_gv (-1) m s r = z_SP M k rest → z_J G Z _ _ 87 [some (.ref (z_ad G 0 40)), some (z_I k), some (z_I rest), some (z_I (z_aP (M 22) k)), some (z_I x), none, none] [] (z_t7 M s r) 0 0) ?_ ?_ (z_lf (M 22) k rest).toNat x _ _ ⟨by split <;> omega, by omega, by omega⟩ y_c0 rfl
      · intro x s r y_m y_s y_g
        refine z_rng fun hr => ?_
        have y_m0 : ¬ 0 < x := by split at y_m <;> omega
        refine z_iload dX7_split_87 rfl ?_
        refine z_if_le (tgt := 162) (by first | (exact hr _ _ (by decide)) | omega) dX7_split_89 (by decide) (fun h89 => ?_) (fun h89 => ?_)
        · exact z_vret dX7_split_162 (by rw [← y_g]; rfl)
        · exfalso; omega
      · intro m y_ih x s r y_m y_s y_g
        refine z_rng fun hr => ?_
        have y_m0 : 0 < x := by split at y_m <;> omega
        refine z_iload dX7_split_87 rfl ?_
        refine z_if_le (tgt := 162) (by first | (exact hr _ _ (by decide)) | omega) dX7_split_89 (by decide) (fun h89 => ?_) (fun h89 => ?_)
        · exfalso; omega
        · refine z_iconst dX7_split_92 ?_
          refine z_istore_5 dX7_split_93 (Nat.le_of_ble_eq_true rfl) rfl ?_
          refine z_iconst dX7_split_95 ?_
          refine z_istore_6 dX7_split_96 (Nat.le_of_ble_eq_true rfl) rfl ?_
          refine z_upn (P := fun i : Nat => z_J G Z _ _ 98 [some (.ref (z_ad G 0 40)), some (z_I k), some (z_I rest), some (z_I (z_aP (M 22) k)), some (z_I x), some (z_I (z_am r i)), some (z_I ((i : Int) + 1))] [] (z_t7 M s r) 0 0) 11 ?_ ?_
          · refine z_iload dX7_split_98 rfl ?_
            refine z_bipush dX7_split_100 (by decide) ?_
            refine z_icmp_ge (tgt := 137) (by first | (exact hr _ _ (by decide)) | omega) (by first | (exact hr _ _ (by decide)) | omega) dX7_split_102 (by decide) (fun h102 => ?_) (fun h102 => ?_)
            · have y_a := z_am_le r 11
              have y_sa := y_s (z_am r 11) (by omega) (by omega)
              refine z_aloadn dX7_split_137 rfl ?_
              refine gX7_25 rfl dX7_split_138 ?_
              refine z_iload dX7_split_141 rfl ?_
              refine z_dup2 dX7_split_143 rfl rfl ?_
              refine z_iald (by rfl) (by first | decide | exact Or.inl ⟨by decide, hg⟩) (by omega) (by omega) (by decide) dX7_split_144 ?_
              refine z_top (v' := s (z_am r 11)) rfl ?_
              refine z_iconst dX7_split_145 ?_
              refine z_iadd dX7_split_146 ?_
              refine z_iast (by rfl) (by first | decide | exact Or.inl ⟨by decide, hg⟩) (by omega) (by omega) (by decide) (by first | (exact hr _ _ (by decide)) | omega) dX7_split_147 ?_
              refine z_rng fun hr => ?_
              refine z_aloadn dX7_split_148 rfl ?_
              refine gX7_28 rfl dX7_split_149 ?_
              refine z_iload dX7_split_152 rfl ?_
              refine z_iconst dX7_split_154 ?_
              refine z_iast (by rfl) (by first | decide | exact Or.inl ⟨by decide, hg⟩) (by omega) (by omega) (by decide) (by first | (exact hr _ _ (by decide)) | omega) dX7_split_155 ?_
              refine z_rng fun hr => ?_
              refine z_iinc_4 dX7_split_156 (Nat.le_of_ble_eq_true rfl) rfl ?_
              refine z_goto (tgt := 87) dX7_split_159 (by decide) ?_
              refine z_fgt 5 ?_
              refine z_fgt 6 ?_
              refine z_mem ?_ (y_ih _ (z_uf s (z_am r 11) (s (z_am r 11) + 1)) (z_uf r (z_am r 11) (-1)) (by split at y_m <;> split <;> omega) ?_ y_g)
              · rw [z_t7_s, z_t7_r]
              · intro p p0 p1
                have := y_s p p0 p1
                unfold z_uf
                split
                · rename_i q; subst q; omega
                · omega
            · exfalso; omega
          · intro i hi y_ih
            have y_a := z_am_le r i
            have y_iha : z_am r (i + 1) = if r (z_am r i) < r ((i : Int) + 1) then (i : Int) + 1 else z_am r i := rfl
            refine z_iload dX7_split_98 rfl ?_
            refine z_bipush dX7_split_100 (by decide) ?_
            refine z_icmp_ge (tgt := 137) (by first | (exact hr _ _ (by decide)) | omega) (by first | (exact hr _ _ (by decide)) | omega) dX7_split_102 (by decide) (fun h102 => ?_) (fun h102 => ?_)
            · exfalso; omega
            · refine z_aloadn dX7_split_105 rfl ?_
              refine gX7_28 rfl dX7_split_106 ?_
              refine z_iload dX7_split_109 rfl ?_
              refine z_iald (by rfl) (by first | decide | exact Or.inl ⟨by decide, hg⟩) (by omega) (by omega) (by decide) dX7_split_111 ?_
              refine z_top (v' := r ((i : Int) + 1)) rfl ?_
              refine z_aloadn dX7_split_112 rfl ?_
              refine gX7_28 rfl dX7_split_113 ?_
              refine z_iload dX7_split_116 rfl ?_
              refine z_iald (by rfl) (by first | decide | exact Or.inl ⟨by decide, hg⟩) (by omega) (by omega) (by decide) dX7_split_118 ?_
              refine z_top (v' := r (z_am r i)) rfl ?_
              have y_h : ∀ j, z_rg (r j) := fun j => hr 28 j (by decide)
              refine z_icmp_le (tgt := 127) (y_h _) (y_h _) dX7_split_119 (by decide) (fun h119 => ?_) (fun h119 => ?_)
              · refine z_iload dX7_split_127 rfl ?_
                refine z_istore_5 dX7_split_129 (Nat.le_of_ble_eq_true rfl) rfl ?_
                refine z_iinc_6 dX7_split_131 (Nat.le_of_ble_eq_true rfl) rfl ?_
                refine z_goto (tgt := 98) dX7_split_134 (by decide) ?_
                first
                  | (rw [y_iha, if_pos (by omega)] at y_ih; exact y_ih)
                  | (rw [y_iha, if_neg (by omega)] at y_ih; exact y_ih)
              · refine z_iload dX7_split_122 rfl ?_
                refine z_goto (tgt := 129) dX7_split_124 (by decide) ?_
                refine z_istore_5 dX7_split_129 (Nat.le_of_ble_eq_true rfl) rfl ?_
                refine z_iinc_6 dX7_split_131 (Nat.le_of_ble_eq_true rfl) rfl ?_
                refine z_goto (tgt := 98) dX7_split_134 (by decide) ?_
                first
                  | (rw [y_iha, if_pos (by omega)] at y_ih; exact y_ih)
                  | (rw [y_iha, if_neg (by omega)] at y_ih; exact y_ih)
    · exfalso; omega
  · intro i hi y_ih x y_x
    refine z_rng fun hr => ?_
    have y_i := z_s0_rg hq ha h0 h1 (p := i) (by omega) (by omega)
    have y_j := z_r0_rg (b := M 22) (k := k) (rest := rest) ha i
    have y_q := hq i (by omega) (by omega)
    have y_s : 0 ≤ z_sm i (z_s0 (M 22) k rest) := z_sm_nn fun j hj => (z_s0_rg hq ha h0 h1 (p := j) (by omega) (by omega)).2.2.1
    have y_t : z_sm i (z_s0 (M 22) k rest) ≤ 900000 * i := by
      have key : ∀ n : Nat, n ≤ i → z_sm n (z_s0 (M 22) k rest) ≤ 900000 * n := by
        intro n
        induction n with
        | zero => intro _; exact Int.le_refl _
        | succ n ihn => intro hn; rw [z_sm_s]; have := ihn (by omega); have := (z_s0_rg hq ha h0 h1 (p := n) (by omega) (by omega)).2.2.2; omega
      exact key i (Nat.le_refl _)
    refine z_iload dX7_split_12 rfl ?_
    refine z_bipush dX7_split_14 (by decide) ?_
    refine z_icmp_ge (tgt := 87) (by first | (exact hr _ _ (by decide)) | omega) (by first | (exact hr _ _ (by decide)) | omega) dX7_split_16 (by decide) (fun h16 => ?_) (fun h16 => ?_)
    · exfalso; omega
    · refine z_aloadn dX7_split_19 rfl ?_
      refine gX7_25 rfl dX7_split_20 ?_
      refine z_iload dX7_split_23 rfl ?_
      refine z_iloadn dX7_split_25 rfl ?_
      refine z_aloadn dX7_split_26 rfl ?_
      refine z_iloadn dX7_split_27 rfl ?_
      refine z_iload dX7_split_28 rfl ?_
      refine kX7_143 (tX7_partsOf (by omega) (by omega)) rfl ⟨(Nat.le_of_ble_eq_true rfl), (Nat.le_of_ble_eq_true rfl)⟩ (Nat.le_of_ble_eq_true rfl) dX7_split_30 ?_
      refine z_top (v' := M 22 (426 + 12 * k + i)) rfl ?_
      refine z_imul dX7_split_33 ?_
      refine z_iloadn dX7_split_34 rfl ?_
      refine z_idiv (by omega) (by omega) (by omega) (by omega) dX7_split_35 ?_
      refine z_top (v' := z_s0 (M 22) k rest i) rfl ?_
      refine z_iast (by rfl) (by first | decide | exact Or.inl ⟨by decide, hg⟩) (by omega) (by omega) (by decide) (by first | (exact hr _ _ (by decide)) | omega) dX7_split_36 ?_
      refine z_rng fun hr => ?_
      refine z_aloadn dX7_split_37 rfl ?_
      refine gX7_28 rfl dX7_split_38 ?_
      refine z_iload dX7_split_41 rfl ?_
      refine z_aloadn dX7_split_43 rfl ?_
      refine z_iloadn dX7_split_44 rfl ?_
      refine z_iload dX7_split_45 rfl ?_
      refine kX7_143 (tX7_partsOf (by omega) (by omega)) rfl ⟨(Nat.le_of_ble_eq_true rfl), (Nat.le_of_ble_eq_true rfl)⟩ (Nat.le_of_ble_eq_true rfl) dX7_split_47 ?_
      refine z_top (v' := M 22 (426 + 12 * k + i)) rfl ?_
      refine z_if_ne (tgt := 57) (by first | (exact hr _ _ (by decide)) | omega) dX7_split_50 (by decide) (fun h50 => ?_) (fun h50 => ?_)
      · refine z_iloadn dX7_split_57 rfl ?_
        refine z_aloadn dX7_split_58 rfl ?_
        refine z_iloadn dX7_split_59 rfl ?_
        refine z_iload dX7_split_60 rfl ?_
        refine kX7_143 (tX7_partsOf (by omega) (by omega)) rfl ⟨(Nat.le_of_ble_eq_true rfl), (Nat.le_of_ble_eq_true rfl)⟩ (Nat.le_of_ble_eq_true rfl) dX7_split_62 ?_
        refine z_top (v' := M 22 (426 + 12 * k + i)) rfl ?_
        refine z_imul dX7_split_65 ?_
        refine z_iloadn dX7_split_66 rfl ?_
        refine z_irem (by omega) (by omega) (by omega) (by omega) dX7_split_67 ?_
        have y_e1 := Int.emod_nonneg (rest * M 22 (426 + 12 * k + i)) (show z_aP (M 22) k ≠ 0 by omega)
        have y_e2 := Int.emod_lt_of_pos (rest * M 22 (426 + 12 * k + i)) (show 0 < z_aP (M 22) k by omega)
        refine z_iast (by rfl) (by first | decide | exact Or.inl ⟨by decide, hg⟩) (by omega) (by omega) (by decide) (by first | (exact hr _ _ (by decide)) | omega) dX7_split_68 ?_
        refine z_rng fun hr => ?_
        refine z_iload dX7_split_69 rfl ?_
        refine z_aloadn dX7_split_71 rfl ?_
        refine gX7_25 rfl dX7_split_72 ?_
        refine z_iload dX7_split_75 rfl ?_
        refine z_iald (by rfl) (by first | decide | exact Or.inl ⟨by decide, hg⟩) (by omega) (by omega) (by decide) dX7_split_77 ?_
        refine z_top (v' := z_s0 (M 22) k rest i) (by rw [z_sM_row _ _ _ (by decide), z_sM_self]) ?_
        refine z_isub dX7_split_78 ?_
        refine z_istore_4 dX7_split_79 (Nat.le_of_ble_eq_true rfl) rfl ?_
        refine z_iinc_5 dX7_split_81 (Nat.le_of_ble_eq_true rfl) rfl ?_
        refine z_goto (tgt := 12) dX7_split_84 (by decide) ?_
        refine z_mem ?_ (y_ih _ (by rw [z_sm_s, y_x]; omega))
        rw [z_t7_s, z_t7_r]
        refine congr (congrArg (z_t7 M) ?_) ?_
        · exact z_cp_s _ _ _ _ i (by omega) (by rw [Int.zero_add])
        · refine z_cp_s _ _ _ _ i (by omega) ?_
          rw [Int.zero_add]
          unfold z_r0m
          first | rw [if_pos h50] | rw [if_neg h50]
      · refine z_iconst dX7_split_53 ?_
        refine z_goto (tgt := 68) dX7_split_54 (by decide) ?_
        have y_e1 := Int.emod_nonneg (rest * M 22 (426 + 12 * k + i)) (show z_aP (M 22) k ≠ 0 by omega)
        have y_e2 := Int.emod_lt_of_pos (rest * M 22 (426 + 12 * k + i)) (show 0 < z_aP (M 22) k by omega)
        refine z_iast (by rfl) (by first | decide | exact Or.inl ⟨by decide, hg⟩) (by omega) (by omega) (by decide) (by first | (exact hr _ _ (by decide)) | omega) dX7_split_68 ?_
        refine z_rng fun hr => ?_
        refine z_iload dX7_split_69 rfl ?_
        refine z_aloadn dX7_split_71 rfl ?_
        refine gX7_25 rfl dX7_split_72 ?_
        refine z_iload dX7_split_75 rfl ?_
        refine z_iald (by rfl) (by first | decide | exact Or.inl ⟨by decide, hg⟩) (by omega) (by omega) (by decide) dX7_split_77 ?_
        refine z_top (v' := z_s0 (M 22) k rest i) (by rw [z_sM_row _ _ _ (by decide), z_sM_self]) ?_
        refine z_isub dX7_split_78 ?_
        refine z_istore_4 dX7_split_79 (Nat.le_of_ble_eq_true rfl) rfl ?_
        refine z_iinc_5 dX7_split_81 (Nat.le_of_ble_eq_true rfl) rfl ?_
        refine z_goto (tgt := 12) dX7_split_84 (by decide) ?_
        refine z_mem ?_ (y_ih _ (by rw [z_sm_s, y_x]; omega))
        rw [z_t7_s, z_t7_r]
        refine congr (congrArg (z_t7 M) ?_) ?_
        · exact z_cp_s _ _ _ _ i (by omega) (by rw [Int.zero_add])
        · refine z_cp_s _ _ _ _ i (by omega) ?_
          rw [Int.zero_add]
          unfold z_r0m
          first | rw [if_pos h50] | rw [if_neg h50]
