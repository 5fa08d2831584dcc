/-! ===== fair of the law ===== -/
theorem z_isI_s (D : Int → Int) (c : Int) (n : Nat) : z_isI D c (n + 1) = if z_isI D c n = 1 ∧ (0 < D n ∨ z_c4 c n = 0) then 1 else 0 := rfl
theorem z_byI_s (D : Int → Int) (c A S : Int) (n : Nat) : z_byI D c A S (n + 1) = if z_byI D c A S n < z_ab (z_dfI D c A S n) then z_ab (z_dfI D c A S n) else z_byI D c A S n := rfl
theorem z_suI_rg (D : Int → Int) (c : Int) {n : Nat} (hn : n ≤ 4) : 0 ≤ z_suI D c n ∧ z_suI D c n ≤ 16 := by
  have h := z_smb (f := fun p => if 0 < D p then 1 + z_c4 c p else 0) (a := 0) (b := 4) n (fun i _ => by
    have := z_c4_rg c i
    show 0 ≤ (if 0 < D i then 1 + z_c4 c i else 0) ∧ (if 0 < D i then 1 + z_c4 c i else 0) ≤ 4
    split <;> omega)
  unfold z_suI
  omega
theorem z_dfI_rg {D : Int → Int} {c A S p : Int} (d0 : 0 ≤ D p) (d1 : D p ≤ 9) (A0 : 0 ≤ A) (A1 : A ≤ 9) (S0 : 0 ≤ S) (S1 : S ≤ 16) : -144 ≤ z_dfI D c A S p ∧ z_dfI D c A S p ≤ 144 := by
  have h := z_c4_rg c p
  have h1 := z_mb (show 0 ≤ 1 + z_c4 c p by omega) (show 1 + z_c4 c p ≤ 4 by omega) A0 A1
  have h2 := z_mb d0 d1 S0 S1
  unfold z_dfI
  split <;> omega
theorem z_byI_rg {D : Int → Int} {c A S : Int} (hD : ∀ q, 0 ≤ q → q < 4 → 0 ≤ D q ∧ D q ≤ 9) (A0 : 0 ≤ A) (A1 : A ≤ 9) (S0 : 0 ≤ S) (S1 : S ≤ 16) : ∀ n : Nat, n ≤ 4 → 0 ≤ z_byI D c A S n ∧ z_byI D c A S n ≤ 144 := by
  intro n
  induction n with
  | zero => intro _; exact ⟨Int.le_refl 0, by show (0 : Int) ≤ 144; decide⟩
  | succ n ih =>
    intro hn
    have h := ih (by omega)
    have hd := hD n (by omega) (by omega)
    have h2 := z_dfI_rg (c := c) hd.1 hd.2 A0 A1 S0 S1
    rw [z_byI_s]
    unfold z_ab
    (repeat' split) <;> omega
theorem z_fl3_rg {D : Int → Int} {A : Int} (hD : ∀ q, 0 ≤ q → q < 4 → 0 ≤ D q ∧ D q ≤ 9) (A0 : 0 ≤ A) (A1 : A ≤ 9) : ∀ n : Nat, 0 ≤ (z_fl3 D A n).1 ∧ (z_fl3 D A n).1 ≤ 16 ∧ 0 ≤ (z_fl3 D A n).2.1 ∧ (z_fl3 D A n).2.1 ≤ 144 ∧ 0 ≤ (z_fl3 D A n).2.2 ∧ (z_fl3 D A n).2.2 ≤ n := by
  intro n
  induction n with
  | zero => exact ⟨Int.le_refl 0, by show (0 : Int) ≤ 16; decide, Int.le_refl 0, by show (0 : Int) ≤ 144; decide, Int.le_refl 0, Int.le_refl 0⟩
  | succ n ih =>
    have s := z_suI_rg D n (show 4 ≤ 4 by decide)
    have u := z_byI_rg (c := n) hD A0 A1 s.1 s.2 4 (by decide)
    rw [z_fl3_s]
    unfold z_stL
    split
    · split
      · refine ⟨s.1, s.2, u.1, u.2, ?_, ?_⟩
        · show (0 : Int) ≤ (n : Int); omega
        · show (n : Int) ≤ ((n + 1 : Nat) : Int); omega
      · exact ⟨ih.1, ih.2.1, ih.2.2.1, ih.2.2.2.1, ih.2.2.2.2.1, by omega⟩
    · exact ⟨ih.1, ih.2.1, ih.2.2.1, ih.2.2.2.1, ih.2.2.2.2.1, by omega⟩
theorem tL_fair {G : z_G} {M : z_M} {B : Int → Int} {N k p : Int} (hb : z_BI B N) (h4 : B 0 ≤ 4) (k0 : 0 ≤ k) (k1 : k < 4) (p0 : 0 ≤ p) (p1 : p < 4) (hE : M 40 = B) : KL_fair G [z_I k, z_I p, .ref (z_ad G 0 42)] M (.inl (some (z_I (z_lfr B k p)))) M := by
  refine z_con (ls := [some (z_I k), some (z_I p), some (.ref (z_ad G 0 42)), none, none, none, none, none, none, none, none, none, none]) (by decide +kernel) (Nat.le_of_ble_eq_true rfl) rfl ?_
  intro Z htb
  refine z_rng fun hr => ?_
  have y_K := z_BI_K hb k k0 (by omega)
  unfold z_KI at y_K
  have y_A0 := z_aD_0 hb k0 (show k < 20 by omega)
  have y_zr : z_lfr B k p = if z_aD B k = 0 ∨ z_dr B k p = 0 then 0 else 1 + z_c4 (z_fl3 (z_dr B k) (z_aD B k) 256).2.2 p := rfl
  have y_v : ∀ q, 0 ≤ q → q < 4 → M 40 (186 + 12 * k + q) = z_dr B k q := fun q _ _ => congrFun hE _
  have y_D9 : ∀ q, 0 ≤ q → q < 4 → 0 ≤ z_dr B k q ∧ z_dr B k q ≤ 9 := fun q q0 q1 => by
    have h := z_BI_Q hb k q k0 (by omega) q0 (by omega)
    unfold z_QI at h
    exact ⟨h.1, h.2.1⟩
  have y_4 := tL_four_dr (G := G) (M := M) (B := B) k0 k1 (z_drz hb h4 k0 (by omega)) (fun q _ _ => congrFun hE _)
  have y_A : 0 ≤ z_aD B k ∧ z_aD B k ≤ 9 := ⟨y_A0, y_K.2.2.2.2.2.2.2.2.2.2.2.2.1⟩
  generalize z_aD B k = A at *
  generalize z_dr B k = D at *
  have y_Dp := y_D9 p p0 p1
  refine z_iconst dL_fair_0 ?_
  refine z_istoren_3 dL_fair_1 (Nat.le_of_ble_eq_true rfl) rfl ?_
  refine z_iconst dL_fair_2 ?_
  refine z_istore_4 dL_fair_3 (Nat.le_of_ble_eq_true rfl) rfl ?_
  refine z_iconst dL_fair_5 ?_
  refine z_istore_5 dL_fair_6 (Nat.le_of_ble_eq_true rfl) rfl ?_
  refine z_aloadn dL_fair_8 rfl ?_
  refine z_iloadn dL_fair_9 rfl ?_
  refine kL_8 y_4 rfl ⟨(Nat.le_of_ble_eq_true rfl), (Nat.le_of_ble_eq_true rfl)⟩ (Nat.le_of_ble_eq_true rfl) dL_fair_10 ?_
  refine z_istore_6 dL_fair_13 (Nat.le_of_ble_eq_true rfl) rfl ?_
  refine z_iconst dL_fair_15 ?_
  refine z_istore_7 dL_fair_16 (Nat.le_of_ble_eq_true rfl) rfl ?_
  obtain ⟨n, y_n⟩ : ∃ n : Nat, (n = 256 ∧ 0 < A) ∨ (n = 0 ∧ A ≤ 0) := by
    rcases Int.lt_or_le 0 A with h | h
    · exact ⟨256, Or.inl ⟨rfl, h⟩⟩
    · exact ⟨0, Or.inr ⟨rfl, h⟩⟩
  refine z_upn (P := fun i : Nat => z_J G Z _ _ 18 [some (z_I k), some (z_I p), some (.ref (z_ad G 0 42)), some (z_I (z_fl3 D A i).2.2), some (z_I (z_fl3 D A i).2.1), some (z_I (z_fl3 D A i).1), some (z_I A), some (z_I i), none, none, none, none, none] [] M 0 0) n ?_ ?_
  · refine z_rng fun hr => ?_
    have y_f := z_fl3_rg y_D9 y_A.1 y_A.2 n
    rcases y_n with ⟨rfl, y_p⟩ | ⟨rfl, y_p⟩
    · refine z_iload dL_fair_18 rfl ?_
      refine z_sipush dL_fair_20 (by decide) ?_
      refine z_icmp_ge (tgt := 281) (by first | omega | (exact hr _ _ (by decide))) (by first | omega | (exact hr _ _ (by decide))) dL_fair_23 (by decide) (fun h23 => ?_) (fun h23 => ?_)
      · refine z_iload dL_fair_281 rfl ?_
        refine z_if_eq (tgt := 296) (by first | omega | (exact hr _ _ (by decide))) dL_fair_283 (by decide) (fun h283 => ?_) (fun h283 => ?_)
        · refine z_iconst dL_fair_296 ?_
          refine z_goto (tgt := 312) dL_fair_297 (by decide) ?_
          exact z_iret dL_fair_312 (by rw [y_zr]; first | rw [if_pos (by omega)] | rw [if_neg (by omega)]) rfl
        · refine z_aloadn dL_fair_286 rfl ?_
          refine z_iconst dL_fair_287 ?_
          refine z_iloadn dL_fair_288 rfl ?_
          refine z_imul dL_fair_289 ?_
          refine z_iloadn dL_fair_290 rfl ?_
          refine z_iadd dL_fair_291 ?_
          refine z_lld (R := 40) (j := 186 + 12 * k + p) al_dr (Or.inl (by decide)) (y_v _ (by omega) (by omega)) (by omega) (by omega) (Nat.le_of_ble_eq_true rfl) (by omega) dL_fair_292 ?_
          refine z_if_ne (tgt := 300) (by first | omega | (exact hr _ _ (by decide))) dL_fair_293 (by decide) (fun h293 => ?_) (fun h293 => ?_)
          · refine z_iconst dL_fair_300 ?_
            refine z_iloadn dL_fair_301 rfl ?_
            refine z_bipush dL_fair_302 (by decide) ?_
            refine z_iconst dL_fair_304 ?_
            refine z_iloadn dL_fair_305 rfl ?_
            refine z_imul dL_fair_306 ?_
            refine z_isub dL_fair_307 ?_
            refine z_ishr (z_bshr (by omega) (by omega) (by omega) (by omega)) dL_fair_308 ?_
            refine z_iconst dL_fair_309 ?_
            refine z_iand (z_band3 (Int.ediv_nonneg (by omega) (Int.le_of_lt (Int.pow_pos (by decide))))) dL_fair_310 ?_
            refine z_top (v' := z_c4 (z_fl3 D A 256).2.2 p) (rfl) ?_
            refine z_iadd dL_fair_311 ?_
            exact z_iret dL_fair_312 (by rw [y_zr]; first | rw [if_pos (by omega)] | rw [if_neg (by omega)]) rfl
          · refine z_iconst dL_fair_296 ?_
            refine z_goto (tgt := 312) dL_fair_297 (by decide) ?_
            exact z_iret dL_fair_312 (by rw [y_zr]; first | rw [if_pos (by omega)] | rw [if_neg (by omega)]) rfl
      · exfalso; omega
    · refine z_iload dL_fair_18 rfl ?_
      refine z_sipush dL_fair_20 (by decide) ?_
      refine z_icmp_ge (tgt := 281) (by first | omega | (exact hr _ _ (by decide))) (by first | omega | (exact hr _ _ (by decide))) dL_fair_23 (by decide) (fun h23 => ?_) (fun h23 => ?_)
      · exfalso; omega
      · refine z_iload dL_fair_26 rfl ?_
        refine z_if_le (tgt := 281) (by first | omega | (exact hr _ _ (by decide))) dL_fair_28 (by decide) (fun h28 => ?_) (fun h28 => ?_)
        · refine z_iload dL_fair_281 rfl ?_
          refine z_if_eq (tgt := 296) (by first | omega | (exact hr _ _ (by decide))) dL_fair_283 (by decide) (fun h283 => ?_) (fun h283 => ?_)
          · refine z_iconst dL_fair_296 ?_
            refine z_goto (tgt := 312) dL_fair_297 (by decide) ?_
            exact z_iret dL_fair_312 (by rw [y_zr]; first | rw [if_pos (by omega)] | rw [if_neg (by omega)]) rfl
          · exfalso; omega
        · exfalso; omega
  · intro i hi y_ih
    refine z_rng fun hr => ?_
    have y_f := z_fl3_rg y_D9 y_A.1 y_A.2 i
    have y_s1 := z_fl3_s D A i
    have y_i : (i : Int) < 256 ∧ 0 < A := by omega
    generalize z_fl3 D A i = s at *
    have y_S := z_suI_rg D i (show 4 ≤ 4 by decide)
    refine z_iload dL_fair_18 rfl ?_
    refine z_sipush dL_fair_20 (by decide) ?_
    refine z_icmp_ge (tgt := 281) (by first | omega | (exact hr _ _ (by decide))) (by first | omega | (exact hr _ _ (by decide))) dL_fair_23 (by decide) (fun h23 => ?_) (fun h23 => ?_)
    · exfalso; omega
    · refine z_iload dL_fair_26 rfl ?_
      refine z_if_le (tgt := 281) (by first | omega | (exact hr _ _ (by decide))) dL_fair_28 (by decide) (fun h28 => ?_) (fun h28 => ?_)
      · exfalso; omega
      · refine z_iconst dL_fair_31 ?_
        refine z_istore_8 dL_fair_32 (Nat.le_of_ble_eq_true rfl) rfl ?_
        refine z_iconst dL_fair_34 ?_
        refine z_istore_9 dL_fair_35 (Nat.le_of_ble_eq_true rfl) rfl ?_
        refine z_iconst dL_fair_37 ?_
        refine z_istore_10 dL_fair_38 (Nat.le_of_ble_eq_true rfl) rfl ?_
        refine z_upn (P := fun j : Nat => z_J G Z _ _ 40 [some (z_I k), some (z_I p), some (.ref (z_ad G 0 42)), some (z_I s.2.2), some (z_I s.2.1), some (z_I s.1), some (z_I A), some (z_I i), some (z_I (z_suI D i j)), some (z_I (z_isI D i j)), some (z_I j), none, none] [] M 0 0) 4 ?_ ?_
        · refine z_rng fun hr => ?_
          have y_i01 := z_isI_01 D i 4
          refine z_iload dL_fair_40 rfl ?_
          refine z_iconst dL_fair_42 ?_
          refine z_icmp_ge (tgt := 124) (by first | omega | (exact hr _ _ (by decide))) (by first | omega | (exact hr _ _ (by decide))) dL_fair_43 (by decide) (fun h43 => ?_) (fun h43 => ?_)
          · refine z_iconst dL_fair_124 ?_
            refine z_istore_10 dL_fair_125 (Nat.le_of_ble_eq_true rfl) rfl ?_
            refine z_iconst dL_fair_127 ?_
            refine z_istore_11 dL_fair_128 (Nat.le_of_ble_eq_true rfl) rfl ?_
            refine z_upn (P := fun j : Nat => z_J G Z _ _ 130 [some (z_I k), some (z_I p), some (.ref (z_ad G 0 42)), some (z_I s.2.2), some (z_I s.2.1), some (z_I s.1), some (z_I A), some (z_I i), some (z_I (z_suI D i 4)), some (z_I (z_isI D i 4)), some (z_I (z_byI D i A (z_suI D i 4) j)), some (z_I j), none] [] M 0 0) 4 ?_ ?_
            · refine z_rng fun hr => ?_
              have y_by := z_byI_rg (c := i) y_D9 y_A.1 y_A.2 y_S.1 y_S.2 4 (by decide)
              have y_m1 := z_mb y_by.1 y_by.2 y_f.1 y_f.2.1
              have y_m2 := z_mb y_f.2.2.1 y_f.2.2.2.1 y_S.1 y_S.2
              refine z_iload dL_fair_130 rfl ?_
              refine z_iconst dL_fair_132 ?_
              refine z_icmp_ge (tgt := 218) (by first | omega | (exact hr _ _ (by decide))) (by first | omega | (exact hr _ _ (by decide))) dL_fair_133 (by decide) (fun h133 => ?_) (fun h133 => ?_)
              · refine z_iload dL_fair_218 rfl ?_
                refine z_if_eq (tgt := 275) (by first | omega | (exact hr _ _ (by decide))) dL_fair_220 (by decide) (fun h220 => ?_) (fun h220 => ?_)
                · refine z_iinc_7 dL_fair_275 (Nat.le_of_ble_eq_true rfl) rfl ?_
                  refine z_goto (tgt := 18) dL_fair_278 (by decide) ?_
                  refine z_fgt 8 ?_
                  refine z_fgt 9 ?_
                  refine z_fgt 10 ?_
                  refine z_fgt 11 ?_
                  refine z_fgt 12 ?_
                  rw [y_s1] at y_ih
                  first
                    | (rw [if_neg (show ¬ z_isI D i 4 = 1 by omega)] at y_ih; exact y_ih)
                    | (rw [if_pos (show z_isI D i 4 = 1 by omega)] at y_ih
                       unfold z_stL at y_ih
                       first
                         | (rw [if_pos (show z_fst s.1 s.2.1 (z_suI D i 4) (z_byI D i A (z_suI D i 4) 4) < 0 ∨ (z_fst s.1 s.2.1 (z_suI D i 4) (z_byI D i A (z_suI D i 4) 4) = 0 ∧ z_suI D i 4 < s.1) by unfold z_fst; split <;> omega)] at y_ih; exact y_ih)
                         | (rw [if_neg (show ¬ (z_fst s.1 s.2.1 (z_suI D i 4) (z_byI D i A (z_suI D i 4) 4) < 0 ∨ (z_fst s.1 s.2.1 (z_suI D i 4) (z_byI D i A (z_suI D i 4) 4) = 0 ∧ z_suI D i 4 < s.1)) by unfold z_fst; split <;> omega)] at y_ih; exact y_ih))
                · refine z_iload dL_fair_223 rfl ?_
                  refine z_if_le (tgt := 264) (by first | omega | (exact hr _ _ (by decide))) dL_fair_225 (by decide) (fun h225 => ?_) (fun h225 => ?_)
                  · refine z_iload dL_fair_264 rfl ?_
                    refine z_istoren_3 dL_fair_266 (Nat.le_of_ble_eq_true rfl) rfl ?_
                    refine z_iload dL_fair_267 rfl ?_
                    refine z_istore_4 dL_fair_269 (Nat.le_of_ble_eq_true rfl) rfl ?_
                    refine z_iload dL_fair_271 rfl ?_
                    refine z_istore_5 dL_fair_273 (Nat.le_of_ble_eq_true rfl) rfl ?_
                    refine z_iinc_7 dL_fair_275 (Nat.le_of_ble_eq_true rfl) rfl ?_
                    refine z_goto (tgt := 18) dL_fair_278 (by decide) ?_
                    refine z_fgt 8 ?_
                    refine z_fgt 9 ?_
                    refine z_fgt 10 ?_
                    refine z_fgt 11 ?_
                    refine z_fgt 12 ?_
                    rw [y_s1] at y_ih
                    first
                      | (rw [if_neg (show ¬ z_isI D i 4 = 1 by omega)] at y_ih; exact y_ih)
                      | (rw [if_pos (show z_isI D i 4 = 1 by omega)] at y_ih
                         unfold z_stL at y_ih
                         first
                           | (rw [if_pos (show z_fst s.1 s.2.1 (z_suI D i 4) (z_byI D i A (z_suI D i 4) 4) < 0 ∨ (z_fst s.1 s.2.1 (z_suI D i 4) (z_byI D i A (z_suI D i 4) 4) = 0 ∧ z_suI D i 4 < s.1) by unfold z_fst; split <;> omega)] at y_ih; exact y_ih)
                           | (rw [if_neg (show ¬ (z_fst s.1 s.2.1 (z_suI D i 4) (z_byI D i A (z_suI D i 4) 4) < 0 ∨ (z_fst s.1 s.2.1 (z_suI D i 4) (z_byI D i A (z_suI D i 4) 4) = 0 ∧ z_suI D i 4 < s.1)) by unfold z_fst; split <;> omega)] at y_ih; exact y_ih))
                  · refine z_iload dL_fair_228 rfl ?_
                    refine z_iload dL_fair_230 rfl ?_
                    refine z_imul dL_fair_232 ?_
                    refine z_iload dL_fair_233 rfl ?_
                    refine z_iload dL_fair_235 rfl ?_
                    refine z_imul dL_fair_237 ?_
                    refine z_icmp_gt (tgt := 275) (by first | omega | (exact hr _ _ (by decide))) (by first | omega | (exact hr _ _ (by decide))) dL_fair_238 (by decide) (fun h238 => ?_) (fun h238 => ?_)
                    · refine z_iinc_7 dL_fair_275 (Nat.le_of_ble_eq_true rfl) rfl ?_
                      refine z_goto (tgt := 18) dL_fair_278 (by decide) ?_
                      refine z_fgt 8 ?_
                      refine z_fgt 9 ?_
                      refine z_fgt 10 ?_
                      refine z_fgt 11 ?_
                      refine z_fgt 12 ?_
                      rw [y_s1] at y_ih
                      first
                        | (rw [if_neg (show ¬ z_isI D i 4 = 1 by omega)] at y_ih; exact y_ih)
                        | (rw [if_pos (show z_isI D i 4 = 1 by omega)] at y_ih
                           unfold z_stL at y_ih
                           first
                             | (rw [if_pos (show z_fst s.1 s.2.1 (z_suI D i 4) (z_byI D i A (z_suI D i 4) 4) < 0 ∨ (z_fst s.1 s.2.1 (z_suI D i 4) (z_byI D i A (z_suI D i 4) 4) = 0 ∧ z_suI D i 4 < s.1) by unfold z_fst; split <;> omega)] at y_ih; exact y_ih)
                             | (rw [if_neg (show ¬ (z_fst s.1 s.2.1 (z_suI D i 4) (z_byI D i A (z_suI D i 4) 4) < 0 ∨ (z_fst s.1 s.2.1 (z_suI D i 4) (z_byI D i A (z_suI D i 4) 4) = 0 ∧ z_suI D i 4 < s.1)) by unfold z_fst; split <;> omega)] at y_ih; exact y_ih))
                    · refine z_iload dL_fair_241 rfl ?_
                      refine z_iload dL_fair_243 rfl ?_
                      refine z_imul dL_fair_245 ?_
                      refine z_iload dL_fair_246 rfl ?_
                      refine z_iload dL_fair_248 rfl ?_
                      refine z_imul dL_fair_250 ?_
                      refine z_icmp_ne (tgt := 264) (by first | omega | (exact hr _ _ (by decide))) (by first | omega | (exact hr _ _ (by decide))) dL_fair_251 (by decide) (fun h251 => ?_) (fun h251 => ?_)
                      · refine z_iload dL_fair_264 rfl ?_
                        refine z_istoren_3 dL_fair_266 (Nat.le_of_ble_eq_true rfl) rfl ?_
                        refine z_iload dL_fair_267 rfl ?_
                        refine z_istore_4 dL_fair_269 (Nat.le_of_ble_eq_true rfl) rfl ?_
                        refine z_iload dL_fair_271 rfl ?_
                        refine z_istore_5 dL_fair_273 (Nat.le_of_ble_eq_true rfl) rfl ?_
                        refine z_iinc_7 dL_fair_275 (Nat.le_of_ble_eq_true rfl) rfl ?_
                        refine z_goto (tgt := 18) dL_fair_278 (by decide) ?_
                        refine z_fgt 8 ?_
                        refine z_fgt 9 ?_
                        refine z_fgt 10 ?_
                        refine z_fgt 11 ?_
                        refine z_fgt 12 ?_
                        rw [y_s1] at y_ih
                        first
                          | (rw [if_neg (show ¬ z_isI D i 4 = 1 by omega)] at y_ih; exact y_ih)
                          | (rw [if_pos (show z_isI D i 4 = 1 by omega)] at y_ih
                             unfold z_stL at y_ih
                             first
                               | (rw [if_pos (show z_fst s.1 s.2.1 (z_suI D i 4) (z_byI D i A (z_suI D i 4) 4) < 0 ∨ (z_fst s.1 s.2.1 (z_suI D i 4) (z_byI D i A (z_suI D i 4) 4) = 0 ∧ z_suI D i 4 < s.1) by unfold z_fst; split <;> omega)] at y_ih; exact y_ih)
                               | (rw [if_neg (show ¬ (z_fst s.1 s.2.1 (z_suI D i 4) (z_byI D i A (z_suI D i 4) 4) < 0 ∨ (z_fst s.1 s.2.1 (z_suI D i 4) (z_byI D i A (z_suI D i 4) 4) = 0 ∧ z_suI D i 4 < s.1)) by unfold z_fst; split <;> omega)] at y_ih; exact y_ih))
                      · refine z_iload dL_fair_254 rfl ?_
                        refine z_iload dL_fair_256 rfl ?_
                        refine z_icmp_lt (tgt := 264) (by first | omega | (exact hr _ _ (by decide))) (by first | omega | (exact hr _ _ (by decide))) dL_fair_258 (by decide) (fun h258 => ?_) (fun h258 => ?_)
                        · refine z_iload dL_fair_264 rfl ?_
                          refine z_istoren_3 dL_fair_266 (Nat.le_of_ble_eq_true rfl) rfl ?_
                          refine z_iload dL_fair_267 rfl ?_
                          refine z_istore_4 dL_fair_269 (Nat.le_of_ble_eq_true rfl) rfl ?_
                          refine z_iload dL_fair_271 rfl ?_
                          refine z_istore_5 dL_fair_273 (Nat.le_of_ble_eq_true rfl) rfl ?_
                          refine z_iinc_7 dL_fair_275 (Nat.le_of_ble_eq_true rfl) rfl ?_
                          refine z_goto (tgt := 18) dL_fair_278 (by decide) ?_
                          refine z_fgt 8 ?_
                          refine z_fgt 9 ?_
                          refine z_fgt 10 ?_
                          refine z_fgt 11 ?_
                          refine z_fgt 12 ?_
                          rw [y_s1] at y_ih
                          first
                            | (rw [if_neg (show ¬ z_isI D i 4 = 1 by omega)] at y_ih; exact y_ih)
                            | (rw [if_pos (show z_isI D i 4 = 1 by omega)] at y_ih
                               unfold z_stL at y_ih
                               first
                                 | (rw [if_pos (show z_fst s.1 s.2.1 (z_suI D i 4) (z_byI D i A (z_suI D i 4) 4) < 0 ∨ (z_fst s.1 s.2.1 (z_suI D i 4) (z_byI D i A (z_suI D i 4) 4) = 0 ∧ z_suI D i 4 < s.1) by unfold z_fst; split <;> omega)] at y_ih; exact y_ih)
                                 | (rw [if_neg (show ¬ (z_fst s.1 s.2.1 (z_suI D i 4) (z_byI D i A (z_suI D i 4) 4) < 0 ∨ (z_fst s.1 s.2.1 (z_suI D i 4) (z_byI D i A (z_suI D i 4) 4) = 0 ∧ z_suI D i 4 < s.1)) by unfold z_fst; split <;> omega)] at y_ih; exact y_ih))
                        · refine z_goto (tgt := 275) dL_fair_261 (by decide) ?_
                          refine z_iinc_7 dL_fair_275 (Nat.le_of_ble_eq_true rfl) rfl ?_
                          refine z_goto (tgt := 18) dL_fair_278 (by decide) ?_
                          refine z_fgt 8 ?_
                          refine z_fgt 9 ?_
                          refine z_fgt 10 ?_
                          refine z_fgt 11 ?_
                          refine z_fgt 12 ?_
                          rw [y_s1] at y_ih
                          first
                            | (rw [if_neg (show ¬ z_isI D i 4 = 1 by omega)] at y_ih; exact y_ih)
                            | (rw [if_pos (show z_isI D i 4 = 1 by omega)] at y_ih
                               unfold z_stL at y_ih
                               first
                                 | (rw [if_pos (show z_fst s.1 s.2.1 (z_suI D i 4) (z_byI D i A (z_suI D i 4) 4) < 0 ∨ (z_fst s.1 s.2.1 (z_suI D i 4) (z_byI D i A (z_suI D i 4) 4) = 0 ∧ z_suI D i 4 < s.1) by unfold z_fst; split <;> omega)] at y_ih; exact y_ih)
                                 | (rw [if_neg (show ¬ (z_fst s.1 s.2.1 (z_suI D i 4) (z_byI D i A (z_suI D i 4) 4) < 0 ∨ (z_fst s.1 s.2.1 (z_suI D i 4) (z_byI D i A (z_suI D i 4) 4) = 0 ∧ z_suI D i 4 < s.1)) by unfold z_fst; split <;> omega)] at y_ih; exact y_ih))
              · exfalso; omega
            · intro j hj y_jh
              refine z_rng fun hr => ?_
              have y_c4 := z_c4_rg i j
              have y_Dj := y_D9 j (by omega) (by omega)
              have y_by := z_byI_rg (c := i) y_D9 y_A.1 y_A.2 y_S.1 y_S.2 j (by omega)
              have y_df := z_dfI_rg (c := i) (p := j) y_Dj.1 y_Dj.2 y_A.1 y_A.2 y_S.1 y_S.2
              refine z_iload dL_fair_130 rfl ?_
              refine z_iconst dL_fair_132 ?_
              refine z_icmp_ge (tgt := 218) (by first | omega | (exact hr _ _ (by decide))) (by first | omega | (exact hr _ _ (by decide))) dL_fair_133 (by decide) (fun h133 => ?_) (fun h133 => ?_)
              · exfalso; omega
              · refine z_aloadn dL_fair_136 rfl ?_
                refine z_iconst dL_fair_137 ?_
                refine z_iloadn dL_fair_138 rfl ?_
                refine z_imul dL_fair_139 ?_
                refine z_iload dL_fair_140 rfl ?_
                refine z_iadd dL_fair_142 ?_
                refine z_lld (R := 40) (j := 186 + 12 * k + (j : Int)) al_dr (Or.inl (by decide)) (y_v _ (by omega) (by omega)) (by omega) (by omega) (Nat.le_of_ble_eq_true rfl) (by omega) dL_fair_143 ?_
                refine z_if_le (tgt := 179) (by first | omega | (exact hr _ _ (by decide))) dL_fair_144 (by decide) (fun h144 => ?_) (fun h144 => ?_)
                · refine z_iconst dL_fair_179 ?_
                  refine z_top (v' := z_dfI D i A (z_suI D i 4) j) (by unfold z_dfI; first | rw [if_pos (by omega)] | rw [if_neg (by omega)]) ?_
                  refine z_istore_12 dL_fair_180 (Nat.le_of_ble_eq_true rfl) rfl ?_
                  refine z_iload dL_fair_182 rfl ?_
                  refine z_iload dL_fair_184 rfl ?_
                  refine z_icmp_le (tgt := 194) (by first | omega | (exact hr _ _ (by decide))) (by first | omega | (exact hr _ _ (by decide))) dL_fair_186 (by decide) (fun h186 => ?_) (fun h186 => ?_)
                  · refine z_iload dL_fair_194 rfl ?_
                    refine z_ineg dL_fair_196 ?_
                    refine z_iload dL_fair_197 rfl ?_
                    refine z_icmp_le (tgt := 208) (by first | omega | (exact hr _ _ (by decide))) (by first | omega | (exact hr _ _ (by decide))) dL_fair_199 (by decide) (fun h199 => ?_) (fun h199 => ?_)
                    · refine z_iload dL_fair_208 rfl ?_
                      refine z_top (v' := z_byI D i A (z_suI D i 4) (j + 1)) (by rw [z_byI_s]; unfold z_ab; (repeat' split) <;> omega) ?_
                      refine z_istore_10 dL_fair_210 (Nat.le_of_ble_eq_true rfl) rfl ?_
                      refine z_iinc_11 dL_fair_212 (Nat.le_of_ble_eq_true rfl) rfl ?_
                      refine z_goto (tgt := 130) dL_fair_215 (by decide) ?_
                      refine z_fgt 12 ?_
                      exact y_jh
                    · refine z_iload dL_fair_202 rfl ?_
                      refine z_ineg dL_fair_204 ?_
                      refine z_goto (tgt := 210) dL_fair_205 (by decide) ?_
                      refine z_top (v' := z_byI D i A (z_suI D i 4) (j + 1)) (by rw [z_byI_s]; unfold z_ab; (repeat' split) <;> omega) ?_
                      refine z_istore_10 dL_fair_210 (Nat.le_of_ble_eq_true rfl) rfl ?_
                      refine z_iinc_11 dL_fair_212 (Nat.le_of_ble_eq_true rfl) rfl ?_
                      refine z_goto (tgt := 130) dL_fair_215 (by decide) ?_
                      refine z_fgt 12 ?_
                      exact y_jh
                  · refine z_iload dL_fair_189 rfl ?_
                    refine z_goto (tgt := 210) dL_fair_191 (by decide) ?_
                    refine z_top (v' := z_byI D i A (z_suI D i 4) (j + 1)) (by rw [z_byI_s]; unfold z_ab; (repeat' split) <;> omega) ?_
                    refine z_istore_10 dL_fair_210 (Nat.le_of_ble_eq_true rfl) rfl ?_
                    refine z_iinc_11 dL_fair_212 (Nat.le_of_ble_eq_true rfl) rfl ?_
                    refine z_goto (tgt := 130) dL_fair_215 (by decide) ?_
                    refine z_fgt 12 ?_
                    exact y_jh
                · refine z_iconst dL_fair_147 ?_
                  refine z_iload dL_fair_148 rfl ?_
                  refine z_bipush dL_fair_150 (by decide) ?_
                  refine z_iconst dL_fair_152 ?_
                  refine z_iload dL_fair_153 rfl ?_
                  refine z_imul dL_fair_155 ?_
                  refine z_isub dL_fair_156 ?_
                  refine z_ishr (z_bshr (by omega) (by omega) (by omega) (by omega)) dL_fair_157 ?_
                  refine z_iconst dL_fair_158 ?_
                  refine z_iand (z_band3 (Int.ediv_nonneg (by omega) (Int.le_of_lt (Int.pow_pos (by decide))))) dL_fair_159 ?_
                  refine z_top (v' := z_c4 i j) (rfl) ?_
                  refine z_iadd dL_fair_160 ?_
                  refine z_iload dL_fair_161 rfl ?_
                  refine z_imul dL_fair_163 ?_
                  refine z_aloadn dL_fair_164 rfl ?_
                  refine z_iconst dL_fair_165 ?_
                  refine z_iloadn dL_fair_166 rfl ?_
                  refine z_imul dL_fair_167 ?_
                  refine z_iload dL_fair_168 rfl ?_
                  refine z_iadd dL_fair_170 ?_
                  refine z_lld (R := 40) (j := 186 + 12 * k + (j : Int)) al_dr (Or.inl (by decide)) (y_v _ (by omega) (by omega)) (by omega) (by omega) (Nat.le_of_ble_eq_true rfl) (by omega) dL_fair_171 ?_
                  refine z_iload dL_fair_172 rfl ?_
                  refine z_imul dL_fair_174 ?_
                  refine z_isub dL_fair_175 ?_
                  refine z_goto (tgt := 180) dL_fair_176 (by decide) ?_
                  refine z_top (v' := z_dfI D i A (z_suI D i 4) j) (by unfold z_dfI; first | rw [if_pos (by omega)] | rw [if_neg (by omega)]) ?_
                  refine z_istore_12 dL_fair_180 (Nat.le_of_ble_eq_true rfl) rfl ?_
                  refine z_iload dL_fair_182 rfl ?_
                  refine z_iload dL_fair_184 rfl ?_
                  refine z_icmp_le (tgt := 194) (by first | omega | (exact hr _ _ (by decide))) (by first | omega | (exact hr _ _ (by decide))) dL_fair_186 (by decide) (fun h186 => ?_) (fun h186 => ?_)
                  · refine z_iload dL_fair_194 rfl ?_
                    refine z_ineg dL_fair_196 ?_
                    refine z_iload dL_fair_197 rfl ?_
                    refine z_icmp_le (tgt := 208) (by first | omega | (exact hr _ _ (by decide))) (by first | omega | (exact hr _ _ (by decide))) dL_fair_199 (by decide) (fun h199 => ?_) (fun h199 => ?_)
                    · refine z_iload dL_fair_208 rfl ?_
                      refine z_top (v' := z_byI D i A (z_suI D i 4) (j + 1)) (by rw [z_byI_s]; unfold z_ab; (repeat' split) <;> omega) ?_
                      refine z_istore_10 dL_fair_210 (Nat.le_of_ble_eq_true rfl) rfl ?_
                      refine z_iinc_11 dL_fair_212 (Nat.le_of_ble_eq_true rfl) rfl ?_
                      refine z_goto (tgt := 130) dL_fair_215 (by decide) ?_
                      refine z_fgt 12 ?_
                      exact y_jh
                    · refine z_iload dL_fair_202 rfl ?_
                      refine z_ineg dL_fair_204 ?_
                      refine z_goto (tgt := 210) dL_fair_205 (by decide) ?_
                      refine z_top (v' := z_byI D i A (z_suI D i 4) (j + 1)) (by rw [z_byI_s]; unfold z_ab; (repeat' split) <;> omega) ?_
                      refine z_istore_10 dL_fair_210 (Nat.le_of_ble_eq_true rfl) rfl ?_
                      refine z_iinc_11 dL_fair_212 (Nat.le_of_ble_eq_true rfl) rfl ?_
                      refine z_goto (tgt := 130) dL_fair_215 (by decide) ?_
                      refine z_fgt 12 ?_
                      exact y_jh
                  · refine z_iload dL_fair_189 rfl ?_
                    refine z_goto (tgt := 210) dL_fair_191 (by decide) ?_
                    refine z_top (v' := z_byI D i A (z_suI D i 4) (j + 1)) (by rw [z_byI_s]; unfold z_ab; (repeat' split) <;> omega) ?_
                    refine z_istore_10 dL_fair_210 (Nat.le_of_ble_eq_true rfl) rfl ?_
                    refine z_iinc_11 dL_fair_212 (Nat.le_of_ble_eq_true rfl) rfl ?_
                    refine z_goto (tgt := 130) dL_fair_215 (by decide) ?_
                    refine z_fgt 12 ?_
                    exact y_jh
          · exfalso; omega
        · intro j hj y_jh
          refine z_rng fun hr => ?_
          have y_c4 := z_c4_rg i j
          have y_i01 := z_isI_01 D i j
          have y_Dj := y_D9 j (by omega) (by omega)
          have y_su := z_suI_rg D i (show j ≤ 4 by omega)
          have y_is := z_isI_s D i j
          refine z_iload dL_fair_40 rfl ?_
          refine z_iconst dL_fair_42 ?_
          refine z_icmp_ge (tgt := 124) (by first | omega | (exact hr _ _ (by decide))) (by first | omega | (exact hr _ _ (by decide))) dL_fair_43 (by decide) (fun h43 => ?_) (fun h43 => ?_)
          · exfalso; omega
          · refine z_iload dL_fair_46 rfl ?_
            refine z_if_eq (tgt := 81) (by first | omega | (exact hr _ _ (by decide))) dL_fair_48 (by decide) (fun h48 => ?_) (fun h48 => ?_)
            · refine z_iconst dL_fair_81 ?_
              refine z_top (v' := z_isI D i (j + 1)) (by rw [y_is]; first | rw [if_pos (by omega)] | rw [if_neg (by omega)]) ?_
              refine z_istore_9 dL_fair_82 (Nat.le_of_ble_eq_true rfl) rfl ?_
              refine z_iload dL_fair_84 rfl ?_
              refine z_aloadn dL_fair_86 rfl ?_
              refine z_iconst dL_fair_87 ?_
              refine z_iloadn dL_fair_88 rfl ?_
              refine z_imul dL_fair_89 ?_
              refine z_iload dL_fair_90 rfl ?_
              refine z_iadd dL_fair_92 ?_
              refine z_lld (R := 40) (j := 186 + 12 * k + (j : Int)) al_dr (Or.inl (by decide)) (y_v _ (by omega) (by omega)) (by omega) (by omega) (Nat.le_of_ble_eq_true rfl) (by omega) dL_fair_93 ?_
              refine z_if_le (tgt := 114) (by first | omega | (exact hr _ _ (by decide))) dL_fair_94 (by decide) (fun h94 => ?_) (fun h94 => ?_)
              · refine z_iconst dL_fair_114 ?_
                refine z_top (v' := if 0 < D j then 1 + z_c4 i j else 0) (by split <;> omega) ?_
                refine z_iadd dL_fair_115 ?_
                refine z_istore_8 dL_fair_116 (Nat.le_of_ble_eq_true rfl) rfl ?_
                refine z_iinc_10 dL_fair_118 (Nat.le_of_ble_eq_true rfl) rfl ?_
                refine z_goto (tgt := 40) dL_fair_121 (by decide) ?_
                exact y_jh
              · refine z_iconst dL_fair_97 ?_
                refine z_iload dL_fair_98 rfl ?_
                refine z_bipush dL_fair_100 (by decide) ?_
                refine z_iconst dL_fair_102 ?_
                refine z_iload dL_fair_103 rfl ?_
                refine z_imul dL_fair_105 ?_
                refine z_isub dL_fair_106 ?_
                refine z_ishr (z_bshr (by omega) (by omega) (by omega) (by omega)) dL_fair_107 ?_
                refine z_iconst dL_fair_108 ?_
                refine z_iand (z_band3 (Int.ediv_nonneg (by omega) (Int.le_of_lt (Int.pow_pos (by decide))))) dL_fair_109 ?_
                refine z_top (v' := z_c4 i j) (rfl) ?_
                refine z_iadd dL_fair_110 ?_
                refine z_goto (tgt := 115) dL_fair_111 (by decide) ?_
                refine z_top (v' := if 0 < D j then 1 + z_c4 i j else 0) (by split <;> omega) ?_
                refine z_iadd dL_fair_115 ?_
                refine z_istore_8 dL_fair_116 (Nat.le_of_ble_eq_true rfl) rfl ?_
                refine z_iinc_10 dL_fair_118 (Nat.le_of_ble_eq_true rfl) rfl ?_
                refine z_goto (tgt := 40) dL_fair_121 (by decide) ?_
                exact y_jh
            · refine z_aloadn dL_fair_51 rfl ?_
              refine z_iconst dL_fair_52 ?_
              refine z_iloadn dL_fair_53 rfl ?_
              refine z_imul dL_fair_54 ?_
              refine z_iload dL_fair_55 rfl ?_
              refine z_iadd dL_fair_57 ?_
              refine z_lld (R := 40) (j := 186 + 12 * k + (j : Int)) al_dr (Or.inl (by decide)) (y_v _ (by omega) (by omega)) (by omega) (by omega) (Nat.le_of_ble_eq_true rfl) (by omega) dL_fair_58 ?_
              refine z_if_gt (tgt := 77) (by first | omega | (exact hr _ _ (by decide))) dL_fair_59 (by decide) (fun h59 => ?_) (fun h59 => ?_)
              · refine z_iconst dL_fair_77 ?_
                refine z_goto (tgt := 82) dL_fair_78 (by decide) ?_
                refine z_top (v' := z_isI D i (j + 1)) (by rw [y_is]; first | rw [if_pos (by omega)] | rw [if_neg (by omega)]) ?_
                refine z_istore_9 dL_fair_82 (Nat.le_of_ble_eq_true rfl) rfl ?_
                refine z_iload dL_fair_84 rfl ?_
                refine z_aloadn dL_fair_86 rfl ?_
                refine z_iconst dL_fair_87 ?_
                refine z_iloadn dL_fair_88 rfl ?_
                refine z_imul dL_fair_89 ?_
                refine z_iload dL_fair_90 rfl ?_
                refine z_iadd dL_fair_92 ?_
                refine z_lld (R := 40) (j := 186 + 12 * k + (j : Int)) al_dr (Or.inl (by decide)) (y_v _ (by omega) (by omega)) (by omega) (by omega) (Nat.le_of_ble_eq_true rfl) (by omega) dL_fair_93 ?_
                refine z_if_le (tgt := 114) (by first | omega | (exact hr _ _ (by decide))) dL_fair_94 (by decide) (fun h94 => ?_) (fun h94 => ?_)
                · refine z_iconst dL_fair_114 ?_
                  refine z_top (v' := if 0 < D j then 1 + z_c4 i j else 0) (by split <;> omega) ?_
                  refine z_iadd dL_fair_115 ?_
                  refine z_istore_8 dL_fair_116 (Nat.le_of_ble_eq_true rfl) rfl ?_
                  refine z_iinc_10 dL_fair_118 (Nat.le_of_ble_eq_true rfl) rfl ?_
                  refine z_goto (tgt := 40) dL_fair_121 (by decide) ?_
                  exact y_jh
                · refine z_iconst dL_fair_97 ?_
                  refine z_iload dL_fair_98 rfl ?_
                  refine z_bipush dL_fair_100 (by decide) ?_
                  refine z_iconst dL_fair_102 ?_
                  refine z_iload dL_fair_103 rfl ?_
                  refine z_imul dL_fair_105 ?_
                  refine z_isub dL_fair_106 ?_
                  refine z_ishr (z_bshr (by omega) (by omega) (by omega) (by omega)) dL_fair_107 ?_
                  refine z_iconst dL_fair_108 ?_
                  refine z_iand (z_band3 (Int.ediv_nonneg (by omega) (Int.le_of_lt (Int.pow_pos (by decide))))) dL_fair_109 ?_
                  refine z_top (v' := z_c4 i j) (rfl) ?_
                  refine z_iadd dL_fair_110 ?_
                  refine z_goto (tgt := 115) dL_fair_111 (by decide) ?_
                  refine z_top (v' := if 0 < D j then 1 + z_c4 i j else 0) (by split <;> omega) ?_
                  refine z_iadd dL_fair_115 ?_
                  refine z_istore_8 dL_fair_116 (Nat.le_of_ble_eq_true rfl) rfl ?_
                  refine z_iinc_10 dL_fair_118 (Nat.le_of_ble_eq_true rfl) rfl ?_
                  refine z_goto (tgt := 40) dL_fair_121 (by decide) ?_
                  exact y_jh
              · refine z_iload dL_fair_62 rfl ?_
                refine z_bipush dL_fair_64 (by decide) ?_
                refine z_iconst dL_fair_66 ?_
                refine z_iload dL_fair_67 rfl ?_
                refine z_imul dL_fair_69 ?_
                refine z_isub dL_fair_70 ?_
                refine z_ishr (z_bshr (by omega) (by omega) (by omega) (by omega)) dL_fair_71 ?_
                refine z_iconst dL_fair_72 ?_
                refine z_iand (z_band3 (Int.ediv_nonneg (by omega) (Int.le_of_lt (Int.pow_pos (by decide))))) dL_fair_73 ?_
                refine z_top (v' := z_c4 i j) (rfl) ?_
                refine z_if_ne (tgt := 81) (by first | omega | (exact hr _ _ (by decide))) dL_fair_74 (by decide) (fun h74 => ?_) (fun h74 => ?_)
                · refine z_iconst dL_fair_81 ?_
                  refine z_top (v' := z_isI D i (j + 1)) (by rw [y_is]; first | rw [if_pos (by omega)] | rw [if_neg (by omega)]) ?_
                  refine z_istore_9 dL_fair_82 (Nat.le_of_ble_eq_true rfl) rfl ?_
                  refine z_iload dL_fair_84 rfl ?_
                  refine z_aloadn dL_fair_86 rfl ?_
                  refine z_iconst dL_fair_87 ?_
                  refine z_iloadn dL_fair_88 rfl ?_
                  refine z_imul dL_fair_89 ?_
                  refine z_iload dL_fair_90 rfl ?_
                  refine z_iadd dL_fair_92 ?_
                  refine z_lld (R := 40) (j := 186 + 12 * k + (j : Int)) al_dr (Or.inl (by decide)) (y_v _ (by omega) (by omega)) (by omega) (by omega) (Nat.le_of_ble_eq_true rfl) (by omega) dL_fair_93 ?_
                  refine z_if_le (tgt := 114) (by first | omega | (exact hr _ _ (by decide))) dL_fair_94 (by decide) (fun h94 => ?_) (fun h94 => ?_)
                  · refine z_iconst dL_fair_114 ?_
                    refine z_top (v' := if 0 < D j then 1 + z_c4 i j else 0) (by split <;> omega) ?_
                    refine z_iadd dL_fair_115 ?_
                    refine z_istore_8 dL_fair_116 (Nat.le_of_ble_eq_true rfl) rfl ?_
                    refine z_iinc_10 dL_fair_118 (Nat.le_of_ble_eq_true rfl) rfl ?_
                    refine z_goto (tgt := 40) dL_fair_121 (by decide) ?_
                    exact y_jh
                  · refine z_iconst dL_fair_97 ?_
                    refine z_iload dL_fair_98 rfl ?_
                    refine z_bipush dL_fair_100 (by decide) ?_
                    refine z_iconst dL_fair_102 ?_
                    refine z_iload dL_fair_103 rfl ?_
                    refine z_imul dL_fair_105 ?_
                    refine z_isub dL_fair_106 ?_
                    refine z_ishr (z_bshr (by omega) (by omega) (by omega) (by omega)) dL_fair_107 ?_
                    refine z_iconst dL_fair_108 ?_
                    refine z_iand (z_band3 (Int.ediv_nonneg (by omega) (Int.le_of_lt (Int.pow_pos (by decide))))) dL_fair_109 ?_
                    refine z_top (v' := z_c4 i j) (rfl) ?_
                    refine z_iadd dL_fair_110 ?_
                    refine z_goto (tgt := 115) dL_fair_111 (by decide) ?_
                    refine z_top (v' := if 0 < D j then 1 + z_c4 i j else 0) (by split <;> omega) ?_
                    refine z_iadd dL_fair_115 ?_
                    refine z_istore_8 dL_fair_116 (Nat.le_of_ble_eq_true rfl) rfl ?_
                    refine z_iinc_10 dL_fair_118 (Nat.le_of_ble_eq_true rfl) rfl ?_
                    refine z_goto (tgt := 40) dL_fair_121 (by decide) ?_
                    exact y_jh
                · refine z_iconst dL_fair_77 ?_
                  refine z_goto (tgt := 82) dL_fair_78 (by decide) ?_
                  refine z_top (v' := z_isI D i (j + 1)) (by rw [y_is]; first | rw [if_pos (by omega)] | rw [if_neg (by omega)]) ?_
                  refine z_istore_9 dL_fair_82 (Nat.le_of_ble_eq_true rfl) rfl ?_
                  refine z_iload dL_fair_84 rfl ?_
                  refine z_aloadn dL_fair_86 rfl ?_
                  refine z_iconst dL_fair_87 ?_
                  refine z_iloadn dL_fair_88 rfl ?_
                  refine z_imul dL_fair_89 ?_
                  refine z_iload dL_fair_90 rfl ?_
                  refine z_iadd dL_fair_92 ?_
                  refine z_lld (R := 40) (j := 186 + 12 * k + (j : Int)) al_dr (Or.inl (by decide)) (y_v _ (by omega) (by omega)) (by omega) (by omega) (Nat.le_of_ble_eq_true rfl) (by omega) dL_fair_93 ?_
                  refine z_if_le (tgt := 114) (by first | omega | (exact hr _ _ (by decide))) dL_fair_94 (by decide) (fun h94 => ?_) (fun h94 => ?_)
                  · refine z_iconst dL_fair_114 ?_
                    refine z_top (v' := if 0 < D j then 1 + z_c4 i j else 0) (by split <;> omega) ?_
                    refine z_iadd dL_fair_115 ?_
                    refine z_istore_8 dL_fair_116 (Nat.le_of_ble_eq_true rfl) rfl ?_
                    refine z_iinc_10 dL_fair_118 (Nat.le_of_ble_eq_true rfl) rfl ?_
                    refine z_goto (tgt := 40) dL_fair_121 (by decide) ?_
                    exact y_jh
                  · refine z_iconst dL_fair_97 ?_
                    refine z_iload dL_fair_98 rfl ?_
                    refine z_bipush dL_fair_100 (by decide) ?_
                    refine z_iconst dL_fair_102 ?_
                    refine z_iload dL_fair_103 rfl ?_
                    refine z_imul dL_fair_105 ?_
                    refine z_isub dL_fair_106 ?_
                    refine z_ishr (z_bshr (by omega) (by omega) (by omega) (by omega)) dL_fair_107 ?_
                    refine z_iconst dL_fair_108 ?_
                    refine z_iand (z_band3 (Int.ediv_nonneg (by omega) (Int.le_of_lt (Int.pow_pos (by decide))))) dL_fair_109 ?_
                    refine z_top (v' := z_c4 i j) (rfl) ?_
                    refine z_iadd dL_fair_110 ?_
                    refine z_goto (tgt := 115) dL_fair_111 (by decide) ?_
                    refine z_top (v' := if 0 < D j then 1 + z_c4 i j else 0) (by split <;> omega) ?_
                    refine z_iadd dL_fair_115 ?_
                    refine z_istore_8 dL_fair_116 (Nat.le_of_ble_eq_true rfl) rfl ?_
                    refine z_iinc_10 dL_fair_118 (Nat.le_of_ble_eq_true rfl) rfl ?_
                    refine z_goto (tgt := 40) dL_fair_121 (by decide) ?_
                    exact y_jh
