theorem tX4_begin {G : z_G} {M : z_M} {g : Nat} {x f : Int} (hg : g < 7) (x0 : 0 ≤ x) (x1 : x < 12) (rf : z_rg f) (s0 : 0 ≤ M g 1) (s1 : M g 1 < 20) : KX4_begin G [.ref (z_ad G g 8), z_I x, z_I f] M (.inl (some (z_I (M g 1)))) (z_sR M g (z_begin (M g) x f)) := by
  refine z_con (ls := [some (.ref (z_ad G g 8)), some (z_I x), some (z_I f), none]) (by decide +kernel) (Nat.le_of_ble_eq_true rfl) rfl ?_
  intro Z htb
  refine z_rng fun hr => ?_
  refine z_aloadn dX4_begin_0 rfl ?_
  refine gX4_36 hg rfl dX4_begin_1 ?_
  refine z_istoren_3 dX4_begin_4 (Nat.le_of_ble_eq_true rfl) rfl ?_
  refine z_aloadn dX4_begin_5 rfl ?_
  refine gX4_9 hg rfl dX4_begin_6 ?_
  refine z_iloadn dX4_begin_9 rfl ?_
  refine z_iloadn dX4_begin_10 rfl ?_
  refine z_iast (by rfl) (by first | exact Or.inl (by decide) | exact Or.inl (Or.inl ⟨by decide, hg⟩)) (by omega) (by omega) (by decide) (by first | (exact hr _ _ (by decide)) | (exact hr _ _ (by omega)) | omega) dX4_begin_11 ?_
  refine z_rng fun hr => ?_
  refine z_aloadn dX4_begin_12 rfl ?_
  refine gX4_15 hg rfl dX4_begin_13 ?_
  refine z_iloadn dX4_begin_16 rfl ?_
  refine z_iloadn dX4_begin_17 rfl ?_
  refine z_iast (by rfl) (by first | exact Or.inl (by decide) | exact Or.inl (Or.inl ⟨by decide, hg⟩)) (by omega) (by omega) (by decide) (by first | (exact hr _ _ (by decide)) | (exact hr _ _ (by omega)) | omega) dX4_begin_18 ?_
  refine z_rng fun hr => ?_
  refine z_aloadn dX4_begin_19 rfl ?_
  refine gX4_21 hg rfl dX4_begin_20 ?_
  refine z_iloadn dX4_begin_23 rfl ?_
  refine z_iconst dX4_begin_24 ?_
  refine z_iast (by rfl) (by first | exact Or.inl (by decide) | exact Or.inl (Or.inl ⟨by decide, hg⟩)) (by omega) (by omega) (by decide) (by first | (exact hr _ _ (by decide)) | (exact hr _ _ (by omega)) | omega) dX4_begin_25 ?_
  refine z_rng fun hr => ?_
  refine z_aloadn dX4_begin_26 rfl ?_
  refine gX4_27 hg rfl dX4_begin_27 ?_
  refine z_iloadn dX4_begin_30 rfl ?_
  refine z_iloadn dX4_begin_31 rfl ?_
  refine kX4_44 tX6_at rfl ⟨(Nat.le_of_ble_eq_true rfl), (Nat.le_of_ble_eq_true rfl)⟩ (Nat.le_of_ble_eq_true rfl) dX4_begin_32 ?_
  refine z_iconst dX4_begin_35 ?_
  refine z_iast (by rfl) (by first | exact Or.inl (by decide) | exact Or.inl (Or.inl ⟨by decide, hg⟩)) (by omega) (by omega) (by decide) (by first | (exact hr _ _ (by decide)) | (exact hr _ _ (by omega)) | omega) dX4_begin_36 ?_
  refine z_rng fun hr => ?_
  refine z_aloadn dX4_begin_37 rfl ?_
  refine z_iloadn dX4_begin_38 rfl ?_
  refine z_iconst dX4_begin_39 ?_
  refine z_iadd dX4_begin_40 ?_
  refine pX4_36 hg (by first | (exact hr _ _ (by decide)) | (exact hr _ _ (by omega)) | omega) rfl dX4_begin_41 ?_
  refine z_rng fun hr => ?_
  refine z_iloadn dX4_begin_44 rfl ?_
  exact z_iret dX4_begin_45 (by first | rfl | omega) (by simp only [z_sM_R, z_sR_R, z_sR_self]; first | rfl | (congr 1; unfold z_begin; funext j; simp only [z_uf]; (repeat' split) <;> first | rfl | omega))
theorem tX4_takeParts {G : z_G} {M : z_M} {g : Nat} {k : Int} (hg : g < 7) (k0 : 0 ≤ k) (k1 : k < 20) : KX4_takeParts G [.ref (z_ad G g 8), z_I k, .ref (z_ad G 0 24)] M (.inl none) (z_sR M g (z_cp (M g) (M 9) (426 + 12 * k) 0 12)) := by
  refine z_con (ls := [some (.ref (z_ad G g 8)), some (z_I k), some (.ref (z_ad G 0 24)), none]) (by decide +kernel) (Nat.le_of_ble_eq_true rfl) rfl ?_
  intro Z htb
  refine z_rng fun hr => ?_
  refine z_iconst dX4_takeParts_0 ?_
  refine z_istoren_3 dX4_takeParts_1 (Nat.le_of_ble_eq_true rfl) rfl ?_
  refine z_mem (M' := z_sR M g (z_cp (M g) (M 9) (426 + 12 * k) 0 ((0 : Nat) : Int))) (by rw [show ((0 : Nat) : Int) = 0 from rfl, z_cp_0, z_sR_id]) ?_
  refine z_upn (P := fun i : Nat => z_J G Z _ _ 2 [some (.ref (z_ad G g 8)), some (z_I k), some (.ref (z_ad G 0 24)), some (z_I i)] [] (z_sR M g (z_cp (M g) (M 9) (426 + 12 * k) 0 i)) 0 0) 12 ?_ ?_
  · refine z_rng fun hr => ?_
    refine z_iloadn dX4_takeParts_2 rfl ?_
    refine z_bipush dX4_takeParts_3 (by decide) ?_
    refine z_icmp_ge (tgt := 33) (by first | (exact hr _ _ (by decide)) | (exact hr _ _ (by omega)) | omega) (by first | (exact hr _ _ (by decide)) | (exact hr _ _ (by omega)) | omega) dX4_takeParts_5 (by decide) (fun h5 => ?_) (fun h5 => ?_)
    · exact z_vret dX4_takeParts_33 rfl
    · exfalso; omega
  · intro i hi y_ih
    refine z_rng fun hr => ?_
    refine z_iloadn dX4_takeParts_2 rfl ?_
    refine z_bipush dX4_takeParts_3 (by decide) ?_
    refine z_icmp_ge (tgt := 33) (by first | (exact hr _ _ (by decide)) | (exact hr _ _ (by omega)) | omega) (by first | (exact hr _ _ (by decide)) | (exact hr _ _ (by omega)) | omega) dX4_takeParts_5 (by decide) (fun h5 => ?_) (fun h5 => ?_)
    · exfalso; omega
    · refine z_iloadn dX4_takeParts_8 rfl ?_
      refine z_aloadn dX4_takeParts_9 rfl ?_
      refine z_alen (by rfl) (by first | exact Or.inl (by decide) | exact Or.inl (Or.inl ⟨by decide, hg⟩)) dX4_takeParts_10 ?_
      refine z_icmp_ge (tgt := 33) (by first | (exact hr _ _ (by decide)) | (exact hr _ _ (by omega)) | omega) (by first | (exact hr _ _ (by decide)) | (exact hr _ _ (by omega)) | omega) dX4_takeParts_11 (by decide) (fun h11 => ?_) (fun h11 => ?_)
      · exfalso; omega
      · refine z_aloadn dX4_takeParts_14 rfl ?_
        refine gX4_27 hg rfl dX4_takeParts_15 ?_
        refine z_iloadn dX4_takeParts_18 rfl ?_
        refine z_iloadn dX4_takeParts_19 rfl ?_
        refine kX4_44 tX6_at rfl ⟨(Nat.le_of_ble_eq_true rfl), (Nat.le_of_ble_eq_true rfl)⟩ (Nat.le_of_ble_eq_true rfl) dX4_takeParts_20 ?_
        refine z_aloadn dX4_takeParts_23 rfl ?_
        refine z_iloadn dX4_takeParts_24 rfl ?_
        refine z_iald (by rfl) (by first | exact Or.inl (by decide) | exact Or.inl (Or.inl ⟨by decide, hg⟩)) (by omega) (by omega) (by decide) dX4_takeParts_25 ?_
        refine z_top (v' := M 9 i) (congrFun (z_sR_ne _ _ (by omega)) _) ?_
        refine z_iast (by rfl) (by first | exact Or.inl (by decide) | exact Or.inl (Or.inl ⟨by decide, hg⟩)) (by omega) (by omega) (by decide) (by have y5 := hr 9 i (by decide); rwa [z_sR_ne _ _ (by omega)] at y5) dX4_takeParts_26 ?_
        refine z_rng fun hr => ?_
        refine z_iinc_3 dX4_takeParts_27 (Nat.le_of_ble_eq_true rfl) rfl ?_
        refine z_goto (tgt := 2) dX4_takeParts_30 (by decide) ?_
        refine z_mem ?_ y_ih
        rw [z_sM_sR]
        congr 1
        exact z_cp_s _ _ _ _ i (by omega) (by rw [Int.zero_add])
theorem tX4_takePartsFromDrafts {G : z_G} {M : z_M} {g : Nat} {N k : Int} (hg : g < 7) (hb : z_BI (M g) N) (k0 : 0 ≤ k) (k1 : k < 20) : KX4_takePartsFromDrafts G [.ref (z_ad G g 8), z_I k] M (.inl none) (z_sR M g (z_cp (M g) (z_gpb (M g) k) (426 + 12 * k) 0 12)) := by
  refine z_con (ls := [some (.ref (z_ad G g 8)), some (z_I k), none, none]) (by decide +kernel) (Nat.le_of_ble_eq_true rfl) rfl ?_
  intro Z htb
  refine z_rng fun hr => ?_
  have hh := z_BI_h hb
  have y_w := z_wbs_rg (z_dr (M g) k) 4
  refine z_aloadn dX4_takePartsFromDrafts_0 rfl ?_
  refine z_iloadn dX4_takePartsFromDrafts_1 rfl ?_
  refine kX4_59 hg (tX4_writers hg hb (by omega) (by omega)) rfl ⟨(Nat.le_of_ble_eq_true rfl), (Nat.le_of_ble_eq_true rfl)⟩ (Nat.le_of_ble_eq_true rfl) dX4_takePartsFromDrafts_2 ?_
  refine z_istoren_2 dX4_takePartsFromDrafts_5 (Nat.le_of_ble_eq_true rfl) rfl ?_
  refine z_iconst dX4_takePartsFromDrafts_6 ?_
  refine z_istoren_3 dX4_takePartsFromDrafts_7 (Nat.le_of_ble_eq_true rfl) rfl ?_
  refine z_mem (M' := z_sR M g (z_cp (M g) (z_gpb (M g) k) (426 + 12 * k) 0 ((0 : Nat) : Int))) (by rw [show ((0 : Nat) : Int) = 0 from rfl, z_cp_0, z_sR_id]) ?_
  refine z_upn (P := fun i : Nat => z_J G Z _ _ 8 [some (.ref (z_ad G g 8)), some (z_I k), some (z_I (z_wbs (z_dr (M g) k) 4)), some (z_I i)] [] (z_sR M g (z_cp (M g) (z_gpb (M g) k) (426 + 12 * k) 0 i)) 0 0) 12 ?_ ?_
  · refine z_rng fun hr => ?_
    refine z_iloadn dX4_takePartsFromDrafts_8 rfl ?_
    refine z_bipush dX4_takePartsFromDrafts_9 (by decide) ?_
    refine z_icmp_ge (tgt := 52) (by first | (exact hr _ _ (by decide)) | (exact hr _ _ (by omega)) | omega) (by first | (exact hr _ _ (by decide)) | (exact hr _ _ (by omega)) | omega) dX4_takePartsFromDrafts_11 (by decide) (fun h11 => ?_) (fun h11 => ?_)
    · exact z_vret dX4_takePartsFromDrafts_52 rfl
    · exfalso; omega
  · intro i hi y_ih
    refine z_rng fun hr => ?_
    have y_q := z_BI_Q hb k i (by omega) (by omega) (by omega) (by omega)
    unfold z_QI at y_q
    have y_v : (z_gpb (M g) k) i = if z_bit (z_wbs (z_dr (M g) k) 4) i = 1 then M g (186 + 12 * k + i) else 0 := rfl
    refine z_iloadn dX4_takePartsFromDrafts_8 rfl ?_
    refine z_bipush dX4_takePartsFromDrafts_9 (by decide) ?_
    refine z_icmp_ge (tgt := 52) (by first | (exact hr _ _ (by decide)) | (exact hr _ _ (by omega)) | omega) (by first | (exact hr _ _ (by decide)) | (exact hr _ _ (by omega)) | omega) dX4_takePartsFromDrafts_11 (by decide) (fun h11 => ?_) (fun h11 => ?_)
    · exfalso; omega
    · refine z_aloadn dX4_takePartsFromDrafts_14 rfl ?_
      refine gX4_27 hg rfl dX4_takePartsFromDrafts_15 ?_
      refine z_iloadn dX4_takePartsFromDrafts_18 rfl ?_
      refine z_iloadn dX4_takePartsFromDrafts_19 rfl ?_
      refine kX4_44 tX6_at rfl ⟨(Nat.le_of_ble_eq_true rfl), (Nat.le_of_ble_eq_true rfl)⟩ (Nat.le_of_ble_eq_true rfl) dX4_takePartsFromDrafts_20 ?_
      refine z_iloadn dX4_takePartsFromDrafts_23 rfl ?_
      refine z_iloadn dX4_takePartsFromDrafts_24 rfl ?_
      refine kX4_62 (tX6_isIn (by omega) (by omega) (by omega) (by omega)) rfl ⟨(Nat.le_of_ble_eq_true rfl), (Nat.le_of_ble_eq_true rfl)⟩ (Nat.le_of_ble_eq_true rfl) dX4_takePartsFromDrafts_25 ?_
      refine z_ifb_eq (tgt := 44) dX4_takePartsFromDrafts_28 (by decide) (fun h28 => ?_) (fun h28 => ?_)
      · refine z_iconst dX4_takePartsFromDrafts_44 ?_
        refine z_top (v' := (z_gpb (M g) k) i) (by rw [y_v]; first | rw [if_pos h28] | rw [if_neg h28]) ?_
        refine z_iast (by rfl) (by first | exact Or.inl (by decide) | exact Or.inl (Or.inl ⟨by decide, hg⟩)) (by omega) (by omega) (by decide) (by rw [y_v]; split <;> omega) dX4_takePartsFromDrafts_45 ?_
        refine z_rng fun hr => ?_
        refine z_iinc_3 dX4_takePartsFromDrafts_46 (Nat.le_of_ble_eq_true rfl) rfl ?_
        refine z_goto (tgt := 8) dX4_takePartsFromDrafts_49 (by decide) ?_
        refine z_mem ?_ y_ih
        rw [z_sM_sR]
        congr 1
        exact z_cp_s _ _ _ _ i (by omega) (by rw [Int.zero_add])
      · refine z_aloadn dX4_takePartsFromDrafts_31 rfl ?_
        refine gX4_30 hg rfl dX4_takePartsFromDrafts_32 ?_
        refine z_iloadn dX4_takePartsFromDrafts_35 rfl ?_
        refine z_iloadn dX4_takePartsFromDrafts_36 rfl ?_
        refine kX4_44 tX6_at rfl ⟨(Nat.le_of_ble_eq_true rfl), (Nat.le_of_ble_eq_true rfl)⟩ (Nat.le_of_ble_eq_true rfl) dX4_takePartsFromDrafts_37 ?_
        refine z_iald (by rfl) (by first | exact Or.inl (by decide) | exact Or.inl (Or.inl ⟨by decide, hg⟩)) (by omega) (by omega) (by decide) dX4_takePartsFromDrafts_40 ?_
        refine z_top (v' := M g (186 + 12 * k + (i : Int))) (by rw [z_sR_self]; unfold z_cp; rw [if_neg (by omega)]; congr 1; omega) ?_
        refine z_goto (tgt := 45) dX4_takePartsFromDrafts_41 (by decide) ?_
        refine z_top (v' := (z_gpb (M g) k) i) (by rw [y_v]; first | rw [if_pos h28] | rw [if_neg h28]) ?_
        refine z_iast (by rfl) (by first | exact Or.inl (by decide) | exact Or.inl (Or.inl ⟨by decide, hg⟩)) (by omega) (by omega) (by decide) (by rw [y_v]; split <;> omega) dX4_takePartsFromDrafts_45 ?_
        refine z_rng fun hr => ?_
        refine z_iinc_3 dX4_takePartsFromDrafts_46 (Nat.le_of_ble_eq_true rfl) rfl ?_
        refine z_goto (tgt := 8) dX4_takePartsFromDrafts_49 (by decide) ?_
        refine z_mem ?_ y_ih
        rw [z_sM_sR]
        congr 1
        exact z_cp_s _ _ _ _ i (by omega) (by rw [Int.zero_add])
theorem tX4_addToYear {G : z_G} {M : z_M} {g : Nat} {k : Int} (hg : g < 7) (k0 : 0 ≤ k) (k1 : k < 20) (hs : ∀ p, 0 ≤ p → p < 12 → z_rg (M g (666 + 12 * k + p) + M 10 p)) : KX4_addToYear G [.ref (z_ad G g 8), z_I k, .ref (z_ad G 0 26)] M (.inl none) (z_sR M g (z_ay (M g) k (M 10))) := by
  refine z_con (ls := [some (.ref (z_ad G g 8)), some (z_I k), some (.ref (z_ad G 0 26)), none]) (by decide +kernel) (Nat.le_of_ble_eq_true rfl) rfl ?_
  intro Z htb
  refine z_rng fun hr => ?_
  refine z_iconst dX4_addToYear_0 ?_
  refine z_istoren_3 dX4_addToYear_1 (Nat.le_of_ble_eq_true rfl) rfl ?_
  refine z_mem (M' := z_sR M g (z_cp (M g) (fun p => M g (666 + 12 * k + p) + M 10 p) (666 + 12 * k) 0 ((0 : Nat) : Int))) (by rw [show ((0 : Nat) : Int) = 0 from rfl, z_cp_0, z_sR_id]) ?_
  refine z_upn (P := fun i : Nat => z_J G Z _ _ 2 [some (.ref (z_ad G g 8)), some (z_I k), some (.ref (z_ad G 0 26)), some (z_I i)] [] (z_sR M g (z_cp (M g) (fun p => M g (666 + 12 * k + p) + M 10 p) (666 + 12 * k) 0 i)) 0 0) 12 ?_ ?_
  · refine z_rng fun hr => ?_
    refine z_iloadn dX4_addToYear_2 rfl ?_
    refine z_bipush dX4_addToYear_3 (by decide) ?_
    refine z_icmp_ge (tgt := 36) (by first | (exact hr _ _ (by decide)) | (exact hr _ _ (by omega)) | omega) (by first | (exact hr _ _ (by decide)) | (exact hr _ _ (by omega)) | omega) dX4_addToYear_5 (by decide) (fun h5 => ?_) (fun h5 => ?_)
    · exact z_vret dX4_addToYear_36 rfl
    · exfalso; omega
  · intro i hi y_ih
    refine z_rng fun hr => ?_
    have y_s := hs i (by omega) (by omega)
    refine z_iloadn dX4_addToYear_2 rfl ?_
    refine z_bipush dX4_addToYear_3 (by decide) ?_
    refine z_icmp_ge (tgt := 36) (by first | (exact hr _ _ (by decide)) | (exact hr _ _ (by omega)) | omega) (by first | (exact hr _ _ (by decide)) | (exact hr _ _ (by omega)) | omega) dX4_addToYear_5 (by decide) (fun h5 => ?_) (fun h5 => ?_)
    · exfalso; omega
    · refine z_iloadn dX4_addToYear_8 rfl ?_
      refine z_aloadn dX4_addToYear_9 rfl ?_
      refine z_alen (by rfl) (by first | exact Or.inl (by decide) | exact Or.inl (Or.inl ⟨by decide, hg⟩)) dX4_addToYear_10 ?_
      refine z_icmp_ge (tgt := 36) (by first | (exact hr _ _ (by decide)) | (exact hr _ _ (by omega)) | omega) (by first | (exact hr _ _ (by decide)) | (exact hr _ _ (by omega)) | omega) dX4_addToYear_11 (by decide) (fun h11 => ?_) (fun h11 => ?_)
      · exfalso; omega
      · refine z_aloadn dX4_addToYear_14 rfl ?_
        refine gX4_33 hg rfl dX4_addToYear_15 ?_
        refine z_iloadn dX4_addToYear_18 rfl ?_
        refine z_iloadn dX4_addToYear_19 rfl ?_
        refine kX4_44 tX6_at rfl ⟨(Nat.le_of_ble_eq_true rfl), (Nat.le_of_ble_eq_true rfl)⟩ (Nat.le_of_ble_eq_true rfl) dX4_addToYear_20 ?_
        refine z_dup2 dX4_addToYear_23 rfl rfl ?_
        refine z_iald (by rfl) (by first | exact Or.inl (by decide) | exact Or.inl (Or.inl ⟨by decide, hg⟩)) (by omega) (by omega) (by decide) dX4_addToYear_24 ?_
        refine z_aloadn dX4_addToYear_25 rfl ?_
        refine z_iloadn dX4_addToYear_26 rfl ?_
        refine z_iald (by rfl) (by first | exact Or.inl (by decide) | exact Or.inl (Or.inl ⟨by decide, hg⟩)) (by omega) (by omega) (by decide) dX4_addToYear_27 ?_
        refine z_iadd dX4_addToYear_28 ?_
        refine z_iast (by rfl) (by first | exact Or.inl (by decide) | exact Or.inl (Or.inl ⟨by decide, hg⟩)) (by omega) (by omega) (by decide) (by rw [z_sR_self, z_sR_ne _ _ (by omega)]; have e5 : z_cp (M g) (fun p => M g (666 + 12 * k + p) + M 10 p) (666 + 12 * k) 0 i (666 + (12 * k + i)) = M g (666 + 12 * k + i) := (by unfold z_cp; rw [if_neg (by omega)]; congr 1; omega); rw [e5]; exact y_s) dX4_addToYear_29 ?_
        refine z_rng fun hr => ?_
        refine z_iinc_3 dX4_addToYear_30 (Nat.le_of_ble_eq_true rfl) rfl ?_
        refine z_goto (tgt := 2) dX4_addToYear_33 (by decide) ?_
        refine z_mem ?_ y_ih
        rw [z_sM_sR]
        congr 1
        refine z_cp_s _ _ _ _ i (by omega) ?_
        rw [Int.zero_add, z_sR_self, z_sR_ne _ _ (by omega)]
        show z_cp _ _ _ _ _ _ + _ = _
        unfold z_cp
        rw [if_neg (by omega)]
        congr 2
        omega
theorem tX3_earn {G : z_G} {M : z_M} {g : Nat} {p a B : Int} (hg : g < 7) (p0 : 0 ≤ p) (p1 : p < 12) (he : z_ebd (M g) B) (B1 : B ≤ 1500000000) (a0 : 0 ≤ a) (a1 : a ≤ 2000000) : KX3_earn G [.ref (z_ad G g 1), z_I p, z_I a] M (.inl (some (z_I (z_hl a (M g (14 + 6 * p + 1)))))) (z_sR M g (z_ern (M g) p a)) := by
  refine z_con (ls := [some (.ref (z_ad G g 1)), some (z_I p), some (z_I a), none]) (by decide +kernel) (Nat.le_of_ble_eq_true rfl) rfl ?_
  intro Z htb
  refine z_rng fun hr => ?_
  have y_e := he p p0 p1
  have y_h := z_hl_rg a0 y_e.2.2.1
  refine z_iloadn dX3_earn_0 rfl ?_
  refine z_aloadn dX3_earn_1 rfl ?_
  refine gX3_15 hg rfl dX3_earn_2 ?_
  refine z_iloadn dX3_earn_5 rfl ?_
  refine z_iald (by rfl) (by first | exact Or.inl (by decide) | exact Or.inl (Or.inl ⟨by decide, hg⟩)) (by omega) (by omega) (by decide) dX3_earn_6 ?_
  refine kX3_38 (tX6_withheld (by omega) (by omega) (by first | (exact hr _ _ (by decide)) | (exact hr _ _ (by omega)) | omega)) rfl ⟨(Nat.le_of_ble_eq_true rfl), (Nat.le_of_ble_eq_true rfl)⟩ (Nat.le_of_ble_eq_true rfl) dX3_earn_7 ?_
  refine z_istoren_3 dX3_earn_10 (Nat.le_of_ble_eq_true rfl) rfl ?_
  refine z_aloadn dX3_earn_11 rfl ?_
  refine gX3_18 hg rfl dX3_earn_12 ?_
  refine z_iloadn dX3_earn_15 rfl ?_
  refine z_dup2 dX3_earn_16 rfl rfl ?_
  refine z_iald (by rfl) (by first | exact Or.inl (by decide) | exact Or.inl (Or.inl ⟨by decide, hg⟩)) (by omega) (by omega) (by decide) dX3_earn_17 ?_
  refine z_iloadn dX3_earn_18 rfl ?_
  refine z_iadd dX3_earn_19 ?_
  refine z_iast (by rfl) (by first | exact Or.inl (by decide) | exact Or.inl (Or.inl ⟨by decide, hg⟩)) (by omega) (by omega) (by decide) (by first | (exact hr _ _ (by decide)) | (exact hr _ _ (by omega)) | omega) dX3_earn_20 ?_
  refine z_rng fun hr => ?_
  refine z_aloadn dX3_earn_21 rfl ?_
  refine gX3_15 hg rfl dX3_earn_22 ?_
  refine z_iloadn dX3_earn_25 rfl ?_
  refine z_dup2 dX3_earn_26 rfl rfl ?_
  refine z_iald (by rfl) (by first | exact Or.inl (by decide) | exact Or.inl (Or.inl ⟨by decide, hg⟩)) (by omega) (by omega) (by decide) dX3_earn_27 ?_
  refine z_top (v' := M g (14 + 6 * p + 1)) (z_sM_ne _ _ _ (by omega)) ?_
  refine z_iloadn dX3_earn_28 rfl ?_
  refine z_isub dX3_earn_29 ?_
  refine z_iast (by rfl) (by first | exact Or.inl (by decide) | exact Or.inl (Or.inl ⟨by decide, hg⟩)) (by omega) (by omega) (by decide) (by first | (exact hr _ _ (by decide)) | (exact hr _ _ (by omega)) | omega) dX3_earn_30 ?_
  refine z_rng fun hr => ?_
  refine z_aloadn dX3_earn_31 rfl ?_
  refine gX3_9 hg rfl dX3_earn_32 ?_
  refine z_iloadn dX3_earn_35 rfl ?_
  refine z_dup2 dX3_earn_36 rfl rfl ?_
  refine z_iald (by rfl) (by first | exact Or.inl (by decide) | exact Or.inl (Or.inl ⟨by decide, hg⟩)) (by omega) (by omega) (by decide) dX3_earn_37 ?_
  refine z_top (v' := M g (14 + 6 * p)) ((z_sM_ne _ _ _ (by omega)).trans (z_sM_ne _ _ _ (by omega))) ?_
  refine z_iloadn dX3_earn_38 rfl ?_
  refine z_iloadn dX3_earn_39 rfl ?_
  refine z_isub dX3_earn_40 ?_
  refine z_iadd dX3_earn_41 ?_
  refine z_iast (by rfl) (by first | exact Or.inl (by decide) | exact Or.inl (Or.inl ⟨by decide, hg⟩)) (by omega) (by omega) (by decide) (by first | (exact hr _ _ (by decide)) | (exact hr _ _ (by omega)) | omega) dX3_earn_42 ?_
  refine z_rng fun hr => ?_
  refine z_iloadn dX3_earn_43 rfl ?_
  exact z_iret dX3_earn_44 (by first | rfl | omega) (by simp only [z_sM_R, z_sR_R, z_sR_self]; first | rfl | (congr 1; unfold z_ern; funext j; simp only [z_uf]; (repeat' split) <;> first | rfl | omega))
theorem tX3_earnR {G : z_G} {M : z_M} {R : Int → Int} {g : Nat} {p a B : Int} (hg : g < 7) (p0 : 0 ≤ p) (p1 : p < 12) (he : z_ebd R B) (B1 : B ≤ 1500000000) (a0 : 0 ≤ a) (a1 : a ≤ 2000000) : KX3_earn G [.ref (z_ad G g 1), z_I p, z_I a] (z_sR M g R) (.inl (some (z_I (z_hl a (R (14 + 6 * p + 1)))))) (z_sR M g (z_ern R p a)) := by
  have h := tX3_earn (G := G) (M := z_sR M g R) (B := B) hg p0 p1 (by rw [z_sR_self]; exact he) B1 a0 a1
  rwa [z_sR_R, z_sR_self] at h
theorem tX3_passByline {G : z_G} {M : z_M} {g : Nat} {x t p : Int} (hg : g < 7) (x0 : 0 ≤ x) (x1 : x < 12) (t0 : 0 ≤ t) (t1 : t < 12) (o0 : 0 ≤ M g (14 + 6 * x + 3)) (o1 : M g (14 + 6 * x + 3) < 12) (ne : M g (14 + 6 * x + 3) ≠ t) (rp : z_rg p) (g1 : z_rg (M g (14 + 6 * t) - p)) (g2 : z_rg (M g (14 + 6 * M g (14 + 6 * x + 3)) + p)) : KX3_passByline G [.ref (z_ad G g 1), z_I x, z_I t, z_I p] M (.inl none) (z_sR M g (z_sold (M g) x t p)) := by
  refine z_con (ls := [some (.ref (z_ad G g 1)), some (z_I x), some (z_I t), some (z_I p)]) (by decide +kernel) (Nat.le_of_ble_eq_true rfl) rfl ?_
  intro Z htb
  refine z_rng fun hr => ?_
  refine z_aloadn dX3_passByline_0 rfl ?_
  refine gX3_9 hg rfl dX3_passByline_1 ?_
  refine z_iloadn dX3_passByline_4 rfl ?_
  refine z_dup2 dX3_passByline_5 rfl rfl ?_
  refine z_iald (by rfl) (by first | exact Or.inl (by decide) | exact Or.inl (Or.inl ⟨by decide, hg⟩)) (by omega) (by omega) (by decide) dX3_passByline_6 ?_
  refine z_iloadn dX3_passByline_7 rfl ?_
  refine z_isub dX3_passByline_8 ?_
  refine z_iast (by rfl) (by first | exact Or.inl (by decide) | exact Or.inl (Or.inl ⟨by decide, hg⟩)) (by omega) (by omega) (by decide) (by first | (exact hr _ _ (by decide)) | (exact hr _ _ (by omega)) | omega) dX3_passByline_9 ?_
  refine z_rng fun hr => ?_
  refine z_aloadn dX3_passByline_10 rfl ?_
  refine gX3_9 hg rfl dX3_passByline_11 ?_
  refine z_aloadn dX3_passByline_14 rfl ?_
  refine gX3_21 hg rfl dX3_passByline_15 ?_
  refine z_iloadn dX3_passByline_18 rfl ?_
  refine z_iald (by rfl) (by first | exact Or.inl (by decide) | exact Or.inl (Or.inl ⟨by decide, hg⟩)) (by omega) (by omega) (by decide) dX3_passByline_19 ?_
  refine z_top (v' := M g (14 + 6 * x + 3)) (z_sM_ne _ _ _ (by omega)) ?_
  refine z_dup2 dX3_passByline_20 rfl rfl ?_
  refine z_iald (by rfl) (by first | exact Or.inl (by decide) | exact Or.inl (Or.inl ⟨by decide, hg⟩)) (by omega) (by omega) (by decide) dX3_passByline_21 ?_
  refine z_top (v' := M g (14 + 6 * M g (14 + 6 * x + 3))) (z_sM_ne _ _ _ (by omega)) ?_
  refine z_iloadn dX3_passByline_22 rfl ?_
  refine z_iadd dX3_passByline_23 ?_
  refine z_iast (by rfl) (by first | exact Or.inl (by decide) | exact Or.inl (Or.inl ⟨by decide, hg⟩)) (by omega) (by omega) (by decide) (by first | (exact hr _ _ (by decide)) | (exact hr _ _ (by omega)) | omega) dX3_passByline_24 ?_
  refine z_rng fun hr => ?_
  refine z_aloadn dX3_passByline_25 rfl ?_
  refine gX3_21 hg rfl dX3_passByline_26 ?_
  refine z_iloadn dX3_passByline_29 rfl ?_
  refine z_iloadn dX3_passByline_30 rfl ?_
  refine z_iast (by rfl) (by first | exact Or.inl (by decide) | exact Or.inl (Or.inl ⟨by decide, hg⟩)) (by omega) (by omega) (by decide) (by first | (exact hr _ _ (by decide)) | (exact hr _ _ (by omega)) | omega) dX3_passByline_31 ?_
  refine z_rng fun hr => ?_
  refine z_aloadn dX3_passByline_32 rfl ?_
  refine gX3_24 hg rfl dX3_passByline_33 ?_
  refine z_iloadn dX3_passByline_36 rfl ?_
  refine z_iloadn dX3_passByline_37 rfl ?_
  refine z_iast (by rfl) (by first | exact Or.inl (by decide) | exact Or.inl (Or.inl ⟨by decide, hg⟩)) (by omega) (by omega) (by decide) (by first | (exact hr _ _ (by decide)) | (exact hr _ _ (by omega)) | omega) dX3_passByline_38 ?_
  refine z_rng fun hr => ?_
  exact z_vret dX3_passByline_39 (by simp only [z_sM_R, z_sR_R, z_sR_self]; first | rfl | (congr 1; unfold z_sold; funext j; simp only [z_uf]; (repeat' split) <;> first | rfl | omega))
theorem tX6_bringIn {G : z_G} {M : z_M} {g : Nat} (hg : g < 7) (hn : M 7 2 = (g : Int)) {a B : Int} (a0 : 0 ≤ a) (a1 : a ≤ 100000) (he : z_ebd (M g) B) (B0 : 0 ≤ B) (B1 : B ≤ 1000000000) (b0 : 0 ≤ M g 0 ∧ M g 0 ≤ 12) (b3 : 0 ≤ M g 3 ∧ M g 3 ≤ 1000000000) (b4 : 0 ≤ M g 4 ∧ M g 4 ≤ 1000000000) (p8 : 0 ≤ M 7 8 ∧ M 7 8 ≤ 100000) (p9 : 0 ≤ M 7 9 ∧ M 7 9 ≤ 12000000) (p10 : 0 ≤ M 7 10 ∧ M 7 10 < 12) (p11 : 0 ≤ M 7 11 ∧ M 7 11 ≤ 2000000) (hS : ∀ p, 0 ≤ p → p < 12 → 0 ≤ M 10 p ∧ M 10 p ≤ 2000000) : KX6_bringIn G [.ref (z_ad G 0 20), z_I a] M (.inl (some (z_I (z_eA (M g) (M 7) (M 10)).2))) (z_sR M g (z_bin (M g) (M 7) (M 10) a)) := by
  refine z_con (ls := [some (.ref (z_ad G 0 20)), some (z_I a), none, none]) (by decide +kernel) (Nat.le_of_ble_eq_true rfl) rfl ?_
  intro Z htb
  refine z_rng fun hr => ?_
  have y_x0 : z_ebd (z_e0 (M g) (M 7)).1 (B + 2000000) := z_ebd_ern he p10.1 p10.2 p11.1 p11.2
  have y_hl := z_hl_rg p11.1 (he _ p10.1 p10.2).2.2.1
  have y_x2 : (z_e0 (M g) (M 7)).2 = M 7 8 + M 7 9 + z_hl (M 7 11) (M g (14 + 6 * M 7 10 + 1)) := rfl
  have y_mo : z_ebd (z_e0 (M g) (M 7)).1 (B + 20000000) := fun p p0 p1 => by have := y_x0 p p0 p1; omega
  have y_L := z_ebd_eL (S := M 10) (x := z_e0 (M g) (M 7)) (A := 2000000) y_mo (by omega) (by decide) hS
  refine z_aloadn dX6_bringIn_0 rfl ?_
  refine gX6_25 rfl dX6_bringIn_1 ?_
  refine gX6_353 rfl dX6_bringIn_4 ?_
  refine z_aloadn dX6_bringIn_7 rfl ?_
  refine gX6_25 rfl dX6_bringIn_8 ?_
  refine gX6_225 rfl dX6_bringIn_11 ?_
  refine z_iadd dX6_bringIn_14 ?_
  refine z_istoren_2 dX6_bringIn_15 (Nat.le_of_ble_eq_true rfl) rfl ?_
  refine z_mem (M' := z_sR M g (M g)) (z_sR_id _ _).symm ?_
  refine z_iloadn dX6_bringIn_16 rfl ?_
  refine z_aloadn dX6_bringIn_17 rfl ?_
  refine gX6_44 (by first | exact hn | exact (congrFun (z_sR_ne _ _ (by omega)) 2).trans hn | exact (congrFun (z_sM_row _ _ _ (by omega)) 2).trans ((congrFun (z_sR_ne _ _ (by omega)) 2).trans hn)) rfl dX6_bringIn_18 ?_
  refine gX6_48 hg rfl dX6_bringIn_21 ?_
  refine z_aloadn dX6_bringIn_24 rfl ?_
  refine gX6_25 rfl dX6_bringIn_25 ?_
  refine gX6_356 rfl dX6_bringIn_28 ?_
  refine z_top (v' := M 7 10) (by first | rfl | exact congrFun (z_sR_ne _ _ (by omega)) _) ?_
  refine z_aloadn dX6_bringIn_31 rfl ?_
  refine gX6_25 rfl dX6_bringIn_32 ?_
  refine gX6_359 rfl dX6_bringIn_35 ?_
  refine z_top (v' := M 7 11) (by first | rfl | exact congrFun (z_sR_ne _ _ (by omega)) _) ?_
  refine kX6_362 hg (tX3_earnR (B := B) hg p10.1 p10.2 he (by omega) p11.1 p11.2) rfl ⟨(Nat.le_of_ble_eq_true rfl), (Nat.le_of_ble_eq_true rfl)⟩ (Nat.le_of_ble_eq_true rfl) dX6_bringIn_38 ?_
  refine z_iadd dX6_bringIn_41 ?_
  refine z_istoren_2 dX6_bringIn_42 (Nat.le_of_ble_eq_true rfl) rfl ?_
  refine z_iconst dX6_bringIn_43 ?_
  refine z_istoren_3 dX6_bringIn_44 (Nat.le_of_ble_eq_true rfl) rfl ?_
  refine z_upn (P := fun i : Nat => z_J G Z _ _ 45 [some (.ref (z_ad G 0 20)), some (z_I a), some (z_I (z_eL (M 10) (z_e0 (M g) (M 7)) i).2), some (z_I i)] [] (z_sR M g (z_eL (M 10) (z_e0 (M g) (M 7)) i).1) 0 0) (M g 0).toNat ?_ ?_
  · refine z_rng fun hr => ?_
    have y_i := y_L (M g 0).toNat (by omega)
    have y_A : z_eL (M 10) (z_e0 (M g) (M 7)) (M g 0).toNat = z_eA (M g) (M 7) (M 10) := rfl
    have y_A3 : (z_eA (M g) (M 7) (M 10)).1 3 = M g 3 := (z_eL_o (by omega) _ (by omega)).trans (z_ern_o (by omega))
    have y_A4 : (z_eA (M g) (M 7) (M 10)).1 4 = M g 4 := (z_eL_o (by omega) _ (by omega)).trans (z_ern_o (by omega))
    refine z_iloadn dX6_bringIn_45 rfl ?_
    refine z_aloadn dX6_bringIn_46 rfl ?_
    refine gX6_44 (by first | exact hn | exact (congrFun (z_sR_ne _ _ (by omega)) 2).trans hn | exact (congrFun (z_sM_row _ _ _ (by omega)) 2).trans ((congrFun (z_sR_ne _ _ (by omega)) 2).trans hn)) rfl dX6_bringIn_47 ?_
    refine gX6_48 hg rfl dX6_bringIn_50 ?_
    refine gX6_52 hg rfl dX6_bringIn_53 ?_
    refine z_top (v' := M g 0) (by rw [z_sR_self]; exact (z_eL_o (by omega) _ (by omega)).trans (z_ern_o (by omega))) ?_
    refine z_icmp_ge (tgt := 88) (by omega) (by omega) dX6_bringIn_56 (by decide) (fun h56 => ?_) (fun h56 => ?_)
    · refine z_aloadn dX6_bringIn_88 rfl ?_
      refine gX6_44 (by first | exact hn | exact (congrFun (z_sR_ne _ _ (by omega)) 2).trans hn | exact (congrFun (z_sM_row _ _ _ (by omega)) 2).trans ((congrFun (z_sR_ne _ _ (by omega)) 2).trans hn)) rfl dX6_bringIn_89 ?_
      refine z_dup dX6_bringIn_92 rfl ?_
      refine gX6_100 hg rfl dX6_bringIn_93 ?_
      refine z_top (v' := M g 3) (by rw [z_sR_self]; exact (z_eL_o (by omega) _ (by omega)).trans (z_ern_o (by omega))) ?_
      refine z_iloadn dX6_bringIn_96 rfl ?_
      refine z_iadd dX6_bringIn_97 ?_
      refine pX6_100 hg (by first | (exact hr _ _ (by decide)) | (exact hr _ _ (by omega)) | omega) rfl dX6_bringIn_98 ?_
      refine z_rng fun hr => ?_
      refine z_aloadn dX6_bringIn_101 rfl ?_
      refine gX6_44 (by first | exact hn | exact (congrFun (z_sR_ne _ _ (by omega)) 2).trans hn | exact (congrFun (z_sM_row _ _ _ (by omega)) 2).trans ((congrFun (z_sR_ne _ _ (by omega)) 2).trans hn)) rfl dX6_bringIn_102 ?_
      refine z_dup dX6_bringIn_105 rfl ?_
      refine gX6_276 hg rfl dX6_bringIn_106 ?_
      refine z_top (v' := M g 4) ((z_sM_ne _ _ _ (by decide)).trans (by rw [z_sR_self]; exact (z_eL_o (by omega) _ (by omega)).trans (z_ern_o (by omega)))) ?_
      refine z_iloadn dX6_bringIn_109 rfl ?_
      refine z_iadd dX6_bringIn_110 ?_
      refine pX6_276 hg (by first | (exact hr _ _ (by decide)) | (exact hr _ _ (by omega)) | omega) rfl dX6_bringIn_111 ?_
      refine z_rng fun hr => ?_
      refine z_iloadn dX6_bringIn_114 rfl ?_
      exact z_iret dX6_bringIn_115 (by first | rfl | omega) (by simp only [z_sM_sR]; unfold z_bin; rw [y_A, y_A3, y_A4])
    · exfalso; omega
  · intro i hi y_ih
    refine z_rng fun hr => ?_
    have y_i := y_L i (by omega)
    have y_s := hS i (by omega) (by omega)
    refine z_iloadn dX6_bringIn_45 rfl ?_
    refine z_aloadn dX6_bringIn_46 rfl ?_
    refine gX6_44 (by first | exact hn | exact (congrFun (z_sR_ne _ _ (by omega)) 2).trans hn | exact (congrFun (z_sM_row _ _ _ (by omega)) 2).trans ((congrFun (z_sR_ne _ _ (by omega)) 2).trans hn)) rfl dX6_bringIn_47 ?_
    refine gX6_48 hg rfl dX6_bringIn_50 ?_
    refine gX6_52 hg rfl dX6_bringIn_53 ?_
    refine z_top (v' := M g 0) (by rw [z_sR_self]; exact (z_eL_o (by omega) _ (by omega)).trans (z_ern_o (by omega))) ?_
    refine z_icmp_ge (tgt := 88) (by omega) (by omega) dX6_bringIn_56 (by decide) (fun h56 => ?_) (fun h56 => ?_)
    · exfalso; omega
    · refine z_iloadn dX6_bringIn_59 rfl ?_
      refine z_aloadn dX6_bringIn_60 rfl ?_
      refine gX6_44 (by first | exact hn | exact (congrFun (z_sR_ne _ _ (by omega)) 2).trans hn | exact (congrFun (z_sM_row _ _ _ (by omega)) 2).trans ((congrFun (z_sR_ne _ _ (by omega)) 2).trans hn)) rfl dX6_bringIn_61 ?_
      refine gX6_48 hg rfl dX6_bringIn_64 ?_
      refine z_iloadn dX6_bringIn_67 rfl ?_
      refine z_aloadn dX6_bringIn_68 rfl ?_
      refine gX6_25 rfl dX6_bringIn_69 ?_
      refine gX6_216 rfl dX6_bringIn_72 ?_
      refine z_iloadn dX6_bringIn_75 rfl ?_
      refine z_iald (by rfl) (by first | exact Or.inl (by decide) | exact Or.inl (Or.inl ⟨by decide, hg⟩)) (by omega) (by omega) (by decide) dX6_bringIn_76 ?_
      refine z_top (v' := M 10 i) (congrFun (z_sR_ne _ _ (by omega)) _) ?_
      refine kX6_362 hg (tX3_earnR (B := B + 20000000 + i * 2000000) hg (by omega) (by omega) y_i.1 (by omega) y_s.1 y_s.2) rfl ⟨(Nat.le_of_ble_eq_true rfl), (Nat.le_of_ble_eq_true rfl)⟩ (Nat.le_of_ble_eq_true rfl) dX6_bringIn_77 ?_
      refine z_iadd dX6_bringIn_80 ?_
      refine z_istoren_2 dX6_bringIn_81 (Nat.le_of_ble_eq_true rfl) rfl ?_
      refine z_iinc_3 dX6_bringIn_82 (Nat.le_of_ble_eq_true rfl) rfl ?_
      refine z_goto (tgt := 45) dX6_bringIn_85 (by decide) ?_
      exact y_ih
