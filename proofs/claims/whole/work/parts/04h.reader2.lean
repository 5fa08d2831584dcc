abbrev z_t2 (M : z_M) (f r : Int → Int) : z_M := z_sR (z_sR M 21 f) 26 r
theorem z_t2_id (M : z_M) : z_t2 M (M 21) (M 26) = M := by
  show z_sR (z_sR M 21 (M 21)) 26 (M 26) = M
  rw [z_sR_id, z_sR_id]
theorem z_t2_21 (M : z_M) (f r : Int → Int) : z_t2 M f r 21 = f := by
  show z_sR (z_sR M 21 f) 26 r 21 = f
  rw [z_sR_ne _ _ (by decide), z_sR_self]
theorem z_t2_26 (M : z_M) (f r : Int → Int) : z_t2 M f r 26 = r := z_sR_self _ _ _
theorem z_t2_ne (M : z_M) (f r : Int → Int) {a : Nat} (h1 : a ≠ 21) (h2 : a ≠ 26) : z_t2 M f r a = M a := by
  show z_sR (z_sR M 21 f) 26 r a = M a
  rw [z_sR_ne _ _ h2, z_sR_ne _ _ h1]
theorem z_t2_t2 (M : z_M) (f r f' r' : Int → Int) : z_t2 (z_t2 M f r) f' r' = z_t2 M f' r' := by
  show z_sR (z_sR (z_sR (z_sR M 21 f) 26 r) 21 f') 26 r' = _
  rw [z_sR_comm _ _ _ (show (26 : Nat) ≠ 21 by decide), z_sR_R, z_sR_R]
theorem z_t2_f (M : z_M) (f : Int → Int) : z_sR M 21 f = z_t2 M f (M 26) := by
  show z_sR M 21 f = z_sR (z_sR M 21 f) 26 (M 26)
  have h : z_sR M 21 f 26 = M 26 := z_sR_ne _ _ (by decide)
  rw [← h, z_sR_id]
theorem z_t2_sM (M : z_M) (f r : Int → Int) (i v : Int) : z_sM (z_t2 M f r) 21 i v = z_t2 M (z_uf f i v) r := by
  rw [z_sM_R, z_t2_21]
  show z_sR (z_sR (z_sR M 21 f) 26 r) 21 _ = _
  rw [z_sR_comm _ _ _ (show (26 : Nat) ≠ 21 by decide), z_sR_R]
theorem z_t2_sM6 (M : z_M) (f r : Int → Int) (i v : Int) : z_sM (z_t2 M f r) 26 i v = z_t2 M f (z_uf r i v) := by
  rw [z_sM_R, z_t2_26, z_sR_R]
theorem z_t2_s1 (M : z_M) (i v : Int) : z_sM M 21 i v = z_t2 M (z_uf (M 21) i v) (M 26) := by
  rw [z_sM_R, z_t2_f]
theorem z_t2_s6 (M : z_M) (i v : Int) : z_sM M 26 i v = z_t2 M (M 21) (z_uf (M 26) i v) := by
  show _ = z_sR (z_sR M 21 (M 21)) 26 _
  rw [z_sM_R, z_sR_id]
section ZG
variable {M : z_M} {c : Int}
theorem z_g0 (h : M 21 5 = 0) (hB : z_rbB (M 21) c) : z_sR M 21 (z_rbf (M 21) c) = z_t2 M (z_tf (M 21) c) (z_tr (M 21) (M 26) c) := by
  unfold z_tf z_tr
  rw [if_pos h, if_pos hB, if_pos (Or.inl h), z_t2_f]
theorem z_g0n (h : M 21 5 = 0) (hB : ¬ z_rbB (M 21) c) : M = z_t2 M (z_tf (M 21) c) (z_tr (M 21) (M 26) c) := by
  unfold z_tf z_tr
  rw [if_pos h, if_neg hB, if_pos (Or.inl h), z_t2_id]
theorem z_g3 (h : M 21 5 = 3) : z_sM (z_sM M 21 9 (c - 48)) 21 5 4 = z_t2 M (z_tf (M 21) c) (z_tr (M 21) (M 26) c) := by
  unfold z_tf z_tr
  rw [if_neg (show ¬ M 21 5 = 0 by omega), if_pos h, if_pos (Or.inr h), z_t2_s1 M, z_t2_sM]
theorem z_g1 (h0 : M 21 5 ≠ 0) (h3 : M 21 5 ≠ 3) (hB : z_ten (M 21) c) : z_sM (z_sM M 21 8 (10 + c - 48)) 21 5 2 = z_t2 M (z_tf (M 21) c) (z_tr (M 21) (M 26) c) := by
  unfold z_tf z_tr
  rw [if_neg h0, if_neg h3, if_pos hB, if_neg (show ¬ (M 21 5 = 0 ∨ M 21 5 = 3) by omega), if_pos hB, z_t2_s1 M, z_t2_sM]
theorem z_g2 (h0 : M 21 5 ≠ 0) (h3 : M 21 5 ≠ 3) (h1 : ¬ z_ten (M 21) c) (hB : z_str (M 21) c) : z_sM M 21 5 3 = z_t2 M (z_tf (M 21) c) (z_tr (M 21) (M 26) c) := by
  unfold z_tf z_tr
  rw [if_neg h0, if_neg h3, if_neg h1, if_pos hB, if_neg (show ¬ (M 21 5 = 0 ∨ M 21 5 = 3) by omega), if_neg h1, if_pos hB, z_t2_s1]
theorem z_g4 (h0 : M 21 5 ≠ 0) (h3 : M 21 5 ≠ 3) (h1 : ¬ z_ten (M 21) c) (h2 : ¬ z_str (M 21) c) (hB : z_com (M 21) c) : z_sM (z_t2 M (z_endf (M 21)) (z_endr (M 21) (M 26))) 21 5 0 = z_t2 M (z_tf (M 21) c) (z_tr (M 21) (M 26) c) := by
  unfold z_tf z_tr
  rw [if_neg h0, if_neg h3, if_neg h1, if_neg h2, if_pos hB, if_neg (show ¬ (M 21 5 = 0 ∨ M 21 5 = 3) by omega), if_neg h1, if_neg h2, if_pos hB, z_t2_sM]
theorem z_g5 (h0 : M 21 5 ≠ 0) (h3 : M 21 5 ≠ 3) (h1 : ¬ z_ten (M 21) c) (h2 : ¬ z_str (M 21) c) (hB : ¬ z_com (M 21) c) : M = z_t2 M (z_tf (M 21) c) (z_tr (M 21) (M 26) c) := by
  unfold z_tf z_tr
  rw [if_neg h0, if_neg h3, if_neg h1, if_neg h2, if_neg hB, if_neg (show ¬ (M 21 5 = 0 ∨ M 21 5 = 3) by omega), if_neg h1, if_neg h2, if_neg hB, z_t2_id]
theorem z_gb (h : M 21 5 = 0) : (if z_rbB (M 21) c then z_sR M 21 (z_rbf (M 21) c) else M) = z_t2 M (z_tf (M 21) c) (z_tr (M 21) (M 26) c) := by
  by_cases y : z_rbB (M 21) c
  · rw [if_pos y]; exact z_g0 h y
  · rw [if_neg y]; exact z_g0n h y
theorem z_tB0 {f : Int → Int} (h : f 5 = 0) : (if z_rbB f c then (1 : Int) else 0) = if z_tB f c then 1 else 0 := by
  by_cases y : z_rbB f c
  · rw [if_pos y, if_pos (Or.inl ⟨h, y⟩)]
  · rw [if_neg y, if_neg]
    rintro (q | q | q)
    · exact y q.2
    · omega
    · exact q.1 h
theorem z_tB3 {f : Int → Int} (h : f 5 = 3) : (if 2 ≤ c - 48 ∧ c - 48 ≤ 9 then (1 : Int) else 0) = if z_tB f c then 1 else 0 := by
  by_cases y : 2 ≤ c - 48 ∧ c - 48 ≤ 9
  · rw [if_pos y, if_pos (Or.inr (Or.inl ⟨h, y⟩))]
  · rw [if_neg y, if_neg]
    rintro (q | q | q)
    · omega
    · exact y q.2
    · exact q.2.1 h
theorem z_tB1 {f : Int → Int} (h : f 5 ≠ 0) (h3 : f 5 ≠ 3) : (if z_ten f c ∨ z_str f c ∨ z_com f c then (1 : Int) else 0) = if z_tB f c then 1 else 0 := by
  by_cases y : z_ten f c ∨ z_str f c ∨ z_com f c
  · rw [if_pos y, if_pos (Or.inr (Or.inr ⟨h, h3, y⟩))]
  · rw [if_neg y, if_neg]
    rintro (q | q | q)
    · exact h q.1
    · exact h3 q.1
    · exact y q.2.2
end ZG
theorem tX7_isUsed {G : z_G} {M : z_M} {p : Int} (u0 : 0 ≤ M 21 7) (p0 : 0 ≤ p) (p1 : p < 12) : KX7_isUsed G [.ref (z_ad G 0 40), z_I p] M (.inl (some (z_I (if z_us (M 21) p then 1 else 0)))) M := by
  refine z_con (ls := [some (.ref (z_ad G 0 40)), some (z_I p)]) (by decide +kernel) (Nat.le_of_ble_eq_true rfl) rfl ?_
  intro Z htb
  refine z_rng fun hr => ?_
  have y_u := hr 21 7 (by decide)
  have y_d : 0 ≤ M 21 7 / 2 ^ p.toNat := Int.ediv_nonneg u0 (Int.le_of_lt (Int.pow_pos (by decide)))
  refine z_aloadn dX7_isUsed_0 rfl ?_
  refine gX7_86 rfl dX7_isUsed_1 ?_
  refine z_iloadn dX7_isUsed_4 rfl ?_
  refine z_ishr (z_bshr (by omega) (by omega) (by omega) (by omega)) dX7_isUsed_5 ?_
  refine z_iconst dX7_isUsed_6 ?_
  refine z_iand (z_band1 y_d) dX7_isUsed_7 ?_
  refine z_iconst dX7_isUsed_8 ?_
  refine z_icmp_ne (tgt := 16) (by first | (exact hr _ _ (by decide)) | omega) (by first | (exact hr _ _ (by decide)) | omega) dX7_isUsed_9 (by decide) (fun h9 => ?_) (fun h9 => ?_)
  · refine z_iconst dX7_isUsed_16 ?_
    exact z_zret dX7_isUsed_17 (by unfold z_us z_bit; split <;> omega) rfl (by first | decide | (split <;> simp))
  · refine z_iconst dX7_isUsed_12 ?_
    refine z_goto (tgt := 17) dX7_isUsed_13 (by decide) ?_
    exact z_zret dX7_isUsed_17 (by unfold z_us z_bit; split <;> omega) rfl (by first | decide | (split <;> simp))
theorem tX7_begins {G : z_G} {M : z_M} {c : Int} (hp : z_PF (M 21) (M 26)) (c0 : 33 ≤ c) (c1 : c ≤ 126) : KX7_begins G [.ref (z_ad G 0 40), z_I c] M (.inl (some (z_I (if z_rbB (M 21) c then 1 else 0)))) (if z_rbB (M 21) c then z_sR M 21 (z_rbf (M 21) c) else M) := by
  refine z_con (ls := [some (.ref (z_ad G 0 40)), some (z_I c), none]) (by decide +kernel) (Nat.le_of_ble_eq_true rfl) rfl ?_
  intro Z htb
  refine z_rng fun hr => ?_
  have y_p := hp
  unfold z_PF at y_p
  obtain ⟨y_1, y_2, y_3, y_4, y_5, y_6, y_7, y_8, y_9⟩ := y_p
  refine z_iloadn dX7_begins_0 rfl ?_
  refine z_bipush dX7_begins_1 (by decide) ?_
  refine z_isub dX7_begins_3 ?_
  refine z_istoren_2 dX7_begins_4 (Nat.le_of_ble_eq_true rfl) rfl ?_
  refine z_iloadn dX7_begins_5 rfl ?_
  refine z_iconst dX7_begins_6 ?_
  refine z_bipush dX7_begins_7 (by decide) ?_
  refine kX7_44 (tX7_within (by first | (exact hr _ _ (by decide)) | omega) (by first | (exact hr _ _ (by decide)) | omega) (by first | (exact hr _ _ (by decide)) | omega)) rfl ⟨(Nat.le_of_ble_eq_true rfl), (Nat.le_of_ble_eq_true rfl)⟩ (Nat.le_of_ble_eq_true rfl) dX7_begins_9 ?_
  refine z_ifb_eq (tgt := 59) dX7_begins_12 (by decide) (fun h12 => ?_) (fun h12 => ?_)
  · have y_B : ¬ z_rbB (M 21) c := by unfold z_rbB z_us at *; omega
    refine z_iconst dX7_begins_59 ?_
    exact z_zret dX7_begins_60 (if_neg y_B).symm (if_neg y_B).symm (by first | decide | (split <;> simp))
  · refine z_iloadn dX7_begins_15 rfl ?_
    refine z_iconst dX7_begins_16 ?_
    refine z_icmp_eq (tgt := 28) (by first | (exact hr _ _ (by decide)) | omega) (by first | (exact hr _ _ (by decide)) | omega) dX7_begins_17 (by decide) (fun h17 => ?_) (fun h17 => ?_)
    · refine z_iloadn dX7_begins_28 rfl ?_
      refine z_iconst dX7_begins_29 ?_
      refine z_icmp_ne (tgt := 61) (by first | (exact hr _ _ (by decide)) | omega) (by first | (exact hr _ _ (by decide)) | omega) dX7_begins_30 (by decide) (fun h30 => ?_) (fun h30 => ?_)
      · have y_B : z_rbB (M 21) c := by unfold z_rbB z_us at *; omega
        refine z_aloadn dX7_begins_61 rfl ?_
        refine z_iloadn dX7_begins_62 rfl ?_
        refine pX7_92 (by first | (exact hr _ _ (by decide)) | omega) rfl dX7_begins_63 ?_
        refine z_rng fun hr => ?_
        refine z_aloadn dX7_begins_66 rfl ?_
        refine z_iconst dX7_begins_67 ?_
        refine pX7_95 (by first | (exact hr _ _ (by decide)) | omega) rfl dX7_begins_68 ?_
        refine z_rng fun hr => ?_
        refine z_aloadn dX7_begins_71 rfl ?_
        refine z_iloadn dX7_begins_72 rfl ?_
        refine z_iconst dX7_begins_73 ?_
        refine z_icmp_ne (tgt := 81) (by first | (exact hr _ _ (by decide)) | omega) (by first | (exact hr _ _ (by decide)) | omega) dX7_begins_74 (by decide) (fun h74 => ?_) (fun h74 => ?_)
        · refine z_iconst dX7_begins_81 ?_
          refine pX7_98 (by first | (exact hr _ _ (by decide)) | omega) rfl dX7_begins_82 ?_
          refine z_rng fun hr => ?_
          refine z_iconst dX7_begins_85 ?_
          exact z_zret dX7_begins_86 (if_pos y_B).symm (by rw [if_pos y_B]; unfold z_rbf; simp only [z_sM_R, z_sR_R, z_sR_self]; first | (exfalso; omega) | rw [if_pos (by assumption)] | rw [if_neg (by assumption)]) (by first | decide | (split <;> simp))
        · refine z_iconst dX7_begins_77 ?_
          refine z_goto (tgt := 82) dX7_begins_78 (by decide) ?_
          refine pX7_98 (by first | (exact hr _ _ (by decide)) | omega) rfl dX7_begins_82 ?_
          refine z_rng fun hr => ?_
          refine z_iconst dX7_begins_85 ?_
          exact z_zret dX7_begins_86 (if_pos y_B).symm (by rw [if_pos y_B]; unfold z_rbf; simp only [z_sM_R, z_sR_R, z_sR_self]; first | (exfalso; omega) | rw [if_pos (by assumption)] | rw [if_neg (by assumption)]) (by first | decide | (split <;> simp))
      · refine z_aloadn dX7_begins_33 rfl ?_
        refine z_iconst dX7_begins_34 ?_
        refine kX7_89 (tX7_isUsed (by omega) (by omega) (by omega)) rfl ⟨(Nat.le_of_ble_eq_true rfl), (Nat.le_of_ble_eq_true rfl)⟩ (Nat.le_of_ble_eq_true rfl) dX7_begins_35 ?_
        refine z_ifb_eq (tgt := 61) dX7_begins_38 (by decide) (fun h38 => ?_) (fun h38 => ?_)
        · have y_B : z_rbB (M 21) c := by unfold z_rbB z_us at *; omega
          refine z_aloadn dX7_begins_61 rfl ?_
          refine z_iloadn dX7_begins_62 rfl ?_
          refine pX7_92 (by first | (exact hr _ _ (by decide)) | omega) rfl dX7_begins_63 ?_
          refine z_rng fun hr => ?_
          refine z_aloadn dX7_begins_66 rfl ?_
          refine z_iconst dX7_begins_67 ?_
          refine pX7_95 (by first | (exact hr _ _ (by decide)) | omega) rfl dX7_begins_68 ?_
          refine z_rng fun hr => ?_
          refine z_aloadn dX7_begins_71 rfl ?_
          refine z_iloadn dX7_begins_72 rfl ?_
          refine z_iconst dX7_begins_73 ?_
          refine z_icmp_ne (tgt := 81) (by first | (exact hr _ _ (by decide)) | omega) (by first | (exact hr _ _ (by decide)) | omega) dX7_begins_74 (by decide) (fun h74 => ?_) (fun h74 => ?_)
          · refine z_iconst dX7_begins_81 ?_
            refine pX7_98 (by first | (exact hr _ _ (by decide)) | omega) rfl dX7_begins_82 ?_
            refine z_rng fun hr => ?_
            refine z_iconst dX7_begins_85 ?_
            exact z_zret dX7_begins_86 (if_pos y_B).symm (by rw [if_pos y_B]; unfold z_rbf; simp only [z_sM_R, z_sR_R, z_sR_self]; first | (exfalso; omega) | rw [if_pos (by assumption)] | rw [if_neg (by assumption)]) (by first | decide | (split <;> simp))
          · refine z_iconst dX7_begins_77 ?_
            refine z_goto (tgt := 82) dX7_begins_78 (by decide) ?_
            refine pX7_98 (by first | (exact hr _ _ (by decide)) | omega) rfl dX7_begins_82 ?_
            refine z_rng fun hr => ?_
            refine z_iconst dX7_begins_85 ?_
            exact z_zret dX7_begins_86 (if_pos y_B).symm (by rw [if_pos y_B]; unfold z_rbf; simp only [z_sM_R, z_sR_R, z_sR_self]; first | (exfalso; omega) | rw [if_pos (by assumption)] | rw [if_neg (by assumption)]) (by first | decide | (split <;> simp))
        · refine z_aloadn dX7_begins_41 rfl ?_
          refine z_bipush dX7_begins_42 (by decide) ?_
          refine kX7_89 (tX7_isUsed (by omega) (by omega) (by omega)) rfl ⟨(Nat.le_of_ble_eq_true rfl), (Nat.le_of_ble_eq_true rfl)⟩ (Nat.le_of_ble_eq_true rfl) dX7_begins_44 ?_
          refine z_ifb_eq (tgt := 61) dX7_begins_47 (by decide) (fun h47 => ?_) (fun h47 => ?_)
          · have y_B : z_rbB (M 21) c := by unfold z_rbB z_us at *; omega
            refine z_aloadn dX7_begins_61 rfl ?_
            refine z_iloadn dX7_begins_62 rfl ?_
            refine pX7_92 (by first | (exact hr _ _ (by decide)) | omega) rfl dX7_begins_63 ?_
            refine z_rng fun hr => ?_
            refine z_aloadn dX7_begins_66 rfl ?_
            refine z_iconst dX7_begins_67 ?_
            refine pX7_95 (by first | (exact hr _ _ (by decide)) | omega) rfl dX7_begins_68 ?_
            refine z_rng fun hr => ?_
            refine z_aloadn dX7_begins_71 rfl ?_
            refine z_iloadn dX7_begins_72 rfl ?_
            refine z_iconst dX7_begins_73 ?_
            refine z_icmp_ne (tgt := 81) (by first | (exact hr _ _ (by decide)) | omega) (by first | (exact hr _ _ (by decide)) | omega) dX7_begins_74 (by decide) (fun h74 => ?_) (fun h74 => ?_)
            · refine z_iconst dX7_begins_81 ?_
              refine pX7_98 (by first | (exact hr _ _ (by decide)) | omega) rfl dX7_begins_82 ?_
              refine z_rng fun hr => ?_
              refine z_iconst dX7_begins_85 ?_
              exact z_zret dX7_begins_86 (if_pos y_B).symm (by rw [if_pos y_B]; unfold z_rbf; simp only [z_sM_R, z_sR_R, z_sR_self]; first | (exfalso; omega) | rw [if_pos (by assumption)] | rw [if_neg (by assumption)]) (by first | decide | (split <;> simp))
            · refine z_iconst dX7_begins_77 ?_
              refine z_goto (tgt := 82) dX7_begins_78 (by decide) ?_
              refine pX7_98 (by first | (exact hr _ _ (by decide)) | omega) rfl dX7_begins_82 ?_
              refine z_rng fun hr => ?_
              refine z_iconst dX7_begins_85 ?_
              exact z_zret dX7_begins_86 (if_pos y_B).symm (by rw [if_pos y_B]; unfold z_rbf; simp only [z_sM_R, z_sR_R, z_sR_self]; first | (exfalso; omega) | rw [if_pos (by assumption)] | rw [if_neg (by assumption)]) (by first | decide | (split <;> simp))
          · refine z_aloadn dX7_begins_50 rfl ?_
            refine z_bipush dX7_begins_51 (by decide) ?_
            refine kX7_89 (tX7_isUsed (by omega) (by omega) (by omega)) rfl ⟨(Nat.le_of_ble_eq_true rfl), (Nat.le_of_ble_eq_true rfl)⟩ (Nat.le_of_ble_eq_true rfl) dX7_begins_53 ?_
            refine z_ifb_eq (tgt := 61) dX7_begins_56 (by decide) (fun h56 => ?_) (fun h56 => ?_)
            · have y_B : z_rbB (M 21) c := by unfold z_rbB z_us at *; omega
              refine z_aloadn dX7_begins_61 rfl ?_
              refine z_iloadn dX7_begins_62 rfl ?_
              refine pX7_92 (by first | (exact hr _ _ (by decide)) | omega) rfl dX7_begins_63 ?_
              refine z_rng fun hr => ?_
              refine z_aloadn dX7_begins_66 rfl ?_
              refine z_iconst dX7_begins_67 ?_
              refine pX7_95 (by first | (exact hr _ _ (by decide)) | omega) rfl dX7_begins_68 ?_
              refine z_rng fun hr => ?_
              refine z_aloadn dX7_begins_71 rfl ?_
              refine z_iloadn dX7_begins_72 rfl ?_
              refine z_iconst dX7_begins_73 ?_
              refine z_icmp_ne (tgt := 81) (by first | (exact hr _ _ (by decide)) | omega) (by first | (exact hr _ _ (by decide)) | omega) dX7_begins_74 (by decide) (fun h74 => ?_) (fun h74 => ?_)
              · refine z_iconst dX7_begins_81 ?_
                refine pX7_98 (by first | (exact hr _ _ (by decide)) | omega) rfl dX7_begins_82 ?_
                refine z_rng fun hr => ?_
                refine z_iconst dX7_begins_85 ?_
                exact z_zret dX7_begins_86 (if_pos y_B).symm (by rw [if_pos y_B]; unfold z_rbf; simp only [z_sM_R, z_sR_R, z_sR_self]; first | (exfalso; omega) | rw [if_pos (by assumption)] | rw [if_neg (by assumption)]) (by first | decide | (split <;> simp))
              · refine z_iconst dX7_begins_77 ?_
                refine z_goto (tgt := 82) dX7_begins_78 (by decide) ?_
                refine pX7_98 (by first | (exact hr _ _ (by decide)) | omega) rfl dX7_begins_82 ?_
                refine z_rng fun hr => ?_
                refine z_iconst dX7_begins_85 ?_
                exact z_zret dX7_begins_86 (if_pos y_B).symm (by rw [if_pos y_B]; unfold z_rbf; simp only [z_sM_R, z_sR_R, z_sR_self]; first | (exfalso; omega) | rw [if_pos (by assumption)] | rw [if_neg (by assumption)]) (by first | decide | (split <;> simp))
            · have y_B : ¬ z_rbB (M 21) c := by unfold z_rbB z_us at *; omega
              refine z_iconst dX7_begins_59 ?_
              exact z_zret dX7_begins_60 (if_neg y_B).symm (if_neg y_B).symm (by first | decide | (split <;> simp))
    · refine z_aloadn dX7_begins_20 rfl ?_
      refine z_iloadn dX7_begins_21 rfl ?_
      refine kX7_89 (tX7_isUsed (by omega) (by omega) (by omega)) rfl ⟨(Nat.le_of_ble_eq_true rfl), (Nat.le_of_ble_eq_true rfl)⟩ (Nat.le_of_ble_eq_true rfl) dX7_begins_22 ?_
      refine z_ifb_ne (tgt := 59) dX7_begins_25 (by decide) (fun h25 => ?_) (fun h25 => ?_)
      · have y_B : ¬ z_rbB (M 21) c := by unfold z_rbB z_us at *; omega
        refine z_iconst dX7_begins_59 ?_
        exact z_zret dX7_begins_60 (if_neg y_B).symm (if_neg y_B).symm (by first | decide | (split <;> simp))
      · refine z_iloadn dX7_begins_28 rfl ?_
        refine z_iconst dX7_begins_29 ?_
        refine z_icmp_ne (tgt := 61) (by first | (exact hr _ _ (by decide)) | omega) (by first | (exact hr _ _ (by decide)) | omega) dX7_begins_30 (by decide) (fun h30 => ?_) (fun h30 => ?_)
        · have y_B : z_rbB (M 21) c := by unfold z_rbB z_us at *; omega
          refine z_aloadn dX7_begins_61 rfl ?_
          refine z_iloadn dX7_begins_62 rfl ?_
          refine pX7_92 (by first | (exact hr _ _ (by decide)) | omega) rfl dX7_begins_63 ?_
          refine z_rng fun hr => ?_
          refine z_aloadn dX7_begins_66 rfl ?_
          refine z_iconst dX7_begins_67 ?_
          refine pX7_95 (by first | (exact hr _ _ (by decide)) | omega) rfl dX7_begins_68 ?_
          refine z_rng fun hr => ?_
          refine z_aloadn dX7_begins_71 rfl ?_
          refine z_iloadn dX7_begins_72 rfl ?_
          refine z_iconst dX7_begins_73 ?_
          refine z_icmp_ne (tgt := 81) (by first | (exact hr _ _ (by decide)) | omega) (by first | (exact hr _ _ (by decide)) | omega) dX7_begins_74 (by decide) (fun h74 => ?_) (fun h74 => ?_)
          · refine z_iconst dX7_begins_81 ?_
            refine pX7_98 (by first | (exact hr _ _ (by decide)) | omega) rfl dX7_begins_82 ?_
            refine z_rng fun hr => ?_
            refine z_iconst dX7_begins_85 ?_
            exact z_zret dX7_begins_86 (if_pos y_B).symm (by rw [if_pos y_B]; unfold z_rbf; simp only [z_sM_R, z_sR_R, z_sR_self]; first | (exfalso; omega) | rw [if_pos (by assumption)] | rw [if_neg (by assumption)]) (by first | decide | (split <;> simp))
          · refine z_iconst dX7_begins_77 ?_
            refine z_goto (tgt := 82) dX7_begins_78 (by decide) ?_
            refine pX7_98 (by first | (exact hr _ _ (by decide)) | omega) rfl dX7_begins_82 ?_
            refine z_rng fun hr => ?_
            refine z_iconst dX7_begins_85 ?_
            exact z_zret dX7_begins_86 (if_pos y_B).symm (by rw [if_pos y_B]; unfold z_rbf; simp only [z_sM_R, z_sR_R, z_sR_self]; first | (exfalso; omega) | rw [if_pos (by assumption)] | rw [if_neg (by assumption)]) (by first | decide | (split <;> simp))
        · refine z_aloadn dX7_begins_33 rfl ?_
          refine z_iconst dX7_begins_34 ?_
          refine kX7_89 (tX7_isUsed (by omega) (by omega) (by omega)) rfl ⟨(Nat.le_of_ble_eq_true rfl), (Nat.le_of_ble_eq_true rfl)⟩ (Nat.le_of_ble_eq_true rfl) dX7_begins_35 ?_
          refine z_ifb_eq (tgt := 61) dX7_begins_38 (by decide) (fun h38 => ?_) (fun h38 => ?_)
          · have y_B : z_rbB (M 21) c := by unfold z_rbB z_us at *; omega
            refine z_aloadn dX7_begins_61 rfl ?_
            refine z_iloadn dX7_begins_62 rfl ?_
            refine pX7_92 (by first | (exact hr _ _ (by decide)) | omega) rfl dX7_begins_63 ?_
            refine z_rng fun hr => ?_
            refine z_aloadn dX7_begins_66 rfl ?_
            refine z_iconst dX7_begins_67 ?_
            refine pX7_95 (by first | (exact hr _ _ (by decide)) | omega) rfl dX7_begins_68 ?_
            refine z_rng fun hr => ?_
            refine z_aloadn dX7_begins_71 rfl ?_
            refine z_iloadn dX7_begins_72 rfl ?_
            refine z_iconst dX7_begins_73 ?_
            refine z_icmp_ne (tgt := 81) (by first | (exact hr _ _ (by decide)) | omega) (by first | (exact hr _ _ (by decide)) | omega) dX7_begins_74 (by decide) (fun h74 => ?_) (fun h74 => ?_)
            · refine z_iconst dX7_begins_81 ?_
              refine pX7_98 (by first | (exact hr _ _ (by decide)) | omega) rfl dX7_begins_82 ?_
              refine z_rng fun hr => ?_
              refine z_iconst dX7_begins_85 ?_
              exact z_zret dX7_begins_86 (if_pos y_B).symm (by rw [if_pos y_B]; unfold z_rbf; simp only [z_sM_R, z_sR_R, z_sR_self]; first | (exfalso; omega) | rw [if_pos (by assumption)] | rw [if_neg (by assumption)]) (by first | decide | (split <;> simp))
            · refine z_iconst dX7_begins_77 ?_
              refine z_goto (tgt := 82) dX7_begins_78 (by decide) ?_
              refine pX7_98 (by first | (exact hr _ _ (by decide)) | omega) rfl dX7_begins_82 ?_
              refine z_rng fun hr => ?_
              refine z_iconst dX7_begins_85 ?_
              exact z_zret dX7_begins_86 (if_pos y_B).symm (by rw [if_pos y_B]; unfold z_rbf; simp only [z_sM_R, z_sR_R, z_sR_self]; first | (exfalso; omega) | rw [if_pos (by assumption)] | rw [if_neg (by assumption)]) (by first | decide | (split <;> simp))
          · refine z_aloadn dX7_begins_41 rfl ?_
            refine z_bipush dX7_begins_42 (by decide) ?_
            refine kX7_89 (tX7_isUsed (by omega) (by omega) (by omega)) rfl ⟨(Nat.le_of_ble_eq_true rfl), (Nat.le_of_ble_eq_true rfl)⟩ (Nat.le_of_ble_eq_true rfl) dX7_begins_44 ?_
            refine z_ifb_eq (tgt := 61) dX7_begins_47 (by decide) (fun h47 => ?_) (fun h47 => ?_)
            · have y_B : z_rbB (M 21) c := by unfold z_rbB z_us at *; omega
              refine z_aloadn dX7_begins_61 rfl ?_
              refine z_iloadn dX7_begins_62 rfl ?_
              refine pX7_92 (by first | (exact hr _ _ (by decide)) | omega) rfl dX7_begins_63 ?_
              refine z_rng fun hr => ?_
              refine z_aloadn dX7_begins_66 rfl ?_
              refine z_iconst dX7_begins_67 ?_
              refine pX7_95 (by first | (exact hr _ _ (by decide)) | omega) rfl dX7_begins_68 ?_
              refine z_rng fun hr => ?_
              refine z_aloadn dX7_begins_71 rfl ?_
              refine z_iloadn dX7_begins_72 rfl ?_
              refine z_iconst dX7_begins_73 ?_
              refine z_icmp_ne (tgt := 81) (by first | (exact hr _ _ (by decide)) | omega) (by first | (exact hr _ _ (by decide)) | omega) dX7_begins_74 (by decide) (fun h74 => ?_) (fun h74 => ?_)
              · refine z_iconst dX7_begins_81 ?_
                refine pX7_98 (by first | (exact hr _ _ (by decide)) | omega) rfl dX7_begins_82 ?_
                refine z_rng fun hr => ?_
                refine z_iconst dX7_begins_85 ?_
                exact z_zret dX7_begins_86 (if_pos y_B).symm (by rw [if_pos y_B]; unfold z_rbf; simp only [z_sM_R, z_sR_R, z_sR_self]; first | (exfalso; omega) | rw [if_pos (by assumption)] | rw [if_neg (by assumption)]) (by first | decide | (split <;> simp))
              · refine z_iconst dX7_begins_77 ?_
                refine z_goto (tgt := 82) dX7_begins_78 (by decide) ?_
                refine pX7_98 (by first | (exact hr _ _ (by decide)) | omega) rfl dX7_begins_82 ?_
                refine z_rng fun hr => ?_
                refine z_iconst dX7_begins_85 ?_
                exact z_zret dX7_begins_86 (if_pos y_B).symm (by rw [if_pos y_B]; unfold z_rbf; simp only [z_sM_R, z_sR_R, z_sR_self]; first | (exfalso; omega) | rw [if_pos (by assumption)] | rw [if_neg (by assumption)]) (by first | decide | (split <;> simp))
            · refine z_aloadn dX7_begins_50 rfl ?_
              refine z_bipush dX7_begins_51 (by decide) ?_
              refine kX7_89 (tX7_isUsed (by omega) (by omega) (by omega)) rfl ⟨(Nat.le_of_ble_eq_true rfl), (Nat.le_of_ble_eq_true rfl)⟩ (Nat.le_of_ble_eq_true rfl) dX7_begins_53 ?_
              refine z_ifb_eq (tgt := 61) dX7_begins_56 (by decide) (fun h56 => ?_) (fun h56 => ?_)
              · have y_B : z_rbB (M 21) c := by unfold z_rbB z_us at *; omega
                refine z_aloadn dX7_begins_61 rfl ?_
                refine z_iloadn dX7_begins_62 rfl ?_
                refine pX7_92 (by first | (exact hr _ _ (by decide)) | omega) rfl dX7_begins_63 ?_
                refine z_rng fun hr => ?_
                refine z_aloadn dX7_begins_66 rfl ?_
                refine z_iconst dX7_begins_67 ?_
                refine pX7_95 (by first | (exact hr _ _ (by decide)) | omega) rfl dX7_begins_68 ?_
                refine z_rng fun hr => ?_
                refine z_aloadn dX7_begins_71 rfl ?_
                refine z_iloadn dX7_begins_72 rfl ?_
                refine z_iconst dX7_begins_73 ?_
                refine z_icmp_ne (tgt := 81) (by first | (exact hr _ _ (by decide)) | omega) (by first | (exact hr _ _ (by decide)) | omega) dX7_begins_74 (by decide) (fun h74 => ?_) (fun h74 => ?_)
                · refine z_iconst dX7_begins_81 ?_
                  refine pX7_98 (by first | (exact hr _ _ (by decide)) | omega) rfl dX7_begins_82 ?_
                  refine z_rng fun hr => ?_
                  refine z_iconst dX7_begins_85 ?_
                  exact z_zret dX7_begins_86 (if_pos y_B).symm (by rw [if_pos y_B]; unfold z_rbf; simp only [z_sM_R, z_sR_R, z_sR_self]; first | (exfalso; omega) | rw [if_pos (by assumption)] | rw [if_neg (by assumption)]) (by first | decide | (split <;> simp))
                · refine z_iconst dX7_begins_77 ?_
                  refine z_goto (tgt := 82) dX7_begins_78 (by decide) ?_
                  refine pX7_98 (by first | (exact hr _ _ (by decide)) | omega) rfl dX7_begins_82 ?_
                  refine z_rng fun hr => ?_
                  refine z_iconst dX7_begins_85 ?_
                  exact z_zret dX7_begins_86 (if_pos y_B).symm (by rw [if_pos y_B]; unfold z_rbf; simp only [z_sM_R, z_sR_R, z_sR_self]; first | (exfalso; omega) | rw [if_pos (by assumption)] | rw [if_neg (by assumption)]) (by first | decide | (split <;> simp))
              · have y_B : ¬ z_rbB (M 21) c := by unfold z_rbB z_us at *; omega
                refine z_iconst dX7_begins_59 ?_
                exact z_zret dX7_begins_60 (if_neg y_B).symm (if_neg y_B).symm (by first | decide | (split <;> simp))
theorem tX7_isOver {G : z_G} {M : z_M} (hp : z_PF (M 21) (M 26)) : KX7_isOver G [.ref (z_ad G 0 40)] M (.inl (some (z_I (if z_ovr (M 21) then 1 else 0)))) M := by
  refine z_con (ls := [some (.ref (z_ad G 0 40))]) (by decide +kernel) (Nat.le_of_ble_eq_true rfl) rfl ?_
  intro Z htb
  refine z_rng fun hr => ?_
  have y_p := hp
  unfold z_PF at y_p
  obtain ⟨y_1, y_2, y_3, y_4, y_5, y_6, y_7, y_8, y_9⟩ := y_p
  refine z_aloadn dX7_isOver_0 rfl ?_
  refine gX7_98 rfl dX7_isOver_1 ?_
  refine z_iconst dX7_isOver_4 ?_
  refine z_icmp_eq (tgt := 32) (by first | (exact hr _ _ (by decide)) | omega) (by first | (exact hr _ _ (by decide)) | omega) dX7_isOver_5 (by decide) (fun h5 => ?_) (fun h5 => ?_)
  · refine z_iconst dX7_isOver_32 ?_
    refine z_goto (tgt := 37) dX7_isOver_33 (by decide) ?_
    exact z_zret dX7_isOver_37 (by split <;> (unfold z_ovr z_us at *; omega)) rfl (by first | decide | (split <;> simp))
  · refine z_aloadn dX7_isOver_8 rfl ?_
    refine gX7_98 rfl dX7_isOver_9 ?_
    refine z_iconst dX7_isOver_12 ?_
    refine z_icmp_eq (tgt := 32) (by first | (exact hr _ _ (by decide)) | omega) (by first | (exact hr _ _ (by decide)) | omega) dX7_isOver_13 (by decide) (fun h13 => ?_) (fun h13 => ?_)
    · refine z_iconst dX7_isOver_32 ?_
      refine z_goto (tgt := 37) dX7_isOver_33 (by decide) ?_
      exact z_zret dX7_isOver_37 (by split <;> (unfold z_ovr z_us at *; omega)) rfl (by first | decide | (split <;> simp))
    · refine z_aloadn dX7_isOver_16 rfl ?_
      refine gX7_98 rfl dX7_isOver_17 ?_
      refine z_iconst dX7_isOver_20 ?_
      refine z_icmp_ne (tgt := 36) (by first | (exact hr _ _ (by decide)) | omega) (by first | (exact hr _ _ (by decide)) | omega) dX7_isOver_21 (by decide) (fun h21 => ?_) (fun h21 => ?_)
      · refine z_iconst dX7_isOver_36 ?_
        exact z_zret dX7_isOver_37 (by split <;> (unfold z_ovr z_us at *; omega)) rfl (by first | decide | (split <;> simp))
      · refine z_aloadn dX7_isOver_24 rfl ?_
        refine z_iconst dX7_isOver_25 ?_
        refine kX7_89 (tX7_isUsed (by omega) (by omega) (by omega)) rfl ⟨(Nat.le_of_ble_eq_true rfl), (Nat.le_of_ble_eq_true rfl)⟩ (Nat.le_of_ble_eq_true rfl) dX7_isOver_26 ?_
        refine z_ifb_ne (tgt := 36) dX7_isOver_29 (by decide) (fun h29 => ?_) (fun h29 => ?_)
        · refine z_iconst dX7_isOver_36 ?_
          exact z_zret dX7_isOver_37 (by split <;> (unfold z_ovr z_us at *; omega)) rfl (by first | decide | (split <;> simp))
        · refine z_iconst dX7_isOver_32 ?_
          refine z_goto (tgt := 37) dX7_isOver_33 (by decide) ?_
          exact z_zret dX7_isOver_37 (by split <;> (unfold z_ovr z_us at *; omega)) rfl (by first | decide | (split <;> simp))
theorem tX7_ends {G : z_G} {M : z_M} (hp : z_PF (M 21) (M 26)) (s0 : M 21 5 ≠ 0) (s3 : M 21 5 ≠ 3) : KX7_ends G [.ref (z_ad G 0 40)] M (.inl none) (z_t2 M (z_endf (M 21)) (z_endr (M 21) (M 26))) := by
  refine z_con (ls := [some (.ref (z_ad G 0 40))]) (by decide +kernel) (Nat.le_of_ble_eq_true rfl) rfl ?_
  intro Z htb
  refine z_rng fun hr => ?_
  have y_p := hp
  unfold z_PF at y_p
  obtain ⟨y_1, y_2, y_3, y_4, y_5, y_6, y_7, y_8, y_9⟩ := y_p
  have y_a := y_8 s0
  have y_b := y_a.2.2 s3
  have y_c := z_bor_nn (M 21 7) (M 21 8)
  have y_d : z_bor (M 21 7) (M 21 8) < 4096 := z_bor_lt (n := 12) y_5 y_6 (by omega) (by omega)
  refine z_aloadn dX7_ends_0 rfl ?_
  refine gX7_22 rfl dX7_ends_1 ?_
  refine z_aloadn dX7_ends_4 rfl ?_
  refine gX7_92 rfl dX7_ends_5 ?_
  refine z_aloadn dX7_ends_8 rfl ?_
  refine gX7_95 rfl dX7_ends_9 ?_
  refine z_iast (by rfl) (by first | decide | exact Or.inl ⟨by decide, hg⟩) (by omega) (by omega) (by decide) (by first | (exact hr _ _ (by decide)) | omega) dX7_ends_12 ?_
  refine z_rng fun hr => ?_
  refine z_mem (M' := z_t2 M (M 21) (z_uf (M 26) (M 21 8) (M 21 9))) (z_t2_s6 _ _ _) ?_
  generalize y_M : z_t2 M (M 21) (z_uf (M 26) (M 21 8) (M 21 9)) = M1
  have y_e : M1 21 = M 21 := by rw [← y_M]; exact z_t2_21 _ _ _
  rw [← y_e] at y_1 y_2 y_3 y_4 y_5 y_6 y_a y_b y_c y_d
  refine z_aloadn dX7_ends_13 rfl ?_
  refine z_dup dX7_ends_14 rfl ?_
  refine gX7_86 rfl dX7_ends_15 ?_
  refine z_iconst dX7_ends_18 ?_
  refine z_aloadn dX7_ends_19 rfl ?_
  refine gX7_92 rfl dX7_ends_20 ?_
  refine z_ishl (z_bshl (by omega) (by omega)) dX7_ends_23 ?_
  refine z_ior (z_bori (by omega)) dX7_ends_24 ?_
  refine pX7_86 (by omega) rfl dX7_ends_25 ?_
  refine z_rng fun hr => ?_
  refine z_aloadn dX7_ends_28 rfl ?_
  refine z_dup dX7_ends_29 rfl ?_
  refine gX7_101 rfl dX7_ends_30 ?_
  refine z_top (v' := M1 21 6) (z_sM_ne _ _ _ (by decide)) ?_
  refine z_iconst dX7_ends_33 ?_
  refine z_iadd dX7_ends_34 ?_
  refine pX7_101 (by omega) rfl dX7_ends_35 ?_
  refine z_rng fun hr => ?_
  exact z_vret dX7_ends_38 (by rw [← y_M]; simp only [z_t2_sM, z_t2_21]; rfl)
theorem tX7_goesOn {G : z_G} {M : z_M} {c : Int} (hp : z_PF (M 21) (M 26)) (c0 : 33 ≤ c) (c1 : c ≤ 126) (s0 : M 21 5 ≠ 0) (s3 : M 21 5 ≠ 3) : KX7_goesOn G [.ref (z_ad G 0 40), z_I c] M (.inl (some (z_I (if z_ten (M 21) c ∨ z_str (M 21) c ∨ z_com (M 21) c then 1 else 0)))) (z_t2 M (z_tf (M 21) c) (z_tr (M 21) (M 26) c)) := by
  refine z_con (ls := [some (.ref (z_ad G 0 40)), some (z_I c), none, none]) (by decide +kernel) (Nat.le_of_ble_eq_true rfl) rfl ?_
  intro Z htb
  refine z_rng fun hr => ?_
  have y_p := hp
  unfold z_PF at y_p
  obtain ⟨y_1, y_2, y_3, y_4, y_5, y_6, y_7, y_8, y_9⟩ := y_p
  refine z_aloadn dX7_goesOn_0 rfl ?_
  refine gX7_98 rfl dX7_goesOn_1 ?_
  refine z_iconst dX7_goesOn_4 ?_
  refine z_icmp_ne (tgt := 38) (by first | (exact hr _ _ (by decide)) | omega) (by first | (exact hr _ _ (by decide)) | omega) dX7_goesOn_5 (by decide) (fun h5 => ?_) (fun h5 => ?_)
  · refine z_iconst dX7_goesOn_38 ?_
    refine z_istoren_2 dX7_goesOn_39 (Nat.le_of_ble_eq_true rfl) rfl ?_
    refine z_iloadn dX7_goesOn_40 rfl ?_
    refine z_if_eq (tgt := 62) (by first | (exact hr _ _ (by decide)) | omega) dX7_goesOn_41 (by decide) (fun h41 => ?_) (fun h41 => ?_)
    · have y_T : ¬ z_ten (M 21) c := by unfold z_ten z_us at *; omega
      refine z_iloadn dX7_goesOn_62 rfl ?_
      refine z_bipush dX7_goesOn_63 (by decide) ?_
      refine z_icmp_ne (tgt := 90) (by first | (exact hr _ _ (by decide)) | omega) (by first | (exact hr _ _ (by decide)) | omega) dX7_goesOn_65 (by decide) (fun h65 => ?_) (fun h65 => ?_)
      · have y_S : ¬ z_str (M 21) c := by unfold z_str z_ovr z_us at *; omega
        refine z_iloadn dX7_goesOn_90 rfl ?_
        refine z_bipush dX7_goesOn_91 (by decide) ?_
        refine z_icmp_ne (tgt := 117) (by first | (exact hr _ _ (by decide)) | omega) (by first | (exact hr _ _ (by decide)) | omega) dX7_goesOn_93 (by decide) (fun h93 => ?_) (fun h93 => ?_)
        · refine z_iconst dX7_goesOn_117 ?_
          refine z_istoren_3 dX7_goesOn_118 (Nat.le_of_ble_eq_true rfl) rfl ?_
          refine z_iloadn dX7_goesOn_119 rfl ?_
          refine z_if_eq (tgt := 132) (by first | (exact hr _ _ (by decide)) | omega) dX7_goesOn_120 (by decide) (fun h120 => ?_) (fun h120 => ?_)
          · refine z_iloadn dX7_goesOn_132 rfl ?_
            exact z_zret dX7_goesOn_133 (by first | exact (if_pos (Or.inr (Or.inr y_C))).symm | (rw [if_neg]; unfold z_ten z_str z_com z_ovr z_us at *; omega)) (by first | exact z_g4 s0 s3 y_T y_S y_C | exact z_g5 s0 s3 y_T y_S (by unfold z_com z_ovr z_us at *; omega)) (by first | decide | (split <;> simp))
          · exact absurd h120 (by decide)
        · refine z_aloadn dX7_goesOn_96 rfl ?_
          refine kX7_104 (tX7_isOver hp) rfl ⟨(Nat.le_of_ble_eq_true rfl), (Nat.le_of_ble_eq_true rfl)⟩ (Nat.le_of_ble_eq_true rfl) dX7_goesOn_97 ?_
          refine z_ifb_eq (tgt := 117) dX7_goesOn_100 (by decide) (fun h100 => ?_) (fun h100 => ?_)
          · refine z_iconst dX7_goesOn_117 ?_
            refine z_istoren_3 dX7_goesOn_118 (Nat.le_of_ble_eq_true rfl) rfl ?_
            refine z_iloadn dX7_goesOn_119 rfl ?_
            refine z_if_eq (tgt := 132) (by first | (exact hr _ _ (by decide)) | omega) dX7_goesOn_120 (by decide) (fun h120 => ?_) (fun h120 => ?_)
            · refine z_iloadn dX7_goesOn_132 rfl ?_
              exact z_zret dX7_goesOn_133 (by first | exact (if_pos (Or.inr (Or.inr y_C))).symm | (rw [if_neg]; unfold z_ten z_str z_com z_ovr z_us at *; omega)) (by first | exact z_g4 s0 s3 y_T y_S y_C | exact z_g5 s0 s3 y_T y_S (by unfold z_com z_ovr z_us at *; omega)) (by first | decide | (split <;> simp))
            · exact absurd h120 (by decide)
          · refine z_aloadn dX7_goesOn_103 rfl ?_
            refine gX7_101 rfl dX7_goesOn_104 ?_
            refine z_iconst dX7_goesOn_107 ?_
            refine z_iadd dX7_goesOn_108 ?_
            refine z_iconst dX7_goesOn_109 ?_
            refine z_icmp_ge (tgt := 117) (by first | (exact hr _ _ (by decide)) | omega) (by first | (exact hr _ _ (by decide)) | omega) dX7_goesOn_110 (by decide) (fun h110 => ?_) (fun h110 => ?_)
            · refine z_iconst dX7_goesOn_117 ?_
              refine z_istoren_3 dX7_goesOn_118 (Nat.le_of_ble_eq_true rfl) rfl ?_
              refine z_iloadn dX7_goesOn_119 rfl ?_
              refine z_if_eq (tgt := 132) (by first | (exact hr _ _ (by decide)) | omega) dX7_goesOn_120 (by decide) (fun h120 => ?_) (fun h120 => ?_)
              · refine z_iloadn dX7_goesOn_132 rfl ?_
                exact z_zret dX7_goesOn_133 (by first | exact (if_pos (Or.inr (Or.inr y_C))).symm | (rw [if_neg]; unfold z_ten z_str z_com z_ovr z_us at *; omega)) (by first | exact z_g4 s0 s3 y_T y_S y_C | exact z_g5 s0 s3 y_T y_S (by unfold z_com z_ovr z_us at *; omega)) (by first | decide | (split <;> simp))
              · exact absurd h120 (by decide)
            · refine z_iconst dX7_goesOn_113 ?_
              refine z_goto (tgt := 118) dX7_goesOn_114 (by decide) ?_
              refine z_istoren_3 dX7_goesOn_118 (Nat.le_of_ble_eq_true rfl) rfl ?_
              refine z_iloadn dX7_goesOn_119 rfl ?_
              refine z_if_eq (tgt := 132) (by first | (exact hr _ _ (by decide)) | omega) dX7_goesOn_120 (by decide) (fun h120 => ?_) (fun h120 => ?_)
              · exact absurd h120 (by decide)
              · have y_C : z_com (M 21) c := by unfold z_com z_ovr z_us at *; omega
                refine z_aloadn dX7_goesOn_123 rfl ?_
                refine kX7_108 (tX7_ends hp (by omega) (by omega)) rfl ⟨(Nat.le_of_ble_eq_true rfl), (Nat.le_of_ble_eq_true rfl)⟩ (Nat.le_of_ble_eq_true rfl) dX7_goesOn_124 ?_
                refine z_rng fun hr => ?_
                refine z_aloadn dX7_goesOn_127 rfl ?_
                refine z_iconst dX7_goesOn_128 ?_
                refine pX7_98 (by first | (exact hr _ _ (by decide)) | omega) rfl dX7_goesOn_129 ?_
                refine z_rng fun hr => ?_
                refine z_iloadn dX7_goesOn_132 rfl ?_
                exact z_zret dX7_goesOn_133 (by first | exact (if_pos (Or.inr (Or.inr y_C))).symm | (rw [if_neg]; unfold z_ten z_str z_com z_ovr z_us at *; omega)) (by first | exact z_g4 s0 s3 y_T y_S y_C | exact z_g5 s0 s3 y_T y_S (by unfold z_com z_ovr z_us at *; omega)) (by first | decide | (split <;> simp))
      · refine z_aloadn dX7_goesOn_68 rfl ?_
        refine gX7_98 rfl dX7_goesOn_69 ?_
        refine z_iconst dX7_goesOn_72 ?_
        refine z_icmp_ge (tgt := 90) (by first | (exact hr _ _ (by decide)) | omega) (by first | (exact hr _ _ (by decide)) | omega) dX7_goesOn_73 (by decide) (fun h73 => ?_) (fun h73 => ?_)
        · have y_S : ¬ z_str (M 21) c := by unfold z_str z_ovr z_us at *; omega
          refine z_iloadn dX7_goesOn_90 rfl ?_
          refine z_bipush dX7_goesOn_91 (by decide) ?_
          refine z_icmp_ne (tgt := 117) (by first | (exact hr _ _ (by decide)) | omega) (by first | (exact hr _ _ (by decide)) | omega) dX7_goesOn_93 (by decide) (fun h93 => ?_) (fun h93 => ?_)
          · refine z_iconst dX7_goesOn_117 ?_
            refine z_istoren_3 dX7_goesOn_118 (Nat.le_of_ble_eq_true rfl) rfl ?_
            refine z_iloadn dX7_goesOn_119 rfl ?_
            refine z_if_eq (tgt := 132) (by first | (exact hr _ _ (by decide)) | omega) dX7_goesOn_120 (by decide) (fun h120 => ?_) (fun h120 => ?_)
            · refine z_iloadn dX7_goesOn_132 rfl ?_
              exact z_zret dX7_goesOn_133 (by first | exact (if_pos (Or.inr (Or.inr y_C))).symm | (rw [if_neg]; unfold z_ten z_str z_com z_ovr z_us at *; omega)) (by first | exact z_g4 s0 s3 y_T y_S y_C | exact z_g5 s0 s3 y_T y_S (by unfold z_com z_ovr z_us at *; omega)) (by first | decide | (split <;> simp))
            · exact absurd h120 (by decide)
          · refine z_aloadn dX7_goesOn_96 rfl ?_
            refine kX7_104 (tX7_isOver hp) rfl ⟨(Nat.le_of_ble_eq_true rfl), (Nat.le_of_ble_eq_true rfl)⟩ (Nat.le_of_ble_eq_true rfl) dX7_goesOn_97 ?_
            refine z_ifb_eq (tgt := 117) dX7_goesOn_100 (by decide) (fun h100 => ?_) (fun h100 => ?_)
            · refine z_iconst dX7_goesOn_117 ?_
              refine z_istoren_3 dX7_goesOn_118 (Nat.le_of_ble_eq_true rfl) rfl ?_
              refine z_iloadn dX7_goesOn_119 rfl ?_
              refine z_if_eq (tgt := 132) (by first | (exact hr _ _ (by decide)) | omega) dX7_goesOn_120 (by decide) (fun h120 => ?_) (fun h120 => ?_)
              · refine z_iloadn dX7_goesOn_132 rfl ?_
                exact z_zret dX7_goesOn_133 (by first | exact (if_pos (Or.inr (Or.inr y_C))).symm | (rw [if_neg]; unfold z_ten z_str z_com z_ovr z_us at *; omega)) (by first | exact z_g4 s0 s3 y_T y_S y_C | exact z_g5 s0 s3 y_T y_S (by unfold z_com z_ovr z_us at *; omega)) (by first | decide | (split <;> simp))
              · exact absurd h120 (by decide)
            · refine z_aloadn dX7_goesOn_103 rfl ?_
              refine gX7_101 rfl dX7_goesOn_104 ?_
              refine z_iconst dX7_goesOn_107 ?_
              refine z_iadd dX7_goesOn_108 ?_
              refine z_iconst dX7_goesOn_109 ?_
              refine z_icmp_ge (tgt := 117) (by first | (exact hr _ _ (by decide)) | omega) (by first | (exact hr _ _ (by decide)) | omega) dX7_goesOn_110 (by decide) (fun h110 => ?_) (fun h110 => ?_)
              · refine z_iconst dX7_goesOn_117 ?_
                refine z_istoren_3 dX7_goesOn_118 (Nat.le_of_ble_eq_true rfl) rfl ?_
                refine z_iloadn dX7_goesOn_119 rfl ?_
                refine z_if_eq (tgt := 132) (by first | (exact hr _ _ (by decide)) | omega) dX7_goesOn_120 (by decide) (fun h120 => ?_) (fun h120 => ?_)
                · refine z_iloadn dX7_goesOn_132 rfl ?_
                  exact z_zret dX7_goesOn_133 (by first | exact (if_pos (Or.inr (Or.inr y_C))).symm | (rw [if_neg]; unfold z_ten z_str z_com z_ovr z_us at *; omega)) (by first | exact z_g4 s0 s3 y_T y_S y_C | exact z_g5 s0 s3 y_T y_S (by unfold z_com z_ovr z_us at *; omega)) (by first | decide | (split <;> simp))
                · exact absurd h120 (by decide)
              · refine z_iconst dX7_goesOn_113 ?_
                refine z_goto (tgt := 118) dX7_goesOn_114 (by decide) ?_
                refine z_istoren_3 dX7_goesOn_118 (Nat.le_of_ble_eq_true rfl) rfl ?_
                refine z_iloadn dX7_goesOn_119 rfl ?_
                refine z_if_eq (tgt := 132) (by first | (exact hr _ _ (by decide)) | omega) dX7_goesOn_120 (by decide) (fun h120 => ?_) (fun h120 => ?_)
                · exact absurd h120 (by decide)
                · have y_C : z_com (M 21) c := by unfold z_com z_ovr z_us at *; omega
                  refine z_aloadn dX7_goesOn_123 rfl ?_
                  refine kX7_108 (tX7_ends hp (by omega) (by omega)) rfl ⟨(Nat.le_of_ble_eq_true rfl), (Nat.le_of_ble_eq_true rfl)⟩ (Nat.le_of_ble_eq_true rfl) dX7_goesOn_124 ?_
                  refine z_rng fun hr => ?_
                  refine z_aloadn dX7_goesOn_127 rfl ?_
                  refine z_iconst dX7_goesOn_128 ?_
                  refine pX7_98 (by first | (exact hr _ _ (by decide)) | omega) rfl dX7_goesOn_129 ?_
                  refine z_rng fun hr => ?_
                  refine z_iloadn dX7_goesOn_132 rfl ?_
                  exact z_zret dX7_goesOn_133 (by first | exact (if_pos (Or.inr (Or.inr y_C))).symm | (rw [if_neg]; unfold z_ten z_str z_com z_ovr z_us at *; omega)) (by first | exact z_g4 s0 s3 y_T y_S y_C | exact z_g5 s0 s3 y_T y_S (by unfold z_com z_ovr z_us at *; omega)) (by first | decide | (split <;> simp))
        · refine z_aloadn dX7_goesOn_76 rfl ?_
          refine kX7_104 (tX7_isOver hp) rfl ⟨(Nat.le_of_ble_eq_true rfl), (Nat.le_of_ble_eq_true rfl)⟩ (Nat.le_of_ble_eq_true rfl) dX7_goesOn_77 ?_
          refine z_ifb_eq (tgt := 90) dX7_goesOn_80 (by decide) (fun h80 => ?_) (fun h80 => ?_)
          · have y_S : ¬ z_str (M 21) c := by unfold z_str z_ovr z_us at *; omega
            refine z_iloadn dX7_goesOn_90 rfl ?_
            refine z_bipush dX7_goesOn_91 (by decide) ?_
            refine z_icmp_ne (tgt := 117) (by first | (exact hr _ _ (by decide)) | omega) (by first | (exact hr _ _ (by decide)) | omega) dX7_goesOn_93 (by decide) (fun h93 => ?_) (fun h93 => ?_)
            · refine z_iconst dX7_goesOn_117 ?_
              refine z_istoren_3 dX7_goesOn_118 (Nat.le_of_ble_eq_true rfl) rfl ?_
              refine z_iloadn dX7_goesOn_119 rfl ?_
              refine z_if_eq (tgt := 132) (by first | (exact hr _ _ (by decide)) | omega) dX7_goesOn_120 (by decide) (fun h120 => ?_) (fun h120 => ?_)
              · refine z_iloadn dX7_goesOn_132 rfl ?_
                exact z_zret dX7_goesOn_133 (by first | exact (if_pos (Or.inr (Or.inr y_C))).symm | (rw [if_neg]; unfold z_ten z_str z_com z_ovr z_us at *; omega)) (by first | exact z_g4 s0 s3 y_T y_S y_C | exact z_g5 s0 s3 y_T y_S (by unfold z_com z_ovr z_us at *; omega)) (by first | decide | (split <;> simp))
              · exact absurd h120 (by decide)
            · refine z_aloadn dX7_goesOn_96 rfl ?_
              refine kX7_104 (tX7_isOver hp) rfl ⟨(Nat.le_of_ble_eq_true rfl), (Nat.le_of_ble_eq_true rfl)⟩ (Nat.le_of_ble_eq_true rfl) dX7_goesOn_97 ?_
              refine z_ifb_eq (tgt := 117) dX7_goesOn_100 (by decide) (fun h100 => ?_) (fun h100 => ?_)
              · refine z_iconst dX7_goesOn_117 ?_
                refine z_istoren_3 dX7_goesOn_118 (Nat.le_of_ble_eq_true rfl) rfl ?_
                refine z_iloadn dX7_goesOn_119 rfl ?_
                refine z_if_eq (tgt := 132) (by first | (exact hr _ _ (by decide)) | omega) dX7_goesOn_120 (by decide) (fun h120 => ?_) (fun h120 => ?_)
                · refine z_iloadn dX7_goesOn_132 rfl ?_
                  exact z_zret dX7_goesOn_133 (by first | exact (if_pos (Or.inr (Or.inr y_C))).symm | (rw [if_neg]; unfold z_ten z_str z_com z_ovr z_us at *; omega)) (by first | exact z_g4 s0 s3 y_T y_S y_C | exact z_g5 s0 s3 y_T y_S (by unfold z_com z_ovr z_us at *; omega)) (by first | decide | (split <;> simp))
                · exact absurd h120 (by decide)
              · refine z_aloadn dX7_goesOn_103 rfl ?_
                refine gX7_101 rfl dX7_goesOn_104 ?_
                refine z_iconst dX7_goesOn_107 ?_
                refine z_iadd dX7_goesOn_108 ?_
                refine z_iconst dX7_goesOn_109 ?_
                refine z_icmp_ge (tgt := 117) (by first | (exact hr _ _ (by decide)) | omega) (by first | (exact hr _ _ (by decide)) | omega) dX7_goesOn_110 (by decide) (fun h110 => ?_) (fun h110 => ?_)
                · refine z_iconst dX7_goesOn_117 ?_
                  refine z_istoren_3 dX7_goesOn_118 (Nat.le_of_ble_eq_true rfl) rfl ?_
                  refine z_iloadn dX7_goesOn_119 rfl ?_
                  refine z_if_eq (tgt := 132) (by first | (exact hr _ _ (by decide)) | omega) dX7_goesOn_120 (by decide) (fun h120 => ?_) (fun h120 => ?_)
                  · refine z_iloadn dX7_goesOn_132 rfl ?_
                    exact z_zret dX7_goesOn_133 (by first | exact (if_pos (Or.inr (Or.inr y_C))).symm | (rw [if_neg]; unfold z_ten z_str z_com z_ovr z_us at *; omega)) (by first | exact z_g4 s0 s3 y_T y_S y_C | exact z_g5 s0 s3 y_T y_S (by unfold z_com z_ovr z_us at *; omega)) (by first | decide | (split <;> simp))
                  · exact absurd h120 (by decide)
                · refine z_iconst dX7_goesOn_113 ?_
                  refine z_goto (tgt := 118) dX7_goesOn_114 (by decide) ?_
                  refine z_istoren_3 dX7_goesOn_118 (Nat.le_of_ble_eq_true rfl) rfl ?_
                  refine z_iloadn dX7_goesOn_119 rfl ?_
                  refine z_if_eq (tgt := 132) (by first | (exact hr _ _ (by decide)) | omega) dX7_goesOn_120 (by decide) (fun h120 => ?_) (fun h120 => ?_)
                  · exact absurd h120 (by decide)
                  · have y_C : z_com (M 21) c := by unfold z_com z_ovr z_us at *; omega
                    refine z_aloadn dX7_goesOn_123 rfl ?_
                    refine kX7_108 (tX7_ends hp (by omega) (by omega)) rfl ⟨(Nat.le_of_ble_eq_true rfl), (Nat.le_of_ble_eq_true rfl)⟩ (Nat.le_of_ble_eq_true rfl) dX7_goesOn_124 ?_
                    refine z_rng fun hr => ?_
                    refine z_aloadn dX7_goesOn_127 rfl ?_
                    refine z_iconst dX7_goesOn_128 ?_
                    refine pX7_98 (by first | (exact hr _ _ (by decide)) | omega) rfl dX7_goesOn_129 ?_
                    refine z_rng fun hr => ?_
                    refine z_iloadn dX7_goesOn_132 rfl ?_
                    exact z_zret dX7_goesOn_133 (by first | exact (if_pos (Or.inr (Or.inr y_C))).symm | (rw [if_neg]; unfold z_ten z_str z_com z_ovr z_us at *; omega)) (by first | exact z_g4 s0 s3 y_T y_S y_C | exact z_g5 s0 s3 y_T y_S (by unfold z_com z_ovr z_us at *; omega)) (by first | decide | (split <;> simp))
          · have y_S : z_str (M 21) c := by unfold z_str z_ovr z_us at *; omega
            refine z_aloadn dX7_goesOn_83 rfl ?_
            refine z_iconst dX7_goesOn_84 ?_
            refine pX7_98 (by first | (exact hr _ _ (by decide)) | omega) rfl dX7_goesOn_85 ?_
            refine z_rng fun hr => ?_
            refine z_iconst dX7_goesOn_88 ?_
            exact z_zret dX7_goesOn_89 (if_pos (Or.inr (Or.inl y_S))).symm (z_g2 s0 s3 y_T y_S) (by first | decide | (split <;> simp))
    · exact absurd h41 (by decide)
  · refine z_iloadn dX7_goesOn_8 rfl ?_
    refine z_bipush dX7_goesOn_9 (by decide) ?_
    refine z_icmp_eq (tgt := 20) (by first | (exact hr _ _ (by decide)) | omega) (by first | (exact hr _ _ (by decide)) | omega) dX7_goesOn_11 (by decide) (fun h11 => ?_) (fun h11 => ?_)
    · refine z_aloadn dX7_goesOn_20 rfl ?_
      refine z_bipush dX7_goesOn_21 (by decide) ?_
      refine z_iloadn dX7_goesOn_23 rfl ?_
      refine z_iadd dX7_goesOn_24 ?_
      refine z_bipush dX7_goesOn_25 (by decide) ?_
      refine z_isub dX7_goesOn_27 ?_
      refine kX7_89 (tX7_isUsed (by omega) (by omega) (by omega)) rfl ⟨(Nat.le_of_ble_eq_true rfl), (Nat.le_of_ble_eq_true rfl)⟩ (Nat.le_of_ble_eq_true rfl) dX7_goesOn_28 ?_
      refine z_ifb_ne (tgt := 38) dX7_goesOn_31 (by decide) (fun h31 => ?_) (fun h31 => ?_)
      · refine z_iconst dX7_goesOn_38 ?_
        refine z_istoren_2 dX7_goesOn_39 (Nat.le_of_ble_eq_true rfl) rfl ?_
        refine z_iloadn dX7_goesOn_40 rfl ?_
        refine z_if_eq (tgt := 62) (by first | (exact hr _ _ (by decide)) | omega) dX7_goesOn_41 (by decide) (fun h41 => ?_) (fun h41 => ?_)
        · have y_T : ¬ z_ten (M 21) c := by unfold z_ten z_us at *; omega
          refine z_iloadn dX7_goesOn_62 rfl ?_
          refine z_bipush dX7_goesOn_63 (by decide) ?_
          refine z_icmp_ne (tgt := 90) (by first | (exact hr _ _ (by decide)) | omega) (by first | (exact hr _ _ (by decide)) | omega) dX7_goesOn_65 (by decide) (fun h65 => ?_) (fun h65 => ?_)
          · have y_S : ¬ z_str (M 21) c := by unfold z_str z_ovr z_us at *; omega
            refine z_iloadn dX7_goesOn_90 rfl ?_
            refine z_bipush dX7_goesOn_91 (by decide) ?_
            refine z_icmp_ne (tgt := 117) (by first | (exact hr _ _ (by decide)) | omega) (by first | (exact hr _ _ (by decide)) | omega) dX7_goesOn_93 (by decide) (fun h93 => ?_) (fun h93 => ?_)
            · refine z_iconst dX7_goesOn_117 ?_
              refine z_istoren_3 dX7_goesOn_118 (Nat.le_of_ble_eq_true rfl) rfl ?_
              refine z_iloadn dX7_goesOn_119 rfl ?_
              refine z_if_eq (tgt := 132) (by first | (exact hr _ _ (by decide)) | omega) dX7_goesOn_120 (by decide) (fun h120 => ?_) (fun h120 => ?_)
              · refine z_iloadn dX7_goesOn_132 rfl ?_
                exact z_zret dX7_goesOn_133 (by first | exact (if_pos (Or.inr (Or.inr y_C))).symm | (rw [if_neg]; unfold z_ten z_str z_com z_ovr z_us at *; omega)) (by first | exact z_g4 s0 s3 y_T y_S y_C | exact z_g5 s0 s3 y_T y_S (by unfold z_com z_ovr z_us at *; omega)) (by first | decide | (split <;> simp))
              · exact absurd h120 (by decide)
            · refine z_aloadn dX7_goesOn_96 rfl ?_
              refine kX7_104 (tX7_isOver hp) rfl ⟨(Nat.le_of_ble_eq_true rfl), (Nat.le_of_ble_eq_true rfl)⟩ (Nat.le_of_ble_eq_true rfl) dX7_goesOn_97 ?_
              refine z_ifb_eq (tgt := 117) dX7_goesOn_100 (by decide) (fun h100 => ?_) (fun h100 => ?_)
              · refine z_iconst dX7_goesOn_117 ?_
                refine z_istoren_3 dX7_goesOn_118 (Nat.le_of_ble_eq_true rfl) rfl ?_
                refine z_iloadn dX7_goesOn_119 rfl ?_
                refine z_if_eq (tgt := 132) (by first | (exact hr _ _ (by decide)) | omega) dX7_goesOn_120 (by decide) (fun h120 => ?_) (fun h120 => ?_)
                · refine z_iloadn dX7_goesOn_132 rfl ?_
                  exact z_zret dX7_goesOn_133 (by first | exact (if_pos (Or.inr (Or.inr y_C))).symm | (rw [if_neg]; unfold z_ten z_str z_com z_ovr z_us at *; omega)) (by first | exact z_g4 s0 s3 y_T y_S y_C | exact z_g5 s0 s3 y_T y_S (by unfold z_com z_ovr z_us at *; omega)) (by first | decide | (split <;> simp))
                · exact absurd h120 (by decide)
              · refine z_aloadn dX7_goesOn_103 rfl ?_
                refine gX7_101 rfl dX7_goesOn_104 ?_
                refine z_iconst dX7_goesOn_107 ?_
                refine z_iadd dX7_goesOn_108 ?_
                refine z_iconst dX7_goesOn_109 ?_
                refine z_icmp_ge (tgt := 117) (by first | (exact hr _ _ (by decide)) | omega) (by first | (exact hr _ _ (by decide)) | omega) dX7_goesOn_110 (by decide) (fun h110 => ?_) (fun h110 => ?_)
                · refine z_iconst dX7_goesOn_117 ?_
                  refine z_istoren_3 dX7_goesOn_118 (Nat.le_of_ble_eq_true rfl) rfl ?_
                  refine z_iloadn dX7_goesOn_119 rfl ?_
                  refine z_if_eq (tgt := 132) (by first | (exact hr _ _ (by decide)) | omega) dX7_goesOn_120 (by decide) (fun h120 => ?_) (fun h120 => ?_)
                  · refine z_iloadn dX7_goesOn_132 rfl ?_
                    exact z_zret dX7_goesOn_133 (by first | exact (if_pos (Or.inr (Or.inr y_C))).symm | (rw [if_neg]; unfold z_ten z_str z_com z_ovr z_us at *; omega)) (by first | exact z_g4 s0 s3 y_T y_S y_C | exact z_g5 s0 s3 y_T y_S (by unfold z_com z_ovr z_us at *; omega)) (by first | decide | (split <;> simp))
                  · exact absurd h120 (by decide)
                · refine z_iconst dX7_goesOn_113 ?_
                  refine z_goto (tgt := 118) dX7_goesOn_114 (by decide) ?_
                  refine z_istoren_3 dX7_goesOn_118 (Nat.le_of_ble_eq_true rfl) rfl ?_
                  refine z_iloadn dX7_goesOn_119 rfl ?_
                  refine z_if_eq (tgt := 132) (by first | (exact hr _ _ (by decide)) | omega) dX7_goesOn_120 (by decide) (fun h120 => ?_) (fun h120 => ?_)
                  · exact absurd h120 (by decide)
                  · have y_C : z_com (M 21) c := by unfold z_com z_ovr z_us at *; omega
                    refine z_aloadn dX7_goesOn_123 rfl ?_
                    refine kX7_108 (tX7_ends hp (by omega) (by omega)) rfl ⟨(Nat.le_of_ble_eq_true rfl), (Nat.le_of_ble_eq_true rfl)⟩ (Nat.le_of_ble_eq_true rfl) dX7_goesOn_124 ?_
                    refine z_rng fun hr => ?_
                    refine z_aloadn dX7_goesOn_127 rfl ?_
                    refine z_iconst dX7_goesOn_128 ?_
                    refine pX7_98 (by first | (exact hr _ _ (by decide)) | omega) rfl dX7_goesOn_129 ?_
                    refine z_rng fun hr => ?_
                    refine z_iloadn dX7_goesOn_132 rfl ?_
                    exact z_zret dX7_goesOn_133 (by first | exact (if_pos (Or.inr (Or.inr y_C))).symm | (rw [if_neg]; unfold z_ten z_str z_com z_ovr z_us at *; omega)) (by first | exact z_g4 s0 s3 y_T y_S y_C | exact z_g5 s0 s3 y_T y_S (by unfold z_com z_ovr z_us at *; omega)) (by first | decide | (split <;> simp))
          · refine z_aloadn dX7_goesOn_68 rfl ?_
            refine gX7_98 rfl dX7_goesOn_69 ?_
            refine z_iconst dX7_goesOn_72 ?_
            refine z_icmp_ge (tgt := 90) (by first | (exact hr _ _ (by decide)) | omega) (by first | (exact hr _ _ (by decide)) | omega) dX7_goesOn_73 (by decide) (fun h73 => ?_) (fun h73 => ?_)
            · have y_S : ¬ z_str (M 21) c := by unfold z_str z_ovr z_us at *; omega
              refine z_iloadn dX7_goesOn_90 rfl ?_
              refine z_bipush dX7_goesOn_91 (by decide) ?_
              refine z_icmp_ne (tgt := 117) (by first | (exact hr _ _ (by decide)) | omega) (by first | (exact hr _ _ (by decide)) | omega) dX7_goesOn_93 (by decide) (fun h93 => ?_) (fun h93 => ?_)
              · refine z_iconst dX7_goesOn_117 ?_
                refine z_istoren_3 dX7_goesOn_118 (Nat.le_of_ble_eq_true rfl) rfl ?_
                refine z_iloadn dX7_goesOn_119 rfl ?_
                refine z_if_eq (tgt := 132) (by first | (exact hr _ _ (by decide)) | omega) dX7_goesOn_120 (by decide) (fun h120 => ?_) (fun h120 => ?_)
                · refine z_iloadn dX7_goesOn_132 rfl ?_
                  exact z_zret dX7_goesOn_133 (by first | exact (if_pos (Or.inr (Or.inr y_C))).symm | (rw [if_neg]; unfold z_ten z_str z_com z_ovr z_us at *; omega)) (by first | exact z_g4 s0 s3 y_T y_S y_C | exact z_g5 s0 s3 y_T y_S (by unfold z_com z_ovr z_us at *; omega)) (by first | decide | (split <;> simp))
                · exact absurd h120 (by decide)
              · refine z_aloadn dX7_goesOn_96 rfl ?_
                refine kX7_104 (tX7_isOver hp) rfl ⟨(Nat.le_of_ble_eq_true rfl), (Nat.le_of_ble_eq_true rfl)⟩ (Nat.le_of_ble_eq_true rfl) dX7_goesOn_97 ?_
                refine z_ifb_eq (tgt := 117) dX7_goesOn_100 (by decide) (fun h100 => ?_) (fun h100 => ?_)
                · refine z_iconst dX7_goesOn_117 ?_
                  refine z_istoren_3 dX7_goesOn_118 (Nat.le_of_ble_eq_true rfl) rfl ?_
                  refine z_iloadn dX7_goesOn_119 rfl ?_
                  refine z_if_eq (tgt := 132) (by first | (exact hr _ _ (by decide)) | omega) dX7_goesOn_120 (by decide) (fun h120 => ?_) (fun h120 => ?_)
                  · refine z_iloadn dX7_goesOn_132 rfl ?_
                    exact z_zret dX7_goesOn_133 (by first | exact (if_pos (Or.inr (Or.inr y_C))).symm | (rw [if_neg]; unfold z_ten z_str z_com z_ovr z_us at *; omega)) (by first | exact z_g4 s0 s3 y_T y_S y_C | exact z_g5 s0 s3 y_T y_S (by unfold z_com z_ovr z_us at *; omega)) (by first | decide | (split <;> simp))
                  · exact absurd h120 (by decide)
                · refine z_aloadn dX7_goesOn_103 rfl ?_
                  refine gX7_101 rfl dX7_goesOn_104 ?_
                  refine z_iconst dX7_goesOn_107 ?_
                  refine z_iadd dX7_goesOn_108 ?_
                  refine z_iconst dX7_goesOn_109 ?_
                  refine z_icmp_ge (tgt := 117) (by first | (exact hr _ _ (by decide)) | omega) (by first | (exact hr _ _ (by decide)) | omega) dX7_goesOn_110 (by decide) (fun h110 => ?_) (fun h110 => ?_)
                  · refine z_iconst dX7_goesOn_117 ?_
                    refine z_istoren_3 dX7_goesOn_118 (Nat.le_of_ble_eq_true rfl) rfl ?_
                    refine z_iloadn dX7_goesOn_119 rfl ?_
                    refine z_if_eq (tgt := 132) (by first | (exact hr _ _ (by decide)) | omega) dX7_goesOn_120 (by decide) (fun h120 => ?_) (fun h120 => ?_)
                    · refine z_iloadn dX7_goesOn_132 rfl ?_
                      exact z_zret dX7_goesOn_133 (by first | exact (if_pos (Or.inr (Or.inr y_C))).symm | (rw [if_neg]; unfold z_ten z_str z_com z_ovr z_us at *; omega)) (by first | exact z_g4 s0 s3 y_T y_S y_C | exact z_g5 s0 s3 y_T y_S (by unfold z_com z_ovr z_us at *; omega)) (by first | decide | (split <;> simp))
                    · exact absurd h120 (by decide)
                  · refine z_iconst dX7_goesOn_113 ?_
                    refine z_goto (tgt := 118) dX7_goesOn_114 (by decide) ?_
                    refine z_istoren_3 dX7_goesOn_118 (Nat.le_of_ble_eq_true rfl) rfl ?_
                    refine z_iloadn dX7_goesOn_119 rfl ?_
                    refine z_if_eq (tgt := 132) (by first | (exact hr _ _ (by decide)) | omega) dX7_goesOn_120 (by decide) (fun h120 => ?_) (fun h120 => ?_)
                    · exact absurd h120 (by decide)
                    · have y_C : z_com (M 21) c := by unfold z_com z_ovr z_us at *; omega
                      refine z_aloadn dX7_goesOn_123 rfl ?_
                      refine kX7_108 (tX7_ends hp (by omega) (by omega)) rfl ⟨(Nat.le_of_ble_eq_true rfl), (Nat.le_of_ble_eq_true rfl)⟩ (Nat.le_of_ble_eq_true rfl) dX7_goesOn_124 ?_
                      refine z_rng fun hr => ?_
                      refine z_aloadn dX7_goesOn_127 rfl ?_
                      refine z_iconst dX7_goesOn_128 ?_
                      refine pX7_98 (by first | (exact hr _ _ (by decide)) | omega) rfl dX7_goesOn_129 ?_
                      refine z_rng fun hr => ?_
                      refine z_iloadn dX7_goesOn_132 rfl ?_
                      exact z_zret dX7_goesOn_133 (by first | exact (if_pos (Or.inr (Or.inr y_C))).symm | (rw [if_neg]; unfold z_ten z_str z_com z_ovr z_us at *; omega)) (by first | exact z_g4 s0 s3 y_T y_S y_C | exact z_g5 s0 s3 y_T y_S (by unfold z_com z_ovr z_us at *; omega)) (by first | decide | (split <;> simp))
            · refine z_aloadn dX7_goesOn_76 rfl ?_
              refine kX7_104 (tX7_isOver hp) rfl ⟨(Nat.le_of_ble_eq_true rfl), (Nat.le_of_ble_eq_true rfl)⟩ (Nat.le_of_ble_eq_true rfl) dX7_goesOn_77 ?_
              refine z_ifb_eq (tgt := 90) dX7_goesOn_80 (by decide) (fun h80 => ?_) (fun h80 => ?_)
              · have y_S : ¬ z_str (M 21) c := by unfold z_str z_ovr z_us at *; omega
                refine z_iloadn dX7_goesOn_90 rfl ?_
                refine z_bipush dX7_goesOn_91 (by decide) ?_
                refine z_icmp_ne (tgt := 117) (by first | (exact hr _ _ (by decide)) | omega) (by first | (exact hr _ _ (by decide)) | omega) dX7_goesOn_93 (by decide) (fun h93 => ?_) (fun h93 => ?_)
                · refine z_iconst dX7_goesOn_117 ?_
                  refine z_istoren_3 dX7_goesOn_118 (Nat.le_of_ble_eq_true rfl) rfl ?_
                  refine z_iloadn dX7_goesOn_119 rfl ?_
                  refine z_if_eq (tgt := 132) (by first | (exact hr _ _ (by decide)) | omega) dX7_goesOn_120 (by decide) (fun h120 => ?_) (fun h120 => ?_)
                  · refine z_iloadn dX7_goesOn_132 rfl ?_
                    exact z_zret dX7_goesOn_133 (by first | exact (if_pos (Or.inr (Or.inr y_C))).symm | (rw [if_neg]; unfold z_ten z_str z_com z_ovr z_us at *; omega)) (by first | exact z_g4 s0 s3 y_T y_S y_C | exact z_g5 s0 s3 y_T y_S (by unfold z_com z_ovr z_us at *; omega)) (by first | decide | (split <;> simp))
                  · exact absurd h120 (by decide)
                · refine z_aloadn dX7_goesOn_96 rfl ?_
                  refine kX7_104 (tX7_isOver hp) rfl ⟨(Nat.le_of_ble_eq_true rfl), (Nat.le_of_ble_eq_true rfl)⟩ (Nat.le_of_ble_eq_true rfl) dX7_goesOn_97 ?_
                  refine z_ifb_eq (tgt := 117) dX7_goesOn_100 (by decide) (fun h100 => ?_) (fun h100 => ?_)
                  · refine z_iconst dX7_goesOn_117 ?_
                    refine z_istoren_3 dX7_goesOn_118 (Nat.le_of_ble_eq_true rfl) rfl ?_
                    refine z_iloadn dX7_goesOn_119 rfl ?_
                    refine z_if_eq (tgt := 132) (by first | (exact hr _ _ (by decide)) | omega) dX7_goesOn_120 (by decide) (fun h120 => ?_) (fun h120 => ?_)
                    · refine z_iloadn dX7_goesOn_132 rfl ?_
                      exact z_zret dX7_goesOn_133 (by first | exact (if_pos (Or.inr (Or.inr y_C))).symm | (rw [if_neg]; unfold z_ten z_str z_com z_ovr z_us at *; omega)) (by first | exact z_g4 s0 s3 y_T y_S y_C | exact z_g5 s0 s3 y_T y_S (by unfold z_com z_ovr z_us at *; omega)) (by first | decide | (split <;> simp))
                    · exact absurd h120 (by decide)
                  · refine z_aloadn dX7_goesOn_103 rfl ?_
                    refine gX7_101 rfl dX7_goesOn_104 ?_
                    refine z_iconst dX7_goesOn_107 ?_
                    refine z_iadd dX7_goesOn_108 ?_
                    refine z_iconst dX7_goesOn_109 ?_
                    refine z_icmp_ge (tgt := 117) (by first | (exact hr _ _ (by decide)) | omega) (by first | (exact hr _ _ (by decide)) | omega) dX7_goesOn_110 (by decide) (fun h110 => ?_) (fun h110 => ?_)
                    · refine z_iconst dX7_goesOn_117 ?_
                      refine z_istoren_3 dX7_goesOn_118 (Nat.le_of_ble_eq_true rfl) rfl ?_
                      refine z_iloadn dX7_goesOn_119 rfl ?_
                      refine z_if_eq (tgt := 132) (by first | (exact hr _ _ (by decide)) | omega) dX7_goesOn_120 (by decide) (fun h120 => ?_) (fun h120 => ?_)
                      · refine z_iloadn dX7_goesOn_132 rfl ?_
                        exact z_zret dX7_goesOn_133 (by first | exact (if_pos (Or.inr (Or.inr y_C))).symm | (rw [if_neg]; unfold z_ten z_str z_com z_ovr z_us at *; omega)) (by first | exact z_g4 s0 s3 y_T y_S y_C | exact z_g5 s0 s3 y_T y_S (by unfold z_com z_ovr z_us at *; omega)) (by first | decide | (split <;> simp))
                      · exact absurd h120 (by decide)
                    · refine z_iconst dX7_goesOn_113 ?_
                      refine z_goto (tgt := 118) dX7_goesOn_114 (by decide) ?_
                      refine z_istoren_3 dX7_goesOn_118 (Nat.le_of_ble_eq_true rfl) rfl ?_
                      refine z_iloadn dX7_goesOn_119 rfl ?_
                      refine z_if_eq (tgt := 132) (by first | (exact hr _ _ (by decide)) | omega) dX7_goesOn_120 (by decide) (fun h120 => ?_) (fun h120 => ?_)
                      · exact absurd h120 (by decide)
                      · have y_C : z_com (M 21) c := by unfold z_com z_ovr z_us at *; omega
                        refine z_aloadn dX7_goesOn_123 rfl ?_
                        refine kX7_108 (tX7_ends hp (by omega) (by omega)) rfl ⟨(Nat.le_of_ble_eq_true rfl), (Nat.le_of_ble_eq_true rfl)⟩ (Nat.le_of_ble_eq_true rfl) dX7_goesOn_124 ?_
                        refine z_rng fun hr => ?_
                        refine z_aloadn dX7_goesOn_127 rfl ?_
                        refine z_iconst dX7_goesOn_128 ?_
                        refine pX7_98 (by first | (exact hr _ _ (by decide)) | omega) rfl dX7_goesOn_129 ?_
                        refine z_rng fun hr => ?_
                        refine z_iloadn dX7_goesOn_132 rfl ?_
                        exact z_zret dX7_goesOn_133 (by first | exact (if_pos (Or.inr (Or.inr y_C))).symm | (rw [if_neg]; unfold z_ten z_str z_com z_ovr z_us at *; omega)) (by first | exact z_g4 s0 s3 y_T y_S y_C | exact z_g5 s0 s3 y_T y_S (by unfold z_com z_ovr z_us at *; omega)) (by first | decide | (split <;> simp))
              · have y_S : z_str (M 21) c := by unfold z_str z_ovr z_us at *; omega
                refine z_aloadn dX7_goesOn_83 rfl ?_
                refine z_iconst dX7_goesOn_84 ?_
                refine pX7_98 (by first | (exact hr _ _ (by decide)) | omega) rfl dX7_goesOn_85 ?_
                refine z_rng fun hr => ?_
                refine z_iconst dX7_goesOn_88 ?_
                exact z_zret dX7_goesOn_89 (if_pos (Or.inr (Or.inl y_S))).symm (z_g2 s0 s3 y_T y_S) (by first | decide | (split <;> simp))
        · exact absurd h41 (by decide)
      · refine z_iconst dX7_goesOn_34 ?_
        refine z_goto (tgt := 39) dX7_goesOn_35 (by decide) ?_
        refine z_istoren_2 dX7_goesOn_39 (Nat.le_of_ble_eq_true rfl) rfl ?_
        refine z_iloadn dX7_goesOn_40 rfl ?_
        refine z_if_eq (tgt := 62) (by first | (exact hr _ _ (by decide)) | omega) dX7_goesOn_41 (by decide) (fun h41 => ?_) (fun h41 => ?_)
        · exact absurd h41 (by decide)
        · have y_T : z_ten (M 21) c := by unfold z_ten z_us at *; omega
          refine z_aloadn dX7_goesOn_44 rfl ?_
          refine z_bipush dX7_goesOn_45 (by decide) ?_
          refine z_iloadn dX7_goesOn_47 rfl ?_
          refine z_iadd dX7_goesOn_48 ?_
          refine z_bipush dX7_goesOn_49 (by decide) ?_
          refine z_isub dX7_goesOn_51 ?_
          refine pX7_92 (by first | (exact hr _ _ (by decide)) | omega) rfl dX7_goesOn_52 ?_
          refine z_rng fun hr => ?_
          refine z_aloadn dX7_goesOn_55 rfl ?_
          refine z_iconst dX7_goesOn_56 ?_
          refine pX7_98 (by first | (exact hr _ _ (by decide)) | omega) rfl dX7_goesOn_57 ?_
          refine z_rng fun hr => ?_
          refine z_iconst dX7_goesOn_60 ?_
          exact z_zret dX7_goesOn_61 (if_pos (Or.inl y_T)).symm (z_g1 s0 s3 y_T) (by first | decide | (split <;> simp))
    · refine z_iloadn dX7_goesOn_14 rfl ?_
      refine z_bipush dX7_goesOn_15 (by decide) ?_
      refine z_icmp_ne (tgt := 38) (by first | (exact hr _ _ (by decide)) | omega) (by first | (exact hr _ _ (by decide)) | omega) dX7_goesOn_17 (by decide) (fun h17 => ?_) (fun h17 => ?_)
      · refine z_iconst dX7_goesOn_38 ?_
        refine z_istoren_2 dX7_goesOn_39 (Nat.le_of_ble_eq_true rfl) rfl ?_
        refine z_iloadn dX7_goesOn_40 rfl ?_
        refine z_if_eq (tgt := 62) (by first | (exact hr _ _ (by decide)) | omega) dX7_goesOn_41 (by decide) (fun h41 => ?_) (fun h41 => ?_)
        · have y_T : ¬ z_ten (M 21) c := by unfold z_ten z_us at *; omega
          refine z_iloadn dX7_goesOn_62 rfl ?_
          refine z_bipush dX7_goesOn_63 (by decide) ?_
          refine z_icmp_ne (tgt := 90) (by first | (exact hr _ _ (by decide)) | omega) (by first | (exact hr _ _ (by decide)) | omega) dX7_goesOn_65 (by decide) (fun h65 => ?_) (fun h65 => ?_)
          · have y_S : ¬ z_str (M 21) c := by unfold z_str z_ovr z_us at *; omega
            refine z_iloadn dX7_goesOn_90 rfl ?_
            refine z_bipush dX7_goesOn_91 (by decide) ?_
            refine z_icmp_ne (tgt := 117) (by first | (exact hr _ _ (by decide)) | omega) (by first | (exact hr _ _ (by decide)) | omega) dX7_goesOn_93 (by decide) (fun h93 => ?_) (fun h93 => ?_)
            · refine z_iconst dX7_goesOn_117 ?_
              refine z_istoren_3 dX7_goesOn_118 (Nat.le_of_ble_eq_true rfl) rfl ?_
              refine z_iloadn dX7_goesOn_119 rfl ?_
              refine z_if_eq (tgt := 132) (by first | (exact hr _ _ (by decide)) | omega) dX7_goesOn_120 (by decide) (fun h120 => ?_) (fun h120 => ?_)
              · refine z_iloadn dX7_goesOn_132 rfl ?_
                exact z_zret dX7_goesOn_133 (by first | exact (if_pos (Or.inr (Or.inr y_C))).symm | (rw [if_neg]; unfold z_ten z_str z_com z_ovr z_us at *; omega)) (by first | exact z_g4 s0 s3 y_T y_S y_C | exact z_g5 s0 s3 y_T y_S (by unfold z_com z_ovr z_us at *; omega)) (by first | decide | (split <;> simp))
              · exact absurd h120 (by decide)
            · refine z_aloadn dX7_goesOn_96 rfl ?_
              refine kX7_104 (tX7_isOver hp) rfl ⟨(Nat.le_of_ble_eq_true rfl), (Nat.le_of_ble_eq_true rfl)⟩ (Nat.le_of_ble_eq_true rfl) dX7_goesOn_97 ?_
              refine z_ifb_eq (tgt := 117) dX7_goesOn_100 (by decide) (fun h100 => ?_) (fun h100 => ?_)
              · refine z_iconst dX7_goesOn_117 ?_
                refine z_istoren_3 dX7_goesOn_118 (Nat.le_of_ble_eq_true rfl) rfl ?_
                refine z_iloadn dX7_goesOn_119 rfl ?_
                refine z_if_eq (tgt := 132) (by first | (exact hr _ _ (by decide)) | omega) dX7_goesOn_120 (by decide) (fun h120 => ?_) (fun h120 => ?_)
                · refine z_iloadn dX7_goesOn_132 rfl ?_
                  exact z_zret dX7_goesOn_133 (by first | exact (if_pos (Or.inr (Or.inr y_C))).symm | (rw [if_neg]; unfold z_ten z_str z_com z_ovr z_us at *; omega)) (by first | exact z_g4 s0 s3 y_T y_S y_C | exact z_g5 s0 s3 y_T y_S (by unfold z_com z_ovr z_us at *; omega)) (by first | decide | (split <;> simp))
                · exact absurd h120 (by decide)
              · refine z_aloadn dX7_goesOn_103 rfl ?_
                refine gX7_101 rfl dX7_goesOn_104 ?_
                refine z_iconst dX7_goesOn_107 ?_
                refine z_iadd dX7_goesOn_108 ?_
                refine z_iconst dX7_goesOn_109 ?_
                refine z_icmp_ge (tgt := 117) (by first | (exact hr _ _ (by decide)) | omega) (by first | (exact hr _ _ (by decide)) | omega) dX7_goesOn_110 (by decide) (fun h110 => ?_) (fun h110 => ?_)
                · refine z_iconst dX7_goesOn_117 ?_
                  refine z_istoren_3 dX7_goesOn_118 (Nat.le_of_ble_eq_true rfl) rfl ?_
                  refine z_iloadn dX7_goesOn_119 rfl ?_
                  refine z_if_eq (tgt := 132) (by first | (exact hr _ _ (by decide)) | omega) dX7_goesOn_120 (by decide) (fun h120 => ?_) (fun h120 => ?_)
                  · refine z_iloadn dX7_goesOn_132 rfl ?_
                    exact z_zret dX7_goesOn_133 (by first | exact (if_pos (Or.inr (Or.inr y_C))).symm | (rw [if_neg]; unfold z_ten z_str z_com z_ovr z_us at *; omega)) (by first | exact z_g4 s0 s3 y_T y_S y_C | exact z_g5 s0 s3 y_T y_S (by unfold z_com z_ovr z_us at *; omega)) (by first | decide | (split <;> simp))
                  · exact absurd h120 (by decide)
                · refine z_iconst dX7_goesOn_113 ?_
                  refine z_goto (tgt := 118) dX7_goesOn_114 (by decide) ?_
                  refine z_istoren_3 dX7_goesOn_118 (Nat.le_of_ble_eq_true rfl) rfl ?_
                  refine z_iloadn dX7_goesOn_119 rfl ?_
                  refine z_if_eq (tgt := 132) (by first | (exact hr _ _ (by decide)) | omega) dX7_goesOn_120 (by decide) (fun h120 => ?_) (fun h120 => ?_)
                  · exact absurd h120 (by decide)
                  · have y_C : z_com (M 21) c := by unfold z_com z_ovr z_us at *; omega
                    refine z_aloadn dX7_goesOn_123 rfl ?_
                    refine kX7_108 (tX7_ends hp (by omega) (by omega)) rfl ⟨(Nat.le_of_ble_eq_true rfl), (Nat.le_of_ble_eq_true rfl)⟩ (Nat.le_of_ble_eq_true rfl) dX7_goesOn_124 ?_
                    refine z_rng fun hr => ?_
                    refine z_aloadn dX7_goesOn_127 rfl ?_
                    refine z_iconst dX7_goesOn_128 ?_
                    refine pX7_98 (by first | (exact hr _ _ (by decide)) | omega) rfl dX7_goesOn_129 ?_
                    refine z_rng fun hr => ?_
                    refine z_iloadn dX7_goesOn_132 rfl ?_
                    exact z_zret dX7_goesOn_133 (by first | exact (if_pos (Or.inr (Or.inr y_C))).symm | (rw [if_neg]; unfold z_ten z_str z_com z_ovr z_us at *; omega)) (by first | exact z_g4 s0 s3 y_T y_S y_C | exact z_g5 s0 s3 y_T y_S (by unfold z_com z_ovr z_us at *; omega)) (by first | decide | (split <;> simp))
          · refine z_aloadn dX7_goesOn_68 rfl ?_
            refine gX7_98 rfl dX7_goesOn_69 ?_
            refine z_iconst dX7_goesOn_72 ?_
            refine z_icmp_ge (tgt := 90) (by first | (exact hr _ _ (by decide)) | omega) (by first | (exact hr _ _ (by decide)) | omega) dX7_goesOn_73 (by decide) (fun h73 => ?_) (fun h73 => ?_)
            · have y_S : ¬ z_str (M 21) c := by unfold z_str z_ovr z_us at *; omega
              refine z_iloadn dX7_goesOn_90 rfl ?_
              refine z_bipush dX7_goesOn_91 (by decide) ?_
              refine z_icmp_ne (tgt := 117) (by first | (exact hr _ _ (by decide)) | omega) (by first | (exact hr _ _ (by decide)) | omega) dX7_goesOn_93 (by decide) (fun h93 => ?_) (fun h93 => ?_)
              · refine z_iconst dX7_goesOn_117 ?_
                refine z_istoren_3 dX7_goesOn_118 (Nat.le_of_ble_eq_true rfl) rfl ?_
                refine z_iloadn dX7_goesOn_119 rfl ?_
                refine z_if_eq (tgt := 132) (by first | (exact hr _ _ (by decide)) | omega) dX7_goesOn_120 (by decide) (fun h120 => ?_) (fun h120 => ?_)
                · refine z_iloadn dX7_goesOn_132 rfl ?_
                  exact z_zret dX7_goesOn_133 (by first | exact (if_pos (Or.inr (Or.inr y_C))).symm | (rw [if_neg]; unfold z_ten z_str z_com z_ovr z_us at *; omega)) (by first | exact z_g4 s0 s3 y_T y_S y_C | exact z_g5 s0 s3 y_T y_S (by unfold z_com z_ovr z_us at *; omega)) (by first | decide | (split <;> simp))
                · exact absurd h120 (by decide)
              · refine z_aloadn dX7_goesOn_96 rfl ?_
                refine kX7_104 (tX7_isOver hp) rfl ⟨(Nat.le_of_ble_eq_true rfl), (Nat.le_of_ble_eq_true rfl)⟩ (Nat.le_of_ble_eq_true rfl) dX7_goesOn_97 ?_
                refine z_ifb_eq (tgt := 117) dX7_goesOn_100 (by decide) (fun h100 => ?_) (fun h100 => ?_)
                · refine z_iconst dX7_goesOn_117 ?_
                  refine z_istoren_3 dX7_goesOn_118 (Nat.le_of_ble_eq_true rfl) rfl ?_
                  refine z_iloadn dX7_goesOn_119 rfl ?_
                  refine z_if_eq (tgt := 132) (by first | (exact hr _ _ (by decide)) | omega) dX7_goesOn_120 (by decide) (fun h120 => ?_) (fun h120 => ?_)
                  · refine z_iloadn dX7_goesOn_132 rfl ?_
                    exact z_zret dX7_goesOn_133 (by first | exact (if_pos (Or.inr (Or.inr y_C))).symm | (rw [if_neg]; unfold z_ten z_str z_com z_ovr z_us at *; omega)) (by first | exact z_g4 s0 s3 y_T y_S y_C | exact z_g5 s0 s3 y_T y_S (by unfold z_com z_ovr z_us at *; omega)) (by first | decide | (split <;> simp))
                  · exact absurd h120 (by decide)
                · refine z_aloadn dX7_goesOn_103 rfl ?_
                  refine gX7_101 rfl dX7_goesOn_104 ?_
                  refine z_iconst dX7_goesOn_107 ?_
                  refine z_iadd dX7_goesOn_108 ?_
                  refine z_iconst dX7_goesOn_109 ?_
                  refine z_icmp_ge (tgt := 117) (by first | (exact hr _ _ (by decide)) | omega) (by first | (exact hr _ _ (by decide)) | omega) dX7_goesOn_110 (by decide) (fun h110 => ?_) (fun h110 => ?_)
                  · refine z_iconst dX7_goesOn_117 ?_
                    refine z_istoren_3 dX7_goesOn_118 (Nat.le_of_ble_eq_true rfl) rfl ?_
                    refine z_iloadn dX7_goesOn_119 rfl ?_
                    refine z_if_eq (tgt := 132) (by first | (exact hr _ _ (by decide)) | omega) dX7_goesOn_120 (by decide) (fun h120 => ?_) (fun h120 => ?_)
                    · refine z_iloadn dX7_goesOn_132 rfl ?_
                      exact z_zret dX7_goesOn_133 (by first | exact (if_pos (Or.inr (Or.inr y_C))).symm | (rw [if_neg]; unfold z_ten z_str z_com z_ovr z_us at *; omega)) (by first | exact z_g4 s0 s3 y_T y_S y_C | exact z_g5 s0 s3 y_T y_S (by unfold z_com z_ovr z_us at *; omega)) (by first | decide | (split <;> simp))
                    · exact absurd h120 (by decide)
                  · refine z_iconst dX7_goesOn_113 ?_
                    refine z_goto (tgt := 118) dX7_goesOn_114 (by decide) ?_
                    refine z_istoren_3 dX7_goesOn_118 (Nat.le_of_ble_eq_true rfl) rfl ?_
                    refine z_iloadn dX7_goesOn_119 rfl ?_
                    refine z_if_eq (tgt := 132) (by first | (exact hr _ _ (by decide)) | omega) dX7_goesOn_120 (by decide) (fun h120 => ?_) (fun h120 => ?_)
                    · exact absurd h120 (by decide)
                    · have y_C : z_com (M 21) c := by unfold z_com z_ovr z_us at *; omega
                      refine z_aloadn dX7_goesOn_123 rfl ?_
                      refine kX7_108 (tX7_ends hp (by omega) (by omega)) rfl ⟨(Nat.le_of_ble_eq_true rfl), (Nat.le_of_ble_eq_true rfl)⟩ (Nat.le_of_ble_eq_true rfl) dX7_goesOn_124 ?_
                      refine z_rng fun hr => ?_
                      refine z_aloadn dX7_goesOn_127 rfl ?_
                      refine z_iconst dX7_goesOn_128 ?_
                      refine pX7_98 (by first | (exact hr _ _ (by decide)) | omega) rfl dX7_goesOn_129 ?_
                      refine z_rng fun hr => ?_
                      refine z_iloadn dX7_goesOn_132 rfl ?_
                      exact z_zret dX7_goesOn_133 (by first | exact (if_pos (Or.inr (Or.inr y_C))).symm | (rw [if_neg]; unfold z_ten z_str z_com z_ovr z_us at *; omega)) (by first | exact z_g4 s0 s3 y_T y_S y_C | exact z_g5 s0 s3 y_T y_S (by unfold z_com z_ovr z_us at *; omega)) (by first | decide | (split <;> simp))
            · refine z_aloadn dX7_goesOn_76 rfl ?_
              refine kX7_104 (tX7_isOver hp) rfl ⟨(Nat.le_of_ble_eq_true rfl), (Nat.le_of_ble_eq_true rfl)⟩ (Nat.le_of_ble_eq_true rfl) dX7_goesOn_77 ?_
              refine z_ifb_eq (tgt := 90) dX7_goesOn_80 (by decide) (fun h80 => ?_) (fun h80 => ?_)
              · have y_S : ¬ z_str (M 21) c := by unfold z_str z_ovr z_us at *; omega
                refine z_iloadn dX7_goesOn_90 rfl ?_
                refine z_bipush dX7_goesOn_91 (by decide) ?_
                refine z_icmp_ne (tgt := 117) (by first | (exact hr _ _ (by decide)) | omega) (by first | (exact hr _ _ (by decide)) | omega) dX7_goesOn_93 (by decide) (fun h93 => ?_) (fun h93 => ?_)
                · refine z_iconst dX7_goesOn_117 ?_
                  refine z_istoren_3 dX7_goesOn_118 (Nat.le_of_ble_eq_true rfl) rfl ?_
                  refine z_iloadn dX7_goesOn_119 rfl ?_
                  refine z_if_eq (tgt := 132) (by first | (exact hr _ _ (by decide)) | omega) dX7_goesOn_120 (by decide) (fun h120 => ?_) (fun h120 => ?_)
                  · refine z_iloadn dX7_goesOn_132 rfl ?_
                    exact z_zret dX7_goesOn_133 (by first | exact (if_pos (Or.inr (Or.inr y_C))).symm | (rw [if_neg]; unfold z_ten z_str z_com z_ovr z_us at *; omega)) (by first | exact z_g4 s0 s3 y_T y_S y_C | exact z_g5 s0 s3 y_T y_S (by unfold z_com z_ovr z_us at *; omega)) (by first | decide | (split <;> simp))
                  · exact absurd h120 (by decide)
                · refine z_aloadn dX7_goesOn_96 rfl ?_
                  refine kX7_104 (tX7_isOver hp) rfl ⟨(Nat.le_of_ble_eq_true rfl), (Nat.le_of_ble_eq_true rfl)⟩ (Nat.le_of_ble_eq_true rfl) dX7_goesOn_97 ?_
                  refine z_ifb_eq (tgt := 117) dX7_goesOn_100 (by decide) (fun h100 => ?_) (fun h100 => ?_)
                  · refine z_iconst dX7_goesOn_117 ?_
                    refine z_istoren_3 dX7_goesOn_118 (Nat.le_of_ble_eq_true rfl) rfl ?_
                    refine z_iloadn dX7_goesOn_119 rfl ?_
                    refine z_if_eq (tgt := 132) (by first | (exact hr _ _ (by decide)) | omega) dX7_goesOn_120 (by decide) (fun h120 => ?_) (fun h120 => ?_)
                    · refine z_iloadn dX7_goesOn_132 rfl ?_
                      exact z_zret dX7_goesOn_133 (by first | exact (if_pos (Or.inr (Or.inr y_C))).symm | (rw [if_neg]; unfold z_ten z_str z_com z_ovr z_us at *; omega)) (by first | exact z_g4 s0 s3 y_T y_S y_C | exact z_g5 s0 s3 y_T y_S (by unfold z_com z_ovr z_us at *; omega)) (by first | decide | (split <;> simp))
                    · exact absurd h120 (by decide)
                  · refine z_aloadn dX7_goesOn_103 rfl ?_
                    refine gX7_101 rfl dX7_goesOn_104 ?_
                    refine z_iconst dX7_goesOn_107 ?_
                    refine z_iadd dX7_goesOn_108 ?_
                    refine z_iconst dX7_goesOn_109 ?_
                    refine z_icmp_ge (tgt := 117) (by first | (exact hr _ _ (by decide)) | omega) (by first | (exact hr _ _ (by decide)) | omega) dX7_goesOn_110 (by decide) (fun h110 => ?_) (fun h110 => ?_)
                    · refine z_iconst dX7_goesOn_117 ?_
                      refine z_istoren_3 dX7_goesOn_118 (Nat.le_of_ble_eq_true rfl) rfl ?_
                      refine z_iloadn dX7_goesOn_119 rfl ?_
                      refine z_if_eq (tgt := 132) (by first | (exact hr _ _ (by decide)) | omega) dX7_goesOn_120 (by decide) (fun h120 => ?_) (fun h120 => ?_)
                      · refine z_iloadn dX7_goesOn_132 rfl ?_
                        exact z_zret dX7_goesOn_133 (by first | exact (if_pos (Or.inr (Or.inr y_C))).symm | (rw [if_neg]; unfold z_ten z_str z_com z_ovr z_us at *; omega)) (by first | exact z_g4 s0 s3 y_T y_S y_C | exact z_g5 s0 s3 y_T y_S (by unfold z_com z_ovr z_us at *; omega)) (by first | decide | (split <;> simp))
                      · exact absurd h120 (by decide)
                    · refine z_iconst dX7_goesOn_113 ?_
                      refine z_goto (tgt := 118) dX7_goesOn_114 (by decide) ?_
                      refine z_istoren_3 dX7_goesOn_118 (Nat.le_of_ble_eq_true rfl) rfl ?_
                      refine z_iloadn dX7_goesOn_119 rfl ?_
                      refine z_if_eq (tgt := 132) (by first | (exact hr _ _ (by decide)) | omega) dX7_goesOn_120 (by decide) (fun h120 => ?_) (fun h120 => ?_)
                      · exact absurd h120 (by decide)
                      · have y_C : z_com (M 21) c := by unfold z_com z_ovr z_us at *; omega
                        refine z_aloadn dX7_goesOn_123 rfl ?_
                        refine kX7_108 (tX7_ends hp (by omega) (by omega)) rfl ⟨(Nat.le_of_ble_eq_true rfl), (Nat.le_of_ble_eq_true rfl)⟩ (Nat.le_of_ble_eq_true rfl) dX7_goesOn_124 ?_
                        refine z_rng fun hr => ?_
                        refine z_aloadn dX7_goesOn_127 rfl ?_
                        refine z_iconst dX7_goesOn_128 ?_
                        refine pX7_98 (by first | (exact hr _ _ (by decide)) | omega) rfl dX7_goesOn_129 ?_
                        refine z_rng fun hr => ?_
                        refine z_iloadn dX7_goesOn_132 rfl ?_
                        exact z_zret dX7_goesOn_133 (by first | exact (if_pos (Or.inr (Or.inr y_C))).symm | (rw [if_neg]; unfold z_ten z_str z_com z_ovr z_us at *; omega)) (by first | exact z_g4 s0 s3 y_T y_S y_C | exact z_g5 s0 s3 y_T y_S (by unfold z_com z_ovr z_us at *; omega)) (by first | decide | (split <;> simp))
              · have y_S : z_str (M 21) c := by unfold z_str z_ovr z_us at *; omega
                refine z_aloadn dX7_goesOn_83 rfl ?_
                refine z_iconst dX7_goesOn_84 ?_
                refine pX7_98 (by first | (exact hr _ _ (by decide)) | omega) rfl dX7_goesOn_85 ?_
                refine z_rng fun hr => ?_
                refine z_iconst dX7_goesOn_88 ?_
                exact z_zret dX7_goesOn_89 (if_pos (Or.inr (Or.inl y_S))).symm (z_g2 s0 s3 y_T y_S) (by first | decide | (split <;> simp))
        · exact absurd h41 (by decide)
      · refine z_aloadn dX7_goesOn_20 rfl ?_
        refine z_bipush dX7_goesOn_21 (by decide) ?_
        refine z_iloadn dX7_goesOn_23 rfl ?_
        refine z_iadd dX7_goesOn_24 ?_
        refine z_bipush dX7_goesOn_25 (by decide) ?_
        refine z_isub dX7_goesOn_27 ?_
        refine kX7_89 (tX7_isUsed (by omega) (by omega) (by omega)) rfl ⟨(Nat.le_of_ble_eq_true rfl), (Nat.le_of_ble_eq_true rfl)⟩ (Nat.le_of_ble_eq_true rfl) dX7_goesOn_28 ?_
        refine z_ifb_ne (tgt := 38) dX7_goesOn_31 (by decide) (fun h31 => ?_) (fun h31 => ?_)
        · refine z_iconst dX7_goesOn_38 ?_
          refine z_istoren_2 dX7_goesOn_39 (Nat.le_of_ble_eq_true rfl) rfl ?_
          refine z_iloadn dX7_goesOn_40 rfl ?_
          refine z_if_eq (tgt := 62) (by first | (exact hr _ _ (by decide)) | omega) dX7_goesOn_41 (by decide) (fun h41 => ?_) (fun h41 => ?_)
          · have y_T : ¬ z_ten (M 21) c := by unfold z_ten z_us at *; omega
            refine z_iloadn dX7_goesOn_62 rfl ?_
            refine z_bipush dX7_goesOn_63 (by decide) ?_
            refine z_icmp_ne (tgt := 90) (by first | (exact hr _ _ (by decide)) | omega) (by first | (exact hr _ _ (by decide)) | omega) dX7_goesOn_65 (by decide) (fun h65 => ?_) (fun h65 => ?_)
            · have y_S : ¬ z_str (M 21) c := by unfold z_str z_ovr z_us at *; omega
              refine z_iloadn dX7_goesOn_90 rfl ?_
              refine z_bipush dX7_goesOn_91 (by decide) ?_
              refine z_icmp_ne (tgt := 117) (by first | (exact hr _ _ (by decide)) | omega) (by first | (exact hr _ _ (by decide)) | omega) dX7_goesOn_93 (by decide) (fun h93 => ?_) (fun h93 => ?_)
              · refine z_iconst dX7_goesOn_117 ?_
                refine z_istoren_3 dX7_goesOn_118 (Nat.le_of_ble_eq_true rfl) rfl ?_
                refine z_iloadn dX7_goesOn_119 rfl ?_
                refine z_if_eq (tgt := 132) (by first | (exact hr _ _ (by decide)) | omega) dX7_goesOn_120 (by decide) (fun h120 => ?_) (fun h120 => ?_)
                · refine z_iloadn dX7_goesOn_132 rfl ?_
                  exact z_zret dX7_goesOn_133 (by first | exact (if_pos (Or.inr (Or.inr y_C))).symm | (rw [if_neg]; unfold z_ten z_str z_com z_ovr z_us at *; omega)) (by first | exact z_g4 s0 s3 y_T y_S y_C | exact z_g5 s0 s3 y_T y_S (by unfold z_com z_ovr z_us at *; omega)) (by first | decide | (split <;> simp))
                · exact absurd h120 (by decide)
              · refine z_aloadn dX7_goesOn_96 rfl ?_
                refine kX7_104 (tX7_isOver hp) rfl ⟨(Nat.le_of_ble_eq_true rfl), (Nat.le_of_ble_eq_true rfl)⟩ (Nat.le_of_ble_eq_true rfl) dX7_goesOn_97 ?_
                refine z_ifb_eq (tgt := 117) dX7_goesOn_100 (by decide) (fun h100 => ?_) (fun h100 => ?_)
                · refine z_iconst dX7_goesOn_117 ?_
                  refine z_istoren_3 dX7_goesOn_118 (Nat.le_of_ble_eq_true rfl) rfl ?_
                  refine z_iloadn dX7_goesOn_119 rfl ?_
                  refine z_if_eq (tgt := 132) (by first | (exact hr _ _ (by decide)) | omega) dX7_goesOn_120 (by decide) (fun h120 => ?_) (fun h120 => ?_)
                  · refine z_iloadn dX7_goesOn_132 rfl ?_
                    exact z_zret dX7_goesOn_133 (by first | exact (if_pos (Or.inr (Or.inr y_C))).symm | (rw [if_neg]; unfold z_ten z_str z_com z_ovr z_us at *; omega)) (by first | exact z_g4 s0 s3 y_T y_S y_C | exact z_g5 s0 s3 y_T y_S (by unfold z_com z_ovr z_us at *; omega)) (by first | decide | (split <;> simp))
                  · exact absurd h120 (by decide)
                · refine z_aloadn dX7_goesOn_103 rfl ?_
                  refine gX7_101 rfl dX7_goesOn_104 ?_
                  refine z_iconst dX7_goesOn_107 ?_
                  refine z_iadd dX7_goesOn_108 ?_
                  refine z_iconst dX7_goesOn_109 ?_
                  refine z_icmp_ge (tgt := 117) (by first | (exact hr _ _ (by decide)) | omega) (by first | (exact hr _ _ (by decide)) | omega) dX7_goesOn_110 (by decide) (fun h110 => ?_) (fun h110 => ?_)
                  · refine z_iconst dX7_goesOn_117 ?_
                    refine z_istoren_3 dX7_goesOn_118 (Nat.le_of_ble_eq_true rfl) rfl ?_
                    refine z_iloadn dX7_goesOn_119 rfl ?_
                    refine z_if_eq (tgt := 132) (by first | (exact hr _ _ (by decide)) | omega) dX7_goesOn_120 (by decide) (fun h120 => ?_) (fun h120 => ?_)
                    · refine z_iloadn dX7_goesOn_132 rfl ?_
                      exact z_zret dX7_goesOn_133 (by first | exact (if_pos (Or.inr (Or.inr y_C))).symm | (rw [if_neg]; unfold z_ten z_str z_com z_ovr z_us at *; omega)) (by first | exact z_g4 s0 s3 y_T y_S y_C | exact z_g5 s0 s3 y_T y_S (by unfold z_com z_ovr z_us at *; omega)) (by first | decide | (split <;> simp))
                    · exact absurd h120 (by decide)
                  · refine z_iconst dX7_goesOn_113 ?_
                    refine z_goto (tgt := 118) dX7_goesOn_114 (by decide) ?_
                    refine z_istoren_3 dX7_goesOn_118 (Nat.le_of_ble_eq_true rfl) rfl ?_
                    refine z_iloadn dX7_goesOn_119 rfl ?_
                    refine z_if_eq (tgt := 132) (by first | (exact hr _ _ (by decide)) | omega) dX7_goesOn_120 (by decide) (fun h120 => ?_) (fun h120 => ?_)
                    · exact absurd h120 (by decide)
                    · have y_C : z_com (M 21) c := by unfold z_com z_ovr z_us at *; omega
                      refine z_aloadn dX7_goesOn_123 rfl ?_
                      refine kX7_108 (tX7_ends hp (by omega) (by omega)) rfl ⟨(Nat.le_of_ble_eq_true rfl), (Nat.le_of_ble_eq_true rfl)⟩ (Nat.le_of_ble_eq_true rfl) dX7_goesOn_124 ?_
                      refine z_rng fun hr => ?_
                      refine z_aloadn dX7_goesOn_127 rfl ?_
                      refine z_iconst dX7_goesOn_128 ?_
                      refine pX7_98 (by first | (exact hr _ _ (by decide)) | omega) rfl dX7_goesOn_129 ?_
                      refine z_rng fun hr => ?_
                      refine z_iloadn dX7_goesOn_132 rfl ?_
                      exact z_zret dX7_goesOn_133 (by first | exact (if_pos (Or.inr (Or.inr y_C))).symm | (rw [if_neg]; unfold z_ten z_str z_com z_ovr z_us at *; omega)) (by first | exact z_g4 s0 s3 y_T y_S y_C | exact z_g5 s0 s3 y_T y_S (by unfold z_com z_ovr z_us at *; omega)) (by first | decide | (split <;> simp))
            · refine z_aloadn dX7_goesOn_68 rfl ?_
              refine gX7_98 rfl dX7_goesOn_69 ?_
              refine z_iconst dX7_goesOn_72 ?_
              refine z_icmp_ge (tgt := 90) (by first | (exact hr _ _ (by decide)) | omega) (by first | (exact hr _ _ (by decide)) | omega) dX7_goesOn_73 (by decide) (fun h73 => ?_) (fun h73 => ?_)
              · have y_S : ¬ z_str (M 21) c := by unfold z_str z_ovr z_us at *; omega
                refine z_iloadn dX7_goesOn_90 rfl ?_
                refine z_bipush dX7_goesOn_91 (by decide) ?_
                refine z_icmp_ne (tgt := 117) (by first | (exact hr _ _ (by decide)) | omega) (by first | (exact hr _ _ (by decide)) | omega) dX7_goesOn_93 (by decide) (fun h93 => ?_) (fun h93 => ?_)
                · refine z_iconst dX7_goesOn_117 ?_
                  refine z_istoren_3 dX7_goesOn_118 (Nat.le_of_ble_eq_true rfl) rfl ?_
                  refine z_iloadn dX7_goesOn_119 rfl ?_
                  refine z_if_eq (tgt := 132) (by first | (exact hr _ _ (by decide)) | omega) dX7_goesOn_120 (by decide) (fun h120 => ?_) (fun h120 => ?_)
                  · refine z_iloadn dX7_goesOn_132 rfl ?_
                    exact z_zret dX7_goesOn_133 (by first | exact (if_pos (Or.inr (Or.inr y_C))).symm | (rw [if_neg]; unfold z_ten z_str z_com z_ovr z_us at *; omega)) (by first | exact z_g4 s0 s3 y_T y_S y_C | exact z_g5 s0 s3 y_T y_S (by unfold z_com z_ovr z_us at *; omega)) (by first | decide | (split <;> simp))
                  · exact absurd h120 (by decide)
                · refine z_aloadn dX7_goesOn_96 rfl ?_
                  refine kX7_104 (tX7_isOver hp) rfl ⟨(Nat.le_of_ble_eq_true rfl), (Nat.le_of_ble_eq_true rfl)⟩ (Nat.le_of_ble_eq_true rfl) dX7_goesOn_97 ?_
                  refine z_ifb_eq (tgt := 117) dX7_goesOn_100 (by decide) (fun h100 => ?_) (fun h100 => ?_)
                  · refine z_iconst dX7_goesOn_117 ?_
                    refine z_istoren_3 dX7_goesOn_118 (Nat.le_of_ble_eq_true rfl) rfl ?_
                    refine z_iloadn dX7_goesOn_119 rfl ?_
                    refine z_if_eq (tgt := 132) (by first | (exact hr _ _ (by decide)) | omega) dX7_goesOn_120 (by decide) (fun h120 => ?_) (fun h120 => ?_)
                    · refine z_iloadn dX7_goesOn_132 rfl ?_
                      exact z_zret dX7_goesOn_133 (by first | exact (if_pos (Or.inr (Or.inr y_C))).symm | (rw [if_neg]; unfold z_ten z_str z_com z_ovr z_us at *; omega)) (by first | exact z_g4 s0 s3 y_T y_S y_C | exact z_g5 s0 s3 y_T y_S (by unfold z_com z_ovr z_us at *; omega)) (by first | decide | (split <;> simp))
                    · exact absurd h120 (by decide)
                  · refine z_aloadn dX7_goesOn_103 rfl ?_
                    refine gX7_101 rfl dX7_goesOn_104 ?_
                    refine z_iconst dX7_goesOn_107 ?_
                    refine z_iadd dX7_goesOn_108 ?_
                    refine z_iconst dX7_goesOn_109 ?_
                    refine z_icmp_ge (tgt := 117) (by first | (exact hr _ _ (by decide)) | omega) (by first | (exact hr _ _ (by decide)) | omega) dX7_goesOn_110 (by decide) (fun h110 => ?_) (fun h110 => ?_)
                    · refine z_iconst dX7_goesOn_117 ?_
                      refine z_istoren_3 dX7_goesOn_118 (Nat.le_of_ble_eq_true rfl) rfl ?_
                      refine z_iloadn dX7_goesOn_119 rfl ?_
                      refine z_if_eq (tgt := 132) (by first | (exact hr _ _ (by decide)) | omega) dX7_goesOn_120 (by decide) (fun h120 => ?_) (fun h120 => ?_)
                      · refine z_iloadn dX7_goesOn_132 rfl ?_
                        exact z_zret dX7_goesOn_133 (by first | exact (if_pos (Or.inr (Or.inr y_C))).symm | (rw [if_neg]; unfold z_ten z_str z_com z_ovr z_us at *; omega)) (by first | exact z_g4 s0 s3 y_T y_S y_C | exact z_g5 s0 s3 y_T y_S (by unfold z_com z_ovr z_us at *; omega)) (by first | decide | (split <;> simp))
                      · exact absurd h120 (by decide)
                    · refine z_iconst dX7_goesOn_113 ?_
                      refine z_goto (tgt := 118) dX7_goesOn_114 (by decide) ?_
                      refine z_istoren_3 dX7_goesOn_118 (Nat.le_of_ble_eq_true rfl) rfl ?_
                      refine z_iloadn dX7_goesOn_119 rfl ?_
                      refine z_if_eq (tgt := 132) (by first | (exact hr _ _ (by decide)) | omega) dX7_goesOn_120 (by decide) (fun h120 => ?_) (fun h120 => ?_)
                      · exact absurd h120 (by decide)
                      · have y_C : z_com (M 21) c := by unfold z_com z_ovr z_us at *; omega
                        refine z_aloadn dX7_goesOn_123 rfl ?_
                        refine kX7_108 (tX7_ends hp (by omega) (by omega)) rfl ⟨(Nat.le_of_ble_eq_true rfl), (Nat.le_of_ble_eq_true rfl)⟩ (Nat.le_of_ble_eq_true rfl) dX7_goesOn_124 ?_
                        refine z_rng fun hr => ?_
                        refine z_aloadn dX7_goesOn_127 rfl ?_
                        refine z_iconst dX7_goesOn_128 ?_
                        refine pX7_98 (by first | (exact hr _ _ (by decide)) | omega) rfl dX7_goesOn_129 ?_
                        refine z_rng fun hr => ?_
                        refine z_iloadn dX7_goesOn_132 rfl ?_
                        exact z_zret dX7_goesOn_133 (by first | exact (if_pos (Or.inr (Or.inr y_C))).symm | (rw [if_neg]; unfold z_ten z_str z_com z_ovr z_us at *; omega)) (by first | exact z_g4 s0 s3 y_T y_S y_C | exact z_g5 s0 s3 y_T y_S (by unfold z_com z_ovr z_us at *; omega)) (by first | decide | (split <;> simp))
              · refine z_aloadn dX7_goesOn_76 rfl ?_
                refine kX7_104 (tX7_isOver hp) rfl ⟨(Nat.le_of_ble_eq_true rfl), (Nat.le_of_ble_eq_true rfl)⟩ (Nat.le_of_ble_eq_true rfl) dX7_goesOn_77 ?_
                refine z_ifb_eq (tgt := 90) dX7_goesOn_80 (by decide) (fun h80 => ?_) (fun h80 => ?_)
                · have y_S : ¬ z_str (M 21) c := by unfold z_str z_ovr z_us at *; omega
                  refine z_iloadn dX7_goesOn_90 rfl ?_
                  refine z_bipush dX7_goesOn_91 (by decide) ?_
                  refine z_icmp_ne (tgt := 117) (by first | (exact hr _ _ (by decide)) | omega) (by first | (exact hr _ _ (by decide)) | omega) dX7_goesOn_93 (by decide) (fun h93 => ?_) (fun h93 => ?_)
                  · refine z_iconst dX7_goesOn_117 ?_
                    refine z_istoren_3 dX7_goesOn_118 (Nat.le_of_ble_eq_true rfl) rfl ?_
                    refine z_iloadn dX7_goesOn_119 rfl ?_
                    refine z_if_eq (tgt := 132) (by first | (exact hr _ _ (by decide)) | omega) dX7_goesOn_120 (by decide) (fun h120 => ?_) (fun h120 => ?_)
                    · refine z_iloadn dX7_goesOn_132 rfl ?_
                      exact z_zret dX7_goesOn_133 (by first | exact (if_pos (Or.inr (Or.inr y_C))).symm | (rw [if_neg]; unfold z_ten z_str z_com z_ovr z_us at *; omega)) (by first | exact z_g4 s0 s3 y_T y_S y_C | exact z_g5 s0 s3 y_T y_S (by unfold z_com z_ovr z_us at *; omega)) (by first | decide | (split <;> simp))
                    · exact absurd h120 (by decide)
                  · refine z_aloadn dX7_goesOn_96 rfl ?_
                    refine kX7_104 (tX7_isOver hp) rfl ⟨(Nat.le_of_ble_eq_true rfl), (Nat.le_of_ble_eq_true rfl)⟩ (Nat.le_of_ble_eq_true rfl) dX7_goesOn_97 ?_
                    refine z_ifb_eq (tgt := 117) dX7_goesOn_100 (by decide) (fun h100 => ?_) (fun h100 => ?_)
                    · refine z_iconst dX7_goesOn_117 ?_
                      refine z_istoren_3 dX7_goesOn_118 (Nat.le_of_ble_eq_true rfl) rfl ?_
                      refine z_iloadn dX7_goesOn_119 rfl ?_
                      refine z_if_eq (tgt := 132) (by first | (exact hr _ _ (by decide)) | omega) dX7_goesOn_120 (by decide) (fun h120 => ?_) (fun h120 => ?_)
                      · refine z_iloadn dX7_goesOn_132 rfl ?_
                        exact z_zret dX7_goesOn_133 (by first | exact (if_pos (Or.inr (Or.inr y_C))).symm | (rw [if_neg]; unfold z_ten z_str z_com z_ovr z_us at *; omega)) (by first | exact z_g4 s0 s3 y_T y_S y_C | exact z_g5 s0 s3 y_T y_S (by unfold z_com z_ovr z_us at *; omega)) (by first | decide | (split <;> simp))
                      · exact absurd h120 (by decide)
                    · refine z_aloadn dX7_goesOn_103 rfl ?_
                      refine gX7_101 rfl dX7_goesOn_104 ?_
                      refine z_iconst dX7_goesOn_107 ?_
                      refine z_iadd dX7_goesOn_108 ?_
                      refine z_iconst dX7_goesOn_109 ?_
                      refine z_icmp_ge (tgt := 117) (by first | (exact hr _ _ (by decide)) | omega) (by first | (exact hr _ _ (by decide)) | omega) dX7_goesOn_110 (by decide) (fun h110 => ?_) (fun h110 => ?_)
                      · refine z_iconst dX7_goesOn_117 ?_
                        refine z_istoren_3 dX7_goesOn_118 (Nat.le_of_ble_eq_true rfl) rfl ?_
                        refine z_iloadn dX7_goesOn_119 rfl ?_
                        refine z_if_eq (tgt := 132) (by first | (exact hr _ _ (by decide)) | omega) dX7_goesOn_120 (by decide) (fun h120 => ?_) (fun h120 => ?_)
                        · refine z_iloadn dX7_goesOn_132 rfl ?_
                          exact z_zret dX7_goesOn_133 (by first | exact (if_pos (Or.inr (Or.inr y_C))).symm | (rw [if_neg]; unfold z_ten z_str z_com z_ovr z_us at *; omega)) (by first | exact z_g4 s0 s3 y_T y_S y_C | exact z_g5 s0 s3 y_T y_S (by unfold z_com z_ovr z_us at *; omega)) (by first | decide | (split <;> simp))
                        · exact absurd h120 (by decide)
                      · refine z_iconst dX7_goesOn_113 ?_
                        refine z_goto (tgt := 118) dX7_goesOn_114 (by decide) ?_
                        refine z_istoren_3 dX7_goesOn_118 (Nat.le_of_ble_eq_true rfl) rfl ?_
                        refine z_iloadn dX7_goesOn_119 rfl ?_
                        refine z_if_eq (tgt := 132) (by first | (exact hr _ _ (by decide)) | omega) dX7_goesOn_120 (by decide) (fun h120 => ?_) (fun h120 => ?_)
                        · exact absurd h120 (by decide)
                        · have y_C : z_com (M 21) c := by unfold z_com z_ovr z_us at *; omega
                          refine z_aloadn dX7_goesOn_123 rfl ?_
                          refine kX7_108 (tX7_ends hp (by omega) (by omega)) rfl ⟨(Nat.le_of_ble_eq_true rfl), (Nat.le_of_ble_eq_true rfl)⟩ (Nat.le_of_ble_eq_true rfl) dX7_goesOn_124 ?_
                          refine z_rng fun hr => ?_
                          refine z_aloadn dX7_goesOn_127 rfl ?_
                          refine z_iconst dX7_goesOn_128 ?_
                          refine pX7_98 (by first | (exact hr _ _ (by decide)) | omega) rfl dX7_goesOn_129 ?_
                          refine z_rng fun hr => ?_
                          refine z_iloadn dX7_goesOn_132 rfl ?_
                          exact z_zret dX7_goesOn_133 (by first | exact (if_pos (Or.inr (Or.inr y_C))).symm | (rw [if_neg]; unfold z_ten z_str z_com z_ovr z_us at *; omega)) (by first | exact z_g4 s0 s3 y_T y_S y_C | exact z_g5 s0 s3 y_T y_S (by unfold z_com z_ovr z_us at *; omega)) (by first | decide | (split <;> simp))
                · have y_S : z_str (M 21) c := by unfold z_str z_ovr z_us at *; omega
                  refine z_aloadn dX7_goesOn_83 rfl ?_
                  refine z_iconst dX7_goesOn_84 ?_
                  refine pX7_98 (by first | (exact hr _ _ (by decide)) | omega) rfl dX7_goesOn_85 ?_
                  refine z_rng fun hr => ?_
                  refine z_iconst dX7_goesOn_88 ?_
                  exact z_zret dX7_goesOn_89 (if_pos (Or.inr (Or.inl y_S))).symm (z_g2 s0 s3 y_T y_S) (by first | decide | (split <;> simp))
          · exact absurd h41 (by decide)
        · refine z_iconst dX7_goesOn_34 ?_
          refine z_goto (tgt := 39) dX7_goesOn_35 (by decide) ?_
          refine z_istoren_2 dX7_goesOn_39 (Nat.le_of_ble_eq_true rfl) rfl ?_
          refine z_iloadn dX7_goesOn_40 rfl ?_
          refine z_if_eq (tgt := 62) (by first | (exact hr _ _ (by decide)) | omega) dX7_goesOn_41 (by decide) (fun h41 => ?_) (fun h41 => ?_)
          · exact absurd h41 (by decide)
          · have y_T : z_ten (M 21) c := by unfold z_ten z_us at *; omega
            refine z_aloadn dX7_goesOn_44 rfl ?_
            refine z_bipush dX7_goesOn_45 (by decide) ?_
            refine z_iloadn dX7_goesOn_47 rfl ?_
            refine z_iadd dX7_goesOn_48 ?_
            refine z_bipush dX7_goesOn_49 (by decide) ?_
            refine z_isub dX7_goesOn_51 ?_
            refine pX7_92 (by first | (exact hr _ _ (by decide)) | omega) rfl dX7_goesOn_52 ?_
            refine z_rng fun hr => ?_
            refine z_aloadn dX7_goesOn_55 rfl ?_
            refine z_iconst dX7_goesOn_56 ?_
            refine pX7_98 (by first | (exact hr _ _ (by decide)) | omega) rfl dX7_goesOn_57 ?_
            refine z_rng fun hr => ?_
            refine z_iconst dX7_goesOn_60 ?_
            exact z_zret dX7_goesOn_61 (if_pos (Or.inl y_T)).symm (z_g1 s0 s3 y_T) (by first | decide | (split <;> simp))
theorem tX7_takes {G : z_G} {M : z_M} {c : Int} (hp : z_PF (M 21) (M 26)) (c0 : 33 ≤ c) (c1 : c ≤ 126) : KX7_takes G [.ref (z_ad G 0 40), z_I c] M (.inl (some (z_I (if z_tB (M 21) c then 1 else 0)))) (z_t2 M (z_tf (M 21) c) (z_tr (M 21) (M 26) c)) := by
  refine z_con (ls := [some (.ref (z_ad G 0 40)), some (z_I c)]) (by decide +kernel) (Nat.le_of_ble_eq_true rfl) rfl ?_
  intro Z htb
  refine z_rng fun hr => ?_
  have y_p := hp
  unfold z_PF at y_p
  obtain ⟨y_1, y_2, y_3, y_4, y_5, y_6, y_7, y_8, y_9⟩ := y_p
  refine z_aloadn dX7_takes_0 rfl ?_
  refine gX7_98 rfl dX7_takes_1 ?_
  refine z_if_ne (tgt := 13) (by first | (exact hr _ _ (by decide)) | omega) dX7_takes_4 (by decide) (fun h4 => ?_) (fun h4 => ?_)
  · refine z_aloadn dX7_takes_13 rfl ?_
    refine gX7_98 rfl dX7_takes_14 ?_
    refine z_iconst dX7_takes_17 ?_
    refine z_icmp_eq (tgt := 27) (by first | (exact hr _ _ (by decide)) | omega) (by first | (exact hr _ _ (by decide)) | omega) dX7_takes_18 (by decide) (fun h18 => ?_) (fun h18 => ?_)
    · refine z_aloadn dX7_takes_27 rfl ?_
      refine z_iloadn dX7_takes_28 rfl ?_
      refine z_bipush dX7_takes_29 (by decide) ?_
      refine z_isub dX7_takes_31 ?_
      refine pX7_95 (by first | (exact hr _ _ (by decide)) | omega) rfl dX7_takes_32 ?_
      refine z_rng fun hr => ?_
      refine z_aloadn dX7_takes_35 rfl ?_
      refine z_iconst dX7_takes_36 ?_
      refine pX7_98 (by first | (exact hr _ _ (by decide)) | omega) rfl dX7_takes_37 ?_
      refine z_rng fun hr => ?_
      refine z_aloadn dX7_takes_40 rfl ?_
      refine gX7_95 rfl dX7_takes_41 ?_
      refine z_top (v' := c - 48) ((z_sM_ne _ _ _ (by decide)).trans (z_sM_self _ _ _ _)) ?_
      refine z_iconst dX7_takes_44 ?_
      refine z_bipush dX7_takes_45 (by decide) ?_
      refine kX7_44 (tX7_within (by first | (exact hr _ _ (by decide)) | omega) (by first | (exact hr _ _ (by decide)) | omega) (by first | (exact hr _ _ (by decide)) | omega)) rfl ⟨(Nat.le_of_ble_eq_true rfl), (Nat.le_of_ble_eq_true rfl)⟩ (Nat.le_of_ble_eq_true rfl) dX7_takes_47 ?_
      exact z_zret dX7_takes_50 (z_tB3 (by omega)) (z_g3 (by omega)) (by first | decide | (split <;> simp))
    · refine z_aloadn dX7_takes_21 rfl ?_
      refine z_iloadn dX7_takes_22 rfl ?_
      refine kX7_114 (tX7_goesOn hp (by omega) (by omega) (by omega) (by omega)) rfl ⟨(Nat.le_of_ble_eq_true rfl), (Nat.le_of_ble_eq_true rfl)⟩ (Nat.le_of_ble_eq_true rfl) dX7_takes_23 ?_
      refine z_rng fun hr => ?_
      exact z_zret dX7_takes_26 (z_tB1 (by omega) (by omega)) rfl (by first | decide | (split <;> simp))
  · refine z_aloadn dX7_takes_7 rfl ?_
    refine z_iloadn dX7_takes_8 rfl ?_
    refine kX7_111 (tX7_begins hp (by omega) (by omega)) rfl ⟨(Nat.le_of_ble_eq_true rfl), (Nat.le_of_ble_eq_true rfl)⟩ (Nat.le_of_ble_eq_true rfl) dX7_takes_9 ?_
    refine z_rng fun hr => ?_
    exact z_zret dX7_takes_12 (z_tB0 (by omega)) (z_gb (by omega)) (by first | decide | (split <;> simp))
