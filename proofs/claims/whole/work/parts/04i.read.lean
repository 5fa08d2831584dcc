theorem z_indR {P : Nat → Int → (Int → Int) → (Int → Int) → Prop} (h0 : ∀ k f r, P 0 k f r) (hs : ∀ m, (∀ k f r, P m k f r) → ∀ k f r, P (m + 1) k f r) : ∀ m k f r, P m k f r := by
  intro m
  induction m with
  | zero => exact h0
  | succ m ih => exact hs m ih
theorem z_tf_o {f : Int → Int} {c j : Int} (h : j < 5 ∨ 9 < j) : z_tf f c j = f j := by
  unfold z_tf z_rbf z_endf
  have q : ∀ (g : Int → Int) (i v : Int), 5 ≤ i → i ≤ 9 → z_uf g i v j = g j := fun g i v a b => z_uf_ne _ _ (by omega)
  (repeat' split) <;> simp only [q _ 5 _ (by decide) (by decide), q _ 6 _ (by decide) (by decide), q _ 7 _ (by decide) (by decide), q _ 8 _ (by decide) (by decide), q _ 9 _ (by decide) (by decide)]
theorem z_PF_0 (f r : Int → Int) : z_PF (z_f0 f) (z_r0 r) := by
  unfold z_PF z_f0 z_r0 z_cp
  simp only [z_uf]
  refine ⟨by simp, by simp, by simp, by simp, by simp, by simp, by simp, by simp, fun p p0 p1 => ?_⟩
  rw [if_pos (by omega)]
  exact ⟨by decide, by decide⟩
theorem z_PF_n {f r : Int → Int} {c : Int} (h : z_PF f r) (ht : ¬ z_tB f c) : z_PF (z_uf (z_tf f c) 5 0) (z_tr f r c) := by
  obtain ⟨h1, h2, h3, h4, h5, h6, h7, h8, h9⟩ := h
  have key : ∀ g : Int → Int, (g 6 = f 6) → (g 7 = f 7) → z_PF (z_uf g 5 0) r := by
    intro g a b
    unfold z_PF
    simp only [z_uf]
    refine ⟨by simp, by simp, by simp; omega, by simp; omega, by simp; omega, by simp; omega, by simp, by simp, h9⟩
  have hr : z_tr f r c = r := by
    unfold z_tr
    split
    · rfl
    · rename_i q
      split
      · rfl
      · split
        · rfl
        · rw [if_neg]
          intro q3
          exact ht (Or.inr (Or.inr ⟨by omega, by omega, Or.inr (Or.inr q3)⟩))
  rw [hr]
  refine key _ ?_ ?_ <;>
  · unfold z_tf
    split
    · rename_i q
      rw [if_neg (fun q2 => ht (Or.inl ⟨q, q2⟩))]
    · split
      · rfl
      · rename_i q q3
        rw [if_neg (fun q2 => ht (Or.inr (Or.inr ⟨q, q3, Or.inl q2⟩))), if_neg (fun q2 => ht (Or.inr (Or.inr ⟨q, q3, Or.inr (Or.inl q2)⟩))), if_neg (fun q2 => ht (Or.inr (Or.inr ⟨q, q3, Or.inr (Or.inr q2)⟩)))]
theorem z_rd_PF (tx : Int → Int) : ∀ (m : Nat) (k : Int) (f r : Int → Int), z_PF f r → z_PF (z_rd tx m k f r).2.1 (z_rd tx m k f r).2.2 := by
  intro m
  induction m with
  | zero => intro k f r h; exact h
  | succ m ih =>
    intro k f r h
    unfold z_rd
    by_cases q : z_tB f (tx k)
    · rw [if_pos q]; exact ih _ _ _ (z_PF_t h q)
    · rw [if_neg q]; exact z_PF_n h q
theorem z_rd_o (tx : Int → Int) {j : Int} (hj : j < 5 ∨ 9 < j) : ∀ (m : Nat) (k : Int) (f r : Int → Int), (z_rd tx m k f r).2.1 j = f j := by
  intro m
  induction m with
  | zero => intro k f r; rfl
  | succ m ih =>
    intro k f r
    unfold z_rd
    by_cases q : z_tB f (tx k)
    · rw [if_pos q, ih, z_tf_o hj]
    · rw [if_neg q]
      show z_uf _ 5 0 j = _
      rw [z_uf_ne _ _ (by omega), z_tf_o hj]
theorem z_rd_k (tx : Int → Int) : ∀ (m : Nat) (k : Int) (f r : Int → Int), k ≤ (z_rd tx m k f r).1 ∧ (z_rd tx m k f r).1 ≤ k + m := by
  intro m
  induction m with
  | zero => intro k f r; exact ⟨Int.le_refl _, by show k ≤ k + 0; omega⟩
  | succ m ih =>
    intro k f r
    unfold z_rd
    by_cases q : z_tB f (tx k)
    · rw [if_pos q]; have := ih (k + 1) (z_tf f (tx k)) (z_tr f r (tx k)); omega
    · rw [if_neg q]; show k ≤ k ∧ k ≤ k + _; omega
theorem tX7_takes2 {G : z_G} {M : z_M} {c : Int} {f r : Int → Int} (hp : z_PF f r) (c0 : 33 ≤ c) (c1 : c ≤ 126) : KX7_takes G [.ref (z_ad G 0 40), z_I c] (z_t2 M f r) (.inl (some (z_I (if z_tB f c then 1 else 0)))) (z_t2 M (z_tf f c) (z_tr f r c)) := by
  have h := tX7_takes (G := G) (M := z_t2 M f r) (c := c) (by rw [z_t2_21, z_t2_26]; exact hp) c0 c1
  rwa [z_t2_t2, z_t2_26, z_t2_21] at h
theorem z_t2_f0 (M : z_M) : z_sM (z_sM (z_sM M 21 5 0) 21 6 0) 21 7 0 = z_t2 M (z_f0 (M 21)) (M 26) := by
  rw [z_t2_s1 M, z_t2_sM, z_t2_sM]
  rfl
theorem tX7_read {G : z_G} {M : z_M} {R : Int × (Int → Int) × (Int → Int)} (l0 : 0 ≤ M 21 3) (l1 : M 21 3 ≤ 60) (tx : ∀ i, 0 ≤ i → i < M 21 3 → 33 ≤ M 25 i ∧ M 25 i ≤ 126) (hR : z_rd (M 25) (M 21 3).toNat 0 (z_f0 (M 21)) (z_r0 (M 26)) = R) : KX7_read G [.ref (z_ad G 0 40)] M (.inl (some (z_I R.1))) (z_t2 M R.2.1 R.2.2) := by
  refine z_con (ls := [some (.ref (z_ad G 0 40)), none]) (by decide +kernel) (Nat.le_of_ble_eq_true rfl) rfl ?_
  intro Z htb
  refine z_rng fun hr => ?_
  refine z_aloadn dX7_read_0 rfl ?_
  refine z_iconst dX7_read_1 ?_
  refine pX7_98 (by first | (exact hr _ _ (by decide)) | omega) rfl dX7_read_2 ?_
  refine z_rng fun hr => ?_
  refine z_aloadn dX7_read_5 rfl ?_
  refine z_iconst dX7_read_6 ?_
  refine pX7_101 (by first | (exact hr _ _ (by decide)) | omega) rfl dX7_read_7 ?_
  refine z_rng fun hr => ?_
  refine z_aloadn dX7_read_10 rfl ?_
  refine z_iconst dX7_read_11 ?_
  refine pX7_86 (by first | (exact hr _ _ (by decide)) | omega) rfl dX7_read_12 ?_
  refine z_rng fun hr => ?_
  refine z_mem (z_t2_f0 M) ?_
  refine z_iconst dX7_read_15 ?_
  refine z_istoren_1 dX7_read_16 (Nat.le_of_ble_eq_true rfl) rfl ?_
  refine z_mem (M' := z_t2 M (z_f0 (M 21)) (z_cp (M 26) (fun _ => 0) 0 0 ((0 : Nat) : Int))) (by rw [show ((0 : Nat) : Int) = 0 from rfl, z_cp_0]) ?_
  refine z_upn (P := fun i : Nat => z_J G Z _ _ 17 [some (.ref (z_ad G 0 40)), some (z_I i)] [] (z_t2 M (z_f0 (M 21)) (z_cp (M 26) (fun _ => 0) 0 0 i)) 0 0) 12 ?_ ?_
  · refine z_rng fun hr => ?_
    refine z_iloadn dX7_read_17 rfl ?_
    refine z_bipush dX7_read_18 (by decide) ?_
    refine z_icmp_ge (tgt := 36) (by first | (exact hr _ _ (by decide)) | omega) (by first | (exact hr _ _ (by decide)) | omega) dX7_read_20 (by decide) (fun h20 => ?_) (fun h20 => ?_)
    · refine z_iconst dX7_read_36 ?_
      refine z_istoren_1 dX7_read_37 (Nat.le_of_ble_eq_true rfl) rfl ?_
      refine z_indR (P := fun m k f r => z_PF f r → f 3 = M 21 3 → 0 ≤ k → k + m = M 21 3 → z_rd (M 25) m k f r = R → z_J G Z _ _ 38 [some (.ref (z_ad G 0 40)), some (z_I k)] [] (z_t2 M f r) 0 0) ?_ ?_ (M 21 3).toNat 0 (z_f0 (M 21)) (z_r0 (M 26)) (z_PF_0 _ _) rfl (by decide) (by omega) hR
      · intro k f r y_p y_3 y_k y_m y_R
        obtain rfl := y_R
        refine z_rng fun hr => ?_
        have y_t : z_t2 M f r 21 3 = M 21 3 := by rw [z_t2_21]; exact y_3
        refine z_iloadn dX7_read_38 rfl ?_
        refine z_aloadn dX7_read_39 rfl ?_
        refine gX7_117 rfl dX7_read_40 ?_
        refine z_icmp_ge (tgt := 72) (by first | (exact hr _ _ (by decide)) | omega) (by first | (exact hr _ _ (by decide)) | omega) dX7_read_43 (by decide) (fun h43 => ?_) (fun h43 => ?_)
        · refine z_aloadn dX7_read_72 rfl ?_
          refine gX7_117 rfl dX7_read_73 ?_
          exact z_iret dX7_read_76 (by show _ = k; omega) rfl
        · exfalso; omega
      · intro m y_ih k f r y_p y_3 y_k y_m y_R
        refine z_rng fun hr => ?_
        have y_t : z_t2 M f r 21 3 = M 21 3 := by rw [z_t2_21]; exact y_3
        have y_c := tx k y_k (by omega)
        unfold z_rd at y_R
        refine z_iloadn dX7_read_38 rfl ?_
        refine z_aloadn dX7_read_39 rfl ?_
        refine gX7_117 rfl dX7_read_40 ?_
        refine z_icmp_ge (tgt := 72) (by first | (exact hr _ _ (by decide)) | omega) (by first | (exact hr _ _ (by decide)) | omega) dX7_read_43 (by decide) (fun h43 => ?_) (fun h43 => ?_)
        · exfalso; omega
        · refine z_aloadn dX7_read_46 rfl ?_
          refine z_aloadn dX7_read_47 rfl ?_
          refine gX7_19 rfl dX7_read_48 ?_
          refine z_iloadn dX7_read_51 rfl ?_
          refine z_iald (by rfl) (by first | decide | exact Or.inl ⟨by decide, hg⟩) (by omega) (by omega) (by decide) dX7_read_52 ?_
          refine z_top (v' := M 25 k) (by rw [z_t2_ne _ _ _ (by decide) (by decide)]) ?_
          refine kX7_120 (tX7_takes2 y_p (by omega) (by omega)) rfl ⟨(Nat.le_of_ble_eq_true rfl), (Nat.le_of_ble_eq_true rfl)⟩ (Nat.le_of_ble_eq_true rfl) dX7_read_53 ?_
          refine z_rng fun hr => ?_
          refine z_ifb_ne (tgt := 66) dX7_read_56 (by decide) (fun h56 => ?_) (fun h56 => ?_)
          · refine z_iinc_1 dX7_read_66 (Nat.le_of_ble_eq_true rfl) rfl ?_
            refine z_goto (tgt := 38) dX7_read_69 (by decide) ?_
            rw [if_pos h56] at y_R
            exact y_ih _ _ _ (z_PF_t y_p h56) (by rw [z_tf_o (by omega)]; exact y_3) (by omega) (by omega) y_R
          · rw [if_neg h56] at y_R
            obtain rfl := y_R
            refine z_aloadn dX7_read_59 rfl ?_
            refine z_iconst dX7_read_60 ?_
            refine pX7_98 (by first | (exact hr _ _ (by decide)) | omega) rfl dX7_read_61 ?_
            refine z_rng fun hr => ?_
            refine z_iloadn dX7_read_64 rfl ?_
            exact z_iret dX7_read_65 (by first | rfl | omega) (by rw [z_t2_sM])
    · exfalso; omega
  · intro i hi y_ih
    refine z_rng fun hr => ?_
    refine z_iloadn dX7_read_17 rfl ?_
    refine z_bipush dX7_read_18 (by decide) ?_
    refine z_icmp_ge (tgt := 36) (by first | (exact hr _ _ (by decide)) | omega) (by first | (exact hr _ _ (by decide)) | omega) dX7_read_20 (by decide) (fun h20 => ?_) (fun h20 => ?_)
    · exfalso; omega
    · refine z_aloadn dX7_read_23 rfl ?_
      refine gX7_22 rfl dX7_read_24 ?_
      refine z_iloadn dX7_read_27 rfl ?_
      refine z_iconst dX7_read_28 ?_
      refine z_iast (by rfl) (by first | decide | exact Or.inl ⟨by decide, hg⟩) (by omega) (by omega) (by decide) (by first | (exact hr _ _ (by decide)) | omega) dX7_read_29 ?_
      refine z_rng fun hr => ?_
      refine z_iinc_1 dX7_read_30 (Nat.le_of_ble_eq_true rfl) rfl ?_
      refine z_goto (tgt := 17) dX7_read_33 (by decide) ?_
      refine z_mem ?_ y_ih
      rw [z_t2_sM6]
      congr 1
      exact z_cp_s _ _ _ _ i (by omega) rfl
