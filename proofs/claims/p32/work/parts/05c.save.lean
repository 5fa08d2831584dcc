/-! ===== the class's save ===== -/
def z_sg (g : Nat) : Nat := (g + 1) % 7
theorem z_sg_lt (g : Nat) : z_sg g < 7 := Nat.mod_lt _ (by decide)
theorem z_sg_ne {g : Nat} (hg : g < 7) : g ≠ z_sg g := by unfold z_sg; omega
/-- no state has anything beyond its places -/
def z_W7 (M : z_M) : Prop := ∀ a, a < 7 → ∀ i, i < 0 ∨ 906 ≤ i → M a i = 0
theorem z_W7_cp {M : z_M} {g q : Nat} (h : z_W7 M) (hg : g < 7) (hq : q < 7) : z_cp (M q) (M g) 0 0 906 = M g := by
  funext j
  unfold z_cp
  by_cases e : 0 ≤ j ∧ j < 0 + 906
  · rw [if_pos e]; congr 1; omega
  · rw [if_neg e, h g hg j (by omega), h q hq j (by omega)]
def z_SC (M : z_M) (g : Nat) : z_M := z_sM (z_sM (z_sM (z_sR M (z_sg g) (M g)) 7 2 (z_sg g)) 7 0 (z_sg g)) 7 1 (z_mn (M 7 1 + 1) 6)
theorem z_SC_row {M : z_M} {g a : Nat} (h7 : a ≠ 7) (h : a ≠ z_sg g) : z_SC M g a = M a := by
  unfold z_SC
  rw [z_sM_row _ _ _ h7, z_sM_row _ _ _ h7, z_sM_row _ _ _ h7, z_sR_ne _ _ h]
theorem z_SC_new (M : z_M) (g : Nat) : z_SC M g (z_sg g) = M g := by
  have h := z_sg_lt g
  unfold z_SC
  rw [z_sM_row _ _ _ (by omega), z_sM_row _ _ _ (by omega), z_sM_row _ _ _ (by omega), z_sR_self]
theorem z_SC_72 (M : z_M) (g : Nat) : z_SC M g 7 2 = (z_sg g : Nat) := by
  unfold z_SC
  rw [z_sM_ne _ _ _ (by decide), z_sM_ne _ _ _ (by decide), z_sM_self]
theorem tX6_save {G : z_G} {M : z_M} {g : Nat} (hg : g < 7) (hn : M 7 2 = (g : Int)) (h0 : M 7 0 = (g : Int)) (s0 : 0 ≤ M 7 1) (s1 : M 7 1 ≤ 6) (ho : z_W7 M) : KX6_save G [.ref (z_ad G 0 20)] M (.inl none) (z_SC M g) := by
  refine z_con (ls := [some (.ref (z_ad G 0 20)), none]) (by decide +kernel) (Nat.le_of_ble_eq_true rfl) rfl ?_
  intro Z htb
  refine z_rng fun hr => ?_
  obtain ⟨q, hq⟩ : ∃ q, z_sg g = q := ⟨_, rfl⟩
  have hq7 : q < 7 := by rw [← hq]; exact z_sg_lt g
  have hqg : g ≠ q := by rw [← hq]; exact z_sg_ne hg
  refine z_aloadn dX6_save_0 rfl ?_
  refine gX6_255 rfl dX6_save_1 ?_
  refine z_iconst dX6_save_4 ?_
  refine z_iadd dX6_save_5 ?_
  refine z_bipush dX6_save_6 (by decide) ?_
  refine z_irem (by omega) (by omega) (by omega) (by omega) dX6_save_8 ?_
  refine z_top (v' := (q : Int)) (by rw [h0, ← hq]; unfold z_sg; omega) ?_
  refine z_istoren_1 dX6_save_9 (Nat.le_of_ble_eq_true rfl) rfl ?_
  refine z_aloadn dX6_save_10 rfl ?_
  refine gX6_11 rfl dX6_save_11 ?_
  refine z_iloadn dX6_save_14 rfl ?_
  refine z_aald (by omega) (by omega) dX6_save_15 ?_
  rw [Int.toNat_natCast]
  refine z_aloadn dX6_save_16 rfl ?_
  refine gX6_44 hn rfl dX6_save_17 ?_
  refine z_mem (M' := z_sR M q (M q)) (z_sR_id _ _).symm ?_
  refine kX6_344 (by first | exact hg | exact hq7) (tX5_copyFrom hq7 hg hqg) rfl ⟨(Nat.le_of_ble_eq_true rfl), (Nat.le_of_ble_eq_true rfl)⟩ (Nat.le_of_ble_eq_true rfl) dX6_save_20 ?_
  refine z_mem (M' := z_sR M q (M g)) (by rw [z_W7_cp ho hg hq7]) ?_
  refine z_aloadn dX6_save_23 rfl ?_
  refine z_aloadn dX6_save_24 rfl ?_
  refine gX6_11 rfl dX6_save_25 ?_
  refine z_iloadn dX6_save_28 rfl ?_
  refine z_aald (by omega) (by omega) dX6_save_29 ?_
  rw [Int.toNat_natCast]
  refine pX6_44 (by first | exact hg | exact hq7) rfl dX6_save_30 ?_
  refine z_rng fun hr => ?_
  refine z_aloadn dX6_save_33 rfl ?_
  refine z_iloadn dX6_save_34 rfl ?_
  refine pX6_255 (by first | (exact hr _ _ (by decide)) | omega) rfl dX6_save_35 ?_
  refine z_rng fun hr => ?_
  refine z_aloadn dX6_save_38 rfl ?_
  refine z_aloadn dX6_save_39 rfl ?_
  refine gX6_250 rfl dX6_save_40 ?_
  refine z_top (v' := M 7 1) (by rw [z_sM_ne _ _ _ (by decide), z_sM_ne _ _ _ (by decide), z_sR_ne _ _ (by omega)]) ?_
  refine z_iconst dX6_save_43 ?_
  refine z_iadd dX6_save_44 ?_
  refine z_bipush dX6_save_45 (by decide) ?_
  refine z_mmin (by first | (exact hr _ _ (by decide)) | omega) (by first | (exact hr _ _ (by decide)) | omega) rfl wmX6_348 (Nat.le_of_ble_eq_true rfl) (Nat.le_of_ble_eq_true rfl) dX6_save_47 ?_
  refine pX6_250 (by unfold z_mn; split <;> omega) rfl dX6_save_50 ?_
  refine z_rng fun hr => ?_
  exact z_vret dX6_save_53 (by unfold z_SC; rw [hq])
