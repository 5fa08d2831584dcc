theorem z_f4_R12 (M : z_M) (r7 p w d p' t : Int → Int) : z_sR (z_sR (z_f4 M r7 p w d) 15 t) 12 p' = z_sR (z_f4 M r7 p' w d) 15 t := by
  rw [z_sR_comm _ _ _ (show (15 : Nat) ≠ 12 by decide)]
  congr 1
  show z_sR (z_sR (z_sR (z_sR (z_sR M 7 r7) 12 p) 13 w) 14 d) 12 p' = _
  rw [z_sR_comm _ _ _ (show (14 : Nat) ≠ 12 by decide), z_sR_comm _ _ _ (show (13 : Nat) ≠ 12 by decide), z_sR_R]
theorem tX1_find {G : z_G} {M : z_M} {g : Nat} {N k : Int} (hg : g < 7) (hb : z_BI (M g) N) (k0 : 0 ≤ k) (k1 : k < 20) : KX1_find G [.ref (z_ad G 0 28), .ref (z_ad G g 8), z_I k] M (.inl none) (z_fiM M g k) := by
  refine z_con (ls := [some (.ref (z_ad G 0 28)), some (.ref (z_ad G g 8)), some (z_I k), none, none, none, none, none, none, none]) (by decide +kernel) (Nat.le_of_ble_eq_true rfl) rfl ?_
  intro Z htb
  refine z_rng fun hr => ?_
  have hh := z_BI_h hb
  have y_Q := fun p p0 p1 => z_BI_Q hb k p k0 k1 p0 p1
  unfold z_QI at y_Q
  have y_b := z_fg_rg (f := z_dr (M g) k) (x := z_wbs (z_dr (M g) k) 4) (w0 := M 13) (d0 := M 14) (fun p p0 p1 => ⟨(y_Q p p0 p1).1, (y_Q p p0 p1).2.1⟩) 12 (Nat.le_refl 12)
  obtain ⟨y_b1, y_b2, y_b3⟩ := y_b
  obtain ⟨m, y_m⟩ : ∃ m : Nat, (z_fgS M g k).2.2.1 = (m : Int) := ⟨(z_fgS M g k).2.2.1.toNat, (Int.toNat_of_nonneg y_b1.1).symm⟩
  have y_fm : z_fgm M g k = m := by unfold z_fgm; omega
  have y_7 : z_fg7 M g k = z_uf (z_uf (M 7) 12 (m : Int)) 13 (z_fgS M g k).2.2.2 := by unfold z_fg7; rw [y_m]
  obtain ⟨w, y_w⟩ : ∃ w, (z_fgS M g k).1 = w := ⟨_, rfl⟩
  obtain ⟨d, y_d⟩ : ∃ d, (z_fgS M g k).2.1 = d := ⟨_, rfl⟩
  obtain ⟨D, y_D⟩ : ∃ D, (z_fgS M g k).2.2.2 = D := ⟨_, rfl⟩
  obtain ⟨n0, y_n0⟩ : ∃ n0, (if m = 0 then 0 else 4 ^ m) = n0 := ⟨_, rfl⟩
  obtain ⟨R0, y_R0⟩ : ∃ R0, z_cp (M 12) (fun _ => 0) 0 0 12 = R0 := ⟨_, rfl⟩
  have y_fn : z_fgn M g k = n0 := by unfold z_fgn; rw [y_fm, y_n0]
  rw [y_D] at y_7
  obtain ⟨r7, y_r7⟩ : ∃ r7, z_fg7 M g k = r7 := ⟨_, rfl⟩
  have y_12 : r7 12 = (m : Int) := by rw [← y_r7, y_7, z_uf_ne _ _ (by decide), z_uf_self]
  have y_13 : r7 13 = D := by rw [← y_r7, y_7, z_uf_self]
  have y_end : z_sR (z_f4 M r7 (z_ffs m d D w R0 n0).2.2 w d) 15 (z_rw m (M 15) (z_fe m d D w R0 n0) ((z_fe m d D w R0 n0 : Int) - 1)) = z_fiM M g k := by
    unfold z_fiM z_fgF z_fgE
    rw [y_fm, y_fn, y_w, y_d, y_D, y_R0, y_r7]
  change ∀ j, 0 ≤ j → j < (z_fgS M g k).2.2.1 → (0 ≤ (z_fgS M g k).1 j ∧ (z_fgS M g k).1 j < 12) ∧ (z_fgS M g k).2.1 j = M g (186 + 12 * k + (z_fgS M g k).1 j) at y_b3
  change 0 ≤ (z_fgS M g k).2.2.1 ∧ (z_fgS M g k).2.2.1 ≤ 4 at y_b1
  change 0 ≤ (z_fgS M g k).2.2.2 ∧ (z_fgS M g k).2.2.2 ≤ 9 * (z_fgS M g k).2.2.1 at y_b2
  rw [y_m] at y_b1 y_b2 y_b3
  rw [y_D] at y_b2
  rw [y_w, y_d] at y_b3
  have m4 : m ≤ 4 := by omega
  have y_dd : ∀ j, 0 ≤ j → j < (m : Int) → 0 ≤ d j ∧ d j ≤ 9 := fun j j0 j1 => by
    have h1 := y_b3 j j0 j1
    have h2 := y_Q (w j) h1.1.1 h1.1.2
    rw [h1.2]
    exact ⟨h2.1, h2.2.1⟩
  have y_p4 := z_p4_le m4
  have y_nn : n0 ≤ 256 ∧ (n0 ≠ 0 → 1 ≤ m) ∧ (m ≠ 0 → n0 = 4 ^ m) := by rw [← y_n0]; split <;> omega
  refine z_aloadn dX1_find_0 rfl ?_
  refine z_aloadn dX1_find_1 rfl ?_
  refine z_iloadn dX1_find_2 rfl ?_
  refine kX1_24 (tX1_begin hg hb (by omega) (by omega)) rfl ⟨(Nat.le_of_ble_eq_true rfl), (Nat.le_of_ble_eq_true rfl)⟩ (Nat.le_of_ble_eq_true rfl) dX1_find_3 ?_
  refine z_rng fun hr => ?_
  rw [y_w, y_d, y_R0, y_r7]
  have y_x : z_f4 M r7 R0 w d = z_sR (z_f4 M r7 (z_ffs m d D w R0 0).2.2 w d) 15 (z_rw m (M 15) (z_fe m d D w R0 0) ((z_fe m d D w R0 0 : Int) - 1)) := by
    show z_f4 M r7 R0 w d = z_sR (z_f4 M r7 R0 w d) 15 (M 15)
    exact (z_sR_id (z_f4 M r7 R0 w d) 15).symm
  refine z_aloadn dX1_find_6 rfl ?_
  refine gX1_28 rfl dX1_find_7 ?_
  refine z_top (v' := (m : Int)) y_12 ?_
  refine z_if_ne (tgt := 17) (by first | (exact hr _ _ (by decide)) | (exact hr _ _ (by omega)) | omega) dX1_find_10 (by decide) (fun h10 => ?_) (fun h10 => ?_)
  · refine z_iconst dX1_find_17 ?_
    refine z_iconst dX1_find_18 ?_
    refine z_aloadn dX1_find_19 rfl ?_
    refine gX1_28 rfl dX1_find_20 ?_
    refine z_top (v' := (m : Int)) y_12 ?_
    refine z_imul dX1_find_23 ?_
    refine z_ishl (z_bshl (by omega) (by omega)) dX1_find_24 ?_
    refine z_top (v' := (n0 : Int)) (by rw [← y_n0]; first | (rw [if_pos (by omega)]; rfl) | (rw [if_neg (by omega)]; exact z_b4 m)) ?_
    refine z_istoren_3 dX1_find_25 (Nat.le_of_ble_eq_true rfl) rfl ?_
    refine z_iconst dX1_find_26 ?_
    refine z_istore_4 dX1_find_27 (Nat.le_of_ble_eq_true rfl) rfl ?_
    refine z_iconst dX1_find_29 ?_
    refine z_istore_5 dX1_find_30 (Nat.le_of_ble_eq_true rfl) rfl ?_
    refine z_iconst dX1_find_32 ?_
    refine z_istore_6 dX1_find_33 (Nat.le_of_ble_eq_true rfl) rfl ?_
    refine z_mem y_x ?_
    refine z_upn (P := fun i : Nat => z_J G Z _ _ 35 [some (.ref (z_ad G 0 28)), some (.ref (z_ad G g 8)), some (z_I k), some (z_I n0), some (z_I (z_ffs m d D w R0 i).2.1), some (z_I (z_ffs m d D w R0 i).1), some (z_I i), none, none, none] [] (z_sR (z_f4 M r7 (z_ffs m d D w R0 i).2.2 w d) 15 (z_rw m (M 15) (z_fe m d D w R0 i) (((z_fe m d D w R0 i) : Int) - 1))) 0 0) n0 ?_ ?_
    · refine z_rng fun hr => ?_
      have y_ret := y_end
      refine z_iload dX1_find_35 rfl ?_
      refine z_iloadn dX1_find_37 rfl ?_
      refine z_icmp_ge (tgt := 110) (by first | (exact hr _ _ (by decide)) | (exact hr _ _ (by omega)) | omega) (by first | (exact hr _ _ (by decide)) | (exact hr _ _ (by omega)) | omega) dX1_find_38 (by decide) (fun h38 => ?_) (fun h38 => ?_)
      · exact z_vret dX1_find_110 (by first | exact y_ret (by omega) | exact y_ret)
      · exfalso; omega
    · intro i hi y_ih
      have y_fs := z_ffs_rg (w := w) (R0 := R0) m4 y_dd y_b2.1 (show D ≤ 36 by omega) i
      have y_ts := z_ts_rg i m4
      have y_m1 : 1 ≤ m := y_nn.2.1 (by omega)
      have y_ug := z_ug_rg (fun j _ _ => z_dg_rg m i j) y_dd y_b2.1 (show D ≤ 36 by omega) (show 0 ≤ z_ts m i by omega) y_ts.2 m (Nat.le_refl m)
      have y_mm1 := z_mb y_ug.1 y_ug.2 y_fs.1 y_fs.2.1
      have y_mm2 := z_mb y_fs.2.2.1 y_fs.2.2.2 (show 0 ≤ z_ts m i by omega) y_ts.2
      have y_s : z_ffs m d D w R0 (i + 1) = if 0 < (z_ffs m d D w R0 i).2.1 ∧ ((z_ug (z_dg m i) d D (z_ts m i) m * (z_ffs m d D w R0 i).1 - (z_ffs m d D w R0 i).2.1 * z_ts m i) < 0 ∨ ((z_ug (z_dg m i) d D (z_ts m i) m * (z_ffs m d D w R0 i).1 - (z_ffs m d D w R0 i).2.1 * z_ts m i) = 0 ∧ z_ts m i < (z_ffs m d D w R0 i).1)) then (z_ts m i, z_ug (z_dg m i) d D (z_ts m i) m, z_kt w (z_dg m i) m (z_ffs m d D w R0 i).2.2) else (z_ffs m d D w R0 i) := rfl
      have y_e : z_fe m d D w R0 (i + 1) = if 0 < (z_ffs m d D w R0 i).2.1 then i + 1 else (z_fe m d D w R0 i) := rfl
      have y_ret : ¬ 0 < (z_ffs m d D w R0 i).2.1 → z_sR (z_f4 M r7 (z_ffs m d D w R0 i).2.2 w d) 15 (z_rw m (M 15) (z_fe m d D w R0 i) (((z_fe m d D w R0 i) : Int) - 1)) = z_fiM M g k := fun q => by
        have q1 := z_ffs_fix q (n0 - i)
        rw [show i + (n0 - i) = n0 by omega] at q1
        rw [← q1.1, ← q1.2]
        exact y_end
      obtain ⟨F, y_F⟩ : ∃ F, (z_ffs m d D w R0 i) = F := ⟨_, rfl⟩
      obtain ⟨E, y_E⟩ : ∃ E, (z_fe m d D w R0 i) = E := ⟨_, rfl⟩
      rw [y_F] at y_fs y_mm1 y_mm2 y_s y_e y_ret ⊢
      rw [y_E] at y_e y_ret ⊢
      obtain ⟨Y, y_Y⟩ : ∃ Y, z_sR (z_f4 M r7 F.2.2 w d) 15 (z_rw m (M 15) E ((E : Int) - 1)) = Y := ⟨_, rfl⟩
      have y_Y12 : Y 7 12 = (m : Int) := by rw [← y_Y]; exact y_12
      rw [y_Y] at y_ret ⊢
      refine z_rng fun hr => ?_
      refine z_iload dX1_find_35 rfl ?_
      refine z_iloadn dX1_find_37 rfl ?_
      refine z_icmp_ge (tgt := 110) (by first | (exact hr _ _ (by decide)) | (exact hr _ _ (by omega)) | omega) (by first | (exact hr _ _ (by decide)) | (exact hr _ _ (by omega)) | omega) dX1_find_38 (by decide) (fun h38 => ?_) (fun h38 => ?_)
      · exfalso; omega
      · refine z_iload dX1_find_41 rfl ?_
        refine z_if_le (tgt := 110) (by first | (exact hr _ _ (by decide)) | (exact hr _ _ (by omega)) | omega) dX1_find_43 (by decide) (fun h43 => ?_) (fun h43 => ?_)
        · exact z_vret dX1_find_110 (by first | exact y_ret (by omega) | exact y_ret)
        · refine z_aloadn dX1_find_46 rfl ?_
          refine z_iload dX1_find_47 rfl ?_
          refine kX1_32 (tX1_setTrial (m := m) (by omega) (by omega) m4 y_Y12) rfl ⟨(Nat.le_of_ble_eq_true rfl), (Nat.le_of_ble_eq_true rfl)⟩ (Nat.le_of_ble_eq_true rfl) dX1_find_49 ?_
          refine z_rng fun hr => ?_
          refine z_mem (M' := z_sR (z_f4 M r7 F.2.2 w d) 15 (z_rw m (M 15) (i + 1) i)) (by rw [← y_Y, z_sR_R, z_sR_self]; congr 1; exact z_rw_s rfl) ?_
          obtain ⟨Y2, y_Y2⟩ : ∃ Y, z_sR (z_f4 M r7 F.2.2 w d) 15 (z_rw m (M 15) (i + 1) i) = Y := ⟨_, rfl⟩
          have y_Y27 : Y2 7 12 = (m : Int) := by rw [← y_Y2]; exact y_12
          have y_Y2D : Y2 7 13 = D := by rw [← y_Y2]; exact y_13
          have y_Y212 : Y2 12 = F.2.2 := by rw [← y_Y2]; rfl
          have y_Y213 : ∀ j, 0 ≤ j → j < (m : Int) → Y2 13 j = w j ∧ 0 ≤ w j ∧ w j < 12 := fun j j0 j1 => ⟨by rw [← y_Y2]; rfl, (y_b3 j j0 j1).1⟩
          have y_Y214 : ∀ j, 0 ≤ j → j < (m : Int) → Y2 14 j = d j := fun j j0 j1 => by rw [← y_Y2]; rfl
          have y_Y215 : ∀ j, 0 ≤ j → j < (m : Int) → Y2 15 j = z_dg m i j := fun j j0 j1 => by rw [← y_Y2]; exact z_rw_at (n := i) j0 j1
          rw [y_Y2]
          refine z_rng fun hr => ?_
          refine z_istore_7 dX1_find_52 (Nat.le_of_ble_eq_true rfl) rfl ?_
          refine z_aloadn dX1_find_54 rfl ?_
          refine z_iload dX1_find_55 rfl ?_
          refine kX1_36 (tX1_gap (m := m) (f := z_dg m i) (d := d) m4 y_Y27 y_Y2D (by omega) y_ts.2 y_b2.1 (by omega) y_Y215 (fun j _ _ => z_dg_rg m i j) y_Y214 y_dd) rfl ⟨(Nat.le_of_ble_eq_true rfl), (Nat.le_of_ble_eq_true rfl)⟩ (Nat.le_of_ble_eq_true rfl) dX1_find_57 ?_
          obtain ⟨T, y_T⟩ : ∃ T, z_ts m i = T := ⟨_, rfl⟩
          rw [y_T] at y_ts y_s y_ug y_mm1 y_mm2 ⊢
          obtain ⟨U, y_U⟩ : ∃ U, z_ug (z_dg m i) d D T m = U := ⟨_, rfl⟩
          rw [y_U] at y_s y_ug y_mm1 ⊢
          refine z_istore_8 dX1_find_60 (Nat.le_of_ble_eq_true rfl) rfl ?_
          refine z_iload dX1_find_62 rfl ?_
          refine z_iload dX1_find_64 rfl ?_
          refine z_imul dX1_find_66 ?_
          refine z_iload dX1_find_67 rfl ?_
          refine z_iload dX1_find_69 rfl ?_
          refine z_imul dX1_find_71 ?_
          refine z_isub dX1_find_72 ?_
          refine z_istore_9 dX1_find_73 (Nat.le_of_ble_eq_true rfl) rfl ?_
          refine z_iload dX1_find_75 rfl ?_
          refine z_if_lt (tgt := 92) (by first | (exact hr _ _ (by decide)) | (exact hr _ _ (by omega)) | omega) dX1_find_77 (by decide) (fun h77 => ?_) (fun h77 => ?_)
          · refine z_iload dX1_find_92 rfl ?_
            refine z_istore_4 dX1_find_94 (Nat.le_of_ble_eq_true rfl) rfl ?_
            refine z_iload dX1_find_96 rfl ?_
            refine z_istore_5 dX1_find_98 (Nat.le_of_ble_eq_true rfl) rfl ?_
            refine z_aloadn dX1_find_100 rfl ?_
            refine kX1_39 (tX1_keepTrial (m := m) (w := w) (f := z_dg m i) m4 y_Y27 y_Y213 y_Y215) rfl ⟨(Nat.le_of_ble_eq_true rfl), (Nat.le_of_ble_eq_true rfl)⟩ (Nat.le_of_ble_eq_true rfl) dX1_find_101 ?_
            refine z_rng fun hr => ?_
            refine z_iinc_6 dX1_find_104 (Nat.le_of_ble_eq_true rfl) rfl ?_
            refine z_goto (tgt := 35) dX1_find_107 (by decide) ?_
            rw [y_e, if_pos (by omega)] at y_ih
            refine z_fgt 7 (z_fgt 8 (z_fgt 9 ?_))
            first
              | (rw [y_s, if_neg (by omega)] at y_ih
                 refine z_mem ?_ y_ih
                 rw [← y_Y2]
                 congr 2
                 omega)
              | (rw [y_s, if_pos (by omega)] at y_ih
                 refine z_mem ?_ y_ih
                 rw [y_Y212, ← y_Y2, z_f4_R12]
                 congr 2
                 omega)
          · refine z_iload dX1_find_80 rfl ?_
            refine z_if_ne (tgt := 104) (by first | (exact hr _ _ (by decide)) | (exact hr _ _ (by omega)) | omega) dX1_find_82 (by decide) (fun h82 => ?_) (fun h82 => ?_)
            · refine z_iinc_6 dX1_find_104 (Nat.le_of_ble_eq_true rfl) rfl ?_
              refine z_goto (tgt := 35) dX1_find_107 (by decide) ?_
              rw [y_e, if_pos (by omega)] at y_ih
              refine z_fgt 7 (z_fgt 8 (z_fgt 9 ?_))
              first
                | (rw [y_s, if_neg (by omega)] at y_ih
                   refine z_mem ?_ y_ih
                   rw [← y_Y2]
                   congr 2
                   omega)
                | (rw [y_s, if_pos (by omega)] at y_ih
                   refine z_mem ?_ y_ih
                   rw [y_Y212, ← y_Y2, z_f4_R12]
                   congr 2
                   omega)
            · refine z_iload dX1_find_85 rfl ?_
              refine z_iload dX1_find_87 rfl ?_
              refine z_icmp_ge (tgt := 104) (by first | (exact hr _ _ (by decide)) | (exact hr _ _ (by omega)) | omega) (by first | (exact hr _ _ (by decide)) | (exact hr _ _ (by omega)) | omega) dX1_find_89 (by decide) (fun h89 => ?_) (fun h89 => ?_)
              · refine z_iinc_6 dX1_find_104 (Nat.le_of_ble_eq_true rfl) rfl ?_
                refine z_goto (tgt := 35) dX1_find_107 (by decide) ?_
                rw [y_e, if_pos (by omega)] at y_ih
                refine z_fgt 7 (z_fgt 8 (z_fgt 9 ?_))
                first
                  | (rw [y_s, if_neg (by omega)] at y_ih
                     refine z_mem ?_ y_ih
                     rw [← y_Y2]
                     congr 2
                     omega)
                  | (rw [y_s, if_pos (by omega)] at y_ih
                     refine z_mem ?_ y_ih
                     rw [y_Y212, ← y_Y2, z_f4_R12]
                     congr 2
                     omega)
              · refine z_iload dX1_find_92 rfl ?_
                refine z_istore_4 dX1_find_94 (Nat.le_of_ble_eq_true rfl) rfl ?_
                refine z_iload dX1_find_96 rfl ?_
                refine z_istore_5 dX1_find_98 (Nat.le_of_ble_eq_true rfl) rfl ?_
                refine z_aloadn dX1_find_100 rfl ?_
                refine kX1_39 (tX1_keepTrial (m := m) (w := w) (f := z_dg m i) m4 y_Y27 y_Y213 y_Y215) rfl ⟨(Nat.le_of_ble_eq_true rfl), (Nat.le_of_ble_eq_true rfl)⟩ (Nat.le_of_ble_eq_true rfl) dX1_find_101 ?_
                refine z_rng fun hr => ?_
                refine z_iinc_6 dX1_find_104 (Nat.le_of_ble_eq_true rfl) rfl ?_
                refine z_goto (tgt := 35) dX1_find_107 (by decide) ?_
                rw [y_e, if_pos (by omega)] at y_ih
                refine z_fgt 7 (z_fgt 8 (z_fgt 9 ?_))
                first
                  | (rw [y_s, if_neg (by omega)] at y_ih
                     refine z_mem ?_ y_ih
                     rw [← y_Y2]
                     congr 2
                     omega)
                  | (rw [y_s, if_pos (by omega)] at y_ih
                     refine z_mem ?_ y_ih
                     rw [y_Y212, ← y_Y2, z_f4_R12]
                     congr 2
                     omega)
  · refine z_iconst dX1_find_13 ?_
    refine z_goto (tgt := 25) dX1_find_14 (by decide) ?_
    refine z_top (v' := (n0 : Int)) (by rw [← y_n0]; first | (rw [if_pos (by omega)]; rfl) | (rw [if_neg (by omega)]; exact z_b4 m)) ?_
    refine z_istoren_3 dX1_find_25 (Nat.le_of_ble_eq_true rfl) rfl ?_
    refine z_iconst dX1_find_26 ?_
    refine z_istore_4 dX1_find_27 (Nat.le_of_ble_eq_true rfl) rfl ?_
    refine z_iconst dX1_find_29 ?_
    refine z_istore_5 dX1_find_30 (Nat.le_of_ble_eq_true rfl) rfl ?_
    refine z_iconst dX1_find_32 ?_
    refine z_istore_6 dX1_find_33 (Nat.le_of_ble_eq_true rfl) rfl ?_
    refine z_mem y_x ?_
    refine z_upn (P := fun i : Nat => z_J G Z _ _ 35 [some (.ref (z_ad G 0 28)), some (.ref (z_ad G g 8)), some (z_I k), some (z_I n0), some (z_I (z_ffs m d D w R0 i).2.1), some (z_I (z_ffs m d D w R0 i).1), some (z_I i), none, none, none] [] (z_sR (z_f4 M r7 (z_ffs m d D w R0 i).2.2 w d) 15 (z_rw m (M 15) (z_fe m d D w R0 i) (((z_fe m d D w R0 i) : Int) - 1))) 0 0) n0 ?_ ?_
    · refine z_rng fun hr => ?_
      have y_ret := y_end
      refine z_iload dX1_find_35 rfl ?_
      refine z_iloadn dX1_find_37 rfl ?_
      refine z_icmp_ge (tgt := 110) (by first | (exact hr _ _ (by decide)) | (exact hr _ _ (by omega)) | omega) (by first | (exact hr _ _ (by decide)) | (exact hr _ _ (by omega)) | omega) dX1_find_38 (by decide) (fun h38 => ?_) (fun h38 => ?_)
      · exact z_vret dX1_find_110 (by first | exact y_ret (by omega) | exact y_ret)
      · exfalso; omega
    · intro i hi y_ih
      have y_fs := z_ffs_rg (w := w) (R0 := R0) m4 y_dd y_b2.1 (show D ≤ 36 by omega) i
      have y_ts := z_ts_rg i m4
      have y_m1 : 1 ≤ m := y_nn.2.1 (by omega)
      have y_ug := z_ug_rg (fun j _ _ => z_dg_rg m i j) y_dd y_b2.1 (show D ≤ 36 by omega) (show 0 ≤ z_ts m i by omega) y_ts.2 m (Nat.le_refl m)
      have y_mm1 := z_mb y_ug.1 y_ug.2 y_fs.1 y_fs.2.1
      have y_mm2 := z_mb y_fs.2.2.1 y_fs.2.2.2 (show 0 ≤ z_ts m i by omega) y_ts.2
      have y_s : z_ffs m d D w R0 (i + 1) = if 0 < (z_ffs m d D w R0 i).2.1 ∧ ((z_ug (z_dg m i) d D (z_ts m i) m * (z_ffs m d D w R0 i).1 - (z_ffs m d D w R0 i).2.1 * z_ts m i) < 0 ∨ ((z_ug (z_dg m i) d D (z_ts m i) m * (z_ffs m d D w R0 i).1 - (z_ffs m d D w R0 i).2.1 * z_ts m i) = 0 ∧ z_ts m i < (z_ffs m d D w R0 i).1)) then (z_ts m i, z_ug (z_dg m i) d D (z_ts m i) m, z_kt w (z_dg m i) m (z_ffs m d D w R0 i).2.2) else (z_ffs m d D w R0 i) := rfl
      have y_e : z_fe m d D w R0 (i + 1) = if 0 < (z_ffs m d D w R0 i).2.1 then i + 1 else (z_fe m d D w R0 i) := rfl
      have y_ret : ¬ 0 < (z_ffs m d D w R0 i).2.1 → z_sR (z_f4 M r7 (z_ffs m d D w R0 i).2.2 w d) 15 (z_rw m (M 15) (z_fe m d D w R0 i) (((z_fe m d D w R0 i) : Int) - 1)) = z_fiM M g k := fun q => by
        have q1 := z_ffs_fix q (n0 - i)
        rw [show i + (n0 - i) = n0 by omega] at q1
        rw [← q1.1, ← q1.2]
        exact y_end
      obtain ⟨F, y_F⟩ : ∃ F, (z_ffs m d D w R0 i) = F := ⟨_, rfl⟩
      obtain ⟨E, y_E⟩ : ∃ E, (z_fe m d D w R0 i) = E := ⟨_, rfl⟩
      rw [y_F] at y_fs y_mm1 y_mm2 y_s y_e y_ret ⊢
      rw [y_E] at y_e y_ret ⊢
      obtain ⟨Y, y_Y⟩ : ∃ Y, z_sR (z_f4 M r7 F.2.2 w d) 15 (z_rw m (M 15) E ((E : Int) - 1)) = Y := ⟨_, rfl⟩
      have y_Y12 : Y 7 12 = (m : Int) := by rw [← y_Y]; exact y_12
      rw [y_Y] at y_ret ⊢
      refine z_rng fun hr => ?_
      refine z_iload dX1_find_35 rfl ?_
      refine z_iloadn dX1_find_37 rfl ?_
      refine z_icmp_ge (tgt := 110) (by first | (exact hr _ _ (by decide)) | (exact hr _ _ (by omega)) | omega) (by first | (exact hr _ _ (by decide)) | (exact hr _ _ (by omega)) | omega) dX1_find_38 (by decide) (fun h38 => ?_) (fun h38 => ?_)
      · exfalso; omega
      · refine z_iload dX1_find_41 rfl ?_
        refine z_if_le (tgt := 110) (by first | (exact hr _ _ (by decide)) | (exact hr _ _ (by omega)) | omega) dX1_find_43 (by decide) (fun h43 => ?_) (fun h43 => ?_)
        · exact z_vret dX1_find_110 (by first | exact y_ret (by omega) | exact y_ret)
        · refine z_aloadn dX1_find_46 rfl ?_
          refine z_iload dX1_find_47 rfl ?_
          refine kX1_32 (tX1_setTrial (m := m) (by omega) (by omega) m4 y_Y12) rfl ⟨(Nat.le_of_ble_eq_true rfl), (Nat.le_of_ble_eq_true rfl)⟩ (Nat.le_of_ble_eq_true rfl) dX1_find_49 ?_
          refine z_rng fun hr => ?_
          refine z_mem (M' := z_sR (z_f4 M r7 F.2.2 w d) 15 (z_rw m (M 15) (i + 1) i)) (by rw [← y_Y, z_sR_R, z_sR_self]; congr 1; exact z_rw_s rfl) ?_
          obtain ⟨Y2, y_Y2⟩ : ∃ Y, z_sR (z_f4 M r7 F.2.2 w d) 15 (z_rw m (M 15) (i + 1) i) = Y := ⟨_, rfl⟩
          have y_Y27 : Y2 7 12 = (m : Int) := by rw [← y_Y2]; exact y_12
          have y_Y2D : Y2 7 13 = D := by rw [← y_Y2]; exact y_13
          have y_Y212 : Y2 12 = F.2.2 := by rw [← y_Y2]; rfl
          have y_Y213 : ∀ j, 0 ≤ j → j < (m : Int) → Y2 13 j = w j ∧ 0 ≤ w j ∧ w j < 12 := fun j j0 j1 => ⟨by rw [← y_Y2]; rfl, (y_b3 j j0 j1).1⟩
          have y_Y214 : ∀ j, 0 ≤ j → j < (m : Int) → Y2 14 j = d j := fun j j0 j1 => by rw [← y_Y2]; rfl
          have y_Y215 : ∀ j, 0 ≤ j → j < (m : Int) → Y2 15 j = z_dg m i j := fun j j0 j1 => by rw [← y_Y2]; exact z_rw_at (n := i) j0 j1
          rw [y_Y2]
          refine z_rng fun hr => ?_
          refine z_istore_7 dX1_find_52 (Nat.le_of_ble_eq_true rfl) rfl ?_
          refine z_aloadn dX1_find_54 rfl ?_
          refine z_iload dX1_find_55 rfl ?_
          refine kX1_36 (tX1_gap (m := m) (f := z_dg m i) (d := d) m4 y_Y27 y_Y2D (by omega) y_ts.2 y_b2.1 (by omega) y_Y215 (fun j _ _ => z_dg_rg m i j) y_Y214 y_dd) rfl ⟨(Nat.le_of_ble_eq_true rfl), (Nat.le_of_ble_eq_true rfl)⟩ (Nat.le_of_ble_eq_true rfl) dX1_find_57 ?_
          obtain ⟨T, y_T⟩ : ∃ T, z_ts m i = T := ⟨_, rfl⟩
          rw [y_T] at y_ts y_s y_ug y_mm1 y_mm2 ⊢
          obtain ⟨U, y_U⟩ : ∃ U, z_ug (z_dg m i) d D T m = U := ⟨_, rfl⟩
          rw [y_U] at y_s y_ug y_mm1 ⊢
          refine z_istore_8 dX1_find_60 (Nat.le_of_ble_eq_true rfl) rfl ?_
          refine z_iload dX1_find_62 rfl ?_
          refine z_iload dX1_find_64 rfl ?_
          refine z_imul dX1_find_66 ?_
          refine z_iload dX1_find_67 rfl ?_
          refine z_iload dX1_find_69 rfl ?_
          refine z_imul dX1_find_71 ?_
          refine z_isub dX1_find_72 ?_
          refine z_istore_9 dX1_find_73 (Nat.le_of_ble_eq_true rfl) rfl ?_
          refine z_iload dX1_find_75 rfl ?_
          refine z_if_lt (tgt := 92) (by first | (exact hr _ _ (by decide)) | (exact hr _ _ (by omega)) | omega) dX1_find_77 (by decide) (fun h77 => ?_) (fun h77 => ?_)
          · refine z_iload dX1_find_92 rfl ?_
            refine z_istore_4 dX1_find_94 (Nat.le_of_ble_eq_true rfl) rfl ?_
            refine z_iload dX1_find_96 rfl ?_
            refine z_istore_5 dX1_find_98 (Nat.le_of_ble_eq_true rfl) rfl ?_
            refine z_aloadn dX1_find_100 rfl ?_
            refine kX1_39 (tX1_keepTrial (m := m) (w := w) (f := z_dg m i) m4 y_Y27 y_Y213 y_Y215) rfl ⟨(Nat.le_of_ble_eq_true rfl), (Nat.le_of_ble_eq_true rfl)⟩ (Nat.le_of_ble_eq_true rfl) dX1_find_101 ?_
            refine z_rng fun hr => ?_
            refine z_iinc_6 dX1_find_104 (Nat.le_of_ble_eq_true rfl) rfl ?_
            refine z_goto (tgt := 35) dX1_find_107 (by decide) ?_
            rw [y_e, if_pos (by omega)] at y_ih
            refine z_fgt 7 (z_fgt 8 (z_fgt 9 ?_))
            first
              | (rw [y_s, if_neg (by omega)] at y_ih
                 refine z_mem ?_ y_ih
                 rw [← y_Y2]
                 congr 2
                 omega)
              | (rw [y_s, if_pos (by omega)] at y_ih
                 refine z_mem ?_ y_ih
                 rw [y_Y212, ← y_Y2, z_f4_R12]
                 congr 2
                 omega)
          · refine z_iload dX1_find_80 rfl ?_
            refine z_if_ne (tgt := 104) (by first | (exact hr _ _ (by decide)) | (exact hr _ _ (by omega)) | omega) dX1_find_82 (by decide) (fun h82 => ?_) (fun h82 => ?_)
            · refine z_iinc_6 dX1_find_104 (Nat.le_of_ble_eq_true rfl) rfl ?_
              refine z_goto (tgt := 35) dX1_find_107 (by decide) ?_
              rw [y_e, if_pos (by omega)] at y_ih
              refine z_fgt 7 (z_fgt 8 (z_fgt 9 ?_))
              first
                | (rw [y_s, if_neg (by omega)] at y_ih
                   refine z_mem ?_ y_ih
                   rw [← y_Y2]
                   congr 2
                   omega)
                | (rw [y_s, if_pos (by omega)] at y_ih
                   refine z_mem ?_ y_ih
                   rw [y_Y212, ← y_Y2, z_f4_R12]
                   congr 2
                   omega)
            · refine z_iload dX1_find_85 rfl ?_
              refine z_iload dX1_find_87 rfl ?_
              refine z_icmp_ge (tgt := 104) (by first | (exact hr _ _ (by decide)) | (exact hr _ _ (by omega)) | omega) (by first | (exact hr _ _ (by decide)) | (exact hr _ _ (by omega)) | omega) dX1_find_89 (by decide) (fun h89 => ?_) (fun h89 => ?_)
              · refine z_iinc_6 dX1_find_104 (Nat.le_of_ble_eq_true rfl) rfl ?_
                refine z_goto (tgt := 35) dX1_find_107 (by decide) ?_
                rw [y_e, if_pos (by omega)] at y_ih
                refine z_fgt 7 (z_fgt 8 (z_fgt 9 ?_))
                first
                  | (rw [y_s, if_neg (by omega)] at y_ih
                     refine z_mem ?_ y_ih
                     rw [← y_Y2]
                     congr 2
                     omega)
                  | (rw [y_s, if_pos (by omega)] at y_ih
                     refine z_mem ?_ y_ih
                     rw [y_Y212, ← y_Y2, z_f4_R12]
                     congr 2
                     omega)
              · refine z_iload dX1_find_92 rfl ?_
                refine z_istore_4 dX1_find_94 (Nat.le_of_ble_eq_true rfl) rfl ?_
                refine z_iload dX1_find_96 rfl ?_
                refine z_istore_5 dX1_find_98 (Nat.le_of_ble_eq_true rfl) rfl ?_
                refine z_aloadn dX1_find_100 rfl ?_
                refine kX1_39 (tX1_keepTrial (m := m) (w := w) (f := z_dg m i) m4 y_Y27 y_Y213 y_Y215) rfl ⟨(Nat.le_of_ble_eq_true rfl), (Nat.le_of_ble_eq_true rfl)⟩ (Nat.le_of_ble_eq_true rfl) dX1_find_101 ?_
                refine z_rng fun hr => ?_
                refine z_iinc_6 dX1_find_104 (Nat.le_of_ble_eq_true rfl) rfl ?_
                refine z_goto (tgt := 35) dX1_find_107 (by decide) ?_
                rw [y_e, if_pos (by omega)] at y_ih
                refine z_fgt 7 (z_fgt 8 (z_fgt 9 ?_))
                first
                  | (rw [y_s, if_neg (by omega)] at y_ih
                     refine z_mem ?_ y_ih
                     rw [← y_Y2]
                     congr 2
                     omega)
                  | (rw [y_s, if_pos (by omega)] at y_ih
                     refine z_mem ?_ y_ih
                     rw [y_Y212, ← y_Y2, z_f4_R12]
                     congr 2
                     omega)
