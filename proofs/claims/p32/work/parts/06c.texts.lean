/-! ===== the class: texts, undo, share, accept, kill, royalty ===== -/
theorem z_kLF_o {M : z_M} {j : Int} (h : j < 4 ∨ 7 < j) : z_kLF M j = M 7 j := by
  have e : (z_KR M).2.1 j = M 7 j := (z_krd_o (M 8) h _ _ _ _).trans (by
    unfold z_kF0
    rw [z_uf_ne _ _ (by omega), z_uf_ne _ _ (by omega), z_uf_ne _ _ (by omega), z_uf_ne _ _ (by omega)])
  unfold z_kLF
  split
  · unfold z_endF
    rw [z_uf_ne _ _ (by omega), z_uf_ne _ _ (by omega), e]
  · exact e
theorem z_kLR_rg {M : z_M} : ∀ p, 0 ≤ p → p < 12 → 0 ≤ z_kLR M p ∧ z_kLR M p ≤ 9 := by
  have h : z_PK (z_KR M).2.1 (z_KR M).2.2 := z_krd_PK (M 8) (M 7 3).toNat 0 (z_kF0 (M 7)) (z_kr0 (M 9)) (z_PK_0 _ _)
  intro p p0 p1
  unfold z_kLR
  split
  · unfold z_endW z_uf
    split
    · have h5 := h.2.2.2.2.1
      have h6 := h.2.2.2.2.2.1
      omega
    · exact h.2.2.2.2.2.2.2.2 p p0 p1
  · exact h.2.2.2.2.2.2.2.2 p p0 p1
abbrev z_shZ (M : z_M) : z_M := z_c2 M (z_kLF M) (z_kLR M)
def z_c_shareC (M : z_M) (g : Nat) (k : Int) : Int := if ¬ (0 ≤ k ∧ k < M g 1) then 1 else if ¬ (z_kLB M ∧ z_gtp (z_kLR M) 12 < M g 0) then 2 else if M g (86 + 5 * k + 2) = 4 then 3 else 0
def z_dFM (M : z_M) (g : Nat) (k a : Int) : z_M := z_dF M g k a (M 7) (M 10) (M 11)
theorem z_dFM_row {M : z_M} {g : Nat} {k a : Int} {r : Nat} (h : r ≠ 7 ∧ r ≠ 10 ∧ r ≠ 11) : z_dFM M g k a r = M r := by
  show z_sR (z_sR (z_sR M 7 _) 10 _) 11 _ r = M r
  rw [z_sR_ne _ _ h.2.2, z_sR_ne _ _ h.2.1, z_sR_ne _ _ h.1]
theorem z_dFM_7 {M : z_M} {g : Nat} {k a : Int} {i : Int} (h : i < 8 ∨ 12 ≤ i) : z_dFM M g k a 7 i = M 7 i := by
  show z_uf (z_uf (z_uf (z_uf (M 7) 8 _) 9 _) 10 _) 11 _ i = _
  rw [z_uf_ne _ _ (by omega), z_uf_ne _ _ (by omega), z_uf_ne _ _ (by omega), z_uf_ne _ _ (by omega)]
theorem z_dFM_bd {M : z_M} {g : Nat} {k a : Int} (a0 : 0 ≤ a) (a1 : a ≤ 100000) (hc : z_cF (M g) k) (h4 : z_p4c (M g) k) : (0 ≤ z_dFM M g k a 7 8 ∧ z_dFM M g k a 7 8 ≤ 100000) ∧ (0 ≤ z_dFM M g k a 7 9 ∧ z_dFM M g k a 7 9 ≤ 12000000) ∧ (0 ≤ z_dFM M g k a 7 10 ∧ z_dFM M g k a 7 10 < 12) ∧ (0 ≤ z_dFM M g k a 7 11 ∧ z_dFM M g k a 7 11 ≤ 2000000) ∧ ∀ p, 0 ≤ p → p < 12 → 0 ≤ z_dFM M g k a 10 p ∧ z_dFM M g k a 10 p ≤ 2000000 := by
  obtain ⟨h1, h2, h3, h4', h5, h6, h7, h8, h9, h10, h11⟩ := hc
  have rs := z_rs_rg (b := M g) (y := 0) a0 a1 h6 h7
  have sp := z_sp_rg (s := M 10) (r := M 11) h1 h2 h4 rs.1 rs.2
  have m8 := z_mb a0 a1 h6.1 h6.2
  refine ⟨?_, ⟨Int.le_refl 0, by show (0 : Int) ≤ 12000000; decide⟩, h11, ⟨Int.le_refl 0, by show (0 : Int) ≤ 2000000; decide⟩, fun p p0 p1 => ?_⟩
  · show 0 ≤ z_kp (M g) a ∧ z_kp (M g) a ≤ 100000
    unfold z_kp
    omega
  · have q := sp p p0 p1
    show 0 ≤ (z_sp (M g) k (z_rs (M g) a 0) (M 10) (M 11)).1 p ∧ (z_sp (M g) k (z_rs (M g) a 0) (M 10) (M 11)).1 p ≤ 2000000
    omega
theorem z_ebd_o {b b' : Int → Int} {B : Int} (h : z_ebd b B) (e : ∀ j, 14 ≤ j → j < 86 → b' j = b j) : z_ebd b' B := by
  intro p p0 p1
  rw [e _ (by omega) (by omega), e _ (by omega) (by omega), e _ (by omega) (by omega)]
  exact h p p0 p1
theorem z_p4c_o {b b' : Int → Int} {k : Int} (h : z_p4c b k) (e : ∀ p, 0 ≤ p → p < 12 → b' (426 + 12 * k + p) = b (426 + 12 * k + p)) : z_p4c b' k := by
  have e2 : z_sm 12 (fun p => if 0 < b' (426 + 12 * k + p) then (1 : Int) else 0) = z_sm 12 (fun p => if 0 < b (426 + 12 * k + p) then 1 else 0) := z_sm_eq (fun i hi => by show (if 0 < b' _ then (1 : Int) else 0) = _; rw [e i (by omega) (by omega)])
  show z_sm 12 _ ≤ 4
  rw [e2]
  exact h
abbrev z_acZ (A : z_M) (q : Nat) (k v : Int) : z_M := z_sR A q (z_uf (A q) (86 + 5 * k + 2) v)
abbrev z_acD (A : z_M) (q : Nat) (k fee v : Int) : z_M := z_dFM (z_acZ A q k v) q k fee
def z_acM (A : z_M) (q : Nat) (k fee v : Int) : z_M := z_sR (z_acD A q k fee v) q (z_bin (z_acD A q k fee v q) (z_acD A q k fee v 7) (z_acD A q k fee v 10) fee)
def z_acV (A : z_M) (q : Nat) (k fee v : Int) : Int := (z_eA (z_acD A q k fee v q) (z_acD A q k fee v 7) (z_acD A q k fee v 10)).2
def z_rob (b : Int → Int) (k a oc : Int) (S : Int → Int) : Int → Int := z_uf (z_ay (z_uf b (86 + 5 * k + 4) (b (86 + 5 * k + 4) + a)) k S) 7 (b 7 + oc)
def z_roM (A : z_M) (q : Nat) (k a : Int) : z_M := z_sR (z_dRM A q k a) q (z_bin (z_rob (A q) k a (z_dRM A q k a 7 9) (z_dRM A q k a 10)) (z_dRM A q k a 7) (z_dRM A q k a 10) a)
def z_roV (A : z_M) (q : Nat) (k a : Int) : Int := (z_eA (z_rob (A q) k a (z_dRM A q k a 7 9) (z_dRM A q k a 10)) (z_dRM A q k a 7) (z_dRM A q k a 10)).2
theorem z_rob_o {b : Int → Int} {k a oc : Int} {S : Int → Int} {j : Int} (k0 : 0 ≤ k) (h : j < 86) (h7 : j ≠ 7) : z_rob b k a oc S j = b j := by
  unfold z_rob z_ay z_cp
  rw [z_uf_ne _ _ h7, if_neg (by omega), z_uf_ne _ _ (by omega)]
theorem tX6_append {G : z_G} {M : z_M} {l : Int} (hl : M 7 3 = l) (l0 : 0 ≤ l) (l1 : l ≤ 60) {x : Int} (rx : z_rg x) (hc : z_c_append l x = 0) : KX6_append G [.ref (z_ad G 0 20), z_I x] M (.inl (some (z_I (l + 1)))) (z_sM (z_sM M 8 l x) 7 3 (l + 1)) := by
  refine z_con (ls := [some (.ref (z_ad G 0 20)), some (z_I x)]) (by decide +kernel) (Nat.le_of_ble_eq_true rfl) rfl ?_
  intro Z htb
  refine z_rng fun hr => ?_
  skip
  unfold z_c_append at hc
  (repeat' split at hc) <;> first | (exfalso; omega; done) | skip
  refine z_iloadn dX6_append_0 rfl ?_
  refine z_bipush dX6_append_1 (by decide) ?_
  refine z_bipush dX6_append_3 (by decide) ?_
  by_cases e5 : 33 ≤ x ∧ x ≤ 126
  · refine kX6_76 (tX6_needRange (by first | assumption | omega | exact hr _ _ (by omega)) (by first | assumption | omega | exact hr _ _ (by omega)) (by first | assumption | omega | exact hr _ _ (by omega)) e5) rfl ⟨(Nat.le_of_ble_eq_true rfl), (Nat.le_of_ble_eq_true rfl)⟩ (Nat.le_of_ble_eq_true rfl) dX6_append_5 ?_
    refine z_aloadn dX6_append_8 rfl ?_
    refine gX6_18 rfl dX6_append_9 ?_
    refine gX6_189 rfl dX6_append_12 ?_
    refine z_top (v' := l) hl ?_
    refine z_bipush dX6_append_15 (by decide) ?_
    refine z_icmp_lt (tgt := 30) (by first | (exact hr _ _ (by decide)) | (exact hr _ _ (by omega)) | omega) (by first | (exact hr _ _ (by decide)) | (exact hr _ _ (by omega)) | omega) dX6_append_17 (by decide) (fun h17 => ?_) (fun h17 => ?_)
    · refine z_aloadn dX6_append_30 rfl ?_
      refine gX6_18 rfl dX6_append_31 ?_
      refine gX6_244 rfl dX6_append_34 ?_
      refine z_aloadn dX6_append_37 rfl ?_
      refine gX6_18 rfl dX6_append_38 ?_
      refine gX6_189 rfl dX6_append_41 ?_
      refine z_top (v' := l) hl ?_
      refine z_iloadn dX6_append_44 rfl ?_
      refine z_iast (by rfl) (by first | exact Or.inl (by decide) | exact Or.inl (Or.inl ⟨by decide, hg⟩) | exact Or.inl (Or.inl ⟨by decide, hq7⟩)) (by omega) (by omega) (by decide) (by first | (exact hr _ _ (by decide)) | (exact hr _ _ (by omega)) | omega) dX6_append_45 ?_
      refine z_rng fun hr => ?_
      refine z_aloadn dX6_append_46 rfl ?_
      refine gX6_18 rfl dX6_append_47 ?_
      refine z_dup dX6_append_50 rfl ?_
      refine gX6_189 rfl dX6_append_51 ?_
      refine z_top (v' := l) ((congrFun (z_sM_row _ _ _ (by decide)) _).trans hl) ?_
      refine z_iconst dX6_append_54 ?_
      refine z_iadd dX6_append_55 ?_
      refine pX6_189 (by first | (exact hr _ _ (by decide)) | (exact hr _ _ (by omega)) | omega) rfl dX6_append_56 ?_
      refine z_rng fun hr => ?_
      refine z_aloadn dX6_append_59 rfl ?_
      refine gX6_18 rfl dX6_append_60 ?_
      refine gX6_189 rfl dX6_append_63 ?_
      refine z_top (v' := l + 1) (z_sM_self _ _ _ _) ?_
      exact z_iret dX6_append_66 rfl rfl
    · exfalso; omega
  · exfalso; omega
theorem tX6_clearBuffer {G : z_G} {M : z_M} : KX6_clearBuffer G [.ref (z_ad G 0 20)] M (.inl (some (z_I (M 7 3)))) (z_sM M 7 3 0) := by
  refine z_con (ls := [some (.ref (z_ad G 0 20)), none]) (by decide +kernel) (Nat.le_of_ble_eq_true rfl) rfl ?_
  intro Z htb
  refine z_rng fun hr => ?_
  refine z_aloadn dX6_clearBuffer_0 rfl ?_
  refine gX6_18 rfl dX6_clearBuffer_1 ?_
  refine gX6_189 rfl dX6_clearBuffer_4 ?_
  refine z_istoren_1 dX6_clearBuffer_7 (Nat.le_of_ble_eq_true rfl) rfl ?_
  refine z_aloadn dX6_clearBuffer_8 rfl ?_
  refine gX6_18 rfl dX6_clearBuffer_9 ?_
  refine z_iconst dX6_clearBuffer_12 ?_
  refine pX6_189 (by first | (exact hr _ _ (by decide)) | (exact hr _ _ (by omega)) | omega) rfl dX6_clearBuffer_13 ?_
  refine z_rng fun hr => ?_
  refine z_iloadn dX6_clearBuffer_16 rfl ?_
  exact z_iret dX6_clearBuffer_17 (by first | rfl | omega) rfl
theorem tX6_share {G : z_G} {M : z_M} {g : Nat} {N : Int} (hg : g < 7) (hn : M 7 2 = (g : Int)) (h0 : M 7 0 = (g : Int)) (s0 : 0 ≤ M 7 1) (s1 : M 7 1 ≤ 6) (ho : z_W7 M) (hb : z_BI (M g) N) (l0 : 0 ≤ M 7 3) (l1 : M 7 3 ≤ 60) (tx : ∀ i, 0 ≤ i → i < M 7 3 → 33 ≤ M 8 i ∧ M 8 i ≤ 126) {k : Int} (rk : z_rg k) (hc : z_c_shareC M g k = 0) : KX6_share G [.ref (z_ad G 0 20), z_I k] M (.inl (some (z_I (z_aP (z_o_share (M g) k (z_kLR M)) k)))) (z_sM (z_sR (z_SC (z_shZ M) g) (z_sg g) (z_o_share (M g) k (z_kLR M))) 7 3 0) := by
  refine z_con (ls := [some (.ref (z_ad G 0 20)), some (z_I k)]) (by decide +kernel) (Nat.le_of_ble_eq_true rfl) rfl ?_
  intro Z htb
  refine z_rng fun hr => ?_
  have hh := z_BI_h hb
  unfold z_c_shareC at hc
  (repeat' split at hc) <;> first | (exfalso; omega; done) | skip
  obtain ⟨Y, y_Z⟩ : ∃ Z, z_shZ M = Z := ⟨_, rfl⟩
  have y_Zg : Y g = M g := by rw [← y_Z]; exact z_c2_row (by omega)
  have y_Z7 : ∀ j, j < 4 ∨ 7 < j → Y 7 j = M 7 j := fun j h => by rw [← y_Z]; exact z_kLF_o h
  have y_Z9 : Y 9 = z_kLR M := by rw [← y_Z]; exact z_sR_self _ _ _
  have y_Zn : Y 7 2 = (g : Int) := (y_Z7 2 (by decide)).trans hn
  have y_Zo : z_W7 Y := fun a h i hi => by rw [← y_Z]; exact (congrFun (z_c2_row (by omega)) i).trans (ho a h i hi)
  have y_kr := z_kLR_rg (M := M)
  have y_hb : z_BI (Y g) N := by rw [y_Zg]; exact hb
  rw [y_Z]
  have y_ok : z_kLB M ∧ z_gtp (z_kLR M) 12 < M g 0 := by first | assumption | (refine Classical.byContradiction fun q => ?_; contradiction)
  refine z_aloadn dX6_share_0 rfl ?_
  refine z_iloadn dX6_share_1 rfl ?_
  by_cases e2 : 0 ≤ k ∧ k < M g 1
  · refine kX6_143 (tX6_needPiece hg hn (by first | assumption | omega | exact hr _ _ (by omega)) e2) rfl ⟨(Nat.le_of_ble_eq_true rfl), (Nat.le_of_ble_eq_true rfl)⟩ (Nat.le_of_ble_eq_true rfl) dX6_share_2 ?_
    refine z_aloadn dX6_share_5 rfl ?_
    refine gX6_18 rfl dX6_share_6 ?_
    refine kX6_170 (tX2_isList l0 l1 tx) rfl ⟨(Nat.le_of_ble_eq_true rfl), (Nat.le_of_ble_eq_true rfl)⟩ (Nat.le_of_ble_eq_true rfl) dX6_share_9 ?_
    have y_zz : z_c2 M (z_kLF M) (z_kLR M) = Y := y_Z
    rw [y_zz]
    refine z_rng fun hr => ?_
    refine z_ifb_eq (tgt := 35) dX6_share_12 (by decide) (fun h12 => ?_) (fun h12 => ?_)
    · first | (exfalso; omega) | exact absurd y_ok.1 h12
    · refine z_aloadn dX6_share_15 rfl ?_
      refine gX6_18 rfl dX6_share_16 ?_
      refine kX6_174 tX2_greatestPen rfl ⟨(Nat.le_of_ble_eq_true rfl), (Nat.le_of_ble_eq_true rfl)⟩ (Nat.le_of_ble_eq_true rfl) dX6_share_19 ?_
      refine z_top (v' := z_gtp (z_kLR M) 12) (by rw [y_Z9]) ?_
      have y_gt := z_gtp_rg (z_kLR M) 12
      refine z_aloadn dX6_share_22 rfl ?_
      refine gX6_44 (by first | exact hn | exact y_Zn | exact y_An | ((repeat (first | rw [z_sM_row _ _ _ y_7q] | rw [z_sR_ne _ _ y_7q])); exact y_An) | (rw [z_sM_ne _ _ _ (by decide)]; (repeat (first | rw [z_sM_row _ _ _ y_7q] | rw [z_sR_ne _ _ y_7q])); exact y_An)) rfl dX6_share_23 ?_
      refine gX6_48 (by first | exact hg | exact hq7) rfl dX6_share_26 ?_
      refine gX6_52 (by first | exact hg | exact hq7) rfl dX6_share_29 ?_
      refine z_top (v' := M g 0) (by rw [y_Zg]) ?_
      refine z_icmp_lt (tgt := 45) (by first | (exact hr _ _ (by decide)) | (exact hr _ _ (by omega)) | omega) (by first | (exact hr _ _ (by decide)) | (exact hr _ _ (by omega)) | omega) dX6_share_32 (by decide) (fun h32 => ?_) (fun h32 => ?_)
      · have y_kk := z_BI_K hb k (by omega) (by omega)
        unfold z_KI at y_kk
        refine z_aloadn dX6_share_45 rfl ?_
        refine gX6_44 (by first | exact hn | exact y_Zn | exact y_An | ((repeat (first | rw [z_sM_row _ _ _ y_7q] | rw [z_sR_ne _ _ y_7q])); exact y_An) | (rw [z_sM_ne _ _ _ (by decide)]; (repeat (first | rw [z_sM_row _ _ _ y_7q] | rw [z_sR_ne _ _ y_7q])); exact y_An)) rfl dX6_share_46 ?_
        refine gX6_121 (by first | exact hg | exact hq7) rfl dX6_share_49 ?_
        refine gX6_161 (by first | exact hg | exact hq7) rfl dX6_share_52 ?_
        refine z_iloadn dX6_share_55 rfl ?_
        refine z_iald (by rfl) (by first | exact Or.inl (by decide) | exact Or.inl (Or.inl ⟨by decide, hg⟩) | exact Or.inl (Or.inl ⟨by decide, hq7⟩)) (by omega) (by omega) (by decide) dX6_share_56 ?_
        refine z_top (v' := M g (86 + 5 * k + 2)) (by rw [y_Zg]) ?_
        refine z_iconst dX6_share_57 ?_
        refine z_icmp_ne (tgt := 71) (by first | (exact hr _ _ (by decide)) | (exact hr _ _ (by omega)) | omega) (by first | (exact hr _ _ (by decide)) | (exact hr _ _ (by omega)) | omega) dX6_share_58 (by decide) (fun h58 => ?_) (fun h58 => ?_)
        · refine z_aloadn dX6_share_71 rfl ?_
          refine kX6_65 (tX6_save hg y_Zn ((y_Z7 0 (by decide)).trans h0) (by rw [y_Z7 1 (by decide)]; exact s0) (by rw [y_Z7 1 (by decide)]; exact s1) y_Zo) rfl ⟨(Nat.le_of_ble_eq_true rfl), (Nat.le_of_ble_eq_true rfl)⟩ (Nat.le_of_ble_eq_true rfl) dX6_share_72 ?_
          refine z_rng fun hr => ?_
          obtain ⟨q, y_q⟩ : ∃ q, z_sg g = q := ⟨_, rfl⟩
          have hq7 : q < 7 := by rw [← y_q]; exact z_sg_lt g
          have y_7q : 7 ≠ q := by omega
          obtain ⟨A, y_A⟩ : ∃ A, z_SC Y g = A := ⟨_, rfl⟩
          have y_Aq : A q = Y g := by rw [← y_A, ← y_q]; exact z_SC_new Y g
          have y_An : A 7 2 = (q : Int) := by rw [← y_A, ← y_q]; exact z_SC_72 Y g
          rw [y_A, y_q]
          have y_A9 : A 9 = z_kLR M := by rw [← y_A, z_SC_row (by decide) (by have := z_sg_lt g; omega)]; exact y_Z9
          rw [← y_Zg, ← y_Aq]
          rw [← y_Aq] at y_hb
          have y_Agm : M g = A q := (y_Aq.trans y_Zg).symm
          refine z_rng fun hr => ?_
          have y_k := z_BI_K y_hb k (by omega) (by omega)
          unfold z_KI at y_k
          refine z_aloadn dX6_share_75 rfl ?_
          refine gX6_44 (by first | exact hn | exact y_Zn | exact y_An | ((repeat (first | rw [z_sM_row _ _ _ y_7q] | rw [z_sR_ne _ _ y_7q])); exact y_An) | (rw [z_sM_ne _ _ _ (by decide)]; (repeat (first | rw [z_sM_row _ _ _ y_7q] | rw [z_sR_ne _ _ y_7q])); exact y_An)) rfl dX6_share_76 ?_
          refine gX6_121 (by first | exact hg | exact hq7) rfl dX6_share_79 ?_
          refine z_iloadn dX6_share_82 rfl ?_
          refine z_aloadn dX6_share_83 rfl ?_
          refine gX6_18 rfl dX6_share_84 ?_
          refine gX6_182 rfl dX6_share_87 ?_
          refine kX6_185 (by first | exact hg | exact hq7) (tX4_takeParts hq7 (by omega) (by omega)) rfl ⟨(Nat.le_of_ble_eq_true rfl), (Nat.le_of_ble_eq_true rfl)⟩ (Nat.le_of_ble_eq_true rfl) dX6_share_90 ?_
          refine z_rng fun hr => ?_
          rw [y_A9]
          refine z_aloadn dX6_share_93 rfl ?_
          refine gX6_44 (by first | exact hn | exact y_Zn | exact y_An | ((repeat (first | rw [z_sM_row _ _ _ y_7q] | rw [z_sR_ne _ _ y_7q])); exact y_An) | (rw [z_sM_ne _ _ _ (by decide)]; (repeat (first | rw [z_sM_row _ _ _ y_7q] | rw [z_sR_ne _ _ y_7q])); exact y_An)) rfl dX6_share_94 ?_
          refine gX6_121 (by first | exact hg | exact hq7) rfl dX6_share_97 ?_
          refine gX6_167 (by first | exact hg | exact hq7) rfl dX6_share_100 ?_
          refine z_iloadn dX6_share_103 rfl ?_
          refine z_dup2 dX6_share_104 rfl rfl ?_
          refine z_iald (by rfl) (by first | exact Or.inl (by decide) | exact Or.inl (Or.inl ⟨by decide, hg⟩) | exact Or.inl (Or.inl ⟨by decide, hq7⟩)) (by omega) (by omega) (by decide) dX6_share_105 ?_
          refine z_top (v' := A q (86 + 5 * k + 3)) (by rw [z_sR_self]; unfold z_cp; rw [if_neg (by omega)]) ?_
          refine z_iconst dX6_share_106 ?_
          refine z_iadd dX6_share_107 ?_
          refine z_iast (by rfl) (by first | exact Or.inl (by decide) | exact Or.inl (Or.inl ⟨by decide, hg⟩) | exact Or.inl (Or.inl ⟨by decide, hq7⟩)) (by omega) (by omega) (by decide) (by first | (exact hr _ _ (by decide)) | (exact hr _ _ (by omega)) | omega) dX6_share_108 ?_
          refine z_rng fun hr => ?_
          refine z_aloadn dX6_share_109 rfl ?_
          refine gX6_18 rfl dX6_share_110 ?_
          refine z_iconst dX6_share_113 ?_
          refine pX6_189 (by first | (exact hr _ _ (by decide)) | (exact hr _ _ (by omega)) | omega) rfl dX6_share_114 ?_
          refine z_rng fun hr => ?_
          refine z_aloadn dX6_share_117 rfl ?_
          refine gX6_44 (by first | exact hn | exact y_Zn | exact y_An | ((repeat (first | rw [z_sM_row _ _ _ y_7q] | rw [z_sR_ne _ _ y_7q])); exact y_An) | (rw [z_sM_ne _ _ _ (by decide)]; (repeat (first | rw [z_sM_row _ _ _ y_7q] | rw [z_sR_ne _ _ y_7q])); exact y_An)) rfl dX6_share_118 ?_
          refine gX6_121 (by first | exact hg | exact hq7) rfl dX6_share_121 ?_
          refine z_iloadn dX6_share_124 rfl ?_
          refine kX6_192 (by first | exact hg | exact hq7) (tX4_allParts hq7 (by omega) (by omega)) rfl ⟨(Nat.le_of_ble_eq_true rfl), (Nat.le_of_ble_eq_true rfl)⟩ (Nat.le_of_ble_eq_true rfl) dX6_share_125 ?_
          refine z_top (v' := z_aP (z_o_share (A q) k (z_kLR M)) k) (by rw [z_sM_row _ _ _ (by omega), z_sM_R, z_sR_self, z_sR_self]; rfl) ?_
          exact z_iret dX6_share_128 (by first | rfl | omega) (congrArg (fun m => z_sM m 7 3 0) (by rw [z_sM_sR]; rfl))
        · first | (exfalso; omega) | exact absurd y_ok.1 h12
      · first | (exfalso; omega) | exact absurd y_ok.1 h12
  · exfalso; omega
