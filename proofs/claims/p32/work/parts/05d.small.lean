/-! ===== the class: small methods ===== -/
theorem z_hl_eq {a w : Int} (a0 : 0 ≤ a) : z_mn (a - a / 2) w = z_hl a w := by
  unfold z_mn z_hl
  (repeat' split) <;> omega
def z_ern (b : Int → Int) (p a : Int) : Int → Int := z_uf (z_uf (z_uf b (14 + 6 * p + 2) (b (14 + 6 * p + 2) + a)) (14 + 6 * p + 1) (b (14 + 6 * p + 1) - z_hl a (b (14 + 6 * p + 1)))) (14 + 6 * p) (b (14 + 6 * p) + (a - z_hl a (b (14 + 6 * p + 1))))
def z_dif (b : Int → Int) (n : Nat) : Nat → Int
  | 0 => 0
  | i + 1 => z_dif b n i + z_sm (n - (i + 1)) (fun j => z_ab (b (14 + 6 * (i : Int)) - b (14 + 6 * ((i : Int) + 1 + j))))
theorem tX6_at {G : z_G} {M : z_M} {k p : Int} : KX6_at G [z_I k, z_I p] M (.inl (some (z_I (12 * k + p)))) M := by
  refine z_con (ls := [some (z_I k), some (z_I p)]) (by decide +kernel) (Nat.le_of_ble_eq_true rfl) rfl ?_
  intro Z htb
  refine z_rng fun hr => ?_
  refine z_iloadn dX6_at_0 rfl ?_
  refine z_bipush dX6_at_1 (by decide) ?_
  refine z_imul dX6_at_3 ?_
  refine z_iloadn dX6_at_4 rfl ?_
  refine z_iadd dX6_at_5 ?_
  exact z_iret dX6_at_6 (by omega) rfl
theorem tX6_withheld {G : z_G} {M : z_M} {a w : Int} (a0 : 0 ≤ a) (a1 : z_rg a) (rw_ : z_rg w) : KX6_withheld G [z_I a, z_I w] M (.inl (some (z_I (z_hl a w)))) M := by
  refine z_con (ls := [some (z_I a), some (z_I w)]) (by decide +kernel) (Nat.le_of_ble_eq_true rfl) rfl ?_
  intro Z htb
  refine z_rng fun hr => ?_
  refine z_iloadn dX6_withheld_0 rfl ?_
  refine z_iloadn dX6_withheld_1 rfl ?_
  refine z_iconst dX6_withheld_2 ?_
  refine z_idiv (by omega) (by omega) (by omega) (by omega) dX6_withheld_3 ?_
  refine z_isub dX6_withheld_4 ?_
  refine z_iloadn dX6_withheld_5 rfl ?_
  refine z_mmin (by first | (exact hr _ _ (by decide)) | (exact hr _ _ (by omega)) | omega) (by first | (exact hr _ _ (by decide)) | (exact hr _ _ (by omega)) | omega) rfl wmX6_348 (Nat.le_of_ble_eq_true rfl) (Nat.le_of_ble_eq_true rfl) dX6_withheld_6 ?_
  exact z_iret dX6_withheld_9 (z_hl_eq a0) rfl
theorem tX6_needPen {G : z_G} {M : z_M} {g : Nat} (hg : g < 7) (hn : M 7 2 = (g : Int)) {p : Int} (rp : z_rg p) (hc : 0 ≤ p ∧ p < M g 0) : KX6_needPen G [.ref (z_ad G 0 20), z_I p] M (.inl none) M := by
  refine z_con (ls := [some (.ref (z_ad G 0 20)), some (z_I p)]) (by decide +kernel) (Nat.le_of_ble_eq_true rfl) rfl ?_
  intro Z htb
  refine z_rng fun hr => ?_
  refine z_iloadn dX6_needPen_0 rfl ?_
  refine z_if_lt (tgt := 18) (by first | (exact hr _ _ (by decide)) | (exact hr _ _ (by omega)) | omega) dX6_needPen_1 (by decide) (fun h1 => ?_) (fun h1 => ?_)
  · exfalso; omega
  · refine z_iloadn dX6_needPen_4 rfl ?_
    refine z_aloadn dX6_needPen_5 rfl ?_
    refine gX6_44 hn rfl dX6_needPen_6 ?_
    refine gX6_48 hg rfl dX6_needPen_9 ?_
    refine gX6_52 hg rfl dX6_needPen_12 ?_
    refine z_icmp_lt (tgt := 29) (by first | (exact hr _ _ (by decide)) | (exact hr _ _ (by omega)) | omega) (by first | (exact hr _ _ (by decide)) | (exact hr _ _ (by omega)) | omega) dX6_needPen_15 (by decide) (fun h15 => ?_) (fun h15 => ?_)
    · exact z_vret dX6_needPen_29 rfl
    · exfalso; omega
theorem tX6_needPiece {G : z_G} {M : z_M} {g : Nat} (hg : g < 7) (hn : M 7 2 = (g : Int)) {k : Int} (rk : z_rg k) (hc : 0 ≤ k ∧ k < M g 1) : KX6_needPiece G [.ref (z_ad G 0 20), z_I k] M (.inl none) M := by
  refine z_con (ls := [some (.ref (z_ad G 0 20)), some (z_I k)]) (by decide +kernel) (Nat.le_of_ble_eq_true rfl) rfl ?_
  intro Z htb
  refine z_rng fun hr => ?_
  refine z_iloadn dX6_needPiece_0 rfl ?_
  refine z_if_lt (tgt := 18) (by first | (exact hr _ _ (by decide)) | (exact hr _ _ (by omega)) | omega) dX6_needPiece_1 (by decide) (fun h1 => ?_) (fun h1 => ?_)
  · exfalso; omega
  · refine z_iloadn dX6_needPiece_4 rfl ?_
    refine z_aloadn dX6_needPiece_5 rfl ?_
    refine gX6_44 hn rfl dX6_needPiece_6 ?_
    refine gX6_121 hg rfl dX6_needPiece_9 ?_
    refine gX6_136 hg rfl dX6_needPiece_12 ?_
    refine z_icmp_lt (tgt := 29) (by first | (exact hr _ _ (by decide)) | (exact hr _ _ (by omega)) | omega) (by first | (exact hr _ _ (by decide)) | (exact hr _ _ (by omega)) | omega) dX6_needPiece_15 (by decide) (fun h15 => ?_) (fun h15 => ?_)
    · exact z_vret dX6_needPiece_29 rfl
    · exfalso; omega
theorem tX6_needSetting {G : z_G} {M : z_M} {x : Int} (rx : z_rg x) (hc : 0 ≤ x ∧ x < 6) : KX6_needSetting G [z_I x] M (.inl none) M := by
  refine z_con (ls := [some (z_I x)]) (by decide +kernel) (Nat.le_of_ble_eq_true rfl) rfl ?_
  intro Z htb
  refine z_rng fun hr => ?_
  refine z_iloadn dX6_needSetting_0 rfl ?_
  refine z_if_lt (tgt := 10) (by first | (exact hr _ _ (by decide)) | (exact hr _ _ (by omega)) | omega) dX6_needSetting_1 (by decide) (fun h1 => ?_) (fun h1 => ?_)
  · exfalso; omega
  · refine z_iloadn dX6_needSetting_4 rfl ?_
    refine z_bipush dX6_needSetting_5 (by decide) ?_
    refine z_icmp_lt (tgt := 21) (by first | (exact hr _ _ (by decide)) | (exact hr _ _ (by omega)) | omega) (by first | (exact hr _ _ (by decide)) | (exact hr _ _ (by omega)) | omega) dX6_needSetting_7 (by decide) (fun h7 => ?_) (fun h7 => ?_)
    · exact z_vret dX6_needSetting_21 rfl
    · exfalso; omega
theorem tX6_needRange {G : z_G} {M : z_M} {v a c : Int} (rv : z_rg v) (ra : z_rg a) (rc : z_rg c) (hc : a ≤ v ∧ v ≤ c) : KX6_needRange G [z_I v, z_I a, z_I c] M (.inl none) M := by
  refine z_con (ls := [some (z_I v), some (z_I a), some (z_I c)]) (by decide +kernel) (Nat.le_of_ble_eq_true rfl) rfl ?_
  intro Z htb
  refine z_rng fun hr => ?_
  refine z_iloadn dX6_needRange_0 rfl ?_
  refine z_iloadn dX6_needRange_1 rfl ?_
  refine z_icmp_lt (tgt := 10) (by first | (exact hr _ _ (by decide)) | (exact hr _ _ (by omega)) | omega) (by first | (exact hr _ _ (by decide)) | (exact hr _ _ (by omega)) | omega) dX6_needRange_2 (by decide) (fun h2 => ?_) (fun h2 => ?_)
  · exfalso; omega
  · refine z_iloadn dX6_needRange_5 rfl ?_
    refine z_iloadn dX6_needRange_6 rfl ?_
    refine z_icmp_le (tgt := 21) (by first | (exact hr _ _ (by decide)) | (exact hr _ _ (by omega)) | omega) (by first | (exact hr _ _ (by decide)) | (exact hr _ _ (by omega)) | omega) dX6_needRange_7 (by decide) (fun h7 => ?_) (fun h7 => ?_)
    · exact z_vret dX6_needRange_21 rfl
    · exfalso; omega
theorem tX6_needAtLeast {G : z_G} {M : z_M} {v a : Int} (rv : z_rg v) (ra : z_rg a) (hc : a ≤ v) : KX6_needAtLeast G [z_I v, z_I a] M (.inl none) M := by
  refine z_con (ls := [some (z_I v), some (z_I a)]) (by decide +kernel) (Nat.le_of_ble_eq_true rfl) rfl ?_
  intro Z htb
  refine z_rng fun hr => ?_
  refine z_iloadn dX6_needAtLeast_0 rfl ?_
  refine z_iloadn dX6_needAtLeast_1 rfl ?_
  refine z_icmp_ge (tgt := 16) (by first | (exact hr _ _ (by decide)) | (exact hr _ _ (by omega)) | omega) (by first | (exact hr _ _ (by decide)) | (exact hr _ _ (by omega)) | omega) dX6_needAtLeast_2 (by decide) (fun h2 => ?_) (fun h2 => ?_)
  · exact z_vret dX6_needAtLeast_16 rfl
  · exfalso; omega
theorem tX6_needUnended {G : z_G} {M : z_M} {g : Nat} (hg : g < 7) (hn : M 7 2 = (g : Int)) {k : Int} (k0 : 0 ≤ k) (k1 : k < 20) (hc : M g (86 + 5 * k + 2) < 3) : KX6_needUnended G [.ref (z_ad G 0 20), z_I k] M (.inl none) M := by
  refine z_con (ls := [some (.ref (z_ad G 0 20)), some (z_I k)]) (by decide +kernel) (Nat.le_of_ble_eq_true rfl) rfl ?_
  intro Z htb
  refine z_rng fun hr => ?_
  refine z_aloadn dX6_needUnended_0 rfl ?_
  refine gX6_44 hn rfl dX6_needUnended_1 ?_
  refine gX6_121 hg rfl dX6_needUnended_4 ?_
  refine gX6_161 hg rfl dX6_needUnended_7 ?_
  refine z_iloadn dX6_needUnended_10 rfl ?_
  refine z_iald (by rfl) (by first | exact Or.inl (by decide) | exact Or.inl (Or.inl ⟨by decide, hg⟩)) (by omega) (by omega) (by decide) dX6_needUnended_11 ?_
  refine z_iconst dX6_needUnended_12 ?_
  refine z_icmp_lt (tgt := 27) (by first | (exact hr _ _ (by decide)) | (exact hr _ _ (by omega)) | omega) (by first | (exact hr _ _ (by decide)) | (exact hr _ _ (by omega)) | omega) dX6_needUnended_13 (by decide) (fun h13 => ?_) (fun h13 => ?_)
  · exact z_vret dX6_needUnended_27 rfl
  · exfalso; omega
theorem tX6_needAccepted {G : z_G} {M : z_M} {g : Nat} (hg : g < 7) (hn : M 7 2 = (g : Int)) {k : Int} (k0 : 0 ≤ k) (k1 : k < 20) (hc : M g (86 + 5 * k + 2) = 3) : KX6_needAccepted G [.ref (z_ad G 0 20), z_I k] M (.inl none) M := by
  refine z_con (ls := [some (.ref (z_ad G 0 20)), some (z_I k)]) (by decide +kernel) (Nat.le_of_ble_eq_true rfl) rfl ?_
  intro Z htb
  refine z_rng fun hr => ?_
  refine z_aloadn dX6_needAccepted_0 rfl ?_
  refine gX6_44 hn rfl dX6_needAccepted_1 ?_
  refine gX6_121 hg rfl dX6_needAccepted_4 ?_
  refine gX6_161 hg rfl dX6_needAccepted_7 ?_
  refine z_iloadn dX6_needAccepted_10 rfl ?_
  refine z_iald (by rfl) (by first | exact Or.inl (by decide) | exact Or.inl (Or.inl ⟨by decide, hg⟩)) (by omega) (by omega) (by decide) dX6_needAccepted_11 ?_
  refine z_iconst dX6_needAccepted_12 ?_
  refine z_icmp_eq (tgt := 27) (by first | (exact hr _ _ (by decide)) | (exact hr _ _ (by omega)) | omega) (by first | (exact hr _ _ (by decide)) | (exact hr _ _ (by omega)) | omega) dX6_needAccepted_13 (by decide) (fun h13 => ?_) (fun h13 => ?_)
  · exact z_vret dX6_needAccepted_27 rfl
  · exfalso; omega
theorem tX6_sum {G : z_G} {M : z_M} {g c a n : Nat} {ix : Int → Int} (hal : z_al g c = some (0, a, n, ix)) (hdm : z_dm G g c) (hm : n ≤ 6000) : KX6_sum G [.ref (z_ad G g c)] M (.inl (some (z_I (z_sm n (fun i => M a (ix i)))))) M := by
  refine z_con (ls := [some (.ref (z_ad G g c)), none, none, none, none, none]) (by decide +kernel) (Nat.le_of_ble_eq_true rfl) rfl ?_
  intro Z htb
  refine z_rng fun hr => ?_
  refine z_iconst dX6_sum_0 ?_
  refine z_istoren_1 dX6_sum_1 (Nat.le_of_ble_eq_true rfl) rfl ?_
  refine z_aloadn dX6_sum_2 rfl ?_
  refine z_astoren_2 dX6_sum_3 (Nat.le_of_ble_eq_true rfl) rfl ?_
  refine z_aloadn dX6_sum_4 rfl ?_
  refine z_alen hal hdm dX6_sum_5 ?_
  refine z_istoren_3 dX6_sum_6 (Nat.le_of_ble_eq_true rfl) rfl ?_
  refine z_iconst dX6_sum_7 ?_
  refine z_istore_4 dX6_sum_8 (Nat.le_of_ble_eq_true rfl) rfl ?_
  refine z_upn (P := fun i : Nat => z_J G Z _ _ 10 [some (.ref (z_ad G g c)), some (z_I (z_sm i (fun i => M a (ix i)))), some (.ref (z_ad G g c)), some (z_I n), some (z_I i), none] [] M 0 0) n ?_ ?_
  · refine z_rng fun hr => ?_
    refine z_iload dX6_sum_10 rfl ?_
    refine z_iloadn dX6_sum_12 rfl ?_
    refine z_icmp_ge (tgt := 33) (by first | (exact hr _ _ (by decide)) | (exact hr _ _ (by omega)) | omega) (by first | (exact hr _ _ (by decide)) | (exact hr _ _ (by omega)) | omega) dX6_sum_13 (by decide) (fun h13 => ?_) (fun h13 => ?_)
    · refine z_iloadn dX6_sum_33 rfl ?_
      exact z_iret dX6_sum_34 (by first | rfl | omega) rfl
    · exfalso; omega
  · intro i hi y_ih
    refine z_rng fun hr => ?_
    refine z_iload dX6_sum_10 rfl ?_
    refine z_iloadn dX6_sum_12 rfl ?_
    refine z_icmp_ge (tgt := 33) (by first | (exact hr _ _ (by decide)) | (exact hr _ _ (by omega)) | omega) (by first | (exact hr _ _ (by decide)) | (exact hr _ _ (by omega)) | omega) dX6_sum_13 (by decide) (fun h13 => ?_) (fun h13 => ?_)
    · exfalso; omega
    · refine z_aloadn dX6_sum_16 rfl ?_
      refine z_iload dX6_sum_17 rfl ?_
      refine z_iald hal hdm (by omega) (by omega) hm dX6_sum_19 ?_
      refine z_istore_5 dX6_sum_20 (Nat.le_of_ble_eq_true rfl) rfl ?_
      refine z_iloadn dX6_sum_22 rfl ?_
      refine z_iload dX6_sum_23 rfl ?_
      refine z_iadd dX6_sum_25 ?_
      refine z_istoren_1 dX6_sum_26 (Nat.le_of_ble_eq_true rfl) rfl ?_
      refine z_iinc_4 dX6_sum_27 (Nat.le_of_ble_eq_true rfl) rfl ?_
      refine z_goto (tgt := 10) dX6_sum_30 (by decide) ?_
      refine z_fgt 5 ?_
      exact y_ih
theorem tX6_sumOf {G : z_G} {M : z_M} {g c a n : Nat} {ix : Int → Int} (hal : z_al g c = some (0, a, n, ix)) (hdm : z_dm G g c) (hm : n ≤ 6000) {k : Int} (k0 : 0 ≤ k) (k1 : k < 20) (hn : n = 240) : KX6_sumOf G [.ref (z_ad G g c), z_I k] M (.inl (some (z_I (z_sm 12 (fun p => M a (ix (12 * k + p))))))) M := by
  refine z_con (ls := [some (.ref (z_ad G g c)), some (z_I k), none, none]) (by decide +kernel) (Nat.le_of_ble_eq_true rfl) rfl ?_
  intro Z htb
  refine z_rng fun hr => ?_
  refine z_iconst dX6_sumOf_0 ?_
  refine z_istoren_2 dX6_sumOf_1 (Nat.le_of_ble_eq_true rfl) rfl ?_
  refine z_iconst dX6_sumOf_2 ?_
  refine z_istoren_3 dX6_sumOf_3 (Nat.le_of_ble_eq_true rfl) rfl ?_
  refine z_upn (P := fun i : Nat => z_J G Z _ _ 4 [some (.ref (z_ad G g c)), some (z_I k), some (z_I (z_sm i (fun p => M a (ix (12 * k + p))))), some (z_I i)] [] M 0 0) 12 ?_ ?_
  · refine z_rng fun hr => ?_
    refine z_iloadn dX6_sumOf_4 rfl ?_
    refine z_bipush dX6_sumOf_5 (by decide) ?_
    refine z_icmp_ge (tgt := 26) (by first | (exact hr _ _ (by decide)) | (exact hr _ _ (by omega)) | omega) (by first | (exact hr _ _ (by decide)) | (exact hr _ _ (by omega)) | omega) dX6_sumOf_7 (by decide) (fun h7 => ?_) (fun h7 => ?_)
    · refine z_iloadn dX6_sumOf_26 rfl ?_
      exact z_iret dX6_sumOf_27 (by first | rfl | omega) rfl
    · exfalso; omega
  · intro i hi y_ih
    refine z_rng fun hr => ?_
    refine z_iloadn dX6_sumOf_4 rfl ?_
    refine z_bipush dX6_sumOf_5 (by decide) ?_
    refine z_icmp_ge (tgt := 26) (by first | (exact hr _ _ (by decide)) | (exact hr _ _ (by omega)) | omega) (by first | (exact hr _ _ (by decide)) | (exact hr _ _ (by omega)) | omega) dX6_sumOf_7 (by decide) (fun h7 => ?_) (fun h7 => ?_)
    · exfalso; omega
    · refine z_iloadn dX6_sumOf_10 rfl ?_
      refine z_aloadn dX6_sumOf_11 rfl ?_
      refine z_iloadn dX6_sumOf_12 rfl ?_
      refine z_iloadn dX6_sumOf_13 rfl ?_
      refine kX6_158 tX6_at rfl ⟨(Nat.le_of_ble_eq_true rfl), (Nat.le_of_ble_eq_true rfl)⟩ (Nat.le_of_ble_eq_true rfl) dX6_sumOf_14 ?_
      refine z_iald hal hdm (by omega) (by omega) hm dX6_sumOf_17 ?_
      refine z_iadd dX6_sumOf_18 ?_
      refine z_istoren_2 dX6_sumOf_19 (Nat.le_of_ble_eq_true rfl) rfl ?_
      refine z_iinc_3 dX6_sumOf_20 (Nat.le_of_ble_eq_true rfl) rfl ?_
      refine z_goto (tgt := 4) dX6_sumOf_23 (by decide) ?_
      exact y_ih
theorem tX3_bylinesOf {G : z_G} {M : z_M} {g : Nat} {N p : Int} (hg : g < 7) (hb : z_BI (M g) N) (rp : z_rg p) : KX3_bylinesOf G [.ref (z_ad G g 1), z_I p] M (.inl (some (z_I (z_owns (M g) p)))) M := by
  refine z_con (ls := [some (.ref (z_ad G g 1)), some (z_I p), none, none]) (by decide +kernel) (Nat.le_of_ble_eq_true rfl) rfl ?_
  intro Z htb
  refine z_rng fun hr => ?_
  have hh := z_BI_h hb
  refine z_iconst dX3_bylinesOf_0 ?_
  refine z_istoren_2 dX3_bylinesOf_1 (Nat.le_of_ble_eq_true rfl) rfl ?_
  refine z_iconst dX3_bylinesOf_2 ?_
  refine z_istoren_3 dX3_bylinesOf_3 (Nat.le_of_ble_eq_true rfl) rfl ?_
  refine z_upn (P := fun i : Nat => z_J G Z _ _ 4 [some (.ref (z_ad G g 1)), some (z_I p), some (z_I (z_sm i (fun i => if M g (14 + 6 * i + 3) = p then 1 else 0))), some (z_I i)] [] M 0 0) (M g 0).toNat ?_ ?_
  · refine z_rng fun hr => ?_
    refine z_iloadn dX3_bylinesOf_4 rfl ?_
    refine z_aloadn dX3_bylinesOf_5 rfl ?_
    refine gX3_30 hg rfl dX3_bylinesOf_6 ?_
    refine z_icmp_ge (tgt := 36) (by first | (exact hr _ _ (by decide)) | (exact hr _ _ (by omega)) | omega) (by first | (exact hr _ _ (by decide)) | (exact hr _ _ (by omega)) | omega) dX3_bylinesOf_9 (by decide) (fun h9 => ?_) (fun h9 => ?_)
    · refine z_iloadn dX3_bylinesOf_36 rfl ?_
      exact z_iret dX3_bylinesOf_37 (by first | rfl | omega) rfl
    · exfalso; omega
  · intro i hi y_ih
    refine z_rng fun hr => ?_
    refine z_iloadn dX3_bylinesOf_4 rfl ?_
    refine z_aloadn dX3_bylinesOf_5 rfl ?_
    refine gX3_30 hg rfl dX3_bylinesOf_6 ?_
    refine z_icmp_ge (tgt := 36) (by first | (exact hr _ _ (by decide)) | (exact hr _ _ (by omega)) | omega) (by first | (exact hr _ _ (by decide)) | (exact hr _ _ (by omega)) | omega) dX3_bylinesOf_9 (by decide) (fun h9 => ?_) (fun h9 => ?_)
    · exfalso; omega
    · refine z_iloadn dX3_bylinesOf_12 rfl ?_
      refine z_aloadn dX3_bylinesOf_13 rfl ?_
      refine gX3_21 hg rfl dX3_bylinesOf_14 ?_
      refine z_iloadn dX3_bylinesOf_17 rfl ?_
      refine z_iald (by rfl) (by first | exact Or.inl (by decide) | exact Or.inl (Or.inl ⟨by decide, hg⟩)) (by omega) (by omega) (by decide) dX3_bylinesOf_18 ?_
      refine z_iloadn dX3_bylinesOf_19 rfl ?_
      refine z_icmp_ne (tgt := 27) (by first | (exact hr _ _ (by decide)) | (exact hr _ _ (by omega)) | omega) (by first | (exact hr _ _ (by decide)) | (exact hr _ _ (by omega)) | omega) dX3_bylinesOf_20 (by decide) (fun h20 => ?_) (fun h20 => ?_)
      · refine z_iconst dX3_bylinesOf_27 ?_
        refine z_top (v' := if M g (14 + 6 * (i : Int) + 3) = p then 1 else 0) (by first | rw [if_pos (by omega)] | rw [if_neg (by omega)]) ?_
        refine z_iadd dX3_bylinesOf_28 ?_
        refine z_istoren_2 dX3_bylinesOf_29 (Nat.le_of_ble_eq_true rfl) rfl ?_
        refine z_iinc_3 dX3_bylinesOf_30 (Nat.le_of_ble_eq_true rfl) rfl ?_
        refine z_goto (tgt := 4) dX3_bylinesOf_33 (by decide) ?_
        exact y_ih
      · refine z_iconst dX3_bylinesOf_23 ?_
        refine z_goto (tgt := 28) dX3_bylinesOf_24 (by decide) ?_
        refine z_top (v' := if M g (14 + 6 * (i : Int) + 3) = p then 1 else 0) (by first | rw [if_pos (by omega)] | rw [if_neg (by omega)]) ?_
        refine z_iadd dX3_bylinesOf_28 ?_
        refine z_istoren_2 dX3_bylinesOf_29 (Nat.le_of_ble_eq_true rfl) rfl ?_
        refine z_iinc_3 dX3_bylinesOf_30 (Nat.le_of_ble_eq_true rfl) rfl ?_
        refine z_goto (tgt := 4) dX3_bylinesOf_33 (by decide) ?_
        exact y_ih
theorem tX3_bylinesAway {G : z_G} {M : z_M} {g : Nat} {N  : Int} (hg : g < 7) (hb : z_BI (M g) N) : KX3_bylinesAway G [.ref (z_ad G g 1)] M (.inl (some (z_I (z_soldN (M g))))) M := by
  refine z_con (ls := [some (.ref (z_ad G g 1)), none, none]) (by decide +kernel) (Nat.le_of_ble_eq_true rfl) rfl ?_
  intro Z htb
  refine z_rng fun hr => ?_
  have hh := z_BI_h hb
  refine z_iconst dX3_bylinesAway_0 ?_
  refine z_istoren_1 dX3_bylinesAway_1 (Nat.le_of_ble_eq_true rfl) rfl ?_
  refine z_iconst dX3_bylinesAway_2 ?_
  refine z_istoren_2 dX3_bylinesAway_3 (Nat.le_of_ble_eq_true rfl) rfl ?_
  refine z_upn (P := fun i : Nat => z_J G Z _ _ 4 [some (.ref (z_ad G g 1)), some (z_I (z_sm i (fun p => if M g (14 + 6 * p + 3) = p then 0 else 1))), some (z_I i)] [] M 0 0) (M g 0).toNat ?_ ?_
  · refine z_rng fun hr => ?_
    refine z_iloadn dX3_bylinesAway_4 rfl ?_
    refine z_aloadn dX3_bylinesAway_5 rfl ?_
    refine gX3_30 hg rfl dX3_bylinesAway_6 ?_
    refine z_icmp_ge (tgt := 36) (by first | (exact hr _ _ (by decide)) | (exact hr _ _ (by omega)) | omega) (by first | (exact hr _ _ (by decide)) | (exact hr _ _ (by omega)) | omega) dX3_bylinesAway_9 (by decide) (fun h9 => ?_) (fun h9 => ?_)
    · refine z_iloadn dX3_bylinesAway_36 rfl ?_
      exact z_iret dX3_bylinesAway_37 (by first | rfl | omega) rfl
    · exfalso; omega
  · intro i hi y_ih
    refine z_rng fun hr => ?_
    refine z_iloadn dX3_bylinesAway_4 rfl ?_
    refine z_aloadn dX3_bylinesAway_5 rfl ?_
    refine gX3_30 hg rfl dX3_bylinesAway_6 ?_
    refine z_icmp_ge (tgt := 36) (by first | (exact hr _ _ (by decide)) | (exact hr _ _ (by omega)) | omega) (by first | (exact hr _ _ (by decide)) | (exact hr _ _ (by omega)) | omega) dX3_bylinesAway_9 (by decide) (fun h9 => ?_) (fun h9 => ?_)
    · exfalso; omega
    · refine z_iloadn dX3_bylinesAway_12 rfl ?_
      refine z_aloadn dX3_bylinesAway_13 rfl ?_
      refine gX3_21 hg rfl dX3_bylinesAway_14 ?_
      refine z_iloadn dX3_bylinesAway_17 rfl ?_
      refine z_iald (by rfl) (by first | exact Or.inl (by decide) | exact Or.inl (Or.inl ⟨by decide, hg⟩)) (by omega) (by omega) (by decide) dX3_bylinesAway_18 ?_
      refine z_iloadn dX3_bylinesAway_19 rfl ?_
      refine z_icmp_eq (tgt := 27) (by first | (exact hr _ _ (by decide)) | (exact hr _ _ (by omega)) | omega) (by first | (exact hr _ _ (by decide)) | (exact hr _ _ (by omega)) | omega) dX3_bylinesAway_20 (by decide) (fun h20 => ?_) (fun h20 => ?_)
      · refine z_iconst dX3_bylinesAway_27 ?_
        refine z_top (v' := if M g (14 + 6 * (i : Int) + 3) = (i : Int) then 0 else 1) (by first | rw [if_pos (by omega)] | rw [if_neg (by omega)]) ?_
        refine z_iadd dX3_bylinesAway_28 ?_
        refine z_istoren_1 dX3_bylinesAway_29 (Nat.le_of_ble_eq_true rfl) rfl ?_
        refine z_iinc_2 dX3_bylinesAway_30 (Nat.le_of_ble_eq_true rfl) rfl ?_
        refine z_goto (tgt := 4) dX3_bylinesAway_33 (by decide) ?_
        exact y_ih
      · refine z_iconst dX3_bylinesAway_23 ?_
        refine z_goto (tgt := 28) dX3_bylinesAway_24 (by decide) ?_
        refine z_top (v' := if M g (14 + 6 * (i : Int) + 3) = (i : Int) then 0 else 1) (by first | rw [if_pos (by omega)] | rw [if_neg (by omega)]) ?_
        refine z_iadd dX3_bylinesAway_28 ?_
        refine z_istoren_1 dX3_bylinesAway_29 (Nat.le_of_ble_eq_true rfl) rfl ?_
        refine z_iinc_2 dX3_bylinesAway_30 (Nat.le_of_ble_eq_true rfl) rfl ?_
        refine z_goto (tgt := 4) dX3_bylinesAway_33 (by decide) ?_
        exact y_ih
theorem tX3_placeOf {G : z_G} {M : z_M} {g : Nat} {N p : Int} (hg : g < 7) (hb : z_BI (M g) N) (p0 : 0 ≤ p) (p1 : p < 12) : KX3_placeOf G [.ref (z_ad G g 1), z_I p] M (.inl (some (z_I (z_plc (M g) p)))) M := by
  refine z_con (ls := [some (.ref (z_ad G g 1)), some (z_I p), none, none, none]) (by decide +kernel) (Nat.le_of_ble_eq_true rfl) rfl ?_
  intro Z htb
  refine z_rng fun hr => ?_
  have hh := z_BI_h hb
  refine z_iconst dX3_placeOf_0 ?_
  refine z_istoren_2 dX3_placeOf_1 (Nat.le_of_ble_eq_true rfl) rfl ?_
  refine z_iconst dX3_placeOf_2 ?_
  refine z_istoren_3 dX3_placeOf_3 (Nat.le_of_ble_eq_true rfl) rfl ?_
  refine z_upn (P := fun i : Nat => z_J G Z _ _ 4 [some (.ref (z_ad G g 1)), some (z_I p), some (z_I (z_sm i (fun i => if M g (14 + 6 * p) < M g (14 + 6 * i) ∨ (M g (14 + 6 * i) = M g (14 + 6 * p) ∧ i < p) then 1 else 0))), some (z_I i), none] [] M 0 0) (M g 0).toNat ?_ ?_
  · refine z_rng fun hr => ?_
    refine z_iloadn dX3_placeOf_4 rfl ?_
    refine z_aloadn dX3_placeOf_5 rfl ?_
    refine gX3_30 hg rfl dX3_placeOf_6 ?_
    refine z_icmp_ge (tgt := 73) (by first | (exact hr _ _ (by decide)) | (exact hr _ _ (by omega)) | omega) (by first | (exact hr _ _ (by decide)) | (exact hr _ _ (by omega)) | omega) dX3_placeOf_9 (by decide) (fun h9 => ?_) (fun h9 => ?_)
    · refine z_iloadn dX3_placeOf_73 rfl ?_
      exact z_iret dX3_placeOf_74 (by first | rfl | omega) rfl
    · exfalso; omega
  · intro i hi y_ih
    refine z_rng fun hr => ?_
    refine z_iloadn dX3_placeOf_4 rfl ?_
    refine z_aloadn dX3_placeOf_5 rfl ?_
    refine gX3_30 hg rfl dX3_placeOf_6 ?_
    refine z_icmp_ge (tgt := 73) (by first | (exact hr _ _ (by decide)) | (exact hr _ _ (by omega)) | omega) (by first | (exact hr _ _ (by decide)) | (exact hr _ _ (by omega)) | omega) dX3_placeOf_9 (by decide) (fun h9 => ?_) (fun h9 => ?_)
    · exfalso; omega
    · refine z_aloadn dX3_placeOf_12 rfl ?_
      refine gX3_9 hg rfl dX3_placeOf_13 ?_
      refine z_iloadn dX3_placeOf_16 rfl ?_
      refine z_iald (by rfl) (by first | exact Or.inl (by decide) | exact Or.inl (Or.inl ⟨by decide, hg⟩)) (by omega) (by omega) (by decide) dX3_placeOf_17 ?_
      refine z_aloadn dX3_placeOf_18 rfl ?_
      refine gX3_9 hg rfl dX3_placeOf_19 ?_
      refine z_iloadn dX3_placeOf_22 rfl ?_
      refine z_iald (by rfl) (by first | exact Or.inl (by decide) | exact Or.inl (Or.inl ⟨by decide, hg⟩)) (by omega) (by omega) (by decide) dX3_placeOf_23 ?_
      refine z_icmp_gt (tgt := 47) (by first | (exact hr _ _ (by decide)) | (exact hr _ _ (by omega)) | omega) (by first | (exact hr _ _ (by decide)) | (exact hr _ _ (by omega)) | omega) dX3_placeOf_24 (by decide) (fun h24 => ?_) (fun h24 => ?_)
      · refine z_iconst dX3_placeOf_47 ?_
        refine z_goto (tgt := 52) dX3_placeOf_48 (by decide) ?_
        refine z_top (v' := if M g (14 + 6 * p) < M g (14 + 6 * (i : Int)) ∨ (M g (14 + 6 * (i : Int)) = M g (14 + 6 * p) ∧ (i : Int) < p) then 1 else 0) (by first | rw [if_pos (by omega)] | rw [if_neg (by omega)]) ?_
        have y_d : (if M g (14 + 6 * p) < M g (14 + 6 * (i : Int)) ∨ (M g (14 + 6 * (i : Int)) = M g (14 + 6 * p) ∧ (i : Int) < p) then (1 : Int) else 0) = 0 ∨ (if M g (14 + 6 * p) < M g (14 + 6 * (i : Int)) ∨ (M g (14 + 6 * (i : Int)) = M g (14 + 6 * p) ∧ (i : Int) < p) then (1 : Int) else 0) = 1 := by split <;> omega
        refine z_istore_4 dX3_placeOf_52 (Nat.le_of_ble_eq_true rfl) rfl ?_
        refine z_iloadn dX3_placeOf_54 rfl ?_
        refine z_iload dX3_placeOf_55 rfl ?_
        refine z_if_eq (tgt := 64) (by first | (exact hr _ _ (by decide)) | (exact hr _ _ (by omega)) | omega) dX3_placeOf_57 (by decide) (fun h57 => ?_) (fun h57 => ?_)
        · refine z_iconst dX3_placeOf_64 ?_
          refine z_top (v' := if M g (14 + 6 * p) < M g (14 + 6 * (i : Int)) ∨ (M g (14 + 6 * (i : Int)) = M g (14 + 6 * p) ∧ (i : Int) < p) then 1 else 0) (by omega) ?_
          refine z_iadd dX3_placeOf_65 ?_
          refine z_istoren_2 dX3_placeOf_66 (Nat.le_of_ble_eq_true rfl) rfl ?_
          refine z_iinc_3 dX3_placeOf_67 (Nat.le_of_ble_eq_true rfl) rfl ?_
          refine z_goto (tgt := 4) dX3_placeOf_70 (by decide) ?_
          refine z_fgt 4 ?_
          exact y_ih
        · refine z_iconst dX3_placeOf_60 ?_
          refine z_goto (tgt := 65) dX3_placeOf_61 (by decide) ?_
          refine z_top (v' := if M g (14 + 6 * p) < M g (14 + 6 * (i : Int)) ∨ (M g (14 + 6 * (i : Int)) = M g (14 + 6 * p) ∧ (i : Int) < p) then 1 else 0) (by omega) ?_
          refine z_iadd dX3_placeOf_65 ?_
          refine z_istoren_2 dX3_placeOf_66 (Nat.le_of_ble_eq_true rfl) rfl ?_
          refine z_iinc_3 dX3_placeOf_67 (Nat.le_of_ble_eq_true rfl) rfl ?_
          refine z_goto (tgt := 4) dX3_placeOf_70 (by decide) ?_
          refine z_fgt 4 ?_
          exact y_ih
      · refine z_aloadn dX3_placeOf_27 rfl ?_
        refine gX3_9 hg rfl dX3_placeOf_28 ?_
        refine z_iloadn dX3_placeOf_31 rfl ?_
        refine z_iald (by rfl) (by first | exact Or.inl (by decide) | exact Or.inl (Or.inl ⟨by decide, hg⟩)) (by omega) (by omega) (by decide) dX3_placeOf_32 ?_
        refine z_aloadn dX3_placeOf_33 rfl ?_
        refine gX3_9 hg rfl dX3_placeOf_34 ?_
        refine z_iloadn dX3_placeOf_37 rfl ?_
        refine z_iald (by rfl) (by first | exact Or.inl (by decide) | exact Or.inl (Or.inl ⟨by decide, hg⟩)) (by omega) (by omega) (by decide) dX3_placeOf_38 ?_
        refine z_icmp_ne (tgt := 51) (by first | (exact hr _ _ (by decide)) | (exact hr _ _ (by omega)) | omega) (by first | (exact hr _ _ (by decide)) | (exact hr _ _ (by omega)) | omega) dX3_placeOf_39 (by decide) (fun h39 => ?_) (fun h39 => ?_)
        · refine z_iconst dX3_placeOf_51 ?_
          refine z_top (v' := if M g (14 + 6 * p) < M g (14 + 6 * (i : Int)) ∨ (M g (14 + 6 * (i : Int)) = M g (14 + 6 * p) ∧ (i : Int) < p) then 1 else 0) (by first | rw [if_pos (by omega)] | rw [if_neg (by omega)]) ?_
          have y_d : (if M g (14 + 6 * p) < M g (14 + 6 * (i : Int)) ∨ (M g (14 + 6 * (i : Int)) = M g (14 + 6 * p) ∧ (i : Int) < p) then (1 : Int) else 0) = 0 ∨ (if M g (14 + 6 * p) < M g (14 + 6 * (i : Int)) ∨ (M g (14 + 6 * (i : Int)) = M g (14 + 6 * p) ∧ (i : Int) < p) then (1 : Int) else 0) = 1 := by split <;> omega
          refine z_istore_4 dX3_placeOf_52 (Nat.le_of_ble_eq_true rfl) rfl ?_
          refine z_iloadn dX3_placeOf_54 rfl ?_
          refine z_iload dX3_placeOf_55 rfl ?_
          refine z_if_eq (tgt := 64) (by first | (exact hr _ _ (by decide)) | (exact hr _ _ (by omega)) | omega) dX3_placeOf_57 (by decide) (fun h57 => ?_) (fun h57 => ?_)
          · refine z_iconst dX3_placeOf_64 ?_
            refine z_top (v' := if M g (14 + 6 * p) < M g (14 + 6 * (i : Int)) ∨ (M g (14 + 6 * (i : Int)) = M g (14 + 6 * p) ∧ (i : Int) < p) then 1 else 0) (by omega) ?_
            refine z_iadd dX3_placeOf_65 ?_
            refine z_istoren_2 dX3_placeOf_66 (Nat.le_of_ble_eq_true rfl) rfl ?_
            refine z_iinc_3 dX3_placeOf_67 (Nat.le_of_ble_eq_true rfl) rfl ?_
            refine z_goto (tgt := 4) dX3_placeOf_70 (by decide) ?_
            refine z_fgt 4 ?_
            exact y_ih
          · refine z_iconst dX3_placeOf_60 ?_
            refine z_goto (tgt := 65) dX3_placeOf_61 (by decide) ?_
            refine z_top (v' := if M g (14 + 6 * p) < M g (14 + 6 * (i : Int)) ∨ (M g (14 + 6 * (i : Int)) = M g (14 + 6 * p) ∧ (i : Int) < p) then 1 else 0) (by omega) ?_
            refine z_iadd dX3_placeOf_65 ?_
            refine z_istoren_2 dX3_placeOf_66 (Nat.le_of_ble_eq_true rfl) rfl ?_
            refine z_iinc_3 dX3_placeOf_67 (Nat.le_of_ble_eq_true rfl) rfl ?_
            refine z_goto (tgt := 4) dX3_placeOf_70 (by decide) ?_
            refine z_fgt 4 ?_
            exact y_ih
        · refine z_iloadn dX3_placeOf_42 rfl ?_
          refine z_iloadn dX3_placeOf_43 rfl ?_
          refine z_icmp_ge (tgt := 51) (by first | (exact hr _ _ (by decide)) | (exact hr _ _ (by omega)) | omega) (by first | (exact hr _ _ (by decide)) | (exact hr _ _ (by omega)) | omega) dX3_placeOf_44 (by decide) (fun h44 => ?_) (fun h44 => ?_)
          · refine z_iconst dX3_placeOf_51 ?_
            refine z_top (v' := if M g (14 + 6 * p) < M g (14 + 6 * (i : Int)) ∨ (M g (14 + 6 * (i : Int)) = M g (14 + 6 * p) ∧ (i : Int) < p) then 1 else 0) (by first | rw [if_pos (by omega)] | rw [if_neg (by omega)]) ?_
            have y_d : (if M g (14 + 6 * p) < M g (14 + 6 * (i : Int)) ∨ (M g (14 + 6 * (i : Int)) = M g (14 + 6 * p) ∧ (i : Int) < p) then (1 : Int) else 0) = 0 ∨ (if M g (14 + 6 * p) < M g (14 + 6 * (i : Int)) ∨ (M g (14 + 6 * (i : Int)) = M g (14 + 6 * p) ∧ (i : Int) < p) then (1 : Int) else 0) = 1 := by split <;> omega
            refine z_istore_4 dX3_placeOf_52 (Nat.le_of_ble_eq_true rfl) rfl ?_
            refine z_iloadn dX3_placeOf_54 rfl ?_
            refine z_iload dX3_placeOf_55 rfl ?_
            refine z_if_eq (tgt := 64) (by first | (exact hr _ _ (by decide)) | (exact hr _ _ (by omega)) | omega) dX3_placeOf_57 (by decide) (fun h57 => ?_) (fun h57 => ?_)
            · refine z_iconst dX3_placeOf_64 ?_
              refine z_top (v' := if M g (14 + 6 * p) < M g (14 + 6 * (i : Int)) ∨ (M g (14 + 6 * (i : Int)) = M g (14 + 6 * p) ∧ (i : Int) < p) then 1 else 0) (by omega) ?_
              refine z_iadd dX3_placeOf_65 ?_
              refine z_istoren_2 dX3_placeOf_66 (Nat.le_of_ble_eq_true rfl) rfl ?_
              refine z_iinc_3 dX3_placeOf_67 (Nat.le_of_ble_eq_true rfl) rfl ?_
              refine z_goto (tgt := 4) dX3_placeOf_70 (by decide) ?_
              refine z_fgt 4 ?_
              exact y_ih
            · refine z_iconst dX3_placeOf_60 ?_
              refine z_goto (tgt := 65) dX3_placeOf_61 (by decide) ?_
              refine z_top (v' := if M g (14 + 6 * p) < M g (14 + 6 * (i : Int)) ∨ (M g (14 + 6 * (i : Int)) = M g (14 + 6 * p) ∧ (i : Int) < p) then 1 else 0) (by omega) ?_
              refine z_iadd dX3_placeOf_65 ?_
              refine z_istoren_2 dX3_placeOf_66 (Nat.le_of_ble_eq_true rfl) rfl ?_
              refine z_iinc_3 dX3_placeOf_67 (Nat.le_of_ble_eq_true rfl) rfl ?_
              refine z_goto (tgt := 4) dX3_placeOf_70 (by decide) ?_
              refine z_fgt 4 ?_
              exact y_ih
          · refine z_iconst dX3_placeOf_47 ?_
            refine z_goto (tgt := 52) dX3_placeOf_48 (by decide) ?_
            refine z_top (v' := if M g (14 + 6 * p) < M g (14 + 6 * (i : Int)) ∨ (M g (14 + 6 * (i : Int)) = M g (14 + 6 * p) ∧ (i : Int) < p) then 1 else 0) (by first | rw [if_pos (by omega)] | rw [if_neg (by omega)]) ?_
            have y_d : (if M g (14 + 6 * p) < M g (14 + 6 * (i : Int)) ∨ (M g (14 + 6 * (i : Int)) = M g (14 + 6 * p) ∧ (i : Int) < p) then (1 : Int) else 0) = 0 ∨ (if M g (14 + 6 * p) < M g (14 + 6 * (i : Int)) ∨ (M g (14 + 6 * (i : Int)) = M g (14 + 6 * p) ∧ (i : Int) < p) then (1 : Int) else 0) = 1 := by split <;> omega
            refine z_istore_4 dX3_placeOf_52 (Nat.le_of_ble_eq_true rfl) rfl ?_
            refine z_iloadn dX3_placeOf_54 rfl ?_
            refine z_iload dX3_placeOf_55 rfl ?_
            refine z_if_eq (tgt := 64) (by first | (exact hr _ _ (by decide)) | (exact hr _ _ (by omega)) | omega) dX3_placeOf_57 (by decide) (fun h57 => ?_) (fun h57 => ?_)
            · refine z_iconst dX3_placeOf_64 ?_
              refine z_top (v' := if M g (14 + 6 * p) < M g (14 + 6 * (i : Int)) ∨ (M g (14 + 6 * (i : Int)) = M g (14 + 6 * p) ∧ (i : Int) < p) then 1 else 0) (by omega) ?_
              refine z_iadd dX3_placeOf_65 ?_
              refine z_istoren_2 dX3_placeOf_66 (Nat.le_of_ble_eq_true rfl) rfl ?_
              refine z_iinc_3 dX3_placeOf_67 (Nat.le_of_ble_eq_true rfl) rfl ?_
              refine z_goto (tgt := 4) dX3_placeOf_70 (by decide) ?_
              refine z_fgt 4 ?_
              exact y_ih
            · refine z_iconst dX3_placeOf_60 ?_
              refine z_goto (tgt := 65) dX3_placeOf_61 (by decide) ?_
              refine z_top (v' := if M g (14 + 6 * p) < M g (14 + 6 * (i : Int)) ∨ (M g (14 + 6 * (i : Int)) = M g (14 + 6 * p) ∧ (i : Int) < p) then 1 else 0) (by omega) ?_
              refine z_iadd dX3_placeOf_65 ?_
              refine z_istoren_2 dX3_placeOf_66 (Nat.le_of_ble_eq_true rfl) rfl ?_
              refine z_iinc_3 dX3_placeOf_67 (Nat.le_of_ble_eq_true rfl) rfl ?_
              refine z_goto (tgt := 4) dX3_placeOf_70 (by decide) ?_
              refine z_fgt 4 ?_
              exact y_ih
theorem tX3_differences {G : z_G} {M : z_M} {g : Nat} {N  : Int} (hg : g < 7) (hb : z_BI (M g) N) : KX3_differences G [.ref (z_ad G g 1)] M (.inl (some (z_I (z_dif (M g) (M g 0).toNat (M g 0).toNat)))) M := by
  refine z_con (ls := [some (.ref (z_ad G g 1)), none, none, none]) (by decide +kernel) (Nat.le_of_ble_eq_true rfl) rfl ?_
  intro Z htb
  refine z_rng fun hr => ?_
  have hh := z_BI_h hb
  refine z_iconst dX3_differences_0 ?_
  refine z_istoren_1 dX3_differences_1 (Nat.le_of_ble_eq_true rfl) rfl ?_
  refine z_iconst dX3_differences_2 ?_
  refine z_istoren_2 dX3_differences_3 (Nat.le_of_ble_eq_true rfl) rfl ?_
  refine z_upn (P := fun i : Nat => z_J G Z _ _ 4 [some (.ref (z_ad G g 1)), some (z_I (z_dif (M g) (M g 0).toNat i)), some (z_I i), none] [] M 0 0) (M g 0).toNat ?_ ?_
  · refine z_rng fun hr => ?_
    refine z_iloadn dX3_differences_4 rfl ?_
    refine z_aloadn dX3_differences_5 rfl ?_
    refine gX3_30 hg rfl dX3_differences_6 ?_
    refine z_icmp_ge (tgt := 55) (by first | (exact hr _ _ (by decide)) | (exact hr _ _ (by omega)) | omega) (by first | (exact hr _ _ (by decide)) | (exact hr _ _ (by omega)) | omega) dX3_differences_9 (by decide) (fun h9 => ?_) (fun h9 => ?_)
    · refine z_iloadn dX3_differences_55 rfl ?_
      exact z_iret dX3_differences_56 (by first | rfl | omega) rfl
    · exfalso; omega
  · intro i hi y_ih
    refine z_rng fun hr => ?_
    have y_bi := z_BI_bal hb (p := i) (by omega) (by omega)
    have y_s : z_dif (M g) (M g 0).toNat (i + 1) = z_dif (M g) (M g 0).toNat i + z_sm ((M g 0).toNat - (i + 1)) (fun j => z_ab (M g (14 + 6 * (i : Int)) - M g (14 + 6 * ((i : Int) + 1 + j)))) := rfl
    generalize y_g : z_dif (M g) (M g 0).toNat i = A at *
    refine z_iloadn dX3_differences_4 rfl ?_
    refine z_aloadn dX3_differences_5 rfl ?_
    refine gX3_30 hg rfl dX3_differences_6 ?_
    refine z_icmp_ge (tgt := 55) (by first | (exact hr _ _ (by decide)) | (exact hr _ _ (by omega)) | omega) (by first | (exact hr _ _ (by decide)) | (exact hr _ _ (by omega)) | omega) dX3_differences_9 (by decide) (fun h9 => ?_) (fun h9 => ?_)
    · exfalso; omega
    · refine z_iloadn dX3_differences_12 rfl ?_
      refine z_iconst dX3_differences_13 ?_
      refine z_iadd dX3_differences_14 ?_
      refine z_istoren_3 dX3_differences_15 (Nat.le_of_ble_eq_true rfl) rfl ?_
      have y_e : A = A + z_sm 0 (fun j => z_ab (M g (14 + 6 * (i : Int)) - M g (14 + 6 * ((i : Int) + 1 + j)))) := (Int.add_zero A).symm
      have y_i : (i : Int) + 1 = (i : Int) + 1 + ((0 : Nat) : Int) := (Int.add_zero _).symm
      rw [y_e, y_i]
      refine z_upn (P := fun j : Nat => z_J G Z _ _ 16 [some (.ref (z_ad G g 1)), some (z_I (A + z_sm j (fun j => z_ab (M g (14 + 6 * (i : Int)) - M g (14 + 6 * ((i : Int) + 1 + j)))))), some (z_I i), some (z_I ((i : Int) + 1 + j))] [] M 0 0) ((M g 0).toNat - (i + 1)) ?_ ?_
      · refine z_rng fun hr => ?_
        refine z_iloadn dX3_differences_16 rfl ?_
        refine z_aloadn dX3_differences_17 rfl ?_
        refine gX3_30 hg rfl dX3_differences_18 ?_
        refine z_icmp_ge (tgt := 49) (by first | (exact hr _ _ (by decide)) | (exact hr _ _ (by omega)) | omega) (by first | (exact hr _ _ (by decide)) | (exact hr _ _ (by omega)) | omega) dX3_differences_21 (by decide) (fun h21 => ?_) (fun h21 => ?_)
        · refine z_iinc_2 dX3_differences_49 (Nat.le_of_ble_eq_true rfl) rfl ?_
          refine z_goto (tgt := 4) dX3_differences_52 (by decide) ?_
          refine z_fgt 3 ?_
          rw [y_s] at y_ih
          exact y_ih
        · exfalso; omega
      · intro j hj y_jh
        refine z_rng fun hr => ?_
        have y_bj := z_BI_bal hb (p := (i : Int) + 1 + j) (by omega) (by omega)
        have y_t : A + z_sm (j + 1) (fun j => z_ab (M g (14 + 6 * (i : Int)) - M g (14 + 6 * ((i : Int) + 1 + j)))) = A + z_sm j (fun j => z_ab (M g (14 + 6 * (i : Int)) - M g (14 + 6 * ((i : Int) + 1 + j)))) + z_ab (M g (14 + 6 * (i : Int)) - M g (14 + 6 * ((i : Int) + 1 + (j : Int)))) := by rw [z_sm_s]; exact (Int.add_assoc _ _ _).symm
        refine z_iloadn dX3_differences_16 rfl ?_
        refine z_aloadn dX3_differences_17 rfl ?_
        refine gX3_30 hg rfl dX3_differences_18 ?_
        refine z_icmp_ge (tgt := 49) (by first | (exact hr _ _ (by decide)) | (exact hr _ _ (by omega)) | omega) (by first | (exact hr _ _ (by decide)) | (exact hr _ _ (by omega)) | omega) dX3_differences_21 (by decide) (fun h21 => ?_) (fun h21 => ?_)
        · exfalso; omega
        · refine z_iloadn dX3_differences_24 rfl ?_
          refine z_aloadn dX3_differences_25 rfl ?_
          refine gX3_9 hg rfl dX3_differences_26 ?_
          refine z_iloadn dX3_differences_29 rfl ?_
          refine z_iald (by rfl) (by first | exact Or.inl (by decide) | exact Or.inl (Or.inl ⟨by decide, hg⟩)) (by omega) (by omega) (by decide) dX3_differences_30 ?_
          refine z_aloadn dX3_differences_31 rfl ?_
          refine gX3_9 hg rfl dX3_differences_32 ?_
          refine z_iloadn dX3_differences_35 rfl ?_
          refine z_iald (by rfl) (by first | exact Or.inl (by decide) | exact Or.inl (Or.inl ⟨by decide, hg⟩)) (by omega) (by omega) (by decide) dX3_differences_36 ?_
          refine z_isub dX3_differences_37 ?_
          refine z_mabs (by first | (exact hr _ _ (by decide)) | (exact hr _ _ (by omega)) | omega) rfl wmX3_42 (Nat.le_of_ble_eq_true rfl) (Nat.le_of_ble_eq_true rfl) dX3_differences_38 ?_
          refine z_iadd dX3_differences_41 ?_
          refine z_istoren_1 dX3_differences_42 (Nat.le_of_ble_eq_true rfl) rfl ?_
          refine z_iinc_3 dX3_differences_43 (Nat.le_of_ble_eq_true rfl) rfl ?_
          refine z_goto (tgt := 16) dX3_differences_46 (by decide) ?_
          rw [y_t] at y_jh
          exact y_jh
theorem tX4_allParts {G : z_G} {M : z_M} {g : Nat} {k : Int} (hg : g < 7) (k0 : 0 ≤ k) (k1 : k < 20) : KX4_allParts G [.ref (z_ad G g 8), z_I k] M (.inl (some (z_I (z_aP (M g) k)))) M := by
  refine z_con (ls := [some (.ref (z_ad G g 8)), some (z_I k)]) (by decide +kernel) (Nat.le_of_ble_eq_true rfl) rfl ?_
  intro Z htb
  refine z_rng fun hr => ?_
  refine z_aloadn dX4_allParts_0 rfl ?_
  refine gX4_27 hg rfl dX4_allParts_1 ?_
  refine z_iloadn dX4_allParts_4 rfl ?_
  refine kX4_48 (tX6_sumOf (ix := fun p => 426 + p) (by rfl) (Or.inl (Or.inl ⟨by decide, hg⟩)) (by decide) k0 k1 rfl) rfl ⟨(Nat.le_of_ble_eq_true rfl), (Nat.le_of_ble_eq_true rfl)⟩ (Nat.le_of_ble_eq_true rfl) dX4_allParts_5 ?_
  exact z_iret dX4_allParts_8 (z_sm_eq (fun i _ => by show M g _ = M g _; congr 1; omega)) rfl
theorem tX4_allDrafts {G : z_G} {M : z_M} {g : Nat} {k : Int} (hg : g < 7) (k0 : 0 ≤ k) (k1 : k < 20) : KX4_allDrafts G [.ref (z_ad G g 8), z_I k] M (.inl (some (z_I (z_aD (M g) k)))) M := by
  refine z_con (ls := [some (.ref (z_ad G g 8)), some (z_I k)]) (by decide +kernel) (Nat.le_of_ble_eq_true rfl) rfl ?_
  intro Z htb
  refine z_rng fun hr => ?_
  refine z_aloadn dX4_allDrafts_0 rfl ?_
  refine gX4_30 hg rfl dX4_allDrafts_1 ?_
  refine z_iloadn dX4_allDrafts_4 rfl ?_
  refine kX4_48 (tX6_sumOf (ix := fun p => 186 + p) (by rfl) (Or.inl (Or.inl ⟨by decide, hg⟩)) (by decide) k0 k1 rfl) rfl ⟨(Nat.le_of_ble_eq_true rfl), (Nat.le_of_ble_eq_true rfl)⟩ (Nat.le_of_ble_eq_true rfl) dX4_allDrafts_5 ?_
  exact z_iret dX4_allDrafts_8 (z_sm_eq (fun i _ => by show M g _ = M g _; congr 1; omega)) rfl
theorem tX4_draftsBy {G : z_G} {M : z_M} {g : Nat} {N p : Int} (hg : g < 7) (hb : z_BI (M g) N) (p0 : 0 ≤ p) (p1 : p < 12) : KX4_draftsBy G [.ref (z_ad G g 8), z_I p] M (.inl (some (z_I (z_wrote (M g) p)))) M := by
  refine z_con (ls := [some (.ref (z_ad G g 8)), some (z_I p), none, none]) (by decide +kernel) (Nat.le_of_ble_eq_true rfl) rfl ?_
  intro Z htb
  refine z_rng fun hr => ?_
  have hh := z_BI_h hb
  refine z_iconst dX4_draftsBy_0 ?_
  refine z_istoren_2 dX4_draftsBy_1 (Nat.le_of_ble_eq_true rfl) rfl ?_
  refine z_iconst dX4_draftsBy_2 ?_
  refine z_istoren_3 dX4_draftsBy_3 (Nat.le_of_ble_eq_true rfl) rfl ?_
  refine z_upn (P := fun i : Nat => z_J G Z _ _ 4 [some (.ref (z_ad G g 8)), some (z_I p), some (z_I (z_sm i (fun k => M g (186 + 12 * k + p)))), some (z_I i)] [] M 0 0) (M g 1).toNat ?_ ?_
  · refine z_rng fun hr => ?_
    refine z_iloadn dX4_draftsBy_4 rfl ?_
    refine z_aloadn dX4_draftsBy_5 rfl ?_
    refine gX4_36 hg rfl dX4_draftsBy_6 ?_
    refine z_icmp_ge (tgt := 31) (by first | (exact hr _ _ (by decide)) | (exact hr _ _ (by omega)) | omega) (by first | (exact hr _ _ (by decide)) | (exact hr _ _ (by omega)) | omega) dX4_draftsBy_9 (by decide) (fun h9 => ?_) (fun h9 => ?_)
    · refine z_iloadn dX4_draftsBy_31 rfl ?_
      exact z_iret dX4_draftsBy_32 (by first | rfl | omega) rfl
    · exfalso; omega
  · intro i hi y_ih
    refine z_rng fun hr => ?_
    refine z_iloadn dX4_draftsBy_4 rfl ?_
    refine z_aloadn dX4_draftsBy_5 rfl ?_
    refine gX4_36 hg rfl dX4_draftsBy_6 ?_
    refine z_icmp_ge (tgt := 31) (by first | (exact hr _ _ (by decide)) | (exact hr _ _ (by omega)) | omega) (by first | (exact hr _ _ (by decide)) | (exact hr _ _ (by omega)) | omega) dX4_draftsBy_9 (by decide) (fun h9 => ?_) (fun h9 => ?_)
    · exfalso; omega
    · refine z_iloadn dX4_draftsBy_12 rfl ?_
      refine z_aloadn dX4_draftsBy_13 rfl ?_
      refine gX4_30 hg rfl dX4_draftsBy_14 ?_
      refine z_iloadn dX4_draftsBy_17 rfl ?_
      refine z_iloadn dX4_draftsBy_18 rfl ?_
      refine kX4_44 tX6_at rfl ⟨(Nat.le_of_ble_eq_true rfl), (Nat.le_of_ble_eq_true rfl)⟩ (Nat.le_of_ble_eq_true rfl) dX4_draftsBy_19 ?_
      refine z_iald (by rfl) (by first | exact Or.inl (by decide) | exact Or.inl (Or.inl ⟨by decide, hg⟩)) (by omega) (by omega) (by decide) dX4_draftsBy_22 ?_
      refine z_top (v' := M g (186 + 12 * (i : Int) + p)) (by congr 1; omega) ?_
      refine z_iadd dX4_draftsBy_23 ?_
      refine z_istoren_2 dX4_draftsBy_24 (Nat.le_of_ble_eq_true rfl) rfl ?_
      refine z_iinc_3 dX4_draftsBy_25 (Nat.le_of_ble_eq_true rfl) rfl ?_
      refine z_goto (tgt := 4) dX4_draftsBy_28 (by decide) ?_
      exact y_ih
theorem tX4_sharers {G : z_G} {M : z_M} {g : Nat} {N k : Int} (hg : g < 7) (hb : z_BI (M g) N) (k0 : 0 ≤ k) (k1 : k < 20) : KX4_sharers G [.ref (z_ad G g 8), z_I k] M (.inl (some (z_I (z_sm 12 (fun p => if 0 < M g (426 + 12 * k + p) then 1 else 0))))) M := by
  refine z_con (ls := [some (.ref (z_ad G g 8)), some (z_I k), none, none]) (by decide +kernel) (Nat.le_of_ble_eq_true rfl) rfl ?_
  intro Z htb
  refine z_rng fun hr => ?_
  have hh := z_BI_h hb
  refine z_iconst dX4_sharers_0 ?_
  refine z_istoren_2 dX4_sharers_1 (Nat.le_of_ble_eq_true rfl) rfl ?_
  refine z_iconst dX4_sharers_2 ?_
  refine z_istoren_3 dX4_sharers_3 (Nat.le_of_ble_eq_true rfl) rfl ?_
  refine z_upn (P := fun i : Nat => z_J G Z _ _ 4 [some (.ref (z_ad G g 8)), some (z_I k), some (z_I (z_sm i (fun p => if 0 < M g (426 + 12 * k + p) then 1 else 0))), some (z_I i)] [] M 0 0) 12 ?_ ?_
  · refine z_rng fun hr => ?_
    refine z_iloadn dX4_sharers_4 rfl ?_
    refine z_bipush dX4_sharers_5 (by decide) ?_
    refine z_icmp_ge (tgt := 37) (by first | (exact hr _ _ (by decide)) | (exact hr _ _ (by omega)) | omega) (by first | (exact hr _ _ (by decide)) | (exact hr _ _ (by omega)) | omega) dX4_sharers_7 (by decide) (fun h7 => ?_) (fun h7 => ?_)
    · refine z_iloadn dX4_sharers_37 rfl ?_
      exact z_iret dX4_sharers_38 (by first | rfl | omega) rfl
    · exfalso; omega
  · intro i hi y_ih
    refine z_rng fun hr => ?_
    refine z_iloadn dX4_sharers_4 rfl ?_
    refine z_bipush dX4_sharers_5 (by decide) ?_
    refine z_icmp_ge (tgt := 37) (by first | (exact hr _ _ (by decide)) | (exact hr _ _ (by omega)) | omega) (by first | (exact hr _ _ (by decide)) | (exact hr _ _ (by omega)) | omega) dX4_sharers_7 (by decide) (fun h7 => ?_) (fun h7 => ?_)
    · exfalso; omega
    · refine z_iloadn dX4_sharers_10 rfl ?_
      refine z_aloadn dX4_sharers_11 rfl ?_
      refine gX4_27 hg rfl dX4_sharers_12 ?_
      refine z_iloadn dX4_sharers_15 rfl ?_
      refine z_iloadn dX4_sharers_16 rfl ?_
      refine kX4_44 tX6_at rfl ⟨(Nat.le_of_ble_eq_true rfl), (Nat.le_of_ble_eq_true rfl)⟩ (Nat.le_of_ble_eq_true rfl) dX4_sharers_17 ?_
      refine z_iald (by rfl) (by first | exact Or.inl (by decide) | exact Or.inl (Or.inl ⟨by decide, hg⟩)) (by omega) (by omega) (by decide) dX4_sharers_20 ?_
      refine z_top (v' := M g (426 + 12 * k + (i : Int))) (by congr 1; omega) ?_
      refine z_if_le (tgt := 28) (by first | (exact hr _ _ (by decide)) | (exact hr _ _ (by omega)) | omega) dX4_sharers_21 (by decide) (fun h21 => ?_) (fun h21 => ?_)
      · refine z_iconst dX4_sharers_28 ?_
        refine z_top (v' := if 0 < M g (426 + 12 * k + (i : Int)) then 1 else 0) (by first | rw [if_pos (by omega)] | rw [if_neg (by omega)]) ?_
        refine z_iadd dX4_sharers_29 ?_
        refine z_istoren_2 dX4_sharers_30 (Nat.le_of_ble_eq_true rfl) rfl ?_
        refine z_iinc_3 dX4_sharers_31 (Nat.le_of_ble_eq_true rfl) rfl ?_
        refine z_goto (tgt := 4) dX4_sharers_34 (by decide) ?_
        exact y_ih
      · refine z_iconst dX4_sharers_24 ?_
        refine z_goto (tgt := 29) dX4_sharers_25 (by decide) ?_
        refine z_top (v' := if 0 < M g (426 + 12 * k + (i : Int)) then 1 else 0) (by first | rw [if_pos (by omega)] | rw [if_neg (by omega)]) ?_
        refine z_iadd dX4_sharers_29 ?_
        refine z_istoren_2 dX4_sharers_30 (Nat.le_of_ble_eq_true rfl) rfl ?_
        refine z_iinc_3 dX4_sharers_31 (Nat.le_of_ble_eq_true rfl) rfl ?_
        refine z_goto (tgt := 4) dX4_sharers_34 (by decide) ?_
        exact y_ih
theorem tX4_inStage {G : z_G} {M : z_M} {g : Nat} {N s : Int} (hg : g < 7) (hb : z_BI (M g) N) (rs : z_rg s) : KX4_inStage G [.ref (z_ad G g 8), z_I s] M (.inl (some (z_I (z_stg (M g) s)))) M := by
  refine z_con (ls := [some (.ref (z_ad G g 8)), some (z_I s), none, none]) (by decide +kernel) (Nat.le_of_ble_eq_true rfl) rfl ?_
  intro Z htb
  refine z_rng fun hr => ?_
  have hh := z_BI_h hb
  refine z_iconst dX4_inStage_0 ?_
  refine z_istoren_2 dX4_inStage_1 (Nat.le_of_ble_eq_true rfl) rfl ?_
  refine z_iconst dX4_inStage_2 ?_
  refine z_istoren_3 dX4_inStage_3 (Nat.le_of_ble_eq_true rfl) rfl ?_
  refine z_upn (P := fun i : Nat => z_J G Z _ _ 4 [some (.ref (z_ad G g 8)), some (z_I s), some (z_I (z_sm i (fun k => if M g (86 + 5 * k + 2) = s then 1 else 0))), some (z_I i)] [] M 0 0) (M g 1).toNat ?_ ?_
  · refine z_rng fun hr => ?_
    refine z_iloadn dX4_inStage_4 rfl ?_
    refine z_aloadn dX4_inStage_5 rfl ?_
    refine gX4_36 hg rfl dX4_inStage_6 ?_
    refine z_icmp_ge (tgt := 36) (by first | (exact hr _ _ (by decide)) | (exact hr _ _ (by omega)) | omega) (by first | (exact hr _ _ (by decide)) | (exact hr _ _ (by omega)) | omega) dX4_inStage_9 (by decide) (fun h9 => ?_) (fun h9 => ?_)
    · refine z_iloadn dX4_inStage_36 rfl ?_
      exact z_iret dX4_inStage_37 (by first | rfl | omega) rfl
    · exfalso; omega
  · intro i hi y_ih
    refine z_rng fun hr => ?_
    refine z_iloadn dX4_inStage_4 rfl ?_
    refine z_aloadn dX4_inStage_5 rfl ?_
    refine gX4_36 hg rfl dX4_inStage_6 ?_
    refine z_icmp_ge (tgt := 36) (by first | (exact hr _ _ (by decide)) | (exact hr _ _ (by omega)) | omega) (by first | (exact hr _ _ (by decide)) | (exact hr _ _ (by omega)) | omega) dX4_inStage_9 (by decide) (fun h9 => ?_) (fun h9 => ?_)
    · exfalso; omega
    · refine z_iloadn dX4_inStage_12 rfl ?_
      refine z_aloadn dX4_inStage_13 rfl ?_
      refine gX4_18 hg rfl dX4_inStage_14 ?_
      refine z_iloadn dX4_inStage_17 rfl ?_
      refine z_iald (by rfl) (by first | exact Or.inl (by decide) | exact Or.inl (Or.inl ⟨by decide, hg⟩)) (by omega) (by omega) (by decide) dX4_inStage_18 ?_
      refine z_iloadn dX4_inStage_19 rfl ?_
      refine z_icmp_ne (tgt := 27) (by first | (exact hr _ _ (by decide)) | (exact hr _ _ (by omega)) | omega) (by first | (exact hr _ _ (by decide)) | (exact hr _ _ (by omega)) | omega) dX4_inStage_20 (by decide) (fun h20 => ?_) (fun h20 => ?_)
      · refine z_iconst dX4_inStage_27 ?_
        refine z_top (v' := if M g (86 + 5 * (i : Int) + 2) = s then 1 else 0) (by first | rw [if_pos (by omega)] | rw [if_neg (by omega)]) ?_
        refine z_iadd dX4_inStage_28 ?_
        refine z_istoren_2 dX4_inStage_29 (Nat.le_of_ble_eq_true rfl) rfl ?_
        refine z_iinc_3 dX4_inStage_30 (Nat.le_of_ble_eq_true rfl) rfl ?_
        refine z_goto (tgt := 4) dX4_inStage_33 (by decide) ?_
        exact y_ih
      · refine z_iconst dX4_inStage_23 ?_
        refine z_goto (tgt := 28) dX4_inStage_24 (by decide) ?_
        refine z_top (v' := if M g (86 + 5 * (i : Int) + 2) = s then 1 else 0) (by first | rw [if_pos (by omega)] | rw [if_neg (by omega)]) ?_
        refine z_iadd dX4_inStage_28 ?_
        refine z_istoren_2 dX4_inStage_29 (Nat.le_of_ble_eq_true rfl) rfl ?_
        refine z_iinc_3 dX4_inStage_30 (Nat.le_of_ble_eq_true rfl) rfl ?_
        refine z_goto (tgt := 4) dX4_inStage_33 (by decide) ?_
        exact y_ih
theorem tX5_killFee {G : z_G} {M : z_M} {g : Nat} {N k : Int} (hg : g < 7) (hb : z_BI (M g) N) (k0 : 0 ≤ k) (k1 : k < 20) : KX5_killFee G [.ref (z_ad G g 0), z_I k] M (.inl (some (z_I (z_kf (M g) k)))) M := by
  refine z_con (ls := [some (.ref (z_ad G g 0)), some (z_I k), none]) (by decide +kernel) (Nat.le_of_ble_eq_true rfl) rfl ?_
  intro Z htb
  refine z_rng fun hr => ?_
  have hh := z_BI_h hb
  have y_k := z_BI_K hb k k0 k1
  unfold z_KI at y_k
  have y_m := fun s0 s1 s2 s3 => z_mb (x := M g (86 + 5 * k + 1)) (y := M g (11 + M g (86 + 5 * k + 2))) (a := 100000) (c := 100) s0 s1 s2 s3
  refine z_aloadn dX5_killFee_0 rfl ?_
  refine gX5_21 hg rfl dX5_killFee_1 ?_
  refine gX5_64 hg rfl dX5_killFee_4 ?_
  refine z_iloadn dX5_killFee_7 rfl ?_
  refine z_iald (by rfl) (by first | exact Or.inl (by decide) | exact Or.inl (Or.inl ⟨by decide, hg⟩)) (by omega) (by omega) (by decide) dX5_killFee_8 ?_
  refine z_istoren_2 dX5_killFee_9 (Nat.le_of_ble_eq_true rfl) rfl ?_
  refine z_iloadn dX5_killFee_10 rfl ?_
  refine z_if_lt (tgt := 19) (by first | (exact hr _ _ (by decide)) | (exact hr _ _ (by omega)) | omega) dX5_killFee_11 (by decide) (fun h11 => ?_) (fun h11 => ?_)
  · exfalso; omega
  · refine z_iloadn dX5_killFee_14 rfl ?_
    refine z_iconst dX5_killFee_15 ?_
    refine z_icmp_le (tgt := 21) (by first | (exact hr _ _ (by decide)) | (exact hr _ _ (by omega)) | omega) (by first | (exact hr _ _ (by decide)) | (exact hr _ _ (by omega)) | omega) dX5_killFee_16 (by decide) (fun h16 => ?_) (fun h16 => ?_)
    · have y_f : 0 ≤ M g (11 + M g (86 + 5 * k + 2)) ∧ M g (11 + M g (86 + 5 * k + 2)) ≤ 100 := by
        rcases (by omega : M g (86 + 5 * k + 2) = 0 ∨ M g (86 + 5 * k + 2) = 1 ∨ M g (86 + 5 * k + 2) = 2) with e | e | e <;> rw [e] <;> (show 0 ≤ M g _ ∧ M g _ ≤ 100) <;> first | exact hh.2.2.2.2.2.2.2.2.2.2.2.2.1 | exact hh.2.2.2.2.2.2.2.2.2.2.2.2.2.1 | exact hh.2.2.2.2.2.2.2.2.2.2.2.2.2.2
      have y_mm := y_m (by omega) (by omega) y_f.1 y_f.2
      refine z_aloadn dX5_killFee_21 rfl ?_
      refine gX5_21 hg rfl dX5_killFee_22 ?_
      refine gX5_67 hg rfl dX5_killFee_25 ?_
      refine z_iloadn dX5_killFee_28 rfl ?_
      refine z_iald (by rfl) (by first | exact Or.inl (by decide) | exact Or.inl (Or.inl ⟨by decide, hg⟩)) (by omega) (by omega) (by decide) dX5_killFee_29 ?_
      refine z_aloadn dX5_killFee_30 rfl ?_
      refine gX5_34 hg rfl dX5_killFee_31 ?_
      refine z_iconst dX5_killFee_34 ?_
      refine z_iloadn dX5_killFee_35 rfl ?_
      refine z_iadd dX5_killFee_36 ?_
      refine z_iald (by rfl) (by first | exact Or.inl (by decide) | exact Or.inl (Or.inl ⟨by decide, hg⟩)) (by omega) (by omega) (by decide) dX5_killFee_37 ?_
      refine z_top (v' := M g (11 + M g (86 + 5 * k + 2))) (by congr 1; omega) ?_
      refine z_imul dX5_killFee_38 ?_
      refine z_bipush dX5_killFee_39 (by decide) ?_
      refine z_idiv (by omega) (by omega) (by omega) (by omega) dX5_killFee_41 ?_
      exact z_iret dX5_killFee_42 (by unfold z_kf; rw [if_pos (by omega)]) rfl
    · refine z_iconst dX5_killFee_19 ?_
      exact z_iret dX5_killFee_20 (by unfold z_kf; rw [if_neg (by omega)]) rfl
