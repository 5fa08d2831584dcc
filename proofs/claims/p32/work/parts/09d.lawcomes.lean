/-! ===== the law: money that comes in ===== -/
section ZLC
variable {G : z_G} {Z : z_Z} {d : z_Md} {Q : State → Prop} {pc : Nat} {st : List Value} {M : z_M} {k n : Nat}
theorem z_cms {x0 x1 x2 x3 x4 x5 x6 x7 x8 x9 x10 x12 x14 x15 : Option Value} {t t' v v' : Int} (et : t = t') (ev : v = v') (kk : z_J G Z d Q pc [x0, x1, x2, x3, x4, x5, x6, x7, x8, x9, x10, some (z_I t'), x12, some (z_I v'), x14, x15] st M k n) : z_J G Z d Q pc [x0, x1, x2, x3, x4, x5, x6, x7, x8, x9, x10, some (z_I t), x12, some (z_I v), x14, x15] st M k n := by
  subst et; subst ev; exact kk
end ZLC
theorem tL_comes0 {G : z_G} {M : z_M} {B : Int → Int} {g R : Nat} {k a : Int} (hR : R = 40 + g) (hq : z_cq G g) (hE : M R = B) (k0 : 0 ≤ k) (k1 : k < 4) (a0 : 0 ≤ a) (a1 : a ≤ 100000) (hc : z_cF B k) (hz : ∀ p, 4 ≤ p → p < 12 → B (426 + 12 * k + p) = 0) (h4 : B 0 ≤ 4) (hk4 : B (86 + 5 * k) < 4) (ho4 : z_oo B k < 4) (hst : ∀ j, 8 ≤ j → j < 14 → M 40 j = B j) (hpa : ∀ q, 0 ≤ q → q < 4 → M 40 (426 + 12 * k + q) = B (426 + 12 * k + q)) : KL_comes G [z_I k, z_I a, z_I 0, .ref (z_ad G g 40), .ref (z_ad G g 41), .ref (z_ad G 0 43), .ref (z_ad G g 44), .ref (z_ad G 0 45), .ref (z_ad G g 46)] M (.inl (some (z_I (z_cm B k a 0).2))) (z_sR M R (z_cm B k a 0).1) := by
  refine z_con (ls := [some (z_I k), some (z_I a), some (z_I 0), some (.ref (z_ad G g 40)), some (.ref (z_ad G g 41)), some (.ref (z_ad G 0 43)), some (.ref (z_ad G g 44)), some (.ref (z_ad G 0 45)), some (.ref (z_ad G g 46)), none, none, none, none, none, none, none]) (by decide +kernel) (Nat.le_of_ble_eq_true rfl) rfl ?_
  intro Z htb
  refine z_rng fun hr => ?_
  have y_d := hc.2.2.1
  obtain ⟨y_1, y_2, y_3, y_4, y_5, y_6, y_7, y_8⟩ := y_d
  obtain ⟨-, -, -, n01, g4, g8, g9, g10, gk, gr, go⟩ := id hc
  have y_e1 : 0 ≤ a * B 8 := Int.mul_nonneg a0 g8.1
  have y_e2 : a * B 8 ≤ 100000 * 30 := Int.mul_le_mul a1 g8.2 g8.1 (by decide)
  have y_e3 : 0 ≤ a * B 9 := Int.mul_nonneg a0 g9.1
  have y_e4 : a * B 9 ≤ 100000 * 20 := Int.mul_le_mul a1 g9.2 g9.1 (by decide)
  have y_kp : 0 ≤ z_kp B a ∧ z_kp B a ≤ 30000 := by
    unfold z_kp
    omega
  have y_ow : 0 ≤ z_ow2 B a 0 ∧ z_ow2 B a 0 ≤ 20000 := by
    unfold z_ow2
    split <;> omega
  have y_rs : 0 ≤ z_rs B a 0 ∧ z_rs B a 0 ≤ 100000 := z_rs_rg a0 a1 g8 g9
  have y_S := z_sh_rg (s0 := fun _ => 0) (r0 := fun _ => 0) hc.1 hc.2.1 y_rs.1 y_rs.2
  obtain ⟨y_bd, y_Cq, y_C0, y_C10⟩ := z_ci_rg (y := 0) k0 (show k < 20 by omega) a0 a1 hc.2.2.1 g8 g9 gk go
  have y_b2 : z_bd (z_cb2 B k a) (z_kp B a) 1000000000 := z_bd_b2 k0 (show k < 20 by omega) hc.2.2.1 y_kp
  have y_oo : 0 ≤ z_oo B k := go.1
  obtain ⟨S, y_SS⟩ : ∃ S, (z_sh B k (z_rs B a 0) (fun _ => 0) (fun _ => 0)).1 = S := ⟨_, rfl⟩
  rw [y_SS] at y_S
  refine z_iloadn dL_comes_0 rfl ?_
  refine z_aload dL_comes_1 rfl ?_
  refine z_iconst dL_comes_3 ?_
  refine z_lld (R := 40) (j := 8) al_st (Or.inl (by decide)) (hst 8 (by decide) (by decide)) (by omega) (by omega) (Nat.le_of_ble_eq_true rfl) (by omega) dL_comes_4 ?_
  refine z_imul dL_comes_5 ?_
  refine z_bipush dL_comes_6 (by decide) ?_
  refine z_idiv (by omega) (by omega) (by omega) (by omega) dL_comes_8 ?_
  refine z_top (v' := z_kp B a) rfl ?_
  refine z_istore_9 dL_comes_9 (Nat.le_of_ble_eq_true rfl) rfl ?_
  refine z_iloadn dL_comes_11 rfl ?_
  refine z_if_eq (tgt := 27) (by first | (exact hr _ _ (by decide)) | omega) dL_comes_12 (by decide) (fun h12 => ?_) (fun h12 => ?_)
  · refine z_iconst dL_comes_27 ?_
    refine z_top (v' := z_ow2 B a 0) (by first | rfl | (unfold z_ow2; rfl)) ?_
    refine z_istore_10 dL_comes_28 (Nat.le_of_ble_eq_true rfl) rfl ?_
    refine z_iload dL_comes_30 rfl ?_
    refine z_istore_11 dL_comes_32 (Nat.le_of_ble_eq_true rfl) rfl ?_
    refine z_aload dL_comes_34 rfl ?_
    refine z_iconst dL_comes_36 ?_
    refine z_dup2 dL_comes_37 rfl rfl ?_
    refine z_lld (R := R) (j := 4) (alg_c hR) (z_cq_dm hq (by omega)) (congrFun hE _) (by omega) (by omega) (Nat.le_of_ble_eq_true rfl) (by omega) dL_comes_38 ?_
    refine z_iloadn dL_comes_39 rfl ?_
    refine z_iadd dL_comes_40 ?_
    refine z_lst (R := R) (j := 4) (alg_c hR) (z_cq_dm hq (by omega)) (by omega) (by omega) (Nat.le_of_ble_eq_true rfl) (by omega) (by first | (exact hr _ _ (by decide)) | omega) dL_comes_41 ?_
    refine z_rng fun hr => ?_
    refine z_aload dL_comes_42 rfl ?_
    refine z_iconst dL_comes_44 ?_
    refine z_dup2 dL_comes_45 rfl rfl ?_
    refine z_lld (R := R) (j := 3) (alg_c hR) (z_cq_dm hq (by omega)) ((z_sM_ne _ _ _ (by omega)).trans (congrFun hE _)) (by omega) (by omega) (Nat.le_of_ble_eq_true rfl) (by omega) dL_comes_46 ?_
    refine z_iload dL_comes_47 rfl ?_
    refine z_iadd dL_comes_49 ?_
    refine z_lst (R := R) (j := 3) (alg_c hR) (z_cq_dm hq (by omega)) (by omega) (by omega) (Nat.le_of_ble_eq_true rfl) (by omega) (by first | (exact hr _ _ (by decide)) | omega) dL_comes_50 ?_
    refine z_rng fun hr => ?_
    refine z_mem (M' := z_sR M R (z_cb1 B a)) (by simp only [z_sM_R, z_sR_R, z_sR_self]; rw [hE]; rfl) ?_
    refine z_rng fun hr => ?_
    refine z_iloadn dL_comes_51 rfl ?_
    refine z_if_eq (tgt := 93) (by first | (exact hr _ _ (by decide)) | omega) dL_comes_52 (by decide) (fun h52 => ?_) (fun h52 => ?_)
    · refine z_lsE (ls' := [some (z_I k), some (z_I a), some (z_I 0), some (.ref (z_ad G g 40)), some (.ref (z_ad G g 41)), some (.ref (z_ad G 0 43)), some (.ref (z_ad G g 44)), some (.ref (z_ad G 0 45)), some (.ref (z_ad G g 46)), some (z_I (z_kp B a)), some (z_I (z_ow2 B a 0)), some (z_I (z_ci B k a 0).2), none, none, none, none]) (by first | rfl | (unfold z_ci; rfl)) ?_
      refine z_mem (M' := z_sR M R (z_ci B k a 0).1) (by first | rfl | (unfold z_ci; rfl) | (rw [z_sR_R]; first | rfl | (unfold z_ci; rfl))) ?_
      obtain ⟨C, y_C⟩ : ∃ C, z_ci B k a 0 = C := ⟨_, rfl⟩
      rw [y_C] at y_bd y_Cq y_C0 y_C10 ⊢
      refine z_iconst dL_comes_93 ?_
      refine z_istore_12 dL_comes_94 (Nat.le_of_ble_eq_true rfl) rfl ?_
      refine z_upn (P := fun i : Nat => z_J G Z _ _ 96 [some (z_I k), some (z_I a), some (z_I 0), some (.ref (z_ad G g 40)), some (.ref (z_ad G g 41)), some (.ref (z_ad G 0 43)), some (.ref (z_ad G g 44)), some (.ref (z_ad G 0 45)), some (.ref (z_ad G g 46)), some (z_I (z_kp B a)), some (z_I (z_ow2 B a 0)), some (z_I (z_lps 0 S k i C).2), some (z_I i), none, none, none] [] (z_sR M R (z_lps 0 S k i C).1) 0 0) (B 0).toNat ?_ ?_
      · refine z_rng fun hr => ?_
        have y_n := z_lps_o (y := 0) (S := S) (x := C) (j := 0) k0 (by omega) (B 0).toNat (by omega)
        refine z_iload dL_comes_96 rfl ?_
        refine z_aload dL_comes_98 rfl ?_
        refine z_iconst dL_comes_100 ?_
        refine z_lld (R := R) (j := 0) (alg_c hR) (z_cq_dm hq (by omega)) ((congrFun (z_sR_self _ _ _) _).trans (y_n.trans y_C0)) (by omega) (by omega) (Nat.le_of_ble_eq_true rfl) (by omega) dL_comes_101 ?_
        refine z_icmp_ge (tgt := 242) (by first | (exact hr _ _ (by decide)) | omega) (by first | (exact hr _ _ (by decide)) | omega) dL_comes_102 (by decide) (fun h102 => ?_) (fun h102 => ?_)
        · refine z_iload dL_comes_242 rfl ?_
          exact z_iret dL_comes_244 (by rw [← y_C, ← y_SS]; rfl) (by rw [← y_C, ← y_SS]; rfl)
        · exfalso; omega
      · intro i hi y_ih
        refine z_rng fun hr => ?_
        have y_n := z_lps_o (y := 0) (S := S) (x := C) (j := 0) k0 (by omega) i (by omega)
        have y_t := z_lps_o (y := 0) (S := S) (x := C) (j := 10) k0 (by omega) i (by omega)
        have y_B := z_bd_lps (y := 0) (S := S) (x := C) k0 (show k < 20 by omega) y_S y_bd i (by omega)
        have y_Si := y_S i (by omega) (by omega)
        have y_pa : ∀ q, 0 ≤ q → q < 4 → z_sR M R (z_lps 0 S k i C).1 40 (426 + 12 * k + q) = B (426 + 12 * k + q) := fun q q0 q1 => z_rw40 (fun _ => (z_lps_o (y := 0) (S := S) (x := C) (j := 426 + 12 * k + q) k0 (by omega) i (by omega)).trans (y_Cq q q0 (by omega))) (hpa q q0 q1)
        have y_s10 : z_sR M R (z_lps 0 S k i C).1 40 10 = B 10 := z_rw40 (fun _ => y_t.trans y_C10) (hst 10 (by decide) (by decide))
        have y_10 : (z_lps 0 S k i C).1 10 = B 10 := y_t.trans y_C10
        have y_sh : z_shp B k (z_rs B a 0) i = S i := by rw [← y_SS]; exact (z_sh_shp hc.1 hc.2.1 i (by omega) (by omega)).symm
        have y_st : z_lps 0 S k (i + 1) C = z_stp 0 S k i (z_lps 0 S k i C) := rfl
        generalize z_lps 0 S k i C = L at *
        have y_ov := z_ov_rg (b := L.1) (k := k) (p := i) y_Si.1
        obtain ⟨y_b1, y_c0, y_c1, y_c2, y_c3, y_b6, y_c4, y_c5⟩ := (show z_bd L.1 L.2 1000000000 from z_bd_mono (by omega) y_B)
        have y_b6i := y_b6 k i k0 (by omega) (by omega) (by omega)
        refine z_iload dL_comes_96 rfl ?_
        refine z_aload dL_comes_98 rfl ?_
        refine z_iconst dL_comes_100 ?_
        refine z_lld (R := R) (j := 0) (alg_c hR) (z_cq_dm hq (by omega)) ((congrFun (z_sR_self _ _ _) _).trans (y_n.trans y_C0)) (by omega) (by omega) (Nat.le_of_ble_eq_true rfl) (by omega) dL_comes_101 ?_
        refine z_icmp_ge (tgt := 242) (by first | (exact hr _ _ (by decide)) | omega) (by first | (exact hr _ _ (by decide)) | omega) dL_comes_102 (by decide) (fun h102 => ?_) (fun h102 => ?_)
        · exfalso; omega
        · refine z_iloadn dL_comes_105 rfl ?_
          refine z_iload dL_comes_106 rfl ?_
          refine z_iloadn dL_comes_108 rfl ?_
          refine z_iload dL_comes_109 rfl ?_
          refine z_isub dL_comes_111 ?_
          refine z_iload dL_comes_112 rfl ?_
          refine z_isub dL_comes_114 ?_
          refine z_aload dL_comes_115 rfl ?_
          refine kL_18 (tL_share k0 k1 (by omega) (by omega) y_rs.1 y_rs.2 hc.1 hc.2.1 hz y_pa) rfl ⟨(Nat.le_of_ble_eq_true rfl), (Nat.le_of_ble_eq_true rfl)⟩ (Nat.le_of_ble_eq_true rfl) dL_comes_117 ?_
          refine z_top (v' := S i) y_sh ?_
          refine z_istore_13 dL_comes_120 (Nat.le_of_ble_eq_true rfl) rfl ?_
          refine z_iloadn dL_comes_122 rfl ?_
          refine z_if_eq (tgt := 203) (by first | (exact hr _ _ (by decide)) | omega) dL_comes_123 (by decide) (fun h123 => ?_) (fun h123 => ?_)
          · refine z_iloadn dL_comes_203 rfl ?_
            refine z_if_eq (tgt := 221) (by first | (exact hr _ _ (by decide)) | omega) dL_comes_204 (by decide) (fun h204 => ?_) (fun h204 => ?_)
            · refine z_iload dL_comes_221 rfl ?_
              refine z_iload dL_comes_223 rfl ?_
              refine z_iload dL_comes_225 rfl ?_
              refine z_aloadn dL_comes_227 rfl ?_
              refine z_aload dL_comes_228 rfl ?_
              refine kL_14 (tL_gets (t := L.2) hR hq (z_sR_self _ _ _) (by omega) (by omega) (by omega) (by omega) (z_bd_mono (by omega) y_B)) rfl ⟨(Nat.le_of_ble_eq_true rfl), (Nat.le_of_ble_eq_true rfl)⟩ (Nat.le_of_ble_eq_true rfl) dL_comes_230 ?_
              refine z_rng fun hr => ?_
              refine z_iadd dL_comes_233 ?_
              refine z_istore_11 dL_comes_234 (Nat.le_of_ble_eq_true rfl) rfl ?_
              refine z_iinc_12 dL_comes_236 (Nat.le_of_ble_eq_true rfl) rfl ?_
              refine z_goto (tgt := 96) dL_comes_239 (by decide) ?_
              try subst y_o
              refine z_fgt 13 ?_
              refine z_fgt 14 ?_
              refine z_fgt 15 ?_
              rw [y_st] at y_ih
              refine z_mem (z_sR_R _ _ _ _) ?_
              exact y_ih
            · exact absurd h204 (by decide)
          · exact absurd h123 (by decide)
    · exact absurd h52 (by decide)
  · exact absurd h12 (by decide)
theorem tL_comes1 {G : z_G} {M : z_M} {B : Int → Int} {g R : Nat} {k a : Int} (hR : R = 40 + g) (hq : z_cq G g) (hE : M R = B) (k0 : 0 ≤ k) (k1 : k < 4) (a0 : 0 ≤ a) (a1 : a ≤ 100000) (hc : z_cF B k) (hz : ∀ p, 4 ≤ p → p < 12 → B (426 + 12 * k + p) = 0) (h4 : B 0 ≤ 4) (hk4 : B (86 + 5 * k) < 4) (ho4 : z_oo B k < 4) (hst : ∀ j, 8 ≤ j → j < 14 → M 40 j = B j) (hpa : ∀ q, 0 ≤ q → q < 4 → M 40 (426 + 12 * k + q) = B (426 + 12 * k + q)) : KL_comes G [z_I k, z_I a, z_I 1, .ref (z_ad G g 40), .ref (z_ad G g 41), .ref (z_ad G 0 43), .ref (z_ad G g 44), .ref (z_ad G 0 45), .ref (z_ad G g 46)] M (.inl (some (z_I (z_cm B k a 1).2))) (z_sR M R (z_cm B k a 1).1) := by
  refine z_con (ls := [some (z_I k), some (z_I a), some (z_I 1), some (.ref (z_ad G g 40)), some (.ref (z_ad G g 41)), some (.ref (z_ad G 0 43)), some (.ref (z_ad G g 44)), some (.ref (z_ad G 0 45)), some (.ref (z_ad G g 46)), none, none, none, none, none, none, none]) (by decide +kernel) (Nat.le_of_ble_eq_true rfl) rfl ?_
  intro Z htb
  refine z_rng fun hr => ?_
  have y_d := hc.2.2.1
  obtain ⟨y_1, y_2, y_3, y_4, y_5, y_6, y_7, y_8⟩ := y_d
  obtain ⟨-, -, -, n01, g4, g8, g9, g10, gk, gr, go⟩ := id hc
  have y_e1 : 0 ≤ a * B 8 := Int.mul_nonneg a0 g8.1
  have y_e2 : a * B 8 ≤ 100000 * 30 := Int.mul_le_mul a1 g8.2 g8.1 (by decide)
  have y_e3 : 0 ≤ a * B 9 := Int.mul_nonneg a0 g9.1
  have y_e4 : a * B 9 ≤ 100000 * 20 := Int.mul_le_mul a1 g9.2 g9.1 (by decide)
  have y_kp : 0 ≤ z_kp B a ∧ z_kp B a ≤ 30000 := by
    unfold z_kp
    omega
  have y_ow : 0 ≤ z_ow2 B a 1 ∧ z_ow2 B a 1 ≤ 20000 := by
    unfold z_ow2
    split <;> omega
  have y_rs : 0 ≤ z_rs B a 1 ∧ z_rs B a 1 ≤ 100000 := z_rs_rg a0 a1 g8 g9
  have y_S := z_sh_rg (s0 := fun _ => 0) (r0 := fun _ => 0) hc.1 hc.2.1 y_rs.1 y_rs.2
  obtain ⟨y_bd, y_Cq, y_C0, y_C10⟩ := z_ci_rg (y := 1) k0 (show k < 20 by omega) a0 a1 hc.2.2.1 g8 g9 gk go
  have y_b2 : z_bd (z_cb2 B k a) (z_kp B a) 1000000000 := z_bd_b2 k0 (show k < 20 by omega) hc.2.2.1 y_kp
  have y_oo : 0 ≤ z_oo B k := go.1
  obtain ⟨S, y_SS⟩ : ∃ S, (z_sh B k (z_rs B a 1) (fun _ => 0) (fun _ => 0)).1 = S := ⟨_, rfl⟩
  rw [y_SS] at y_S
  refine z_iloadn dL_comes_0 rfl ?_
  refine z_aload dL_comes_1 rfl ?_
  refine z_iconst dL_comes_3 ?_
  refine z_lld (R := 40) (j := 8) al_st (Or.inl (by decide)) (hst 8 (by decide) (by decide)) (by omega) (by omega) (Nat.le_of_ble_eq_true rfl) (by omega) dL_comes_4 ?_
  refine z_imul dL_comes_5 ?_
  refine z_bipush dL_comes_6 (by decide) ?_
  refine z_idiv (by omega) (by omega) (by omega) (by omega) dL_comes_8 ?_
  refine z_top (v' := z_kp B a) rfl ?_
  refine z_istore_9 dL_comes_9 (Nat.le_of_ble_eq_true rfl) rfl ?_
  refine z_iloadn dL_comes_11 rfl ?_
  refine z_if_eq (tgt := 27) (by first | (exact hr _ _ (by decide)) | omega) dL_comes_12 (by decide) (fun h12 => ?_) (fun h12 => ?_)
  · exact absurd h12 (by decide)
  · refine z_iloadn dL_comes_15 rfl ?_
    refine z_aload dL_comes_16 rfl ?_
    refine z_iconst dL_comes_18 ?_
    refine z_lld (R := 40) (j := 9) al_st (Or.inl (by decide)) (hst 9 (by decide) (by decide)) (by omega) (by omega) (Nat.le_of_ble_eq_true rfl) (by omega) dL_comes_19 ?_
    refine z_imul dL_comes_20 ?_
    refine z_bipush dL_comes_21 (by decide) ?_
    refine z_idiv (by omega) (by omega) (by omega) (by omega) dL_comes_23 ?_
    refine z_goto (tgt := 28) dL_comes_24 (by decide) ?_
    refine z_top (v' := z_ow2 B a 1) (by first | rfl | (unfold z_ow2; rfl)) ?_
    refine z_istore_10 dL_comes_28 (Nat.le_of_ble_eq_true rfl) rfl ?_
    refine z_iload dL_comes_30 rfl ?_
    refine z_istore_11 dL_comes_32 (Nat.le_of_ble_eq_true rfl) rfl ?_
    refine z_aload dL_comes_34 rfl ?_
    refine z_iconst dL_comes_36 ?_
    refine z_dup2 dL_comes_37 rfl rfl ?_
    refine z_lld (R := R) (j := 4) (alg_c hR) (z_cq_dm hq (by omega)) (congrFun hE _) (by omega) (by omega) (Nat.le_of_ble_eq_true rfl) (by omega) dL_comes_38 ?_
    refine z_iloadn dL_comes_39 rfl ?_
    refine z_iadd dL_comes_40 ?_
    refine z_lst (R := R) (j := 4) (alg_c hR) (z_cq_dm hq (by omega)) (by omega) (by omega) (Nat.le_of_ble_eq_true rfl) (by omega) (by first | (exact hr _ _ (by decide)) | omega) dL_comes_41 ?_
    refine z_rng fun hr => ?_
    refine z_aload dL_comes_42 rfl ?_
    refine z_iconst dL_comes_44 ?_
    refine z_dup2 dL_comes_45 rfl rfl ?_
    refine z_lld (R := R) (j := 3) (alg_c hR) (z_cq_dm hq (by omega)) ((z_sM_ne _ _ _ (by omega)).trans (congrFun hE _)) (by omega) (by omega) (Nat.le_of_ble_eq_true rfl) (by omega) dL_comes_46 ?_
    refine z_iload dL_comes_47 rfl ?_
    refine z_iadd dL_comes_49 ?_
    refine z_lst (R := R) (j := 3) (alg_c hR) (z_cq_dm hq (by omega)) (by omega) (by omega) (Nat.le_of_ble_eq_true rfl) (by omega) (by first | (exact hr _ _ (by decide)) | omega) dL_comes_50 ?_
    refine z_rng fun hr => ?_
    refine z_mem (M' := z_sR M R (z_cb1 B a)) (by simp only [z_sM_R, z_sR_R, z_sR_self]; rw [hE]; rfl) ?_
    refine z_rng fun hr => ?_
    refine z_iloadn dL_comes_51 rfl ?_
    refine z_if_eq (tgt := 93) (by first | (exact hr _ _ (by decide)) | omega) dL_comes_52 (by decide) (fun h52 => ?_) (fun h52 => ?_)
    · exact absurd h52 (by decide)
    · refine z_aload dL_comes_55 rfl ?_
      refine z_iconst dL_comes_57 ?_
      refine z_iloadn dL_comes_58 rfl ?_
      refine z_imul dL_comes_59 ?_
      refine z_iconst dL_comes_60 ?_
      refine z_iadd dL_comes_61 ?_
      refine z_dup2 dL_comes_62 rfl rfl ?_
      refine z_lld (R := R) (j := 86 + 5 * k + 4) (alg_pi hR) (z_cq_dm hq (by omega)) ((congrFun (z_sR_self _ _ _) _).trans (show z_cb1 B a (86 + 5 * k + 4) = B (86 + 5 * k + 4) from (z_uf_ne _ _ (by omega)).trans (z_uf_ne _ _ (by omega)))) (by omega) (by omega) (Nat.le_of_ble_eq_true rfl) (by omega) dL_comes_63 ?_
      refine z_iloadn dL_comes_64 rfl ?_
      refine z_iadd dL_comes_65 ?_
      refine z_lst (R := R) (j := 86 + 5 * k + 4) (alg_pi hR) (z_cq_dm hq (by omega)) (by omega) (by omega) (Nat.le_of_ble_eq_true rfl) (by omega) (by first | (exact hr _ _ (by decide)) | omega) dL_comes_66 ?_
      refine z_rng fun hr => ?_
      refine z_mem (M' := z_sR M R (z_cb2 B k a)) (by simp only [z_sM_R, z_sR_R, z_sR_self]; rfl) ?_
      refine z_rng fun hr => ?_
      refine z_iload dL_comes_67 rfl ?_
      refine z_aloadn dL_comes_69 rfl ?_
      refine z_bipush dL_comes_70 (by decide) ?_
      refine z_aload dL_comes_72 rfl ?_
      refine z_iconst dL_comes_74 ?_
      refine z_iloadn dL_comes_75 rfl ?_
      refine z_imul dL_comes_76 ?_
      refine z_lld (R := R) (j := 86 + 5 * k) (alg_pi hR) (z_cq_dm hq (by omega)) ((congrFun (z_sR_self _ _ _) _).trans (z_cb2_o (j := 86 + 5 * k) (by omega))) (by omega) (by omega) (Nat.le_of_ble_eq_true rfl) (by omega) dL_comes_77 ?_
      refine z_imul dL_comes_78 ?_
      refine z_iconst dL_comes_79 ?_
      refine z_iadd dL_comes_80 ?_
      refine z_lld (R := R) (j := 14 + 6 * B (86 + 5 * k) + 3) (alg_pe hR) (z_cq_dm hq (by omega)) ((congrFun (z_sR_self _ _ _) _).trans (z_cb2_o (j := 14 + 6 * B (86 + 5 * k) + 3) (by omega))) (by omega) (by omega) (Nat.le_of_ble_eq_true rfl) (by omega) dL_comes_81 ?_
      refine z_top (v' := z_oo B k) rfl ?_
      refine z_iload dL_comes_82 rfl ?_
      refine z_aloadn dL_comes_84 rfl ?_
      refine z_aload dL_comes_85 rfl ?_
      refine kL_14 (tL_gets (t := z_kp B a) hR hq (z_sR_self _ _ _) (by omega) (by omega) (by omega) (by omega) y_b2) rfl ⟨(Nat.le_of_ble_eq_true rfl), (Nat.le_of_ble_eq_true rfl)⟩ (Nat.le_of_ble_eq_true rfl) dL_comes_87 ?_
      refine z_rng fun hr => ?_
      refine z_iadd dL_comes_90 ?_
      refine z_istore_11 dL_comes_91 (Nat.le_of_ble_eq_true rfl) rfl ?_
      refine z_lsE (ls' := [some (z_I k), some (z_I a), some (z_I 1), some (.ref (z_ad G g 40)), some (.ref (z_ad G g 41)), some (.ref (z_ad G 0 43)), some (.ref (z_ad G g 44)), some (.ref (z_ad G 0 45)), some (.ref (z_ad G g 46)), some (z_I (z_kp B a)), some (z_I (z_ow2 B a 1)), some (z_I (z_ci B k a 1).2), none, none, none, none]) (by first | rfl | (unfold z_ci; rfl)) ?_
      refine z_mem (M' := z_sR M R (z_ci B k a 1).1) (by first | rfl | (unfold z_ci; rfl) | (rw [z_sR_R]; first | rfl | (unfold z_ci; rfl))) ?_
      obtain ⟨C, y_C⟩ : ∃ C, z_ci B k a 1 = C := ⟨_, rfl⟩
      rw [y_C] at y_bd y_Cq y_C0 y_C10 ⊢
      refine z_iconst dL_comes_93 ?_
      refine z_istore_12 dL_comes_94 (Nat.le_of_ble_eq_true rfl) rfl ?_
      refine z_upn (P := fun i : Nat => z_J G Z _ _ 96 [some (z_I k), some (z_I a), some (z_I 1), some (.ref (z_ad G g 40)), some (.ref (z_ad G g 41)), some (.ref (z_ad G 0 43)), some (.ref (z_ad G g 44)), some (.ref (z_ad G 0 45)), some (.ref (z_ad G g 46)), some (z_I (z_kp B a)), some (z_I (z_ow2 B a 1)), some (z_I (z_lps 1 S k i C).2), some (z_I i), none, none, none] [] (z_sR M R (z_lps 1 S k i C).1) 0 0) (B 0).toNat ?_ ?_
      · refine z_rng fun hr => ?_
        have y_n := z_lps_o (y := 1) (S := S) (x := C) (j := 0) k0 (by omega) (B 0).toNat (by omega)
        refine z_iload dL_comes_96 rfl ?_
        refine z_aload dL_comes_98 rfl ?_
        refine z_iconst dL_comes_100 ?_
        refine z_lld (R := R) (j := 0) (alg_c hR) (z_cq_dm hq (by omega)) ((congrFun (z_sR_self _ _ _) _).trans (y_n.trans y_C0)) (by omega) (by omega) (Nat.le_of_ble_eq_true rfl) (by omega) dL_comes_101 ?_
        refine z_icmp_ge (tgt := 242) (by first | (exact hr _ _ (by decide)) | omega) (by first | (exact hr _ _ (by decide)) | omega) dL_comes_102 (by decide) (fun h102 => ?_) (fun h102 => ?_)
        · refine z_iload dL_comes_242 rfl ?_
          exact z_iret dL_comes_244 (by rw [← y_C, ← y_SS]; rfl) (by rw [← y_C, ← y_SS]; rfl)
        · exfalso; omega
      · intro i hi y_ih
        refine z_rng fun hr => ?_
        have y_n := z_lps_o (y := 1) (S := S) (x := C) (j := 0) k0 (by omega) i (by omega)
        have y_t := z_lps_o (y := 1) (S := S) (x := C) (j := 10) k0 (by omega) i (by omega)
        have y_B := z_bd_lps (y := 1) (S := S) (x := C) k0 (show k < 20 by omega) y_S y_bd i (by omega)
        have y_Si := y_S i (by omega) (by omega)
        have y_pa : ∀ q, 0 ≤ q → q < 4 → z_sR M R (z_lps 1 S k i C).1 40 (426 + 12 * k + q) = B (426 + 12 * k + q) := fun q q0 q1 => z_rw40 (fun _ => (z_lps_o (y := 1) (S := S) (x := C) (j := 426 + 12 * k + q) k0 (by omega) i (by omega)).trans (y_Cq q q0 (by omega))) (hpa q q0 q1)
        have y_s10 : z_sR M R (z_lps 1 S k i C).1 40 10 = B 10 := z_rw40 (fun _ => y_t.trans y_C10) (hst 10 (by decide) (by decide))
        have y_10 : (z_lps 1 S k i C).1 10 = B 10 := y_t.trans y_C10
        have y_sh : z_shp B k (z_rs B a 1) i = S i := by rw [← y_SS]; exact (z_sh_shp hc.1 hc.2.1 i (by omega) (by omega)).symm
        have y_st : z_lps 1 S k (i + 1) C = z_stp 1 S k i (z_lps 1 S k i C) := rfl
        generalize z_lps 1 S k i C = L at *
        have y_ov := z_ov_rg (b := L.1) (k := k) (p := i) y_Si.1
        obtain ⟨y_b1, y_c0, y_c1, y_c2, y_c3, y_b6, y_c4, y_c5⟩ := (show z_bd L.1 L.2 1000000000 from z_bd_mono (by omega) y_B)
        have y_b6i := y_b6 k i k0 (by omega) (by omega) (by omega)
        refine z_iload dL_comes_96 rfl ?_
        refine z_aload dL_comes_98 rfl ?_
        refine z_iconst dL_comes_100 ?_
        refine z_lld (R := R) (j := 0) (alg_c hR) (z_cq_dm hq (by omega)) ((congrFun (z_sR_self _ _ _) _).trans (y_n.trans y_C0)) (by omega) (by omega) (Nat.le_of_ble_eq_true rfl) (by omega) dL_comes_101 ?_
        refine z_icmp_ge (tgt := 242) (by first | (exact hr _ _ (by decide)) | omega) (by first | (exact hr _ _ (by decide)) | omega) dL_comes_102 (by decide) (fun h102 => ?_) (fun h102 => ?_)
        · exfalso; omega
        · refine z_iloadn dL_comes_105 rfl ?_
          refine z_iload dL_comes_106 rfl ?_
          refine z_iloadn dL_comes_108 rfl ?_
          refine z_iload dL_comes_109 rfl ?_
          refine z_isub dL_comes_111 ?_
          refine z_iload dL_comes_112 rfl ?_
          refine z_isub dL_comes_114 ?_
          refine z_aload dL_comes_115 rfl ?_
          refine kL_18 (tL_share k0 k1 (by omega) (by omega) y_rs.1 y_rs.2 hc.1 hc.2.1 hz y_pa) rfl ⟨(Nat.le_of_ble_eq_true rfl), (Nat.le_of_ble_eq_true rfl)⟩ (Nat.le_of_ble_eq_true rfl) dL_comes_117 ?_
          refine z_top (v' := S i) y_sh ?_
          refine z_istore_13 dL_comes_120 (Nat.le_of_ble_eq_true rfl) rfl ?_
          refine z_iloadn dL_comes_122 rfl ?_
          refine z_if_eq (tgt := 203) (by first | (exact hr _ _ (by decide)) | omega) dL_comes_123 (by decide) (fun h123 => ?_) (fun h123 => ?_)
          · exact absurd h123 (by decide)
          · refine z_aload dL_comes_126 rfl ?_
            refine z_iconst dL_comes_128 ?_
            refine z_lld (R := 40) (j := 10) al_st (Or.inl (by decide)) y_s10 (by omega) (by omega) (Nat.le_of_ble_eq_true rfl) (by omega) dL_comes_129 ?_
            refine z_if_le (tgt := 203) (by first | (exact hr _ _ (by decide)) | omega) dL_comes_130 (by decide) (fun h130 => ?_) (fun h130 => ?_)
            · obtain ⟨o, y_o⟩ : ∃ o, z_ov L.1 k i (S i) = o := ⟨_, rfl⟩
              refine z_cms (t' := L.2 + o) (v' := S i - o) (by rw [← y_o]; unfold z_ov; (repeat' split) <;> omega) (by rw [← y_o]; unfold z_ov; (repeat' split) <;> omega) ?_
              refine z_mem (M' := z_sR M R (z_uf (z_uf L.1 3 (L.1 3 + o)) 7 (L.1 7 + o))) (by
                first
                  | (have y_z : o = 0 := by rw [← y_o]; unfold z_ov; (repeat' split) <;> omega
                     rw [y_z, Int.add_zero, Int.add_zero, z_uf_id, z_uf_id]; done)
                  | (have y_z : o = S i - (B 10 - L.1 (666 + 12 * k + i)) := by rw [← y_o]; unfold z_ov; (repeat' split) <;> omega
                     simp only [z_sM_R, z_sR_R, z_sR_self]; rw [y_z]; done)
                  | (have y_z : o = S i - 0 := by rw [← y_o]; unfold z_ov; (repeat' split) <;> omega
                     simp only [z_sM_R, z_sR_R, z_sR_self]; rw [y_z]; done)) ?_
              refine z_rng fun hr => ?_
              refine z_iloadn dL_comes_203 rfl ?_
              refine z_if_eq (tgt := 221) (by first | (exact hr _ _ (by decide)) | omega) dL_comes_204 (by decide) (fun h204 => ?_) (fun h204 => ?_)
              · exact absurd h204 (by decide)
              · refine z_aload dL_comes_207 rfl ?_
                refine z_iconst dL_comes_209 ?_
                refine z_iloadn dL_comes_210 rfl ?_
                refine z_imul dL_comes_211 ?_
                refine z_iload dL_comes_212 rfl ?_
                refine z_iadd dL_comes_214 ?_
                refine z_dup2 dL_comes_215 rfl rfl ?_
                refine z_lld (R := R) (j := 666 + 12 * k + (i : Int)) (alg_go hR) (z_cq_dm hq (by omega)) ((congrFun (z_sR_self _ _ _) _).trans ((z_uf_ne _ _ (by omega)).trans (z_uf_ne _ _ (by omega)))) (by omega) (by omega) (Nat.le_of_ble_eq_true rfl) (by omega) dL_comes_216 ?_
                refine z_iload dL_comes_217 rfl ?_
                refine z_iadd dL_comes_219 ?_
                refine z_lst (R := R) (j := 666 + 12 * k + (i : Int)) (alg_go hR) (z_cq_dm hq (by omega)) (by omega) (by omega) (Nat.le_of_ble_eq_true rfl) (by omega) (by first | (exact hr _ _ (by decide)) | omega) dL_comes_220 ?_
                refine z_rng fun hr => ?_
                refine z_mem (M' := z_sR M R (z_cpb L.1 k i (S i))) (by simp only [z_sM_R, z_sR_R, z_sR_self]; rw [← y_o]; rfl) ?_
                refine z_rng fun hr => ?_
                refine z_iload dL_comes_221 rfl ?_
                refine z_iload dL_comes_223 rfl ?_
                refine z_iload dL_comes_225 rfl ?_
                refine z_aloadn dL_comes_227 rfl ?_
                refine z_aload dL_comes_228 rfl ?_
                refine kL_14 (tL_gets (t := L.2 + z_ov L.1 k i (S i)) hR hq (z_sR_self _ _ _) (by omega) (by omega) (by omega) (by omega) (z_bd_mono (by omega) (z_bd_cap y_B k0 (show k < 20 by omega) (by omega) (by omega) y_Si.1 y_Si.2))) rfl ⟨(Nat.le_of_ble_eq_true rfl), (Nat.le_of_ble_eq_true rfl)⟩ (Nat.le_of_ble_eq_true rfl) dL_comes_230 ?_
                refine z_rng fun hr => ?_
                refine z_iadd dL_comes_233 ?_
                refine z_istore_11 dL_comes_234 (Nat.le_of_ble_eq_true rfl) rfl ?_
                refine z_iinc_12 dL_comes_236 (Nat.le_of_ble_eq_true rfl) rfl ?_
                refine z_goto (tgt := 96) dL_comes_239 (by decide) ?_
                try subst y_o
                refine z_fgt 13 ?_
                refine z_fgt 14 ?_
                refine z_fgt 15 ?_
                rw [y_st] at y_ih
                refine z_mem (z_sR_R _ _ _ _) ?_
                exact y_ih
            · refine z_aload dL_comes_133 rfl ?_
              refine z_iconst dL_comes_135 ?_
              refine z_lld (R := 40) (j := 10) al_st (Or.inl (by decide)) y_s10 (by omega) (by omega) (Nat.le_of_ble_eq_true rfl) (by omega) dL_comes_136 ?_
              refine z_aload dL_comes_137 rfl ?_
              refine z_iconst dL_comes_139 ?_
              refine z_iloadn dL_comes_140 rfl ?_
              refine z_imul dL_comes_141 ?_
              refine z_iload dL_comes_142 rfl ?_
              refine z_iadd dL_comes_144 ?_
              refine z_lld (R := R) (j := 666 + 12 * k + (i : Int)) (alg_go hR) (z_cq_dm hq (by omega)) (congrFun (z_sR_self _ _ _) _) (by omega) (by omega) (Nat.le_of_ble_eq_true rfl) (by omega) dL_comes_145 ?_
              refine z_isub dL_comes_146 ?_
              refine z_istore_14 dL_comes_147 (Nat.le_of_ble_eq_true rfl) rfl ?_
              refine z_iload dL_comes_149 rfl ?_
              refine z_iload dL_comes_151 rfl ?_
              refine z_if_ge (tgt := 160) (by first | (exact hr _ _ (by decide)) | omega) dL_comes_153 (by decide) (fun h153 => ?_) (fun h153 => ?_)
              · refine z_iload dL_comes_160 rfl ?_
                refine z_isub dL_comes_162 ?_
                refine z_istore_15 dL_comes_163 (Nat.le_of_ble_eq_true rfl) rfl ?_
                refine z_iload dL_comes_165 rfl ?_
                refine z_if_le (tgt := 203) (by first | (exact hr _ _ (by decide)) | omega) dL_comes_167 (by decide) (fun h167 => ?_) (fun h167 => ?_)
                · obtain ⟨o, y_o⟩ : ∃ o, z_ov L.1 k i (S i) = o := ⟨_, rfl⟩
                  refine z_cms (t' := L.2 + o) (v' := S i - o) (by rw [← y_o]; unfold z_ov; (repeat' split) <;> omega) (by rw [← y_o]; unfold z_ov; (repeat' split) <;> omega) ?_
                  refine z_mem (M' := z_sR M R (z_uf (z_uf L.1 3 (L.1 3 + o)) 7 (L.1 7 + o))) (by
                    first
                      | (have y_z : o = 0 := by rw [← y_o]; unfold z_ov; (repeat' split) <;> omega
                         rw [y_z, Int.add_zero, Int.add_zero, z_uf_id, z_uf_id]; done)
                      | (have y_z : o = S i - (B 10 - L.1 (666 + 12 * k + i)) := by rw [← y_o]; unfold z_ov; (repeat' split) <;> omega
                         simp only [z_sM_R, z_sR_R, z_sR_self]; rw [y_z]; done)
                      | (have y_z : o = S i - 0 := by rw [← y_o]; unfold z_ov; (repeat' split) <;> omega
                         simp only [z_sM_R, z_sR_R, z_sR_self]; rw [y_z]; done)) ?_
                  refine z_rng fun hr => ?_
                  refine z_iloadn dL_comes_203 rfl ?_
                  refine z_if_eq (tgt := 221) (by first | (exact hr _ _ (by decide)) | omega) dL_comes_204 (by decide) (fun h204 => ?_) (fun h204 => ?_)
                  · exact absurd h204 (by decide)
                  · refine z_aload dL_comes_207 rfl ?_
                    refine z_iconst dL_comes_209 ?_
                    refine z_iloadn dL_comes_210 rfl ?_
                    refine z_imul dL_comes_211 ?_
                    refine z_iload dL_comes_212 rfl ?_
                    refine z_iadd dL_comes_214 ?_
                    refine z_dup2 dL_comes_215 rfl rfl ?_
                    refine z_lld (R := R) (j := 666 + 12 * k + (i : Int)) (alg_go hR) (z_cq_dm hq (by omega)) ((congrFun (z_sR_self _ _ _) _).trans ((z_uf_ne _ _ (by omega)).trans (z_uf_ne _ _ (by omega)))) (by omega) (by omega) (Nat.le_of_ble_eq_true rfl) (by omega) dL_comes_216 ?_
                    refine z_iload dL_comes_217 rfl ?_
                    refine z_iadd dL_comes_219 ?_
                    refine z_lst (R := R) (j := 666 + 12 * k + (i : Int)) (alg_go hR) (z_cq_dm hq (by omega)) (by omega) (by omega) (Nat.le_of_ble_eq_true rfl) (by omega) (by first | (exact hr _ _ (by decide)) | omega) dL_comes_220 ?_
                    refine z_rng fun hr => ?_
                    refine z_mem (M' := z_sR M R (z_cpb L.1 k i (S i))) (by simp only [z_sM_R, z_sR_R, z_sR_self]; rw [← y_o]; rfl) ?_
                    refine z_rng fun hr => ?_
                    refine z_iload dL_comes_221 rfl ?_
                    refine z_iload dL_comes_223 rfl ?_
                    refine z_iload dL_comes_225 rfl ?_
                    refine z_aloadn dL_comes_227 rfl ?_
                    refine z_aload dL_comes_228 rfl ?_
                    refine kL_14 (tL_gets (t := L.2 + z_ov L.1 k i (S i)) hR hq (z_sR_self _ _ _) (by omega) (by omega) (by omega) (by omega) (z_bd_mono (by omega) (z_bd_cap y_B k0 (show k < 20 by omega) (by omega) (by omega) y_Si.1 y_Si.2))) rfl ⟨(Nat.le_of_ble_eq_true rfl), (Nat.le_of_ble_eq_true rfl)⟩ (Nat.le_of_ble_eq_true rfl) dL_comes_230 ?_
                    refine z_rng fun hr => ?_
                    refine z_iadd dL_comes_233 ?_
                    refine z_istore_11 dL_comes_234 (Nat.le_of_ble_eq_true rfl) rfl ?_
                    refine z_iinc_12 dL_comes_236 (Nat.le_of_ble_eq_true rfl) rfl ?_
                    refine z_goto (tgt := 96) dL_comes_239 (by decide) ?_
                    try subst y_o
                    refine z_fgt 13 ?_
                    refine z_fgt 14 ?_
                    refine z_fgt 15 ?_
                    rw [y_st] at y_ih
                    refine z_mem (z_sR_R _ _ _ _) ?_
                    exact y_ih
                · refine z_iload dL_comes_170 rfl ?_
                  refine z_iload dL_comes_172 rfl ?_
                  refine z_isub dL_comes_174 ?_
                  refine z_istore_13 dL_comes_175 (Nat.le_of_ble_eq_true rfl) rfl ?_
                  refine z_iload dL_comes_177 rfl ?_
                  refine z_iload dL_comes_179 rfl ?_
                  refine z_iadd dL_comes_181 ?_
                  refine z_istore_11 dL_comes_182 (Nat.le_of_ble_eq_true rfl) rfl ?_
                  refine z_aload dL_comes_184 rfl ?_
                  refine z_iconst dL_comes_186 ?_
                  refine z_dup2 dL_comes_187 rfl rfl ?_
                  refine z_lld (R := R) (j := 3) (alg_c hR) (z_cq_dm hq (by omega)) (congrFun (z_sR_self _ _ _) _) (by omega) (by omega) (Nat.le_of_ble_eq_true rfl) (by omega) dL_comes_188 ?_
                  refine z_iload dL_comes_189 rfl ?_
                  refine z_iadd dL_comes_191 ?_
                  refine z_lst (R := R) (j := 3) (alg_c hR) (z_cq_dm hq (by omega)) (by omega) (by omega) (Nat.le_of_ble_eq_true rfl) (by omega) (by first | (exact hr _ _ (by decide)) | omega) dL_comes_192 ?_
                  refine z_rng fun hr => ?_
                  refine z_aload dL_comes_193 rfl ?_
                  refine z_bipush dL_comes_195 (by decide) ?_
                  refine z_dup2 dL_comes_197 rfl rfl ?_
                  refine z_lld (R := R) (j := 7) (alg_c hR) (z_cq_dm hq (by omega)) ((z_sM_ne _ _ _ (by omega)).trans (congrFun (z_sR_self _ _ _) _)) (by omega) (by omega) (Nat.le_of_ble_eq_true rfl) (by omega) dL_comes_198 ?_
                  refine z_iload dL_comes_199 rfl ?_
                  refine z_iadd dL_comes_201 ?_
                  refine z_lst (R := R) (j := 7) (alg_c hR) (z_cq_dm hq (by omega)) (by omega) (by omega) (Nat.le_of_ble_eq_true rfl) (by omega) (by first | (exact hr _ _ (by decide)) | omega) dL_comes_202 ?_
                  refine z_rng fun hr => ?_
                  obtain ⟨o, y_o⟩ : ∃ o, z_ov L.1 k i (S i) = o := ⟨_, rfl⟩
                  refine z_cms (t' := L.2 + o) (v' := S i - o) (by rw [← y_o]; unfold z_ov; (repeat' split) <;> omega) (by rw [← y_o]; unfold z_ov; (repeat' split) <;> omega) ?_
                  refine z_mem (M' := z_sR M R (z_uf (z_uf L.1 3 (L.1 3 + o)) 7 (L.1 7 + o))) (by
                    first
                      | (have y_z : o = 0 := by rw [← y_o]; unfold z_ov; (repeat' split) <;> omega
                         rw [y_z, Int.add_zero, Int.add_zero, z_uf_id, z_uf_id]; done)
                      | (have y_z : o = S i - (B 10 - L.1 (666 + 12 * k + i)) := by rw [← y_o]; unfold z_ov; (repeat' split) <;> omega
                         simp only [z_sM_R, z_sR_R, z_sR_self]; rw [y_z]; done)
                      | (have y_z : o = S i - 0 := by rw [← y_o]; unfold z_ov; (repeat' split) <;> omega
                         simp only [z_sM_R, z_sR_R, z_sR_self]; rw [y_z]; done)) ?_
                  refine z_rng fun hr => ?_
                  refine z_iloadn dL_comes_203 rfl ?_
                  refine z_if_eq (tgt := 221) (by first | (exact hr _ _ (by decide)) | omega) dL_comes_204 (by decide) (fun h204 => ?_) (fun h204 => ?_)
                  · exact absurd h204 (by decide)
                  · refine z_aload dL_comes_207 rfl ?_
                    refine z_iconst dL_comes_209 ?_
                    refine z_iloadn dL_comes_210 rfl ?_
                    refine z_imul dL_comes_211 ?_
                    refine z_iload dL_comes_212 rfl ?_
                    refine z_iadd dL_comes_214 ?_
                    refine z_dup2 dL_comes_215 rfl rfl ?_
                    refine z_lld (R := R) (j := 666 + 12 * k + (i : Int)) (alg_go hR) (z_cq_dm hq (by omega)) ((congrFun (z_sR_self _ _ _) _).trans ((z_uf_ne _ _ (by omega)).trans (z_uf_ne _ _ (by omega)))) (by omega) (by omega) (Nat.le_of_ble_eq_true rfl) (by omega) dL_comes_216 ?_
                    refine z_iload dL_comes_217 rfl ?_
                    refine z_iadd dL_comes_219 ?_
                    refine z_lst (R := R) (j := 666 + 12 * k + (i : Int)) (alg_go hR) (z_cq_dm hq (by omega)) (by omega) (by omega) (Nat.le_of_ble_eq_true rfl) (by omega) (by first | (exact hr _ _ (by decide)) | omega) dL_comes_220 ?_
                    refine z_rng fun hr => ?_
                    refine z_mem (M' := z_sR M R (z_cpb L.1 k i (S i))) (by simp only [z_sM_R, z_sR_R, z_sR_self]; rw [← y_o]; rfl) ?_
                    refine z_rng fun hr => ?_
                    refine z_iload dL_comes_221 rfl ?_
                    refine z_iload dL_comes_223 rfl ?_
                    refine z_iload dL_comes_225 rfl ?_
                    refine z_aloadn dL_comes_227 rfl ?_
                    refine z_aload dL_comes_228 rfl ?_
                    refine kL_14 (tL_gets (t := L.2 + z_ov L.1 k i (S i)) hR hq (z_sR_self _ _ _) (by omega) (by omega) (by omega) (by omega) (z_bd_mono (by omega) (z_bd_cap y_B k0 (show k < 20 by omega) (by omega) (by omega) y_Si.1 y_Si.2))) rfl ⟨(Nat.le_of_ble_eq_true rfl), (Nat.le_of_ble_eq_true rfl)⟩ (Nat.le_of_ble_eq_true rfl) dL_comes_230 ?_
                    refine z_rng fun hr => ?_
                    refine z_iadd dL_comes_233 ?_
                    refine z_istore_11 dL_comes_234 (Nat.le_of_ble_eq_true rfl) rfl ?_
                    refine z_iinc_12 dL_comes_236 (Nat.le_of_ble_eq_true rfl) rfl ?_
                    refine z_goto (tgt := 96) dL_comes_239 (by decide) ?_
                    try subst y_o
                    refine z_fgt 13 ?_
                    refine z_fgt 14 ?_
                    refine z_fgt 15 ?_
                    rw [y_st] at y_ih
                    refine z_mem (z_sR_R _ _ _ _) ?_
                    exact y_ih
              · refine z_iconst dL_comes_156 ?_
                refine z_goto (tgt := 162) dL_comes_157 (by decide) ?_
                refine z_isub dL_comes_162 ?_
                refine z_istore_15 dL_comes_163 (Nat.le_of_ble_eq_true rfl) rfl ?_
                refine z_iload dL_comes_165 rfl ?_
                refine z_if_le (tgt := 203) (by first | (exact hr _ _ (by decide)) | omega) dL_comes_167 (by decide) (fun h167 => ?_) (fun h167 => ?_)
                · obtain ⟨o, y_o⟩ : ∃ o, z_ov L.1 k i (S i) = o := ⟨_, rfl⟩
                  refine z_cms (t' := L.2 + o) (v' := S i - o) (by rw [← y_o]; unfold z_ov; (repeat' split) <;> omega) (by rw [← y_o]; unfold z_ov; (repeat' split) <;> omega) ?_
                  refine z_mem (M' := z_sR M R (z_uf (z_uf L.1 3 (L.1 3 + o)) 7 (L.1 7 + o))) (by
                    first
                      | (have y_z : o = 0 := by rw [← y_o]; unfold z_ov; (repeat' split) <;> omega
                         rw [y_z, Int.add_zero, Int.add_zero, z_uf_id, z_uf_id]; done)
                      | (have y_z : o = S i - (B 10 - L.1 (666 + 12 * k + i)) := by rw [← y_o]; unfold z_ov; (repeat' split) <;> omega
                         simp only [z_sM_R, z_sR_R, z_sR_self]; rw [y_z]; done)
                      | (have y_z : o = S i - 0 := by rw [← y_o]; unfold z_ov; (repeat' split) <;> omega
                         simp only [z_sM_R, z_sR_R, z_sR_self]; rw [y_z]; done)) ?_
                  refine z_rng fun hr => ?_
                  refine z_iloadn dL_comes_203 rfl ?_
                  refine z_if_eq (tgt := 221) (by first | (exact hr _ _ (by decide)) | omega) dL_comes_204 (by decide) (fun h204 => ?_) (fun h204 => ?_)
                  · exact absurd h204 (by decide)
                  · refine z_aload dL_comes_207 rfl ?_
                    refine z_iconst dL_comes_209 ?_
                    refine z_iloadn dL_comes_210 rfl ?_
                    refine z_imul dL_comes_211 ?_
                    refine z_iload dL_comes_212 rfl ?_
                    refine z_iadd dL_comes_214 ?_
                    refine z_dup2 dL_comes_215 rfl rfl ?_
                    refine z_lld (R := R) (j := 666 + 12 * k + (i : Int)) (alg_go hR) (z_cq_dm hq (by omega)) ((congrFun (z_sR_self _ _ _) _).trans ((z_uf_ne _ _ (by omega)).trans (z_uf_ne _ _ (by omega)))) (by omega) (by omega) (Nat.le_of_ble_eq_true rfl) (by omega) dL_comes_216 ?_
                    refine z_iload dL_comes_217 rfl ?_
                    refine z_iadd dL_comes_219 ?_
                    refine z_lst (R := R) (j := 666 + 12 * k + (i : Int)) (alg_go hR) (z_cq_dm hq (by omega)) (by omega) (by omega) (Nat.le_of_ble_eq_true rfl) (by omega) (by first | (exact hr _ _ (by decide)) | omega) dL_comes_220 ?_
                    refine z_rng fun hr => ?_
                    refine z_mem (M' := z_sR M R (z_cpb L.1 k i (S i))) (by simp only [z_sM_R, z_sR_R, z_sR_self]; rw [← y_o]; rfl) ?_
                    refine z_rng fun hr => ?_
                    refine z_iload dL_comes_221 rfl ?_
                    refine z_iload dL_comes_223 rfl ?_
                    refine z_iload dL_comes_225 rfl ?_
                    refine z_aloadn dL_comes_227 rfl ?_
                    refine z_aload dL_comes_228 rfl ?_
                    refine kL_14 (tL_gets (t := L.2 + z_ov L.1 k i (S i)) hR hq (z_sR_self _ _ _) (by omega) (by omega) (by omega) (by omega) (z_bd_mono (by omega) (z_bd_cap y_B k0 (show k < 20 by omega) (by omega) (by omega) y_Si.1 y_Si.2))) rfl ⟨(Nat.le_of_ble_eq_true rfl), (Nat.le_of_ble_eq_true rfl)⟩ (Nat.le_of_ble_eq_true rfl) dL_comes_230 ?_
                    refine z_rng fun hr => ?_
                    refine z_iadd dL_comes_233 ?_
                    refine z_istore_11 dL_comes_234 (Nat.le_of_ble_eq_true rfl) rfl ?_
                    refine z_iinc_12 dL_comes_236 (Nat.le_of_ble_eq_true rfl) rfl ?_
                    refine z_goto (tgt := 96) dL_comes_239 (by decide) ?_
                    try subst y_o
                    refine z_fgt 13 ?_
                    refine z_fgt 14 ?_
                    refine z_fgt 15 ?_
                    rw [y_st] at y_ih
                    refine z_mem (z_sR_R _ _ _ _) ?_
                    exact y_ih
                · refine z_iload dL_comes_170 rfl ?_
                  refine z_iload dL_comes_172 rfl ?_
                  refine z_isub dL_comes_174 ?_
                  refine z_istore_13 dL_comes_175 (Nat.le_of_ble_eq_true rfl) rfl ?_
                  refine z_iload dL_comes_177 rfl ?_
                  refine z_iload dL_comes_179 rfl ?_
                  refine z_iadd dL_comes_181 ?_
                  refine z_istore_11 dL_comes_182 (Nat.le_of_ble_eq_true rfl) rfl ?_
                  refine z_aload dL_comes_184 rfl ?_
                  refine z_iconst dL_comes_186 ?_
                  refine z_dup2 dL_comes_187 rfl rfl ?_
                  refine z_lld (R := R) (j := 3) (alg_c hR) (z_cq_dm hq (by omega)) (congrFun (z_sR_self _ _ _) _) (by omega) (by omega) (Nat.le_of_ble_eq_true rfl) (by omega) dL_comes_188 ?_
                  refine z_iload dL_comes_189 rfl ?_
                  refine z_iadd dL_comes_191 ?_
                  refine z_lst (R := R) (j := 3) (alg_c hR) (z_cq_dm hq (by omega)) (by omega) (by omega) (Nat.le_of_ble_eq_true rfl) (by omega) (by first | (exact hr _ _ (by decide)) | omega) dL_comes_192 ?_
                  refine z_rng fun hr => ?_
                  refine z_aload dL_comes_193 rfl ?_
                  refine z_bipush dL_comes_195 (by decide) ?_
                  refine z_dup2 dL_comes_197 rfl rfl ?_
                  refine z_lld (R := R) (j := 7) (alg_c hR) (z_cq_dm hq (by omega)) ((z_sM_ne _ _ _ (by omega)).trans (congrFun (z_sR_self _ _ _) _)) (by omega) (by omega) (Nat.le_of_ble_eq_true rfl) (by omega) dL_comes_198 ?_
                  refine z_iload dL_comes_199 rfl ?_
                  refine z_iadd dL_comes_201 ?_
                  refine z_lst (R := R) (j := 7) (alg_c hR) (z_cq_dm hq (by omega)) (by omega) (by omega) (Nat.le_of_ble_eq_true rfl) (by omega) (by first | (exact hr _ _ (by decide)) | omega) dL_comes_202 ?_
                  refine z_rng fun hr => ?_
                  obtain ⟨o, y_o⟩ : ∃ o, z_ov L.1 k i (S i) = o := ⟨_, rfl⟩
                  refine z_cms (t' := L.2 + o) (v' := S i - o) (by rw [← y_o]; unfold z_ov; (repeat' split) <;> omega) (by rw [← y_o]; unfold z_ov; (repeat' split) <;> omega) ?_
                  refine z_mem (M' := z_sR M R (z_uf (z_uf L.1 3 (L.1 3 + o)) 7 (L.1 7 + o))) (by
                    first
                      | (have y_z : o = 0 := by rw [← y_o]; unfold z_ov; (repeat' split) <;> omega
                         rw [y_z, Int.add_zero, Int.add_zero, z_uf_id, z_uf_id]; done)
                      | (have y_z : o = S i - (B 10 - L.1 (666 + 12 * k + i)) := by rw [← y_o]; unfold z_ov; (repeat' split) <;> omega
                         simp only [z_sM_R, z_sR_R, z_sR_self]; rw [y_z]; done)
                      | (have y_z : o = S i - 0 := by rw [← y_o]; unfold z_ov; (repeat' split) <;> omega
                         simp only [z_sM_R, z_sR_R, z_sR_self]; rw [y_z]; done)) ?_
                  refine z_rng fun hr => ?_
                  refine z_iloadn dL_comes_203 rfl ?_
                  refine z_if_eq (tgt := 221) (by first | (exact hr _ _ (by decide)) | omega) dL_comes_204 (by decide) (fun h204 => ?_) (fun h204 => ?_)
                  · exact absurd h204 (by decide)
                  · refine z_aload dL_comes_207 rfl ?_
                    refine z_iconst dL_comes_209 ?_
                    refine z_iloadn dL_comes_210 rfl ?_
                    refine z_imul dL_comes_211 ?_
                    refine z_iload dL_comes_212 rfl ?_
                    refine z_iadd dL_comes_214 ?_
                    refine z_dup2 dL_comes_215 rfl rfl ?_
                    refine z_lld (R := R) (j := 666 + 12 * k + (i : Int)) (alg_go hR) (z_cq_dm hq (by omega)) ((congrFun (z_sR_self _ _ _) _).trans ((z_uf_ne _ _ (by omega)).trans (z_uf_ne _ _ (by omega)))) (by omega) (by omega) (Nat.le_of_ble_eq_true rfl) (by omega) dL_comes_216 ?_
                    refine z_iload dL_comes_217 rfl ?_
                    refine z_iadd dL_comes_219 ?_
                    refine z_lst (R := R) (j := 666 + 12 * k + (i : Int)) (alg_go hR) (z_cq_dm hq (by omega)) (by omega) (by omega) (Nat.le_of_ble_eq_true rfl) (by omega) (by first | (exact hr _ _ (by decide)) | omega) dL_comes_220 ?_
                    refine z_rng fun hr => ?_
                    refine z_mem (M' := z_sR M R (z_cpb L.1 k i (S i))) (by simp only [z_sM_R, z_sR_R, z_sR_self]; rw [← y_o]; rfl) ?_
                    refine z_rng fun hr => ?_
                    refine z_iload dL_comes_221 rfl ?_
                    refine z_iload dL_comes_223 rfl ?_
                    refine z_iload dL_comes_225 rfl ?_
                    refine z_aloadn dL_comes_227 rfl ?_
                    refine z_aload dL_comes_228 rfl ?_
                    refine kL_14 (tL_gets (t := L.2 + z_ov L.1 k i (S i)) hR hq (z_sR_self _ _ _) (by omega) (by omega) (by omega) (by omega) (z_bd_mono (by omega) (z_bd_cap y_B k0 (show k < 20 by omega) (by omega) (by omega) y_Si.1 y_Si.2))) rfl ⟨(Nat.le_of_ble_eq_true rfl), (Nat.le_of_ble_eq_true rfl)⟩ (Nat.le_of_ble_eq_true rfl) dL_comes_230 ?_
                    refine z_rng fun hr => ?_
                    refine z_iadd dL_comes_233 ?_
                    refine z_istore_11 dL_comes_234 (Nat.le_of_ble_eq_true rfl) rfl ?_
                    refine z_iinc_12 dL_comes_236 (Nat.le_of_ble_eq_true rfl) rfl ?_
                    refine z_goto (tgt := 96) dL_comes_239 (by decide) ?_
                    try subst y_o
                    refine z_fgt 13 ?_
                    refine z_fgt 14 ?_
                    refine z_fgt 15 ?_
                    rw [y_st] at y_ih
                    refine z_mem (z_sR_R _ _ _ _) ?_
                    exact y_ih
