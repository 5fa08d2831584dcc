/-! ===== the class: spread, digest ===== -/
section ZTL
variable {G : z_G} {Z : z_Z} {d : z_Md} {Q : State → Prop} {pc : Nat} {ls : List (Option Value)} {st : List Value} {M : z_M} {k n : Nat}
theorem z_topD {v v' : UInt64} (e : v = v') (kk : z_J G Z d Q pc ls (.double v' :: st) M k n) : z_J G Z d Q pc ls (.double v :: st) M k n := e ▸ kk
end ZTL
theorem tX6_spread {G : z_G} {M : z_M} {g : Nat} {N : Int} (hg : g < 7) (hn : M 7 2 = (g : Int)) (hb : z_BI (M g) N) : KX6_spread G [.ref (z_ad G 0 20)] M (.inl (some (.double (z_spd (M g))))) M := by
  refine z_con (ls := [some (.ref (z_ad G 0 20)), none]) (by decide +kernel) (Nat.le_of_ble_eq_true rfl) rfl ?_
  intro Z htb
  refine z_rng fun hr => ?_
  have hh := z_BI_h hb
  have y_s := z_sumOf_0 hb
  have y_s12 : z_sm 12 (fun p => M g (14 + 6 * p)) = z_sumOf (M g) 0 := (z_sm_eq (fun i _ => by show M g _ = M g _; rw [Int.add_zero])).trans (z_sumOf_12 (w := 0) hb (by omega))
  refine z_aloadn dX6_spread_0 rfl ?_
  refine gX6_44 hn rfl dX6_spread_1 ?_
  refine gX6_48 hg rfl dX6_spread_4 ?_
  refine gX6_85 hg rfl dX6_spread_7 ?_
  refine kX6_279 (tX6_sum (n := 12) (ix := fun p => 14 + 6 * p) (by rfl) (Or.inl (Or.inl ⟨by decide, hg⟩)) (by decide)) rfl ⟨(Nat.le_of_ble_eq_true rfl), (Nat.le_of_ble_eq_true rfl)⟩ (Nat.le_of_ble_eq_true rfl) dX6_spread_10 ?_
  refine z_top (v' := z_sumOf (M g) 0) y_s12 ?_
  refine z_istoren_1 dX6_spread_13 (Nat.le_of_ble_eq_true rfl) rfl ?_
  refine z_iloadn dX6_spread_14 rfl ?_
  refine z_if_ne (tgt := 20) (by first | (exact hr _ _ (by decide)) | (exact hr _ _ (by omega)) | omega) dX6_spread_15 (by decide) (fun h15 => ?_) (fun h15 => ?_)
  · have y_n : 0 < M g 0 := by
      rcases Int.lt_or_le 0 (M g 0) with h | h
      · exact h
      · exact absurd (show z_sumOf (M g) 0 = 0 by unfold z_sumOf; rw [show (M g 0).toNat = 0 by omega]; rfl) h15
    have y_mm := z_mb (show 0 ≤ M g 0 by omega) (show M g 0 ≤ 12 by omega) y_s.1 y_s.2
    have y_mp : 0 < M g 0 * z_sumOf (M g) 0 := Int.mul_pos y_n (by omega)
    refine z_aloadn dX6_spread_20 rfl ?_
    refine gX6_44 hn rfl dX6_spread_21 ?_
    refine gX6_48 hg rfl dX6_spread_24 ?_
    refine kX6_300 hg (tX3_differences hg hb) rfl ⟨(Nat.le_of_ble_eq_true rfl), (Nat.le_of_ble_eq_true rfl)⟩ (Nat.le_of_ble_eq_true rfl) dX6_spread_27 ?_
    refine z_i2d dX6_spread_30 ?_
    refine z_aloadn dX6_spread_31 rfl ?_
    refine gX6_44 hn rfl dX6_spread_32 ?_
    refine gX6_48 hg rfl dX6_spread_35 ?_
    refine gX6_52 hg rfl dX6_spread_38 ?_
    refine z_i2d dX6_spread_41 ?_
    refine z_iloadn dX6_spread_42 rfl ?_
    refine z_i2d dX6_spread_43 ?_
    refine z_dmul (by rw [z_fmul y_n (by omega) (by omega) (by omega) (by omega)]; exact z_fi2d _) dX6_spread_44 ?_
    refine z_topD (z_fmul y_n (by omega) (by omega) (by omega) (by omega)) ?_
    refine z_ddiv (z_fdiv y_mp (by omega)) dX6_spread_45 ?_
    exact z_dret dX6_spread_46 (by unfold z_spd; first | rw [if_pos h15] | (rw [if_neg h15, z_dif_spr])) rfl
  · refine z_dconst0 dX6_spread_18 ?_
    exact z_dret dX6_spread_19 (by unfold z_spd; first | rw [if_pos h15] | (rw [if_neg h15, z_dif_spr])) rfl
