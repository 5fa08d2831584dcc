/-! ===== the class: the division of an amount ===== -/
theorem z_uf_id (b : Int → Int) (i : Int) : z_uf b i (b i) = b := by
  funext j
  unfold z_uf
  split
  · rename_i h; rw [h]
  · rfl
section ZLS
variable {G : z_G} {Z : z_Z} {d : z_Md} {Q : State → Prop} {pc : Nat} {ls : List (Option Value)} {st : List Value} {M : z_M} {k n : Nat}
theorem z_lsq {ls' : List (Option Value)} (e : ls = ls') (kk : z_J G Z d Q pc ls' st M k n) : z_J G Z d Q pc ls st M k n := e ▸ kk
end ZLS
abbrev z_d3 (M : z_M) (r7 s r : Int → Int) : z_M := z_sR (z_sR (z_sR M 7 r7) 10 s) 11 r
theorem z_d3_id (M : z_M) : M = z_d3 M (M 7) (M 10) (M 11) := by
  show M = z_sR (z_sR (z_sR M 7 (M 7)) 10 (M 10)) 11 (M 11)
  rw [z_sR_id, z_sR_id, z_sR_id]
theorem z_d3_7 (M : z_M) (r7 s r : Int → Int) (i v : Int) : z_sM (z_d3 M r7 s r) 7 i v = z_d3 M (z_uf r7 i v) s r := by
  show z_sM (z_sR (z_sR (z_sR M 7 r7) 10 s) 11 r) 7 i v = _
  rw [← z_sR_sM _ _ _ _ (by decide), ← z_sR_sM _ _ _ _ (by decide), z_sM_sR]
theorem z_d3_10 (M : z_M) (r7 s r : Int → Int) (i v : Int) : z_sM (z_d3 M r7 s r) 10 i v = z_d3 M r7 (z_uf s i v) r := by
  show z_sM (z_sR (z_sR (z_sR M 7 r7) 10 s) 11 r) 10 i v = _
  rw [← z_sR_sM _ _ _ _ (by decide), z_sM_sR]
theorem z_d3_11 (M : z_M) (r7 s r : Int → Int) (i v : Int) : z_sM (z_d3 M r7 s r) 11 i v = z_d3 M r7 s (z_uf r i v) := z_sM_sR _ _ _ _ _
theorem z_d3_g {M : z_M} {r7 s r : Int → Int} {g : Nat} (hg : g < 7) : z_d3 M r7 s r g = M g := by
  show z_sR (z_sR (z_sR M 7 r7) 10 s) 11 r g = _
  rw [z_sR_ne _ _ (by omega), z_sR_ne _ _ (by omega), z_sR_ne _ _ (by omega)]
def z_dv0 (r7 b : Int → Int) (k a : Int) : Int → Int := z_uf (z_uf (z_uf (z_uf r7 8 (z_kp b a)) 9 0) 10 (z_oo b k)) 11 0
def z_rr (b : Int → Int) (k rest : Int) : Int → Int := fun p => rest * b (426 + 12 * k + p) % z_aP b k
def z_sp (b : Int → Int) (k rest : Int) (s r : Int → Int) : (Int → Int) × (Int → Int) := z_gv 0 (z_lf b k rest).toNat (z_cp s (z_s0 b k rest) 0 0 12) (z_cp r (z_rr b k rest) 0 0 12)
def z_cu (b : Int → Int) (k : Int) (s : Int → Int) : Int → Int := z_cp s (fun p => s p - z_ov b k p (s p)) 0 0 12
def z_oca (b : Int → Int) (k : Int) (s : Int → Int) : Int := z_sm 12 (fun p => z_ov b k p (s p))
abbrev z_dF (M : z_M) (g : Nat) (k a : Int) (r7 s r : Int → Int) : z_M := z_d3 M (z_dv0 r7 (M g) k a) (z_sp (M g) k (z_rs (M g) a 0) s r).1 (z_sp (M g) k (z_rs (M g) a 0) s r).2
abbrev z_dR (M : z_M) (g : Nat) (k a : Int) (r7 s r : Int → Int) : z_M := z_d3 M (z_uf (z_uf (z_dv0 r7 (M g) k a) 11 (z_ow2 (M g) a 1)) 9 (z_oca (M g) k (z_sp (M g) k (z_rs (M g) a 1) s r).1)) (z_cu (M g) k (z_sp (M g) k (z_rs (M g) a 1) s r).1) (z_sp (M g) k (z_rs (M g) a 1) s r).2
theorem z_sm_0 (n : Nat) : z_sm n (fun _ => 0) = 0 := by
  induction n with
  | zero => rfl
  | succ n ih => rw [z_sm_s, ih]; rfl
theorem z_gv_s {x : Int} : ∀ (m : Nat) (s r : Int → Int), z_gv x (m + 1) s r = (z_uf (z_gv x m s r).1 (z_am (z_gv x m s r).2 11) ((z_gv x m s r).1 (z_am (z_gv x m s r).2 11) + 1), z_uf (z_gv x m s r).2 (z_am (z_gv x m s r).2 11) x) := by
  intro m
  induction m with
  | zero => intro s r; rfl
  | succ m ih => intro s r; exact ih _ _
theorem z_ov_mx {b : Int → Int} {k p a : Int} (hc : 0 < b 10) (a0 : 0 ≤ a) : z_mx 0 (a - z_mx 0 (b 10 - b (666 + 12 * k + p))) = z_ov b k p a := by
  unfold z_mx z_ov
  (repeat' split) <;> omega
theorem z_ov_0 {b : Int → Int} {k p a : Int} (hc : ¬ 0 < b 10) : z_ov b k p a = 0 := by
  unfold z_ov
  rw [if_neg (fun q => hc q.1)]
theorem z_cu_0 {b : Int → Int} {k : Int} {s : Int → Int} (hc : ¬ 0 < b 10) : z_cu b k s = s := by
  funext j
  unfold z_cu z_cp
  split
  · show s (j - 0 + 0) - z_ov b k (j - 0 + 0) (s (j - 0 + 0)) = s j
    rw [z_ov_0 hc, show j - 0 + 0 = j by omega, Int.sub_zero]
  · rfl
theorem z_oca_0 {b : Int → Int} {k : Int} {s : Int → Int} (hc : ¬ 0 < b 10) : z_oca b k s = 0 := by
  exact (z_sm_eq (f := fun p => z_ov b k p (s p)) (g := fun _ => 0) (fun i _ => z_ov_0 hc)).trans (z_sm_0 12)
theorem tX0_begin {G : z_G} {M : z_M} {r7 s r : Int → Int} {g : Nat} {k a : Int} (hg : g < 7) (k0 : 0 ≤ k) (k1 : k < 20) (a0 : 0 ≤ a) (a1 : a ≤ 100000) (hc : z_cF (M g) k) : KX0_begin G [.ref (z_ad G 0 25), .ref (z_ad G g 0), z_I k, z_I a] (z_d3 M r7 s r) (.inl none) (z_d3 M (z_dv0 r7 (M g) k a) s r) := by
  refine z_con (ls := [some (.ref (z_ad G 0 25)), some (.ref (z_ad G g 0)), some (z_I k), some (z_I a)]) (by decide +kernel) (Nat.le_of_ble_eq_true rfl) rfl ?_
  intro Z htb
  refine z_rng fun hr => ?_
  obtain ⟨h1, h2, h3, h4, h5, h6, h7, h8, h9, h10, h11⟩ := hc
  have y_m := z_mb a0 a1 h6.1 h6.2
  have y_g := z_d3_g (M := M) (r7 := r7) (s := s) (r := r) hg
  refine z_aloadn dX0_begin_0 rfl ?_
  refine z_iloadn dX0_begin_1 rfl ?_
  refine z_aloadn dX0_begin_2 rfl ?_
  refine gX0_36 hg rfl dX0_begin_3 ?_
  refine z_iconst dX0_begin_6 ?_
  refine z_iald (by rfl) (by first | exact Or.inl (by decide) | exact Or.inl (Or.inl ⟨by decide, hg⟩)) (by omega) (by omega) (by decide) dX0_begin_7 ?_
  refine z_top (v' := M g 8) (by rw [y_g]; rfl) ?_
  refine z_imul dX0_begin_8 ?_
  refine z_bipush dX0_begin_9 (by decide) ?_
  refine z_idiv (by omega) (by omega) (by omega) (by omega) dX0_begin_11 ?_
  refine pX0_28 (by first | (exact hr _ _ (by decide)) | (exact hr _ _ (by omega)) | omega) rfl dX0_begin_12 ?_
  refine z_rng fun hr => ?_
  refine z_aloadn dX0_begin_15 rfl ?_
  refine z_iconst dX0_begin_16 ?_
  refine pX0_45 (by first | (exact hr _ _ (by decide)) | (exact hr _ _ (by omega)) | omega) rfl dX0_begin_17 ?_
  refine z_rng fun hr => ?_
  refine z_aloadn dX0_begin_20 rfl ?_
  refine z_aloadn dX0_begin_21 rfl ?_
  refine gX0_48 hg rfl dX0_begin_22 ?_
  refine gX0_52 hg rfl dX0_begin_25 ?_
  refine z_aloadn dX0_begin_28 rfl ?_
  refine gX0_22 hg rfl dX0_begin_29 ?_
  refine gX0_57 hg rfl dX0_begin_32 ?_
  refine z_iloadn dX0_begin_35 rfl ?_
  refine z_iald (by rfl) (by first | exact Or.inl (by decide) | exact Or.inl (Or.inl ⟨by decide, hg⟩)) (by omega) (by omega) (by decide) dX0_begin_36 ?_
  refine z_top (v' := M g (86 + 5 * k)) ((congrFun (z_sM_row _ _ _ (by omega)) _).trans ((congrFun (z_sM_row _ _ _ (by omega)) _).trans (by rw [y_g]))) ?_
  refine z_iald (by rfl) (by first | exact Or.inl (by decide) | exact Or.inl (Or.inl ⟨by decide, hg⟩)) (by omega) (by omega) (by decide) dX0_begin_37 ?_
  refine z_top (v' := z_oo (M g) k) ((congrFun (z_sM_row _ _ _ (by omega)) _).trans ((congrFun (z_sM_row _ _ _ (by omega)) _).trans (by rw [y_g]; rfl))) ?_
  refine pX0_62 (by unfold z_oo; omega) rfl dX0_begin_38 ?_
  refine z_rng fun hr => ?_
  refine z_aloadn dX0_begin_41 rfl ?_
  refine z_iconst dX0_begin_42 ?_
  refine pX0_39 (by first | (exact hr _ _ (by decide)) | (exact hr _ _ (by omega)) | omega) rfl dX0_begin_43 ?_
  refine z_rng fun hr => ?_
  exact z_vret dX0_begin_46 (by rw [z_d3_7, z_d3_7, z_d3_7, z_d3_7]; rfl)
theorem tX0_giveUnit {G : z_G} {M : z_M} {r7 s r : Int → Int} (hs : ∀ p, 0 ≤ p → p < 12 → z_rg (s p + 1)) : KX0_giveUnit G [.ref (z_ad G 0 25)] (z_d3 M r7 s r) (.inl none) (z_d3 M r7 (z_uf s (z_am r 11) (s (z_am r 11) + 1)) (z_uf r (z_am r 11) 0)) := by
  refine z_con (ls := [some (.ref (z_ad G 0 25)), none, none]) (by decide +kernel) (Nat.le_of_ble_eq_true rfl) rfl ?_
  intro Z htb
  refine z_rng fun hr => ?_
  have y_rr : ∀ q, z_rg (r q) := fun q => hr 11 q (by decide)
  refine z_iconst dX0_giveUnit_0 ?_
  refine z_istoren_1 dX0_giveUnit_1 (Nat.le_of_ble_eq_true rfl) rfl ?_
  refine z_iconst dX0_giveUnit_2 ?_
  refine z_istoren_2 dX0_giveUnit_3 (Nat.le_of_ble_eq_true rfl) rfl ?_
  refine z_upn (P := fun i : Nat => z_J G Z _ _ 4 [some (.ref (z_ad G 0 25)), some (z_I (z_am r i)), some (z_I ((i : Int) + 1))] [] (z_d3 M r7 s r) 0 0) 11 ?_ ?_
  · refine z_rng fun hr => ?_
    have y_l := z_am_le r 11
    refine z_iloadn dX0_giveUnit_4 rfl ?_
    refine z_bipush dX0_giveUnit_5 (by decide) ?_
    refine z_icmp_ge (tgt := 37) (by first | (exact hr _ _ (by decide)) | (exact hr _ _ (by omega)) | omega) (by first | (exact hr _ _ (by decide)) | (exact hr _ _ (by omega)) | omega) dX0_giveUnit_7 (by decide) (fun h7 => ?_) (fun h7 => ?_)
    · refine z_aloadn dX0_giveUnit_37 rfl ?_
      refine gX0_9 rfl dX0_giveUnit_38 ?_
      refine z_iloadn dX0_giveUnit_41 rfl ?_
      refine z_dup2 dX0_giveUnit_42 rfl rfl ?_
      refine z_iald (by rfl) (by first | exact Or.inl (by decide) | exact Or.inl (Or.inl ⟨by decide, hg⟩)) (by omega) (by omega) (by decide) dX0_giveUnit_43 ?_
      refine z_top (v' := s (z_am r 11)) rfl ?_
      refine z_iconst dX0_giveUnit_44 ?_
      refine z_iadd dX0_giveUnit_45 ?_
      refine z_iast (by rfl) (by first | exact Or.inl (by decide) | exact Or.inl (Or.inl ⟨by decide, hg⟩)) (by omega) (by omega) (by decide) (hs _ (by omega) (by omega)) dX0_giveUnit_46 ?_
      refine z_rng fun hr => ?_
      refine z_aloadn dX0_giveUnit_47 rfl ?_
      refine gX0_15 rfl dX0_giveUnit_48 ?_
      refine z_iloadn dX0_giveUnit_51 rfl ?_
      refine z_iconst dX0_giveUnit_52 ?_
      refine z_iast (by rfl) (by first | exact Or.inl (by decide) | exact Or.inl (Or.inl ⟨by decide, hg⟩)) (by omega) (by omega) (by decide) (by first | (exact hr _ _ (by decide)) | (exact hr _ _ (by omega)) | omega) dX0_giveUnit_53 ?_
      refine z_rng fun hr => ?_
      exact z_vret dX0_giveUnit_54 (by rw [z_d3_10, z_d3_11])
    · exfalso; omega
  · intro i hi y_ih
    refine z_rng fun hr => ?_
    have y_l := z_am_le r i
    have y_s : z_am r (i + 1) = if r (z_am r i) < r ((i : Int) + 1) then (i : Int) + 1 else z_am r i := rfl
    refine z_iloadn dX0_giveUnit_4 rfl ?_
    refine z_bipush dX0_giveUnit_5 (by decide) ?_
    refine z_icmp_ge (tgt := 37) (by first | (exact hr _ _ (by decide)) | (exact hr _ _ (by omega)) | omega) (by first | (exact hr _ _ (by decide)) | (exact hr _ _ (by omega)) | omega) dX0_giveUnit_7 (by decide) (fun h7 => ?_) (fun h7 => ?_)
    · exfalso; omega
    · refine z_aloadn dX0_giveUnit_10 rfl ?_
      refine gX0_15 rfl dX0_giveUnit_11 ?_
      refine z_iloadn dX0_giveUnit_14 rfl ?_
      refine z_iald (by rfl) (by first | exact Or.inl (by decide) | exact Or.inl (Or.inl ⟨by decide, hg⟩)) (by omega) (by omega) (by decide) dX0_giveUnit_15 ?_
      refine z_top (v' := r ((i : Int) + 1)) rfl ?_
      refine z_aloadn dX0_giveUnit_16 rfl ?_
      refine gX0_15 rfl dX0_giveUnit_17 ?_
      refine z_iloadn dX0_giveUnit_20 rfl ?_
      refine z_iald (by rfl) (by first | exact Or.inl (by decide) | exact Or.inl (Or.inl ⟨by decide, hg⟩)) (by omega) (by omega) (by decide) dX0_giveUnit_21 ?_
      refine z_top (v' := r (z_am r i)) rfl ?_
      refine z_icmp_le (tgt := 29) (y_rr _) (y_rr _) dX0_giveUnit_22 (by decide) (fun h22 => ?_) (fun h22 => ?_)
      · refine z_iloadn dX0_giveUnit_29 rfl ?_
        refine z_istoren_1 dX0_giveUnit_30 (Nat.le_of_ble_eq_true rfl) rfl ?_
        refine z_iinc_2 dX0_giveUnit_31 (Nat.le_of_ble_eq_true rfl) rfl ?_
        refine z_goto (tgt := 4) dX0_giveUnit_34 (by decide) ?_
        first
          | (rw [y_s, if_pos (by omega)] at y_ih; exact y_ih)
          | (rw [y_s, if_neg (by omega)] at y_ih; exact y_ih)
      · refine z_iloadn dX0_giveUnit_25 rfl ?_
        refine z_goto (tgt := 30) dX0_giveUnit_26 (by decide) ?_
        refine z_istoren_1 dX0_giveUnit_30 (Nat.le_of_ble_eq_true rfl) rfl ?_
        refine z_iinc_2 dX0_giveUnit_31 (Nat.le_of_ble_eq_true rfl) rfl ?_
        refine z_goto (tgt := 4) dX0_giveUnit_34 (by decide) ?_
        first
          | (rw [y_s, if_pos (by omega)] at y_ih; exact y_ih)
          | (rw [y_s, if_neg (by omega)] at y_ih; exact y_ih)
theorem tX0_split {G : z_G} {M : z_M} {r7 s r : Int → Int} {g : Nat} {k rest : Int} (hg : g < 7) (k0 : 0 ≤ k) (k1 : k < 20) (hq : ∀ p, 0 ≤ p → p < 12 → 0 ≤ M g (426 + 12 * k + p) ∧ M g (426 + 12 * k + p) ≤ 9) (ha : 1 ≤ z_aP (M g) k) (h0 : 0 ≤ rest) (h1 : rest ≤ 100000) (l0 : 0 ≤ z_lf (M g) k rest) (hl : z_lf (M g) k rest ≤ 4) : KX0_split G [.ref (z_ad G 0 25), .ref (z_ad G g 8), z_I k, z_I rest] (z_d3 M r7 s r) (.inl none) (z_d3 M r7 (z_sp (M g) k rest s r).1 (z_sp (M g) k rest s r).2) := by
  refine z_con (ls := [some (.ref (z_ad G 0 25)), some (.ref (z_ad G g 8)), some (z_I k), some (z_I rest), none, none, none, none]) (by decide +kernel) (Nat.le_of_ble_eq_true rfl) rfl ?_
  intro Z htb
  refine z_rng fun hr => ?_
  have y_g := z_d3_g (M := M) (r7 := r7) (s := s) (r := r) hg
  have y_aP := z_aP_le hq
  refine z_iconst dX0_split_0 ?_
  refine z_aloadn dX0_split_1 rfl ?_
  refine z_iloadn dX0_split_2 rfl ?_
  refine kX0_65 hg (tX4_allParts hg k0 k1) rfl ⟨(Nat.le_of_ble_eq_true rfl), (Nat.le_of_ble_eq_true rfl)⟩ (Nat.le_of_ble_eq_true rfl) dX0_split_3 ?_
  refine z_top (v' := z_aP (M g) k) (by rw [y_g]) ?_
  refine z_mmax (by first | (exact hr _ _ (by decide)) | (exact hr _ _ (by omega)) | omega) (by first | (exact hr _ _ (by decide)) | (exact hr _ _ (by omega)) | omega) rfl wmX0_69 (Nat.le_of_ble_eq_true rfl) (Nat.le_of_ble_eq_true rfl) dX0_split_6 ?_
  refine z_top (v' := z_aP (M g) k) (by unfold z_mx; split <;> omega) ?_
  refine z_istore_4 dX0_split_9 (Nat.le_of_ble_eq_true rfl) rfl ?_
  refine z_iloadn dX0_split_11 rfl ?_
  refine z_istore_5 dX0_split_12 (Nat.le_of_ble_eq_true rfl) rfl ?_
  refine z_iconst dX0_split_14 ?_
  refine z_istore_6 dX0_split_15 (Nat.le_of_ble_eq_true rfl) rfl ?_
  refine z_mem (M' := z_d3 M r7 (z_cp s (z_s0 (M g) k rest) 0 0 ((0 : Nat) : Int)) (z_cp r (z_rr (M g) k rest) 0 0 ((0 : Nat) : Int))) (by rw [show ((0 : Nat) : Int) = 0 from rfl, z_cp_0, z_cp_0]) ?_
  refine z_lsq (ls' := [some (.ref (z_ad G 0 25)), some (.ref (z_ad G g 8)), some (z_I k), some (z_I rest), some (z_I (z_aP (M g) k)), some (z_I (rest - z_sm 0 (z_s0 (M g) k rest))), some (z_I 0), none]) (by rw [show z_sm 0 (z_s0 (M g) k rest) = 0 from rfl, Int.sub_zero]) ?_
  refine z_upn (P := fun i : Nat => z_J G Z _ _ 17 [some (.ref (z_ad G 0 25)), some (.ref (z_ad G g 8)), some (z_I k), some (z_I rest), some (z_I (z_aP (M g) k)), some (z_I (rest - z_sm i (z_s0 (M g) k rest))), some (z_I i), none] [] (z_d3 M r7 (z_cp s (z_s0 (M g) k rest) 0 0 i) (z_cp r (z_rr (M g) k rest) 0 0 i)) 0 0) 12 ?_ ?_
  · refine z_rng fun hr => ?_
    refine z_iload dX0_split_17 rfl ?_
    refine z_bipush dX0_split_19 (by decide) ?_
    refine z_icmp_ge (tgt := 81) (by first | (exact hr _ _ (by decide)) | (exact hr _ _ (by omega)) | omega) (by first | (exact hr _ _ (by decide)) | (exact hr _ _ (by omega)) | omega) dX0_split_21 (by decide) (fun h21 => ?_) (fun h21 => ?_)
    · refine z_iconst dX0_split_81 ?_
      refine z_istore_6 dX0_split_82 (Nat.le_of_ble_eq_true rfl) rfl ?_
      have y_lf : rest - z_sm 12 (z_s0 (M g) k rest) = z_lf (M g) k rest := rfl
      rw [y_lf]
      generalize y_S : z_cp s (z_s0 (M g) k rest) 0 0 ((12 : Nat) : Int) = S
      generalize y_R : z_cp r (z_rr (M g) k rest) 0 0 ((12 : Nat) : Int) = R
      have y_Sb : ∀ p, 0 ≤ p → p < 12 → 0 ≤ S p ∧ S p ≤ 900000 := fun p p0 p1 => by
        have y_s := z_s0_rg hq ha h0 h1 p0 p1
        rw [← y_S]
        unfold z_cp
        rw [if_pos (by omega), show p - 0 + 0 = p by omega]
        exact y_s.2.2
      have y_end : z_d3 M r7 (z_gv 0 (z_lf (M g) k rest).toNat S R).1 (z_gv 0 (z_lf (M g) k rest).toNat S R).2 = z_d3 M r7 (z_sp (M g) k rest s r).1 (z_sp (M g) k rest s r).2 := by rw [← y_S, ← y_R]; rfl
      refine z_upn (P := fun i : Nat => z_J G Z _ _ 84 [some (.ref (z_ad G 0 25)), some (.ref (z_ad G g 8)), some (z_I k), some (z_I rest), some (z_I (z_aP (M g) k)), some (z_I (z_lf (M g) k rest)), some (z_I i), none] [] (z_d3 M r7 (z_gv 0 i S R).1 (z_gv 0 i S R).2) 0 0) (z_lf (M g) k rest).toNat ?_ ?_
      · refine z_rng fun hr => ?_
        refine z_iload dX0_split_84 rfl ?_
        refine z_iload dX0_split_86 rfl ?_
        refine z_icmp_ge (tgt := 107) (by first | (exact hr _ _ (by decide)) | (exact hr _ _ (by omega)) | omega) (by first | (exact hr _ _ (by decide)) | (exact hr _ _ (by omega)) | omega) dX0_split_88 (by decide) (fun h88 => ?_) (fun h88 => ?_)
        · exact z_vret dX0_split_107 y_end
        · exfalso; omega
      · intro i hi y_ih
        have y_gv := z_gv_rg (x := 0) i S R 900000 y_Sb
        have y_hs : ∀ p, 0 ≤ p → p < 12 → z_rg ((z_gv 0 i S R).1 p + 1) := fun p p0 p1 => by have := y_gv p p0 p1; omega
        rw [z_gv_s] at y_ih
        refine z_rng fun hr => ?_
        refine z_iload dX0_split_84 rfl ?_
        refine z_iload dX0_split_86 rfl ?_
        refine z_icmp_ge (tgt := 107) (by first | (exact hr _ _ (by decide)) | (exact hr _ _ (by omega)) | omega) (by first | (exact hr _ _ (by decide)) | (exact hr _ _ (by omega)) | omega) dX0_split_88 (by decide) (fun h88 => ?_) (fun h88 => ?_)
        · exfalso; omega
        · refine z_iload dX0_split_91 rfl ?_
          refine z_iconst dX0_split_93 ?_
          refine z_icmp_ge (tgt := 107) (by first | (exact hr _ _ (by decide)) | (exact hr _ _ (by omega)) | omega) (by first | (exact hr _ _ (by decide)) | (exact hr _ _ (by omega)) | omega) dX0_split_94 (by decide) (fun h94 => ?_) (fun h94 => ?_)
          · exfalso; omega
          · refine z_aloadn dX0_split_97 rfl ?_
            refine kX0_81 (tX0_giveUnit y_hs) rfl ⟨(Nat.le_of_ble_eq_true rfl), (Nat.le_of_ble_eq_true rfl)⟩ (Nat.le_of_ble_eq_true rfl) dX0_split_98 ?_
            refine z_rng fun hr => ?_
            refine z_iinc_6 dX0_split_101 (Nat.le_of_ble_eq_true rfl) rfl ?_
            refine z_goto (tgt := 84) dX0_split_104 (by decide) ?_
            exact y_ih
    · exfalso; omega
  · intro i hi y_ih
    refine z_rng fun hr => ?_
    have y_s := z_s0_rg hq ha h0 h1 (p := (i : Int)) (by omega) (by omega)
    have y_d : z_rg (rest * M g (426 + 12 * k + i) / z_aP (M g) k) := ⟨Int.le_trans (by decide) y_s.2.2.1, Int.le_trans y_s.2.2.2 (by decide)⟩
    have y_t : rest - z_sm (i + 1) (z_s0 (M g) k rest) = rest - z_sm i (z_s0 (M g) k rest) - (z_s0 (M g) k rest) i := by rw [z_sm_s]; omega
    have y_e : z_rg (rest * M g (426 + 12 * k + i) % z_aP (M g) k) := by have e1 := Int.emod_nonneg (rest * M g (426 + 12 * k + i)) (show z_aP (M g) k ≠ 0 by omega); have e2 := Int.emod_lt_of_pos (rest * M g (426 + 12 * k + i)) (show 0 < z_aP (M g) k by omega); omega
    refine z_iload dX0_split_17 rfl ?_
    refine z_bipush dX0_split_19 (by decide) ?_
    refine z_icmp_ge (tgt := 81) (by first | (exact hr _ _ (by decide)) | (exact hr _ _ (by omega)) | omega) (by first | (exact hr _ _ (by decide)) | (exact hr _ _ (by omega)) | omega) dX0_split_21 (by decide) (fun h21 => ?_) (fun h21 => ?_)
    · exfalso; omega
    · refine z_iloadn dX0_split_24 rfl ?_
      refine z_aloadn dX0_split_25 rfl ?_
      refine gX0_75 hg rfl dX0_split_26 ?_
      refine z_iloadn dX0_split_29 rfl ?_
      refine z_iload dX0_split_30 rfl ?_
      refine kX0_78 tX6_at rfl ⟨(Nat.le_of_ble_eq_true rfl), (Nat.le_of_ble_eq_true rfl)⟩ (Nat.le_of_ble_eq_true rfl) dX0_split_32 ?_
      refine z_iald (by rfl) (by first | exact Or.inl (by decide) | exact Or.inl (Or.inl ⟨by decide, hg⟩)) (by omega) (by omega) (by decide) dX0_split_35 ?_
      refine z_top (v' := M g (426 + 12 * k + (i : Int))) (by rw [z_d3_g hg]; congr 1; omega) ?_
      refine z_imul dX0_split_36 ?_
      refine z_istore_7 dX0_split_37 (Nat.le_of_ble_eq_true rfl) rfl ?_
      refine z_aloadn dX0_split_39 rfl ?_
      refine gX0_9 rfl dX0_split_40 ?_
      refine z_iload dX0_split_43 rfl ?_
      refine z_iload dX0_split_45 rfl ?_
      refine z_iload dX0_split_47 rfl ?_
      refine z_idiv (by omega) (by omega) (by omega) (by omega) dX0_split_49 ?_
      refine z_iast (by rfl) (by first | exact Or.inl (by decide) | exact Or.inl (Or.inl ⟨by decide, hg⟩)) (by omega) (by omega) (by decide) y_d dX0_split_50 ?_
      refine z_rng fun hr => ?_
      refine z_aloadn dX0_split_51 rfl ?_
      refine gX0_15 rfl dX0_split_52 ?_
      refine z_iload dX0_split_55 rfl ?_
      refine z_iload dX0_split_57 rfl ?_
      refine z_iload dX0_split_59 rfl ?_
      refine z_irem (by omega) (by omega) (by omega) (by omega) dX0_split_61 ?_
      refine z_iast (by rfl) (by first | exact Or.inl (by decide) | exact Or.inl (Or.inl ⟨by decide, hg⟩)) (by omega) (by omega) (by decide) y_e dX0_split_62 ?_
      refine z_rng fun hr => ?_
      refine z_iload dX0_split_63 rfl ?_
      refine z_aloadn dX0_split_65 rfl ?_
      refine gX0_9 rfl dX0_split_66 ?_
      refine z_iload dX0_split_69 rfl ?_
      refine z_iald (by rfl) (by first | exact Or.inl (by decide) | exact Or.inl (Or.inl ⟨by decide, hg⟩)) (by omega) (by omega) (by decide) dX0_split_71 ?_
      refine z_top (v' := (z_s0 (M g) k rest) i) ((congrFun (z_sM_row _ _ _ (by decide)) _).trans (z_sM_self _ _ _ _)) ?_
      refine z_isub dX0_split_72 ?_
      refine z_istore_5 dX0_split_73 (Nat.le_of_ble_eq_true rfl) rfl ?_
      refine z_iinc_6 dX0_split_75 (Nat.le_of_ble_eq_true rfl) rfl ?_
      refine z_goto (tgt := 17) dX0_split_78 (by decide) ?_
      refine z_fgt 7 ?_
      rw [y_t] at y_ih
      refine z_mem ?_ y_ih
      rw [z_d3_10, z_d3_11]
      congr 1
      · congr 1
        exact z_cp_s _ _ _ _ i (by omega) (by rw [Int.zero_add]; rfl)
      · exact z_cp_s _ _ _ _ i (by omega) (by rw [Int.zero_add]; rfl)
theorem tX0_cutToCap {G : z_G} {M : z_M} {r7 s r : Int → Int} {g : Nat} {k : Int} (hg : g < 7) (k0 : 0 ≤ k) (k1 : k < 20) (hc : 0 < M g 10) (hc1 : M g 10 ≤ 10000) (hs : ∀ p, 0 ≤ p → p < 12 → 0 ≤ s p ∧ s p ≤ 1000000) (hgot : ∀ p, 0 ≤ p → p < 12 → 0 ≤ M g (666 + 12 * k + p) ∧ M g (666 + 12 * k + p) ≤ 900000000) (h9 : r7 9 = 0) : KX0_cutToCap G [.ref (z_ad G 0 25), .ref (z_ad G g 8), z_I k, z_I (M g 10)] (z_d3 M r7 s r) (.inl none) (z_d3 M (z_uf r7 9 (z_oca (M g) k s)) (z_cu (M g) k s) r) := by
  refine z_con (ls := [some (.ref (z_ad G 0 25)), some (.ref (z_ad G g 8)), some (z_I k), some (z_I (M g 10)), none, none, none]) (by decide +kernel) (Nat.le_of_ble_eq_true rfl) rfl ?_
  intro Z htb
  refine z_rng fun hr => ?_
  refine z_iconst dX0_cutToCap_0 ?_
  refine z_istore_4 dX0_cutToCap_1 (Nat.le_of_ble_eq_true rfl) rfl ?_
  refine z_mem (M' := z_d3 M (z_uf r7 9 (z_sm 0 (fun p => z_ov (M g) k p (s p)))) (z_cp s (fun p => s p - z_ov (M g) k p (s p)) 0 0 ((0 : Nat) : Int)) r) (by rw [show ((0 : Nat) : Int) = 0 from rfl, z_cp_0, show z_sm 0 (fun p => z_ov (M g) k p (s p)) = r7 9 from h9.symm, z_uf_id]) ?_
  refine z_upn (P := fun i : Nat => z_J G Z _ _ 3 [some (.ref (z_ad G 0 25)), some (.ref (z_ad G g 8)), some (z_I k), some (z_I (M g 10)), some (z_I i), none, none] [] (z_d3 M (z_uf r7 9 (z_sm i (fun p => z_ov (M g) k p (s p)))) (z_cp s (fun p => s p - z_ov (M g) k p (s p)) 0 0 i) r) 0 0) 12 ?_ ?_
  · refine z_rng fun hr => ?_
    refine z_iload dX0_cutToCap_3 rfl ?_
    refine z_bipush dX0_cutToCap_5 (by decide) ?_
    refine z_icmp_ge (tgt := 74) (by first | (exact hr _ _ (by decide)) | (exact hr _ _ (by omega)) | omega) (by first | (exact hr _ _ (by decide)) | (exact hr _ _ (by omega)) | omega) dX0_cutToCap_7 (by decide) (fun h7 => ?_) (fun h7 => ?_)
    · exact z_vret dX0_cutToCap_74 rfl
    · exfalso; omega
  · intro i hi y_ih
    refine z_rng fun hr => ?_
    have y_s := hs i (by omega) (by omega)
    have y_g := hgot i (by omega) (by omega)
    have y_o := z_ov_rg (b := M g) (k := k) (p := i) y_s.1
    have y_sm := z_smb (f := (fun p => z_ov (M g) k p (s p))) (a := 0) (b := 1000000) i (fun j hj => by have := hs j (by omega) (by omega); have := z_ov_rg (b := M g) (k := k) (p := j) this.1; exact ⟨by omega, by show z_ov (M g) k j (s j) ≤ _; omega⟩)
    have y_cp : z_cp s (fun p => s p - z_ov (M g) k p (s p)) 0 0 i i = s i := by unfold z_cp; rw [if_neg (by omega)]
    have y_mx := z_ov_mx (k := k) (p := (i : Int)) hc y_s.1
    refine z_iload dX0_cutToCap_3 rfl ?_
    refine z_bipush dX0_cutToCap_5 (by decide) ?_
    refine z_icmp_ge (tgt := 74) (by first | (exact hr _ _ (by decide)) | (exact hr _ _ (by omega)) | omega) (by first | (exact hr _ _ (by decide)) | (exact hr _ _ (by omega)) | omega) dX0_cutToCap_7 (by decide) (fun h7 => ?_) (fun h7 => ?_)
    · exfalso; omega
    · refine z_iconst dX0_cutToCap_10 ?_
      refine z_iloadn dX0_cutToCap_11 rfl ?_
      refine z_aloadn dX0_cutToCap_12 rfl ?_
      refine gX0_84 hg rfl dX0_cutToCap_13 ?_
      refine z_iloadn dX0_cutToCap_16 rfl ?_
      refine z_iload dX0_cutToCap_17 rfl ?_
      refine kX0_78 tX6_at rfl ⟨(Nat.le_of_ble_eq_true rfl), (Nat.le_of_ble_eq_true rfl)⟩ (Nat.le_of_ble_eq_true rfl) dX0_cutToCap_19 ?_
      refine z_iald (by rfl) (by first | exact Or.inl (by decide) | exact Or.inl (Or.inl ⟨by decide, hg⟩)) (by omega) (by omega) (by decide) dX0_cutToCap_22 ?_
      refine z_top (v' := M g (666 + 12 * k + (i : Int))) (by rw [z_d3_g hg]; congr 1; omega) ?_
      refine z_isub dX0_cutToCap_23 ?_
      refine z_mmax (by first | (exact hr _ _ (by decide)) | (exact hr _ _ (by omega)) | omega) (by omega) rfl wmX0_69 (Nat.le_of_ble_eq_true rfl) (Nat.le_of_ble_eq_true rfl) dX0_cutToCap_24 ?_
      refine z_istore_5 dX0_cutToCap_27 (Nat.le_of_ble_eq_true rfl) rfl ?_
      refine z_iconst dX0_cutToCap_29 ?_
      refine z_aloadn dX0_cutToCap_30 rfl ?_
      refine gX0_9 rfl dX0_cutToCap_31 ?_
      refine z_iload dX0_cutToCap_34 rfl ?_
      refine z_iald (by rfl) (by first | exact Or.inl (by decide) | exact Or.inl (Or.inl ⟨by decide, hg⟩)) (by omega) (by omega) (by decide) dX0_cutToCap_36 ?_
      refine z_top (v' := s i) y_cp ?_
      refine z_iload dX0_cutToCap_37 rfl ?_
      refine z_isub dX0_cutToCap_39 ?_
      refine z_mmax (by first | (exact hr _ _ (by decide)) | (exact hr _ _ (by omega)) | omega) (by unfold z_mx; split <;> omega) rfl wmX0_69 (Nat.le_of_ble_eq_true rfl) (Nat.le_of_ble_eq_true rfl) dX0_cutToCap_40 ?_
      refine z_top (v' := z_ov (M g) k i (s i)) y_mx ?_
      refine z_istore_6 dX0_cutToCap_43 (Nat.le_of_ble_eq_true rfl) rfl ?_
      refine z_aloadn dX0_cutToCap_45 rfl ?_
      refine gX0_9 rfl dX0_cutToCap_46 ?_
      refine z_iload dX0_cutToCap_49 rfl ?_
      refine z_dup2 dX0_cutToCap_51 rfl rfl ?_
      refine z_iald (by rfl) (by first | exact Or.inl (by decide) | exact Or.inl (Or.inl ⟨by decide, hg⟩)) (by omega) (by omega) (by decide) dX0_cutToCap_52 ?_
      refine z_top (v' := s i) y_cp ?_
      refine z_iload dX0_cutToCap_53 rfl ?_
      refine z_isub dX0_cutToCap_55 ?_
      refine z_iast (by rfl) (by first | exact Or.inl (by decide) | exact Or.inl (Or.inl ⟨by decide, hg⟩)) (by omega) (by omega) (by decide) (by first | (exact hr _ _ (by decide)) | (exact hr _ _ (by omega)) | omega) dX0_cutToCap_56 ?_
      refine z_rng fun hr => ?_
      refine z_aloadn dX0_cutToCap_57 rfl ?_
      refine z_dup dX0_cutToCap_58 rfl ?_
      refine gX0_45 rfl dX0_cutToCap_59 ?_
      refine z_top (v' := z_sm i (fun p => z_ov (M g) k p (s p))) (by rw [z_sM_row _ _ _ (by decide)]; exact z_uf_self r7 9 _) ?_
      refine z_iload dX0_cutToCap_62 rfl ?_
      refine z_iadd dX0_cutToCap_64 ?_
      refine pX0_45 (by first | (exact hr _ _ (by decide)) | (exact hr _ _ (by omega)) | omega) rfl dX0_cutToCap_65 ?_
      refine z_rng fun hr => ?_
      refine z_iinc_4 dX0_cutToCap_68 (Nat.le_of_ble_eq_true rfl) rfl ?_
      refine z_goto (tgt := 3) dX0_cutToCap_71 (by decide) ?_
      refine z_fgt 5 (z_fgt 6 (z_mem ?_ y_ih))
      rw [z_d3_10, z_d3_7, z_uf_uf, z_sm_s]
      congr 1
      congr 1
      exact z_cp_s _ _ _ _ i (by omega) (by rw [Int.zero_add])
