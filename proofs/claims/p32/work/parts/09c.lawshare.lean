/-! ===== an amount split by parts: units by rank ===== -/
theorem z_am_first (r : Int → Int) : ∀ n : Nat, ∀ q : Int, 0 ≤ q → q ≤ n → r q = r (z_am r n) → z_am r n ≤ q := by
  intro n
  induction n with
  | zero => intro q q0 q1 _; show (0 : Int) ≤ q; exact q0
  | succ n ih =>
    intro q q0 q1 e
    have hg := z_am_ge r n
    have hl := z_am_le r n
    unfold z_am at e ⊢
    by_cases c : r (z_am r n) < r ((n + 1 : Nat) : Int)
    · rw [if_pos c] at e ⊢
      by_cases cq : q = ((n + 1 : Nat) : Int)
      · omega
      · have := hg q q0 (by omega)
        omega
    · rw [if_neg c] at e ⊢
      by_cases cq : q = ((n + 1 : Nat) : Int)
      · omega
      · exact ih q q0 (by omega) e
/-- how many stand before p -/
def z_rk (r : Int → Int) (p : Int) : Int := z_sm 12 (fun q => if r p < r q ∨ (r q = r p ∧ q < p) then 1 else 0)
def z_np (r : Int → Int) : Int := z_sm 12 (fun p => if 0 ≤ r p then 1 else 0)
theorem z_rk_0 (r : Int → Int) (p : Int) : 0 ≤ z_rk r p := z_sm_nn fun i _ => by
  show 0 ≤ (if r p < r i ∨ (r i = r p ∧ (i : Int) < p) then (1 : Int) else 0)
  split <;> omega
theorem z_gv_rk : ∀ (m : Nat) (s r : Int → Int), (m : Int) ≤ z_np r → ∀ p, 0 ≤ p → p < 12 → (z_gv (-1) m s r).1 p = s p + (if 0 ≤ r p ∧ z_rk r p < m then 1 else 0) := by
  intro m
  induction m with
  | zero =>
    intro s r _ p p0 p1
    have h := z_rk_0 r p
    rw [if_neg (by omega), Int.add_zero]
    rfl
  | succ m ih =>
    intro s r hm p p0 p1
    have hl := z_am_le r 11
    have hg : ∀ q, 0 ≤ q → q < 12 → r q ≤ r (z_am r 11) := fun q q0 q1 => z_am_ge r 11 q q0 (by omega)
    have hf : ∀ q, 0 ≤ q → q < 12 → r q = r (z_am r 11) → z_am r 11 ≤ q := fun q q0 q1 => z_am_first r 11 q q0 (by omega)
    generalize ht : z_am r 11 = t at hl hg hf
    have ht0 : 0 ≤ r t := by
      rcases Int.lt_or_le (r t) 0 with c | c
      · exfalso
        have h0 : z_np r = 0 := z_sm_z fun i hi => by
          have := hg i (by omega) (by omega)
          show (if 0 ≤ r (i : Int) then (1 : Int) else 0) = 0
          rw [if_neg (by omega)]
        omega
      · exact c
    have e1 : (z_gv (-1) (m + 1) s r) = z_gv (-1) m (z_uf s t (s t + 1)) (z_uf r t (-1)) := by
      show z_gv (-1) m (z_uf s (z_am r 11) (s (z_am r 11) + 1)) (z_uf r (z_am r 11) (-1)) = _
      rw [ht]
    have hu : ∀ q, q ≠ t → z_uf r t (-1) q = r q := fun q hq => z_uf_ne _ _ hq
    have hut : z_uf r t (-1) t = -1 := z_uf_self _ _ _
    have hn : z_np (z_uf r t (-1)) = z_np r + (0 - 1) := by
      have h := z_sm_uI (f := fun p => if 0 ≤ r p then 1 else 0) (f' := fun p => if 0 ≤ z_uf r t (-1) p then 1 else 0) (q := t) hl.1 (by omega) (fun i _ _ hi => by
        show (if 0 ≤ z_uf r t (-1) i then (1 : Int) else 0) = if 0 ≤ r i then 1 else 0
        rw [hu i hi])
      unfold z_np
      rw [h]
      show z_sm 12 _ + ((if 0 ≤ z_uf r t (-1) t then (1 : Int) else 0) - if 0 ≤ r t then 1 else 0) = _
      rw [hut, if_neg (by omega), if_pos ht0]
    rw [e1, ih _ _ (by omega) p p0 p1]
    by_cases c : p = t
    · subst c
      have h0 : z_rk r p = 0 := z_sm_z fun i hi => by
        have h1 := hg i (by omega) (by omega)
        have h2 := hf i (by omega) (by omega)
        show (if r p < r (i : Int) ∨ (r (i : Int) = r p ∧ (i : Int) < p) then (1 : Int) else 0) = 0
        rw [if_neg (by omega)]
      rw [hut, z_uf_self, h0, if_neg (by omega), if_pos ⟨ht0, by omega⟩]
      omega
    · rw [z_uf_ne _ _ c, hu p c]
      by_cases c2 : 0 ≤ r p
      · have h1 := hg p p0 p1
        have h2 := hf p p0 p1
        have hk : z_rk (z_uf r t (-1)) p = z_rk r p + (0 - 1) := by
          have h := z_sm_uI (f := fun q => if r p < r q ∨ (r q = r p ∧ q < p) then 1 else 0) (f' := fun q => if z_uf r t (-1) p < z_uf r t (-1) q ∨ (z_uf r t (-1) q = z_uf r t (-1) p ∧ q < p) then 1 else 0) (q := t) hl.1 (by omega) (fun i _ _ hi => by
            show (if z_uf r t (-1) p < z_uf r t (-1) i ∨ (z_uf r t (-1) i = z_uf r t (-1) p ∧ i < p) then (1 : Int) else 0) = if r p < r i ∨ (r i = r p ∧ i < p) then 1 else 0
            rw [hu i hi, hu p c])
          unfold z_rk
          rw [h]
          show z_sm 12 _ + ((if z_uf r t (-1) p < z_uf r t (-1) t ∨ (z_uf r t (-1) t = z_uf r t (-1) p ∧ t < p) then (1 : Int) else 0) - if r p < r t ∨ (r t = r p ∧ t < p) then 1 else 0) = _
          rw [hut, hu p c, if_neg (by omega), if_pos (by omega)]
        rw [hk]
        congr 1
        by_cases c3 : z_rk r p < ((m + 1 : Nat) : Int)
        · rw [if_pos ⟨c2, by omega⟩, if_pos ⟨c2, c3⟩]
        · rw [if_neg (by omega), if_neg (by omega)]
      · rw [if_neg (fun q => c2 q.1), if_neg (fun q => c2 q.1)]
def z_ahd (b : Int → Int) (k rest p : Int) : Int := z_sm 12 (fun q => if 0 < b (426 + 12 * k + q) ∧ (z_rr b k rest p < z_rr b k rest q ∨ (z_rr b k rest q = z_rr b k rest p ∧ q < p)) then 1 else 0)
/-- what rest brings to pen p -/
def z_shp (b : Int → Int) (k rest p : Int) : Int := if b (426 + 12 * k + p) = 0 then 0 else z_s0 b k rest p + (if z_ahd b k rest p < z_lf b k rest then 1 else 0)
theorem z_lf0 {b : Int → Int} {k rest : Int} (ha : 1 ≤ z_aP b k) : 0 ≤ z_lf b k rest := by
  have e := z_lf_mul b k rest
  have h0 := z_sm_nn (f := z_rr b k rest) (n := 12) (fun i _ => (z_rr_rg ha i).1)
  refine Int.le_of_mul_le_mul_left (a := z_aP b k) ?_ (by omega)
  rw [Int.mul_zero, e]
  exact h0
theorem z_sh_shp {b : Int → Int} {k rest : Int} {s0 r0 : Int → Int} (hq : ∀ p, 0 ≤ p → p < 12 → 0 ≤ b (426 + 12 * k + p) ∧ b (426 + 12 * k + p) ≤ 9) (ha : 1 ≤ z_aP b k) : ∀ p, 0 ≤ p → p < 12 → (z_sh b k rest s0 r0).1 p = z_shp b k rest p := by
  intro p p0 p1
  have cin : ∀ (x f : Int → Int) (p : Int), 0 ≤ p → p < 12 → z_cp x f 0 0 12 p = f p := fun x f p p0 p1 => by unfold z_cp; rw [if_pos (by omega)]; congr 1; omega
  have hl := z_lf0 (b := b) (k := k) (rest := rest) ha
  have e := z_lf_mul b k rest
  have hr : ∀ q, 0 ≤ q → q < 12 → z_cp r0 (z_r0m b k rest) 0 0 12 q = z_r0m b k rest q := fun q q0 q1 => cin _ _ q q0 q1
  have hrm : ∀ q, z_r0m b k rest q = if b (426 + 12 * k + q) = 0 then -1 else z_rr b k rest q := fun q => rfl
  have hnp : z_np (z_cp r0 (z_r0m b k rest) 0 0 12) = z_sm 12 (fun p => if 0 < b (426 + 12 * k + p) then 1 else 0) := z_sm_eq fun i hi => by
    have hp := hq i (by omega) (by omega)
    have h2 := z_rr_rg (rest := rest) ha i
    show (if 0 ≤ z_cp r0 (z_r0m b k rest) 0 0 12 (i : Int) then (1 : Int) else 0) = if 0 < b (426 + 12 * k + i) then 1 else 0
    rw [hr i (by omega) (by omega), hrm]
    by_cases c : b (426 + 12 * k + i) = 0
    · rw [if_pos c, if_neg (by omega), if_neg (by omega)]
    · rw [if_neg c, if_pos h2.1, if_pos (by omega)]
  have h1 : z_sm 12 (z_rr b k rest) ≤ z_sm 12 (fun p => z_aP b k * (if 0 < b (426 + 12 * k + p) then 1 else 0)) := z_sm_le (fun i hi => by
    have hr := z_rr_rg (rest := rest) ha i
    have hp := hq i (by omega) (by omega)
    show z_rr b k rest i ≤ z_aP b k * (if 0 < b (426 + 12 * k + i) then 1 else 0)
    split
    · rw [Int.mul_one]; omega
    · unfold z_rr
      rw [show b (426 + 12 * k + i) = 0 by omega, Int.mul_zero, Int.zero_emod, Int.mul_zero]
      exact Int.le_refl 0)
  rw [z_sm_mul, ← e] at h1
  have h2 := Int.le_of_mul_le_mul_left h1 (show 0 < z_aP b k by omega)
  have hnat : ((z_lf b k rest).toNat : Int) = z_lf b k rest := Int.toNat_of_nonneg hl
  have key := z_gv_rk (z_lf b k rest).toNat (z_cp s0 (z_s0 b k rest) 0 0 12) (z_cp r0 (z_r0m b k rest) 0 0 12) (by rw [hnp, hnat]; exact h2) p p0 p1
  unfold z_sh
  rw [key, cin _ _ p p0 p1, hr p p0 p1, hnat, hrm]
  unfold z_shp
  by_cases c : b (426 + 12 * k + p) = 0
  · rw [if_pos c, if_pos c, if_neg (by omega)]
    unfold z_s0
    rw [c, Int.mul_zero, Int.zero_ediv]
    rfl
  · have h3 := z_rr_rg (rest := rest) ha p
    have hk : z_rk (z_cp r0 (z_r0m b k rest) 0 0 12) p = z_ahd b k rest p := z_sm_eq fun i hi => by
      have hp := hq i (by omega) (by omega)
      have h4 := z_rr_rg (rest := rest) ha i
      show (if z_cp r0 (z_r0m b k rest) 0 0 12 p < z_cp r0 (z_r0m b k rest) 0 0 12 (i : Int) ∨ (z_cp r0 (z_r0m b k rest) 0 0 12 (i : Int) = z_cp r0 (z_r0m b k rest) 0 0 12 p ∧ (i : Int) < p) then (1 : Int) else 0) = if 0 < b (426 + 12 * k + (i : Int)) ∧ (z_rr b k rest p < z_rr b k rest i ∨ (z_rr b k rest i = z_rr b k rest p ∧ (i : Int) < p)) then 1 else 0
      rw [hr i (by omega) (by omega), hr p p0 p1, hrm, hrm, if_neg c]
      by_cases ci : b (426 + 12 * k + i) = 0
      · rw [if_pos ci, if_neg (by omega), if_neg (by omega)]
      · rw [if_neg ci]
        by_cases cc : z_rr b k rest p < z_rr b k rest i ∨ (z_rr b k rest i = z_rr b k rest p ∧ (i : Int) < p)
        · rw [if_pos cc, if_pos ⟨by omega, cc⟩]
        · rw [if_neg cc, if_neg (fun q => cc q.2)]
    rw [if_neg c, if_neg c, hk]
    congr 1
    by_cases cc : z_ahd b k rest p < z_lf b k rest
    · rw [if_pos ⟨h3.1, cc⟩, if_pos cc]
    · rw [if_neg (fun q => cc q.2), if_neg cc]
theorem z_sm12_4 {f : Int → Int} (h : ∀ p, 4 ≤ p → p < 12 → f p = 0) : z_sm 12 f = z_sm 4 f := by
  rw [z_sm4 h]
  show _ = 0 + f 0 + f 1 + f 2 + f 3
  omega
theorem z_rw40 {M : z_M} {R : Nat} {x : Int → Int} {j v : Int} (h1 : R = 40 → x j = v) (h2 : M 40 j = v) : z_sR M R x 40 j = v := by
  unfold z_sR
  split
  · rename_i h; exact h1 h.symm
  · exact h2
def z_fcp (ix : Int → Int) (s r : Int → Int) : Nat → Int → Int
  | 0 => r
  | n + 1 => z_uf (z_fcp ix s r n) (ix n) (s (ix n))
theorem tL_share {G : z_G} {M : z_M} {B : Int → Int} {k p rest : Int} (k0 : 0 ≤ k) (k1 : k < 4) (p0 : 0 ≤ p) (p1 : p < 4) (h0 : 0 ≤ rest) (h1 : rest ≤ 100000) (hq : ∀ p, 0 ≤ p → p < 12 → 0 ≤ B (426 + 12 * k + p) ∧ B (426 + 12 * k + p) ≤ 9) (ha : 1 ≤ z_aP B k) (hz : ∀ p, 4 ≤ p → p < 12 → B (426 + 12 * k + p) = 0) (hv : ∀ q, 0 ≤ q → q < 4 → M 40 (426 + 12 * k + q) = B (426 + 12 * k + q)) : KL_share G [z_I k, z_I p, z_I rest, .ref (z_ad G 0 43)] M (.inl (some (z_I (z_shp B k rest p)))) M := by
  refine z_con (ls := [some (z_I k), some (z_I p), some (z_I rest), some (.ref (z_ad G 0 43)), none, none, none, none, none, none]) (by decide +kernel) (Nat.le_of_ble_eq_true rfl) rfl ?_
  intro Z htb
  refine z_rng fun hr => ?_
  have y_m := z_s0_rg hq ha h0 h1 p0 (show p < 12 by omega)
  have y_a := z_aP_le hq
  have y_p := hq p p0 (by omega)
  have y_lf : z_sm 12 (z_s0 B k rest) = z_sm 4 (z_s0 B k rest) := z_sm12_4 fun p p0 p1 => by unfold z_s0; rw [hz p p0 p1, Int.mul_zero, Int.zero_ediv]
  have y_ah : z_ahd B k rest p = z_sm 4 (fun q => if 0 < B (426 + 12 * k + q) ∧ (z_rr B k rest p < z_rr B k rest q ∨ (z_rr B k rest q = z_rr B k rest p ∧ q < p)) then 1 else 0) := z_sm12_4 fun q q0 q1 => by
    show (if _ then (1 : Int) else 0) = 0
    rw [if_neg (fun c => by have := hz q q0 q1; omega)]
  refine z_aloadn dL_share_0 rfl ?_
  refine z_iloadn dL_share_1 rfl ?_
  refine kL_8 (tL_four_pa k0 k1 hz hv) rfl ⟨(Nat.le_of_ble_eq_true rfl), (Nat.le_of_ble_eq_true rfl)⟩ (Nat.le_of_ble_eq_true rfl) dL_share_2 ?_
  refine z_istore_4 dL_share_5 (Nat.le_of_ble_eq_true rfl) rfl ?_
  refine z_iloadn dL_share_7 rfl ?_
  refine z_top (v' := rest - z_sm 0 (z_s0 B k rest)) (Int.sub_zero rest).symm ?_
  refine z_istore_5 dL_share_8 (Nat.le_of_ble_eq_true rfl) rfl ?_
  refine z_iconst dL_share_10 ?_
  refine z_istore_6 dL_share_11 (Nat.le_of_ble_eq_true rfl) rfl ?_
  refine z_iloadn dL_share_13 rfl ?_
  refine z_aloadn dL_share_14 rfl ?_
  refine z_iconst dL_share_15 ?_
  refine z_iloadn dL_share_16 rfl ?_
  refine z_imul dL_share_17 ?_
  refine z_iloadn dL_share_18 rfl ?_
  refine z_iadd dL_share_19 ?_
  refine z_lld (R := 40) (j := 426 + 12 * k + p) al_pa (Or.inl (by decide)) (hv _ (by omega) (by omega)) (by omega) (by omega) (Nat.le_of_ble_eq_true rfl) (by omega) dL_share_20 ?_
  refine z_imul dL_share_21 ?_
  refine z_iload dL_share_22 rfl ?_
  refine z_irem y_m.1 (by omega) (by omega) (by omega) dL_share_24 ?_
  refine z_top (v' := z_rr B k rest p) rfl ?_
  refine z_istore_7 dL_share_25 (Nat.le_of_ble_eq_true rfl) rfl ?_
  refine z_iconst dL_share_27 ?_
  refine z_istore_8 dL_share_28 (Nat.le_of_ble_eq_true rfl) rfl ?_
  refine z_upn (P := fun i : Nat => z_J G Z _ _ 30 [some (z_I k), some (z_I p), some (z_I rest), some (.ref (z_ad G 0 43)), some (z_I (z_aP B k)), some (z_I (rest - z_sm i (z_s0 B k rest))), some (z_I (z_sm i (fun q => if 0 < B (426 + 12 * k + q) ∧ (z_rr B k rest p < z_rr B k rest q ∨ (z_rr B k rest q = z_rr B k rest p ∧ q < p)) then 1 else 0))), some (z_I (z_rr B k rest p)), some (z_I i), none] [] M 0 0) 4 ?_ ?_
  · refine z_rng fun hr => ?_
    rw [← y_lf, ← y_ah]
    have y_f := z_lf0 (b := B) (k := k) (rest := rest) ha
    have y_f2 : rest - z_sm 12 (z_s0 B k rest) = z_lf B k rest := rfl
    rw [y_f2]
    have y_ahr : z_rg (z_ahd B k rest p) := by
      have h := z_smb (f := (fun q => if 0 < B (426 + 12 * k + q) ∧ (z_rr B k rest p < z_rr B k rest q ∨ (z_rr B k rest q = z_rr B k rest p ∧ q < p)) then 1 else 0)) (a := 0) (b := 1) 12 (fun i _ => by show 0 ≤ (if _ then (1 : Int) else 0) ∧ (if _ then (1 : Int) else 0) ≤ 1; split <;> omega)
      unfold z_ahd
      exact ⟨by omega, by omega⟩
    have y_lfr : z_rg (z_lf B k rest) := by
      have h := z_sm_nn (f := z_s0 B k rest) (n := 12) (fun i hi => (z_s0_rg hq ha h0 h1 (p := i) (by omega) (by omega)).2.2.1)
      exact ⟨by omega, by unfold z_lf; omega⟩
    refine z_iload dL_share_30 rfl ?_
    refine z_iconst dL_share_32 ?_
    refine z_icmp_ge (tgt := 109) (by first | (exact hr _ _ (by decide)) | omega) (by first | (exact hr _ _ (by decide)) | omega) dL_share_33 (by decide) (fun h33 => ?_) (fun h33 => ?_)
    · refine z_aloadn dL_share_109 rfl ?_
      refine z_iconst dL_share_110 ?_
      refine z_iloadn dL_share_111 rfl ?_
      refine z_imul dL_share_112 ?_
      refine z_iloadn dL_share_113 rfl ?_
      refine z_iadd dL_share_114 ?_
      refine z_lld (R := 40) (j := 426 + 12 * k + p) al_pa (Or.inl (by decide)) (hv _ (by omega) (by omega)) (by omega) (by omega) (Nat.le_of_ble_eq_true rfl) (by omega) dL_share_115 ?_
      refine z_if_ne (tgt := 123) (by first | (exact hr _ _ (by decide)) | omega) dL_share_116 (by decide) (fun h116 => ?_) (fun h116 => ?_)
      · refine z_iloadn dL_share_123 rfl ?_
        refine z_aloadn dL_share_124 rfl ?_
        refine z_iconst dL_share_125 ?_
        refine z_iloadn dL_share_126 rfl ?_
        refine z_imul dL_share_127 ?_
        refine z_iloadn dL_share_128 rfl ?_
        refine z_iadd dL_share_129 ?_
        refine z_lld (R := 40) (j := 426 + 12 * k + p) al_pa (Or.inl (by decide)) (hv _ (by omega) (by omega)) (by omega) (by omega) (Nat.le_of_ble_eq_true rfl) (by omega) dL_share_130 ?_
        refine z_imul dL_share_131 ?_
        refine z_iload dL_share_132 rfl ?_
        refine z_idiv y_m.1 (by omega) (by omega) (by omega) dL_share_134 ?_
        refine z_top (v' := z_s0 B k rest p) rfl ?_
        refine z_iload dL_share_135 rfl ?_
        refine z_iload dL_share_137 rfl ?_
        refine z_icmp_ge (tgt := 146) y_ahr y_lfr dL_share_139 (by decide) (fun h139 => ?_) (fun h139 => ?_)
        · refine z_iconst dL_share_146 ?_
          refine z_iadd dL_share_147 ?_
          exact z_iret dL_share_148 (by unfold z_shp; first | rw [if_pos (by omega)] | (rw [if_neg (by omega), if_pos (by omega)]) | (rw [if_neg (by omega), if_neg (by omega)])) rfl
        · refine z_iconst dL_share_142 ?_
          refine z_goto (tgt := 147) dL_share_143 (by decide) ?_
          refine z_iadd dL_share_147 ?_
          exact z_iret dL_share_148 (by unfold z_shp; first | rw [if_pos (by omega)] | (rw [if_neg (by omega), if_pos (by omega)]) | (rw [if_neg (by omega), if_neg (by omega)])) rfl
      · refine z_iconst dL_share_119 ?_
        refine z_goto (tgt := 148) dL_share_120 (by decide) ?_
        exact z_iret dL_share_148 (by unfold z_shp; first | rw [if_pos (by omega)] | (rw [if_neg (by omega), if_pos (by omega)]) | (rw [if_neg (by omega), if_neg (by omega)])) rfl
    · exfalso; omega
  · intro i hi y_ih
    refine z_rng fun hr => ?_
    have y_i := z_s0_rg hq ha h0 h1 (p := i) (by omega) (by omega)
    have y_q := hq i (by omega) (by omega)
    have y_r := z_rr_rg (rest := rest) ha i
    have y_rp := z_rr_rg (rest := rest) ha p
    refine z_iload dL_share_30 rfl ?_
    refine z_iconst dL_share_32 ?_
    refine z_icmp_ge (tgt := 109) (by first | (exact hr _ _ (by decide)) | omega) (by first | (exact hr _ _ (by decide)) | omega) dL_share_33 (by decide) (fun h33 => ?_) (fun h33 => ?_)
    · exfalso; omega
    · refine z_iloadn dL_share_36 rfl ?_
      refine z_aloadn dL_share_37 rfl ?_
      refine z_iconst dL_share_38 ?_
      refine z_iloadn dL_share_39 rfl ?_
      refine z_imul dL_share_40 ?_
      refine z_iload dL_share_41 rfl ?_
      refine z_iadd dL_share_43 ?_
      refine z_lld (R := 40) (j := 426 + 12 * k + (i : Int)) al_pa (Or.inl (by decide)) (hv _ (by omega) (by omega)) (by omega) (by omega) (Nat.le_of_ble_eq_true rfl) (by omega) dL_share_44 ?_
      refine z_imul dL_share_45 ?_
      refine z_iload dL_share_46 rfl ?_
      refine z_irem y_i.1 (by omega) (by omega) (by omega) dL_share_48 ?_
      refine z_top (v' := z_rr B k rest i) rfl ?_
      refine z_istore_9 dL_share_49 (Nat.le_of_ble_eq_true rfl) rfl ?_
      refine z_iload dL_share_51 rfl ?_
      refine z_iloadn dL_share_53 rfl ?_
      refine z_aloadn dL_share_54 rfl ?_
      refine z_iconst dL_share_55 ?_
      refine z_iloadn dL_share_56 rfl ?_
      refine z_imul dL_share_57 ?_
      refine z_iload dL_share_58 rfl ?_
      refine z_iadd dL_share_60 ?_
      refine z_lld (R := 40) (j := 426 + 12 * k + (i : Int)) al_pa (Or.inl (by decide)) (hv _ (by omega) (by omega)) (by omega) (by omega) (Nat.le_of_ble_eq_true rfl) (by omega) dL_share_61 ?_
      refine z_imul dL_share_62 ?_
      refine z_iload dL_share_63 rfl ?_
      refine z_idiv y_i.1 (by omega) (by omega) (by omega) dL_share_65 ?_
      refine z_isub dL_share_66 ?_
      refine z_top (v' := rest - z_sm (i + 1) (z_s0 B k rest)) (by rw [z_sm_s]; show rest - z_sm i (z_s0 B k rest) - z_s0 B k rest i = _; omega) ?_
      refine z_istore_5 dL_share_67 (Nat.le_of_ble_eq_true rfl) rfl ?_
      refine z_aloadn dL_share_69 rfl ?_
      refine z_iconst dL_share_70 ?_
      refine z_iloadn dL_share_71 rfl ?_
      refine z_imul dL_share_72 ?_
      refine z_iload dL_share_73 rfl ?_
      refine z_iadd dL_share_75 ?_
      refine z_lld (R := 40) (j := 426 + 12 * k + (i : Int)) al_pa (Or.inl (by decide)) (hv _ (by omega) (by omega)) (by omega) (by omega) (Nat.le_of_ble_eq_true rfl) (by omega) dL_share_76 ?_
      refine z_if_le (tgt := 103) (by first | (exact hr _ _ (by decide)) | omega) dL_share_77 (by decide) (fun h77 => ?_) (fun h77 => ?_)
      · refine z_iinc_8 dL_share_103 (Nat.le_of_ble_eq_true rfl) rfl ?_
        refine z_goto (tgt := 30) dL_share_106 (by decide) ?_
        refine z_fgt 9 ?_
        have y_e : z_sm (i + 1) (fun q => if 0 < B (426 + 12 * k + q) ∧ (z_rr B k rest p < z_rr B k rest q ∨ (z_rr B k rest q = z_rr B k rest p ∧ q < p)) then 1 else 0) = z_sm i (fun q => if 0 < B (426 + 12 * k + q) ∧ (z_rr B k rest p < z_rr B k rest q ∨ (z_rr B k rest q = z_rr B k rest p ∧ q < p)) then 1 else 0) + (if 0 < B (426 + 12 * k + (i : Int)) ∧ (z_rr B k rest p < z_rr B k rest i ∨ (z_rr B k rest i = z_rr B k rest p ∧ (i : Int) < p)) then 1 else 0) := rfl
        first
          | (rw [if_pos (by omega)] at y_e; rw [y_e] at y_ih; exact y_ih)
          | (rw [if_neg (by omega), Int.add_zero] at y_e; rw [y_e] at y_ih; exact y_ih)
      · refine z_iload dL_share_80 rfl ?_
        refine z_iload dL_share_82 rfl ?_
        refine z_icmp_gt (tgt := 100) (by first | (exact hr _ _ (by decide)) | omega) (by first | (exact hr _ _ (by decide)) | omega) dL_share_84 (by decide) (fun h84 => ?_) (fun h84 => ?_)
        · refine z_iinc_6 dL_share_100 (Nat.le_of_ble_eq_true rfl) rfl ?_
          refine z_iinc_8 dL_share_103 (Nat.le_of_ble_eq_true rfl) rfl ?_
          refine z_goto (tgt := 30) dL_share_106 (by decide) ?_
          refine z_fgt 9 ?_
          have y_e : z_sm (i + 1) (fun q => if 0 < B (426 + 12 * k + q) ∧ (z_rr B k rest p < z_rr B k rest q ∨ (z_rr B k rest q = z_rr B k rest p ∧ q < p)) then 1 else 0) = z_sm i (fun q => if 0 < B (426 + 12 * k + q) ∧ (z_rr B k rest p < z_rr B k rest q ∨ (z_rr B k rest q = z_rr B k rest p ∧ q < p)) then 1 else 0) + (if 0 < B (426 + 12 * k + (i : Int)) ∧ (z_rr B k rest p < z_rr B k rest i ∨ (z_rr B k rest i = z_rr B k rest p ∧ (i : Int) < p)) then 1 else 0) := rfl
          first
            | (rw [if_pos (by omega)] at y_e; rw [y_e] at y_ih; exact y_ih)
            | (rw [if_neg (by omega), Int.add_zero] at y_e; rw [y_e] at y_ih; exact y_ih)
        · refine z_iload dL_share_87 rfl ?_
          refine z_iload dL_share_89 rfl ?_
          refine z_icmp_ne (tgt := 103) (by first | (exact hr _ _ (by decide)) | omega) (by first | (exact hr _ _ (by decide)) | omega) dL_share_91 (by decide) (fun h91 => ?_) (fun h91 => ?_)
          · refine z_iinc_8 dL_share_103 (Nat.le_of_ble_eq_true rfl) rfl ?_
            refine z_goto (tgt := 30) dL_share_106 (by decide) ?_
            refine z_fgt 9 ?_
            have y_e : z_sm (i + 1) (fun q => if 0 < B (426 + 12 * k + q) ∧ (z_rr B k rest p < z_rr B k rest q ∨ (z_rr B k rest q = z_rr B k rest p ∧ q < p)) then 1 else 0) = z_sm i (fun q => if 0 < B (426 + 12 * k + q) ∧ (z_rr B k rest p < z_rr B k rest q ∨ (z_rr B k rest q = z_rr B k rest p ∧ q < p)) then 1 else 0) + (if 0 < B (426 + 12 * k + (i : Int)) ∧ (z_rr B k rest p < z_rr B k rest i ∨ (z_rr B k rest i = z_rr B k rest p ∧ (i : Int) < p)) then 1 else 0) := rfl
            first
              | (rw [if_pos (by omega)] at y_e; rw [y_e] at y_ih; exact y_ih)
              | (rw [if_neg (by omega), Int.add_zero] at y_e; rw [y_e] at y_ih; exact y_ih)
          · refine z_iload dL_share_94 rfl ?_
            refine z_iloadn dL_share_96 rfl ?_
            refine z_icmp_ge (tgt := 103) (by first | (exact hr _ _ (by decide)) | omega) (by first | (exact hr _ _ (by decide)) | omega) dL_share_97 (by decide) (fun h97 => ?_) (fun h97 => ?_)
            · refine z_iinc_8 dL_share_103 (Nat.le_of_ble_eq_true rfl) rfl ?_
              refine z_goto (tgt := 30) dL_share_106 (by decide) ?_
              refine z_fgt 9 ?_
              have y_e : z_sm (i + 1) (fun q => if 0 < B (426 + 12 * k + q) ∧ (z_rr B k rest p < z_rr B k rest q ∨ (z_rr B k rest q = z_rr B k rest p ∧ q < p)) then 1 else 0) = z_sm i (fun q => if 0 < B (426 + 12 * k + q) ∧ (z_rr B k rest p < z_rr B k rest q ∨ (z_rr B k rest q = z_rr B k rest p ∧ q < p)) then 1 else 0) + (if 0 < B (426 + 12 * k + (i : Int)) ∧ (z_rr B k rest p < z_rr B k rest i ∨ (z_rr B k rest i = z_rr B k rest p ∧ (i : Int) < p)) then 1 else 0) := rfl
              first
                | (rw [if_pos (by omega)] at y_e; rw [y_e] at y_ih; exact y_ih)
                | (rw [if_neg (by omega), Int.add_zero] at y_e; rw [y_e] at y_ih; exact y_ih)
            · refine z_iinc_6 dL_share_100 (Nat.le_of_ble_eq_true rfl) rfl ?_
              refine z_iinc_8 dL_share_103 (Nat.le_of_ble_eq_true rfl) rfl ?_
              refine z_goto (tgt := 30) dL_share_106 (by decide) ?_
              refine z_fgt 9 ?_
              have y_e : z_sm (i + 1) (fun q => if 0 < B (426 + 12 * k + q) ∧ (z_rr B k rest p < z_rr B k rest q ∨ (z_rr B k rest q = z_rr B k rest p ∧ q < p)) then 1 else 0) = z_sm i (fun q => if 0 < B (426 + 12 * k + q) ∧ (z_rr B k rest p < z_rr B k rest q ∨ (z_rr B k rest q = z_rr B k rest p ∧ q < p)) then 1 else 0) + (if 0 < B (426 + 12 * k + (i : Int)) ∧ (z_rr B k rest p < z_rr B k rest i ∨ (z_rr B k rest i = z_rr B k rest p ∧ (i : Int) < p)) then 1 else 0) := rfl
              first
                | (rw [if_pos (by omega)] at y_e; rw [y_e] at y_ih; exact y_ih)
                | (rw [if_neg (by omega), Int.add_zero] at y_e; rw [y_e] at y_ih; exact y_ih)
theorem tL_gets {G : z_G} {M : z_M} {B : Int → Int} {g R : Nat} {p a t : Int} (hR : R = 40 + g) (hq : z_cq G g) (hE : M R = B) (p0 : 0 ≤ p) (p1 : p < 4) (a0 : 0 ≤ a) (a1 : a ≤ 3000000) (hd : z_bd B t 1000000000) : KL_gets G [z_I p, z_I a, .ref (z_ad G g 40), .ref (z_ad G g 46)] M (.inl (some (z_I (z_hl a (B (14 + 6 * p + 1)))))) (z_sR M R (z_inb B p a)) := by
  refine z_con (ls := [some (z_I p), some (z_I a), some (.ref (z_ad G g 40)), some (.ref (z_ad G g 46)), none]) (by decide +kernel) (Nat.le_of_ble_eq_true rfl) rfl ?_
  intro Z htb
  refine z_rng fun hr => ?_
  have y_d := hd
  obtain ⟨y_1, y_2, y_3, y_4, y_5, y_6, y_7, y_8⟩ := y_d
  have y_p := y_1 p p0 (by omega)
  have y_h := z_hl_rg a0 y_p.2.2.1
  refine z_iloadn dL_gets_0 rfl ?_
  refine z_iconst dL_gets_1 ?_
  refine z_idiv (by omega) (by omega) (by omega) (by omega) dL_gets_2 ?_
  refine z_iloadn dL_gets_3 rfl ?_
  refine z_iconst dL_gets_4 ?_
  refine z_irem (by omega) (by omega) (by omega) (by omega) dL_gets_5 ?_
  refine z_iadd dL_gets_6 ?_
  refine z_istore_4 dL_gets_7 (Nat.le_of_ble_eq_true rfl) rfl ?_
  refine z_iload dL_gets_9 rfl ?_
  refine z_aloadn dL_gets_11 rfl ?_
  refine z_bipush dL_gets_12 (by decide) ?_
  refine z_iloadn dL_gets_14 rfl ?_
  refine z_imul dL_gets_15 ?_
  refine z_iconst dL_gets_16 ?_
  refine z_iadd dL_gets_17 ?_
  refine z_lld (R := R) (j := 14 + 6 * p + 1) (alg_pe hR) (z_cq_dm hq (by omega)) (congrFun hE _) (by omega) (by omega) (Nat.le_of_ble_eq_true rfl) (by omega) dL_gets_18 ?_
  refine z_icmp_le (tgt := 32) (by first | (exact hr _ _ (by decide)) | omega) (by first | (exact hr _ _ (by decide)) | omega) dL_gets_19 (by decide) (fun h19 => ?_) (fun h19 => ?_)
  · refine z_lsE (ls' := [some (z_I p), some (z_I a), some (.ref (z_ad G g 40)), some (.ref (z_ad G g 46)), some (z_I (z_hl a (B (14 + 6 * p + 1))))]) (congrArg (fun q : Int => ([some (z_I p), some (z_I a), some (.ref (z_ad G g 40)), some (.ref (z_ad G g 46)), some (z_I q)] : List (Option Value))) (by unfold z_hl; split <;> omega)) ?_
    refine z_aloadn dL_gets_32 rfl ?_
    refine z_bipush dL_gets_33 (by decide) ?_
    refine z_iloadn dL_gets_35 rfl ?_
    refine z_imul dL_gets_36 ?_
    refine z_iconst dL_gets_37 ?_
    refine z_iadd dL_gets_38 ?_
    refine z_dup2 dL_gets_39 rfl rfl ?_
    refine z_lld (R := R) (j := 14 + 6 * p + 1) (alg_pe hR) (z_cq_dm hq (by omega)) (congrFun hE _) (by omega) (by omega) (Nat.le_of_ble_eq_true rfl) (by omega) dL_gets_40 ?_
    refine z_iload dL_gets_41 rfl ?_
    refine z_isub dL_gets_43 ?_
    refine z_lst (R := R) (j := 14 + 6 * p + 1) (alg_pe hR) (z_cq_dm hq (by omega)) (by omega) (by omega) (Nat.le_of_ble_eq_true rfl) (by omega) (by first | (exact hr _ _ (by decide)) | omega) dL_gets_44 ?_
    refine z_rng fun hr => ?_
    refine z_aloadn dL_gets_45 rfl ?_
    refine z_bipush dL_gets_46 (by decide) ?_
    refine z_iloadn dL_gets_48 rfl ?_
    refine z_imul dL_gets_49 ?_
    refine z_dup2 dL_gets_50 rfl rfl ?_
    refine z_lld (R := R) (j := 14 + 6 * p) (alg_pe hR) (z_cq_dm hq (by omega)) ((z_sM_ne _ _ _ (by omega)).trans (congrFun hE _)) (by omega) (by omega) (Nat.le_of_ble_eq_true rfl) (by omega) dL_gets_51 ?_
    refine z_iloadn dL_gets_52 rfl ?_
    refine z_iload dL_gets_53 rfl ?_
    refine z_isub dL_gets_55 ?_
    refine z_iadd dL_gets_56 ?_
    refine z_lst (R := R) (j := 14 + 6 * p) (alg_pe hR) (z_cq_dm hq (by omega)) (by omega) (by omega) (Nat.le_of_ble_eq_true rfl) (by omega) (by first | (exact hr _ _ (by decide)) | omega) dL_gets_57 ?_
    refine z_rng fun hr => ?_
    refine z_aloadn dL_gets_58 rfl ?_
    refine z_bipush dL_gets_59 (by decide) ?_
    refine z_iloadn dL_gets_61 rfl ?_
    refine z_imul dL_gets_62 ?_
    refine z_iconst dL_gets_63 ?_
    refine z_iadd dL_gets_64 ?_
    refine z_dup2 dL_gets_65 rfl rfl ?_
    refine z_lld (R := R) (j := 14 + 6 * p + 2) (alg_pe hR) (z_cq_dm hq (by omega)) ((z_sM_ne _ _ _ (by omega)).trans ((z_sM_ne _ _ _ (by omega)).trans (congrFun hE _))) (by omega) (by omega) (Nat.le_of_ble_eq_true rfl) (by omega) dL_gets_66 ?_
    refine z_iloadn dL_gets_67 rfl ?_
    refine z_iadd dL_gets_68 ?_
    refine z_lst (R := R) (j := 14 + 6 * p + 2) (alg_pe hR) (z_cq_dm hq (by omega)) (by omega) (by omega) (Nat.le_of_ble_eq_true rfl) (by omega) (by first | (exact hr _ _ (by decide)) | omega) dL_gets_69 ?_
    refine z_rng fun hr => ?_
    refine z_aloadn dL_gets_70 rfl ?_
    refine z_iconst dL_gets_71 ?_
    refine z_dup2 dL_gets_72 rfl rfl ?_
    refine z_lld (R := R) (j := 3) (alg_c hR) (z_cq_dm hq (by omega)) ((z_sM_ne _ _ _ (by omega)).trans ((z_sM_ne _ _ _ (by omega)).trans ((z_sM_ne _ _ _ (by omega)).trans (congrFun hE _)))) (by omega) (by omega) (Nat.le_of_ble_eq_true rfl) (by omega) dL_gets_73 ?_
    refine z_iload dL_gets_74 rfl ?_
    refine z_iadd dL_gets_76 ?_
    refine z_lst (R := R) (j := 3) (alg_c hR) (z_cq_dm hq (by omega)) (by omega) (by omega) (Nat.le_of_ble_eq_true rfl) (by omega) (by first | (exact hr _ _ (by decide)) | omega) dL_gets_77 ?_
    refine z_rng fun hr => ?_
    refine z_iload dL_gets_78 rfl ?_
    exact z_iret dL_gets_80 (by first | rfl | omega) (by simp only [z_sM_R, z_sR_R, z_sR_self]; rw [hE]; congr 1; unfold z_inb; funext j; simp only [z_uf]; (repeat' split) <;> first | rfl | omega)
  · refine z_aloadn dL_gets_22 rfl ?_
    refine z_bipush dL_gets_23 (by decide) ?_
    refine z_iloadn dL_gets_25 rfl ?_
    refine z_imul dL_gets_26 ?_
    refine z_iconst dL_gets_27 ?_
    refine z_iadd dL_gets_28 ?_
    refine z_lld (R := R) (j := 14 + 6 * p + 1) (alg_pe hR) (z_cq_dm hq (by omega)) (congrFun hE _) (by omega) (by omega) (Nat.le_of_ble_eq_true rfl) (by omega) dL_gets_29 ?_
    refine z_istore_4 dL_gets_30 (Nat.le_of_ble_eq_true rfl) rfl ?_
    refine z_lsE (ls' := [some (z_I p), some (z_I a), some (.ref (z_ad G g 40)), some (.ref (z_ad G g 46)), some (z_I (z_hl a (B (14 + 6 * p + 1))))]) (congrArg (fun q : Int => ([some (z_I p), some (z_I a), some (.ref (z_ad G g 40)), some (.ref (z_ad G g 46)), some (z_I q)] : List (Option Value))) (by unfold z_hl; split <;> omega)) ?_
    refine z_aloadn dL_gets_32 rfl ?_
    refine z_bipush dL_gets_33 (by decide) ?_
    refine z_iloadn dL_gets_35 rfl ?_
    refine z_imul dL_gets_36 ?_
    refine z_iconst dL_gets_37 ?_
    refine z_iadd dL_gets_38 ?_
    refine z_dup2 dL_gets_39 rfl rfl ?_
    refine z_lld (R := R) (j := 14 + 6 * p + 1) (alg_pe hR) (z_cq_dm hq (by omega)) (congrFun hE _) (by omega) (by omega) (Nat.le_of_ble_eq_true rfl) (by omega) dL_gets_40 ?_
    refine z_iload dL_gets_41 rfl ?_
    refine z_isub dL_gets_43 ?_
    refine z_lst (R := R) (j := 14 + 6 * p + 1) (alg_pe hR) (z_cq_dm hq (by omega)) (by omega) (by omega) (Nat.le_of_ble_eq_true rfl) (by omega) (by first | (exact hr _ _ (by decide)) | omega) dL_gets_44 ?_
    refine z_rng fun hr => ?_
    refine z_aloadn dL_gets_45 rfl ?_
    refine z_bipush dL_gets_46 (by decide) ?_
    refine z_iloadn dL_gets_48 rfl ?_
    refine z_imul dL_gets_49 ?_
    refine z_dup2 dL_gets_50 rfl rfl ?_
    refine z_lld (R := R) (j := 14 + 6 * p) (alg_pe hR) (z_cq_dm hq (by omega)) ((z_sM_ne _ _ _ (by omega)).trans (congrFun hE _)) (by omega) (by omega) (Nat.le_of_ble_eq_true rfl) (by omega) dL_gets_51 ?_
    refine z_iloadn dL_gets_52 rfl ?_
    refine z_iload dL_gets_53 rfl ?_
    refine z_isub dL_gets_55 ?_
    refine z_iadd dL_gets_56 ?_
    refine z_lst (R := R) (j := 14 + 6 * p) (alg_pe hR) (z_cq_dm hq (by omega)) (by omega) (by omega) (Nat.le_of_ble_eq_true rfl) (by omega) (by first | (exact hr _ _ (by decide)) | omega) dL_gets_57 ?_
    refine z_rng fun hr => ?_
    refine z_aloadn dL_gets_58 rfl ?_
    refine z_bipush dL_gets_59 (by decide) ?_
    refine z_iloadn dL_gets_61 rfl ?_
    refine z_imul dL_gets_62 ?_
    refine z_iconst dL_gets_63 ?_
    refine z_iadd dL_gets_64 ?_
    refine z_dup2 dL_gets_65 rfl rfl ?_
    refine z_lld (R := R) (j := 14 + 6 * p + 2) (alg_pe hR) (z_cq_dm hq (by omega)) ((z_sM_ne _ _ _ (by omega)).trans ((z_sM_ne _ _ _ (by omega)).trans (congrFun hE _))) (by omega) (by omega) (Nat.le_of_ble_eq_true rfl) (by omega) dL_gets_66 ?_
    refine z_iloadn dL_gets_67 rfl ?_
    refine z_iadd dL_gets_68 ?_
    refine z_lst (R := R) (j := 14 + 6 * p + 2) (alg_pe hR) (z_cq_dm hq (by omega)) (by omega) (by omega) (Nat.le_of_ble_eq_true rfl) (by omega) (by first | (exact hr _ _ (by decide)) | omega) dL_gets_69 ?_
    refine z_rng fun hr => ?_
    refine z_aloadn dL_gets_70 rfl ?_
    refine z_iconst dL_gets_71 ?_
    refine z_dup2 dL_gets_72 rfl rfl ?_
    refine z_lld (R := R) (j := 3) (alg_c hR) (z_cq_dm hq (by omega)) ((z_sM_ne _ _ _ (by omega)).trans ((z_sM_ne _ _ _ (by omega)).trans ((z_sM_ne _ _ _ (by omega)).trans (congrFun hE _)))) (by omega) (by omega) (Nat.le_of_ble_eq_true rfl) (by omega) dL_gets_73 ?_
    refine z_iload dL_gets_74 rfl ?_
    refine z_iadd dL_gets_76 ?_
    refine z_lst (R := R) (j := 3) (alg_c hR) (z_cq_dm hq (by omega)) (by omega) (by omega) (Nat.le_of_ble_eq_true rfl) (by omega) (by first | (exact hr _ _ (by decide)) | omega) dL_gets_77 ?_
    refine z_rng fun hr => ?_
    refine z_iload dL_gets_78 rfl ?_
    exact z_iret dL_gets_80 (by first | rfl | omega) (by simp only [z_sM_R, z_sR_R, z_sR_self]; rw [hE]; congr 1; unfold z_inb; funext j; simp only [z_uf]; (repeat' split) <;> first | rfl | omega)
theorem tL_same {G : z_G} {M : z_M} {k m : Nat} {ix : Int → Int} (ho : z_on G) (hk : k = 40 ∨ k = 41 ∨ k = 44 ∨ k = 46) (hal : z_al 0 k = some (0, 40, m, ix)) (hal2 : z_al 1 k = some (0, 41, m, ix)) (hm : m ≤ 6000) : KL_same G [.ref (z_ad G 1 k), .ref (z_ad G 0 k)] M (.inl none) (z_sR M 41 (z_fcp ix (M 40) (M 41) m)) := by
  refine z_con (ls := [some (.ref (z_ad G 1 k)), some (.ref (z_ad G 0 k)), none]) (by decide +kernel) (Nat.le_of_ble_eq_true rfl) rfl ?_
  intro Z htb
  refine z_rng fun hr => ?_
  have y_rb : ∀ i, z_rg (M 40 i) := fun i => hr 40 i (by decide)
  refine z_iconst dL_same_0 ?_
  refine z_istoren_2 dL_same_1 (Nat.le_of_ble_eq_true rfl) rfl ?_
  refine z_mem (M' := z_sR M 41 (z_fcp ix (M 40) (M 41) 0)) (z_sR_id _ _).symm ?_
  refine z_upn (P := fun i : Nat => z_J G Z _ _ 2 [some (.ref (z_ad G 1 k)), some (.ref (z_ad G 0 k)), some (z_I i)] [] (z_sR M 41 (z_fcp ix (M 40) (M 41) i)) 0 0) m ?_ ?_
  · refine z_rng fun hr => ?_
    refine z_iloadn dL_same_2 rfl ?_
    refine z_aloadn dL_same_3 rfl ?_
    refine z_alen hal (z_cq_dm (Or.inl rfl) hk) dL_same_4 ?_
    refine z_icmp_ge (tgt := 20) (by first | exact y_rb _ | (exact hr _ _ (by decide)) | omega) (by first | exact y_rb _ | (exact hr _ _ (by decide)) | omega) dL_same_5 (by decide) (fun h5 => ?_) (fun h5 => ?_)
    · exact z_vret dL_same_20 rfl
    · exfalso; omega
  · intro i hi y_ih
    refine z_rng fun hr => ?_
    refine z_iloadn dL_same_2 rfl ?_
    refine z_aloadn dL_same_3 rfl ?_
    refine z_alen hal (z_cq_dm (Or.inl rfl) hk) dL_same_4 ?_
    refine z_icmp_ge (tgt := 20) (by first | exact y_rb _ | (exact hr _ _ (by decide)) | omega) (by first | exact y_rb _ | (exact hr _ _ (by decide)) | omega) dL_same_5 (by decide) (fun h5 => ?_) (fun h5 => ?_)
    · exfalso; omega
    · refine z_aloadn dL_same_8 rfl ?_
      refine z_iloadn dL_same_9 rfl ?_
      refine z_aloadn dL_same_10 rfl ?_
      refine z_iloadn dL_same_11 rfl ?_
      refine z_lld (R := 40) (j := ix (i : Int)) hal (z_cq_dm (Or.inl rfl) hk) (congrFun (z_sR_ne _ _ (by decide)) _) (by omega) (by omega) hm (by omega) dL_same_12 ?_
      refine z_lst (R := 41) (j := ix (i : Int)) hal2 (z_cq_dm (Or.inr ⟨ho, rfl⟩) hk) (by omega) (by omega) hm (by omega) (by first | exact y_rb _ | (exact hr _ _ (by decide)) | omega) dL_same_13 ?_
      refine z_rng fun hr => ?_
      refine z_iinc_2 dL_same_14 (Nat.le_of_ble_eq_true rfl) rfl ?_
      refine z_goto (tgt := 2) dL_same_17 (by decide) ?_
      refine z_mem ?_ y_ih
      rw [z_sM_sR]
      rfl
