/-! ===== money that comes in: what it depends on ===== -/
theorem z_am_eq {r r' : Int → Int} (h : ∀ p, 0 ≤ p → p < 12 → r p = r' p) : ∀ n : Nat, n < 12 → z_am r n = z_am r' n := by
  intro n
  induction n with
  | zero => intro _; rfl
  | succ n ih =>
    intro hn
    have e := ih (by omega)
    have l := z_am_le r n
    show (if r (z_am r n) < r ((n + 1 : Nat) : Int) then ((n + 1 : Nat) : Int) else z_am r n) = if r' (z_am r' n) < r' ((n + 1 : Nat) : Int) then ((n + 1 : Nat) : Int) else z_am r' n
    rw [← e, h (z_am r n) (by omega) (by omega), h ((n + 1 : Nat) : Int) (by omega) (by omega)]
theorem z_gv_eq {x : Int} : ∀ (m : Nat) {s r s' r' : Int → Int}, (∀ p, 0 ≤ p → p < 12 → s p = s' p ∧ r p = r' p) → ∀ p, 0 ≤ p → p < 12 → (z_gv x m s r).1 p = (z_gv x m s' r').1 p := by
  intro m
  induction m with
  | zero => intro s r s' r' h p p0 p1; exact (h p p0 p1).1
  | succ m ih =>
    intro s r s' r' h p p0 p1
    have e := z_am_eq (fun q q0 q1 => (h q q0 q1).2) 11 (by omega)
    show (z_gv x m (z_uf s (z_am r 11) (s (z_am r 11) + 1)) (z_uf r (z_am r 11) x)).1 p = (z_gv x m (z_uf s' (z_am r' 11) (s' (z_am r' 11) + 1)) (z_uf r' (z_am r' 11) x)).1 p
    have l := z_am_le r 11
    rw [← e]
    exact ih (fun q q0 q1 => by
      have h1 := h q q0 q1
      have h2 := h (z_am r 11) (by omega) (by omega)
      unfold z_uf
      constructor
      · split
        · omega
        · exact h1.1
      · split
        · rfl
        · exact h1.2) p p0 p1
theorem z_sh_ind {b : Int → Int} {k rest : Int} (s0 r0 s1 r1 : Int → Int) : ∀ p, 0 ≤ p → p < 12 → (z_sh b k rest s0 r0).1 p = (z_sh b k rest s1 r1).1 p := by
  unfold z_sh
  exact z_gv_eq _ (fun q q0 q1 => by unfold z_cp; constructor <;> rw [if_pos (by omega), if_pos (by omega)])
theorem z_lps_eq {y k : Int} {S S' : Int → Int} {x : (Int → Int) × Int} : ∀ n : Nat, (∀ p : Int, 0 ≤ p → p < n → S p = S' p) → z_lps y S k n x = z_lps y S' k n x := by
  intro n
  induction n with
  | zero => intro _; rfl
  | succ n ih =>
    intro h
    show z_stp y S k n (z_lps y S k n x) = z_stp y S' k n (z_lps y S' k n x)
    rw [ih (fun p p0 p1 => h p p0 (by omega))]
    unfold z_stp
    rw [h n (by omega) (by omega)]
theorem z_com2_ind {b : Int → Int} {k a y : Int} (n1 : b 0 ≤ 12) (s0 r0 s1 r1 : Int → Int) : z_com2 b k a y s0 r0 = z_com2 b k a y s1 r1 :=
  z_lps_eq _ fun p p0 p1 => z_sh_ind s0 r0 s1 r1 p p0 (by omega)
def z_cm (b : Int → Int) (k a y : Int) : (Int → Int) × Int := z_com2 b k a y (fun _ => 0) (fun _ => 0)
theorem z_com2_cm {b : Int → Int} {k a y : Int} (n1 : b 0 ≤ 12) (s0 r0 : Int → Int) : z_com2 b k a y s0 r0 = z_cm b k a y := z_com2_ind n1 _ _ _ _
theorem z_stp_out {y : Int} {S : Int → Int} {k p j : Int} {x : (Int → Int) × Int} (k0 : 0 ≤ k) (k1 : k < 20) (p0 : 0 ≤ p) (p1 : p < 12) (hj : j < 0 ∨ 906 ≤ j) : (z_stp y S k p x).1 j = x.1 j := by
  unfold z_stp
  split
  · exact z_inb_o (by omega)
  · exact (z_inb_o (by omega)).trans (z_cpb_o (by omega))
theorem z_lps_out {y : Int} {S : Int → Int} {k j : Int} {x : (Int → Int) × Int} (k0 : 0 ≤ k) (k1 : k < 20) (hj : j < 0 ∨ 906 ≤ j) : ∀ n : Nat, n ≤ 12 → (z_lps y S k n x).1 j = x.1 j := by
  intro n
  induction n with
  | zero => intro _; rfl
  | succ n ih => intro h; exact (z_stp_out k0 k1 (by omega) (by omega) hj).trans (ih (by omega))
theorem z_com2_out {b : Int → Int} {k a y j : Int} {s0 r0 : Int → Int} (k0 : 0 ≤ k) (k1 : k < 20) (n1 : b 0 ≤ 12) (go : 0 ≤ b (14 + 6 * b (86 + 5 * k) + 3) ∧ b (14 + 6 * b (86 + 5 * k) + 3) < 12) (hj : j < 0 ∨ 906 ≤ j) : (z_com2 b k a y s0 r0).1 j = b j := by
  refine (z_lps_out k0 k1 hj _ (by omega)).trans ?_
  unfold z_ci
  split
  · show z_cb1 b a j = b j
    unfold z_cb1
    rw [z_uf_ne _ _ (by omega), z_uf_ne _ _ (by omega)]
  · refine (z_inb_o ?_).trans (z_cb2_o (by omega))
    unfold z_oo
    omega
theorem z_cm_bd {b : Int → Int} {k a y : Int} (k0 : 0 ≤ k) (k1 : k < 20) (a0 : 0 ≤ a) (a1 : a ≤ 100000) (h : z_cF b k) : z_bd (z_cm b k a y).1 (z_cm b k a y).2 1000000000 := by
  obtain ⟨h1, h2, h3, h4, h5, h6, h7, h8, h9, h10, h11⟩ := h
  have hc := z_ci_rg (y := y) k0 k1 a0 a1 h3 h6 h7 h9 h11
  have hr := z_rs_rg (y := y) a0 a1 h6 h7
  have hs := z_sh_rg (s0 := fun _ => 0) (r0 := fun _ => 0) h1 h2 hr.1 hr.2
  exact z_bd_mono (by omega) (z_bd_lps k0 k1 hs hc.1 (b 0).toNat (by omega))
/-- what pen p would get if a was paid for piece k -/
def z_paid (b : Int → Int) (k a p : Int) : Int := (z_cm b k a 1).1 (14 + 6 * p) - b (14 + 6 * p)
theorem z_paid_rg {b : Int → Int} {k a p : Int} (k0 : 0 ≤ k) (k1 : k < 20) (a0 : 0 ≤ a) (a1 : a ≤ 100000) (p0 : 0 ≤ p) (p1 : p < 12) (h : z_cF b k) : z_rg (z_paid b k a p) := by
  have h1 := (z_cm_bd (y := 1) k0 k1 a0 a1 h).1 p p0 p1
  have h2 := h.2.2.1.1 p p0 p1
  unfold z_paid
  omega
abbrev z_keep (M : z_M) : z_M := z_sR M 23 (z_cp (M 23) (M 22) 0 0 906)
abbrev z_pdM (M : z_M) (k a : Int) : z_M := z_m4 (z_keep M) (M 22) (z_cm (M 22) k a 1).2 (z_sh (M 22) k (z_rs (M 22) a 1) (M 27) (M 28)).1 (z_sh (M 22) k (z_rs (M 22) a 1) (M 27) (M 28)).2
theorem z_pdM_eq {M : z_M} {k a : Int} (k0 : 0 ≤ k) (k1 : k < 20) (h : z_cF (M 22) k) : z_sR (z_m4 (z_keep M) (z_com2 (M 22) k a 1 (M 27) (M 28)).1 (z_com2 (M 22) k a 1 (M 27) (M 28)).2 (z_sh (M 22) k (z_rs (M 22) a 1) (M 27) (M 28)).1 (z_sh (M 22) k (z_rs (M 22) a 1) (M 27) (M 28)).2) 22 (z_cp (z_com2 (M 22) k a 1 (M 27) (M 28)).1 (z_cp (M 23) (M 22) 0 0 906) 0 0 906) = z_pdM M k a := by
  obtain ⟨h1, h2, h3, h4, h5, h6, h7, h8, h9, h10, h11⟩ := h
  rw [z_m4_R, z_com2_cm h4.2]
  congr 1
  · congr 2
    congr 1
    funext j
    unfold z_cp
    by_cases e : 0 ≤ j ∧ j < 0 + 906
    · rw [if_pos e, if_pos (by omega)]; congr 1; omega
    · rw [if_neg e]; exact z_com2_out k0 k1 h4.2 h11 (by omega)
def z_bst (b : Int → Int) (p t : Int) : Nat → Int × Int
  | 0 => (-1, -1)
  | n + 1 => if (z_bst b p t n).2 < (if b (86 + 5 * n + 2) = 3 then z_paid b n t p else -1) then ((n : Int), if b (86 + 5 * n + 2) = 3 then z_paid b n t p else -1) else z_bst b p t n
def z_bsM (M : z_M) (t : Int) : Nat → z_M
  | 0 => M
  | n + 1 => if (M 22) (86 + 5 * n + 2) = 3 then z_pdM (z_bsM M t n) n t else z_bsM M t n
theorem z_bsM_22 (M : z_M) (t : Int) (n : Nat) : z_bsM M t n 22 = M 22 := by
  induction n with
  | zero => rfl
  | succ n ih => unfold z_bsM; split <;> exact ih
def z_bestN (b : Int → Int) (p t : Int) : Int := (z_bst b p t (b 1).toNat).1
def z_c_ifPaid (b : Int → Int) (k a p : Int) : Int := if ¬ (0 ≤ k ∧ k < b 1) ∨ ¬ (0 ≤ p ∧ p < b 0) then 1 else if ¬ (1 ≤ a ∧ a ≤ 100000) then 2 else if b (86 + 5 * k + 2) = 3 then 0 else 3
def z_c_bestPiece (b : Int → Int) (p t : Int) : Int := if ¬ (0 ≤ p ∧ p < b 0) then 1 else if ¬ (1 ≤ t ∧ t ≤ 100000) then 2 else 0
theorem z_bv_rg {b : Int → Int} {N k p t : Int} (hb : z_BI b N) (k0 : 0 ≤ k) (k1 : k < b 1) (t0 : 0 ≤ t) (t1 : t ≤ 100000) (p0 : 0 ≤ p) (p1 : p < 12) : z_rg (if b (86 + 5 * k + 2) = 3 then z_paid b k t p else -1) := by
  have hh := z_BI_h hb
  split
  · exact z_paid_rg k0 (by omega) t0 t1 p0 p1 (z_BI_cF hb k0 k1)
  · decide
theorem z_bst_rg {b : Int → Int} {N p t : Int} (hb : z_BI b N) (t0 : 0 ≤ t) (t1 : t ≤ 100000) (p0 : 0 ≤ p) (p1 : p < 12) : ∀ n : Nat, n ≤ b 1 → z_rg (z_bst b p t n).2 ∧ z_rg (z_bst b p t n).1 := by
  intro n
  induction n with
  | zero => intro _; exact ⟨by show z_rg (-1); decide, by show z_rg (-1); decide⟩
  | succ n ih =>
    intro h
    have hh := z_BI_h hb
    have e : z_bst b p t (n + 1) = if (z_bst b p t n).2 < (if b (86 + 5 * (n : Int) + 2) = 3 then z_paid b n t p else -1) then ((n : Int), if b (86 + 5 * (n : Int) + 2) = 3 then z_paid b n t p else -1) else z_bst b p t n := rfl
    have hv := z_bv_rg (k := n) hb (by omega) (by omega) t0 t1 p0 p1
    generalize (if b (86 + 5 * (n : Int) + 2) = 3 then z_paid b n t p else -1) = v at *
    rw [e]
    by_cases hc : (z_bst b p t n).2 < v
    · rw [if_pos hc]
      exact ⟨hv, by show z_rg (n : Int); omega⟩
    · rw [if_neg hc]
      exact ih (by omega)
theorem tX7_paidNow {G : z_G} {M : z_M} {N k a p : Int} (hb : z_BI (M 22) N) (k0 : 0 ≤ k) (k1 : k < M 22 1) (a0 : 1 ≤ a) (a1 : a ≤ 100000) (p0 : 0 ≤ p) (p1 : p < 12) : KX7_paidNow G [.ref (z_ad G 0 40), z_I k, z_I a, z_I p] M (.inl (some (z_I (z_paid (M 22) k a p)))) (z_pdM M k a) := by
  refine z_con (ls := [some (.ref (z_ad G 0 40)), some (z_I k), some (z_I a), some (z_I p), none]) (by decide +kernel) (Nat.le_of_ble_eq_true rfl) rfl ?_
  intro Z htb
  refine z_rng fun hr => ?_
  have hh := z_BI_h hb
  have y_f := z_BI_cF hb k0 k1
  have k2 : k < 20 := by omega
  refine z_aloadn dX7_paidNow_0 rfl ?_
  refine kX7_215 tX7_keep rfl ⟨(Nat.le_of_ble_eq_true rfl), (Nat.le_of_ble_eq_true rfl)⟩ (Nat.le_of_ble_eq_true rfl) dX7_paidNow_1 ?_
  refine z_rng fun hr => ?_
  refine z_aloadn dX7_paidNow_4 rfl ?_
  refine z_iloadn dX7_paidNow_5 rfl ?_
  refine z_iloadn dX7_paidNow_6 rfl ?_
  refine z_iconst dX7_paidNow_7 ?_
  refine kX7_156 (tX7_com1 (by omega) (by omega) (by omega) (by omega) y_f) rfl ⟨(Nat.le_of_ble_eq_true rfl), (Nat.le_of_ble_eq_true rfl)⟩ (Nat.le_of_ble_eq_true rfl) dX7_paidNow_8 ?_
  refine z_rng fun hr => ?_
  refine z_aloadn dX7_paidNow_11 rfl ?_
  refine z_iloadn dX7_paidNow_12 rfl ?_
  refine z_iconst dX7_paidNow_13 ?_
  refine kX7_61 (tX7_of0 (by omega) (by omega)) rfl ⟨(Nat.le_of_ble_eq_true rfl), (Nat.le_of_ble_eq_true rfl)⟩ (Nat.le_of_ble_eq_true rfl) dX7_paidNow_14 ?_
  refine z_istore_4 dX7_paidNow_17 (Nat.le_of_ble_eq_true rfl) rfl ?_
  refine z_aloadn dX7_paidNow_19 rfl ?_
  refine kX7_218 tX7_bring rfl ⟨(Nat.le_of_ble_eq_true rfl), (Nat.le_of_ble_eq_true rfl)⟩ (Nat.le_of_ble_eq_true rfl) dX7_paidNow_20 ?_
  refine z_rng fun hr => ?_
  refine z_iload dX7_paidNow_23 rfl ?_
  refine z_aloadn dX7_paidNow_25 rfl ?_
  refine z_iloadn dX7_paidNow_26 rfl ?_
  refine z_iconst dX7_paidNow_27 ?_
  refine kX7_61 (tX7_of0 (by omega) (by omega)) rfl ⟨(Nat.le_of_ble_eq_true rfl), (Nat.le_of_ble_eq_true rfl)⟩ (Nat.le_of_ble_eq_true rfl) dX7_paidNow_28 ?_
  refine z_isub dX7_paidNow_31 ?_
  exact z_iret dX7_paidNow_32 (by show _ = (z_cm (M 22) k a 1).1 (14 + 6 * p) - (M 22) (14 + 6 * p); rw [← z_com2_cm (show (M 22) 0 ≤ 12 by omega) (M 27) (M 28)]; congr 1; exact congrFun (congrFun (z_pdM_eq k0 k2 y_f) 22) _) (z_pdM_eq k0 k2 y_f)
theorem tX7_bestNow {G : z_G} {M : z_M} {N p t : Int} (hb : z_BI (M 22) N) (p0 : 0 ≤ p) (p1 : p < 12) (t0 : 1 ≤ t) (t1 : t ≤ 100000) : KX7_bestNow G [.ref (z_ad G 0 40), z_I p, z_I t] M (.inl (some (z_I (z_bestN (M 22) p t)))) (z_bsM M t (M 22 1).toNat) := by
  refine z_con (ls := [some (.ref (z_ad G 0 40)), some (z_I p), some (z_I t), none, none, none, none]) (by decide +kernel) (Nat.le_of_ble_eq_true rfl) rfl ?_
  intro Z htb
  refine z_rng fun hr => ?_
  have hh := z_BI_h hb
  refine z_iconst dX7_bestNow_0 ?_
  refine z_istoren_3 dX7_bestNow_1 (Nat.le_of_ble_eq_true rfl) rfl ?_
  refine z_iconst dX7_bestNow_2 ?_
  refine z_istore_4 dX7_bestNow_3 (Nat.le_of_ble_eq_true rfl) rfl ?_
  refine z_iconst dX7_bestNow_5 ?_
  refine z_istore_5 dX7_bestNow_6 (Nat.le_of_ble_eq_true rfl) rfl ?_
  refine z_upn (P := fun i : Nat => z_J G Z _ _ 8 [some (.ref (z_ad G 0 40)), some (z_I p), some (z_I t), some (z_I (z_bst (M 22) p t i).1), some (z_I (z_bst (M 22) p t i).2), some (z_I i), none] [] (z_bsM M t i) 0 0) (M 22 1).toNat ?_ ?_
  · have y_22 := z_bsM_22 M t (M 22 1).toNat
    refine z_rng fun hr => ?_
    refine z_iload dX7_bestNow_8 rfl ?_
    refine z_aloadn dX7_bestNow_10 rfl ?_
    refine gX7_7 rfl dX7_bestNow_11 ?_
    refine z_iconst dX7_bestNow_14 ?_
    refine z_iald (by rfl) (by first | decide | exact Or.inl ⟨by decide, hg⟩) (by omega) (by omega) (by decide) dX7_bestNow_15 ?_
    refine z_top (v' := M 22 1) (by rw [y_22]) ?_
    refine z_icmp_ge (tgt := 80) (by first | (exact hr _ _ (by decide)) | omega) (by omega) dX7_bestNow_16 (by decide) (fun h16 => ?_) (fun h16 => ?_)
    · refine z_iloadn dX7_bestNow_80 rfl ?_
      exact z_iret dX7_bestNow_81 (by first | rfl | omega) rfl
    · exfalso; omega
  · intro i hi y_ih
    have y_22 := z_bsM_22 M t i
    have y_s : z_bst (M 22) p t (i + 1) = if (z_bst (M 22) p t i).2 < (if M 22 (86 + 5 * (i : Int) + 2) = 3 then z_paid (M 22) i t p else -1) then ((i : Int), (if M 22 (86 + 5 * (i : Int) + 2) = 3 then z_paid (M 22) i t p else -1)) else z_bst (M 22) p t i := rfl
    have y_t : z_bsM M t (i + 1) = if M 22 (86 + 5 * (i : Int) + 2) = 3 then z_pdM (z_bsM M t i) i t else z_bsM M t i := rfl
    have y_rv := z_bv_rg (k := i) hb (by omega) (by omega) (show 0 ≤ t by omega) t1 p0 p1
    have y_rs := z_bst_rg hb (show 0 ≤ t by omega) t1 p0 p1 i (by omega)
    generalize z_bsM M t i = A at *
    have y_hb : z_BI (A 22) N := by rw [y_22]; exact hb
    refine z_rng fun hr => ?_
    have y_r22 := hr 22 (86 + 5 * (i : Int) + 2) (by decide)
    rw [y_22] at y_r22
    refine z_iload dX7_bestNow_8 rfl ?_
    refine z_aloadn dX7_bestNow_10 rfl ?_
    refine gX7_7 rfl dX7_bestNow_11 ?_
    refine z_iconst dX7_bestNow_14 ?_
    refine z_iald (by rfl) (by first | decide | exact Or.inl ⟨by decide, hg⟩) (by omega) (by omega) (by decide) dX7_bestNow_15 ?_
    refine z_top (v' := M 22 1) (by rw [y_22]) ?_
    refine z_icmp_ge (tgt := 80) (by first | (exact hr _ _ (by decide)) | omega) (by omega) dX7_bestNow_16 (by decide) (fun h16 => ?_) (fun h16 => ?_)
    · exfalso; omega
    · refine z_aloadn dX7_bestNow_19 rfl ?_
      refine z_iload dX7_bestNow_20 rfl ?_
      refine z_iconst dX7_bestNow_22 ?_
      refine kX7_80 (tX7_in (by omega) (by omega)) rfl ⟨(Nat.le_of_ble_eq_true rfl), (Nat.le_of_ble_eq_true rfl)⟩ (Nat.le_of_ble_eq_true rfl) dX7_bestNow_23 ?_
      refine z_top (v' := M 22 (86 + 5 * (i : Int) + 2)) (by rw [y_22]) ?_
      refine z_iconst dX7_bestNow_26 ?_
      refine z_icmp_ne (tgt := 41) y_r22 (by first | (exact hr _ _ (by decide)) | omega) dX7_bestNow_27 (by decide) (fun h27 => ?_) (fun h27 => ?_)
      · refine z_iconst dX7_bestNow_41 ?_
        refine z_top (v' := (if M 22 (86 + 5 * (i : Int) + 2) = 3 then z_paid (M 22) i t p else -1)) (by first | rw [if_pos (by omega), y_22] | rw [if_neg (by omega)]) ?_
        refine z_mem (M' := z_bsM M t (i + 1)) (by first | rw [y_t, if_pos (by omega)] | rw [y_t, if_neg (by omega)]) ?_
        refine z_istore_6 dX7_bestNow_42 (Nat.le_of_ble_eq_true rfl) rfl ?_
        generalize y_v : (if M 22 (86 + 5 * (i : Int) + 2) = 3 then z_paid (M 22) i t p else -1) = v at *
        refine z_iload dX7_bestNow_44 rfl ?_
        refine z_iload dX7_bestNow_46 rfl ?_
        refine z_icmp_le (tgt := 56) y_rv y_rs.1 dX7_bestNow_48 (by decide) (fun h48 => ?_) (fun h48 => ?_)
        · refine z_iloadn dX7_bestNow_56 rfl ?_
          refine z_istoren_3 dX7_bestNow_57 (Nat.le_of_ble_eq_true rfl) rfl ?_
          refine z_iload dX7_bestNow_58 rfl ?_
          refine z_iload dX7_bestNow_60 rfl ?_
          refine z_icmp_le (tgt := 70) y_rv y_rs.1 dX7_bestNow_62 (by decide) (fun h62 => ?_) (fun h62 => ?_)
          · refine z_iload dX7_bestNow_70 rfl ?_
            refine z_istore_4 dX7_bestNow_72 (Nat.le_of_ble_eq_true rfl) rfl ?_
            refine z_iinc_5 dX7_bestNow_74 (Nat.le_of_ble_eq_true rfl) rfl ?_
            refine z_goto (tgt := 8) dX7_bestNow_77 (by decide) ?_
            refine z_fgt 6 ?_
            first
              | (rw [y_s, if_pos (by omega)] at y_ih; exact y_ih)
              | (rw [y_s, if_neg (by omega)] at y_ih; exact y_ih)
              | (exfalso; omega)
          · refine z_iload dX7_bestNow_65 rfl ?_
            refine z_goto (tgt := 72) dX7_bestNow_67 (by decide) ?_
            refine z_istore_4 dX7_bestNow_72 (Nat.le_of_ble_eq_true rfl) rfl ?_
            refine z_iinc_5 dX7_bestNow_74 (Nat.le_of_ble_eq_true rfl) rfl ?_
            refine z_goto (tgt := 8) dX7_bestNow_77 (by decide) ?_
            refine z_fgt 6 ?_
            first
              | (rw [y_s, if_pos (by omega)] at y_ih; exact y_ih)
              | (rw [y_s, if_neg (by omega)] at y_ih; exact y_ih)
              | (exfalso; omega)
        · refine z_iload dX7_bestNow_51 rfl ?_
          refine z_goto (tgt := 57) dX7_bestNow_53 (by decide) ?_
          refine z_istoren_3 dX7_bestNow_57 (Nat.le_of_ble_eq_true rfl) rfl ?_
          refine z_iload dX7_bestNow_58 rfl ?_
          refine z_iload dX7_bestNow_60 rfl ?_
          refine z_icmp_le (tgt := 70) y_rv y_rs.1 dX7_bestNow_62 (by decide) (fun h62 => ?_) (fun h62 => ?_)
          · refine z_iload dX7_bestNow_70 rfl ?_
            refine z_istore_4 dX7_bestNow_72 (Nat.le_of_ble_eq_true rfl) rfl ?_
            refine z_iinc_5 dX7_bestNow_74 (Nat.le_of_ble_eq_true rfl) rfl ?_
            refine z_goto (tgt := 8) dX7_bestNow_77 (by decide) ?_
            refine z_fgt 6 ?_
            first
              | (rw [y_s, if_pos (by omega)] at y_ih; exact y_ih)
              | (rw [y_s, if_neg (by omega)] at y_ih; exact y_ih)
              | (exfalso; omega)
          · refine z_iload dX7_bestNow_65 rfl ?_
            refine z_goto (tgt := 72) dX7_bestNow_67 (by decide) ?_
            refine z_istore_4 dX7_bestNow_72 (Nat.le_of_ble_eq_true rfl) rfl ?_
            refine z_iinc_5 dX7_bestNow_74 (Nat.le_of_ble_eq_true rfl) rfl ?_
            refine z_goto (tgt := 8) dX7_bestNow_77 (by decide) ?_
            refine z_fgt 6 ?_
            first
              | (rw [y_s, if_pos (by omega)] at y_ih; exact y_ih)
              | (rw [y_s, if_neg (by omega)] at y_ih; exact y_ih)
              | (exfalso; omega)
      · refine z_aloadn dX7_bestNow_30 rfl ?_
        refine z_iload dX7_bestNow_31 rfl ?_
        refine z_iloadn dX7_bestNow_33 rfl ?_
        refine z_iloadn dX7_bestNow_34 rfl ?_
        refine kX7_221 (tX7_paidNow y_hb (by omega) (by rw [y_22]; omega) (by omega) (by omega) (by omega) (by omega)) rfl ⟨(Nat.le_of_ble_eq_true rfl), (Nat.le_of_ble_eq_true rfl)⟩ (Nat.le_of_ble_eq_true rfl) dX7_bestNow_35 ?_
        refine z_rng fun hr => ?_
        refine z_goto (tgt := 42) dX7_bestNow_38 (by decide) ?_
        refine z_top (v' := (if M 22 (86 + 5 * (i : Int) + 2) = 3 then z_paid (M 22) i t p else -1)) (by first | rw [if_pos (by omega), y_22] | rw [if_neg (by omega)]) ?_
        refine z_mem (M' := z_bsM M t (i + 1)) (by first | rw [y_t, if_pos (by omega)] | rw [y_t, if_neg (by omega)]) ?_
        refine z_istore_6 dX7_bestNow_42 (Nat.le_of_ble_eq_true rfl) rfl ?_
        generalize y_v : (if M 22 (86 + 5 * (i : Int) + 2) = 3 then z_paid (M 22) i t p else -1) = v at *
        refine z_iload dX7_bestNow_44 rfl ?_
        refine z_iload dX7_bestNow_46 rfl ?_
        refine z_icmp_le (tgt := 56) y_rv y_rs.1 dX7_bestNow_48 (by decide) (fun h48 => ?_) (fun h48 => ?_)
        · refine z_iloadn dX7_bestNow_56 rfl ?_
          refine z_istoren_3 dX7_bestNow_57 (Nat.le_of_ble_eq_true rfl) rfl ?_
          refine z_iload dX7_bestNow_58 rfl ?_
          refine z_iload dX7_bestNow_60 rfl ?_
          refine z_icmp_le (tgt := 70) y_rv y_rs.1 dX7_bestNow_62 (by decide) (fun h62 => ?_) (fun h62 => ?_)
          · refine z_iload dX7_bestNow_70 rfl ?_
            refine z_istore_4 dX7_bestNow_72 (Nat.le_of_ble_eq_true rfl) rfl ?_
            refine z_iinc_5 dX7_bestNow_74 (Nat.le_of_ble_eq_true rfl) rfl ?_
            refine z_goto (tgt := 8) dX7_bestNow_77 (by decide) ?_
            refine z_fgt 6 ?_
            first
              | (rw [y_s, if_pos (by omega)] at y_ih; exact y_ih)
              | (rw [y_s, if_neg (by omega)] at y_ih; exact y_ih)
              | (exfalso; omega)
          · refine z_iload dX7_bestNow_65 rfl ?_
            refine z_goto (tgt := 72) dX7_bestNow_67 (by decide) ?_
            refine z_istore_4 dX7_bestNow_72 (Nat.le_of_ble_eq_true rfl) rfl ?_
            refine z_iinc_5 dX7_bestNow_74 (Nat.le_of_ble_eq_true rfl) rfl ?_
            refine z_goto (tgt := 8) dX7_bestNow_77 (by decide) ?_
            refine z_fgt 6 ?_
            first
              | (rw [y_s, if_pos (by omega)] at y_ih; exact y_ih)
              | (rw [y_s, if_neg (by omega)] at y_ih; exact y_ih)
              | (exfalso; omega)
        · refine z_iload dX7_bestNow_51 rfl ?_
          refine z_goto (tgt := 57) dX7_bestNow_53 (by decide) ?_
          refine z_istoren_3 dX7_bestNow_57 (Nat.le_of_ble_eq_true rfl) rfl ?_
          refine z_iload dX7_bestNow_58 rfl ?_
          refine z_iload dX7_bestNow_60 rfl ?_
          refine z_icmp_le (tgt := 70) y_rv y_rs.1 dX7_bestNow_62 (by decide) (fun h62 => ?_) (fun h62 => ?_)
          · refine z_iload dX7_bestNow_70 rfl ?_
            refine z_istore_4 dX7_bestNow_72 (Nat.le_of_ble_eq_true rfl) rfl ?_
            refine z_iinc_5 dX7_bestNow_74 (Nat.le_of_ble_eq_true rfl) rfl ?_
            refine z_goto (tgt := 8) dX7_bestNow_77 (by decide) ?_
            refine z_fgt 6 ?_
            first
              | (rw [y_s, if_pos (by omega)] at y_ih; exact y_ih)
              | (rw [y_s, if_neg (by omega)] at y_ih; exact y_ih)
              | (exfalso; omega)
          · refine z_iload dX7_bestNow_65 rfl ?_
            refine z_goto (tgt := 72) dX7_bestNow_67 (by decide) ?_
            refine z_istore_4 dX7_bestNow_72 (Nat.le_of_ble_eq_true rfl) rfl ?_
            refine z_iinc_5 dX7_bestNow_74 (Nat.le_of_ble_eq_true rfl) rfl ?_
            refine z_goto (tgt := 8) dX7_bestNow_77 (by decide) ?_
            refine z_fgt 6 ?_
            first
              | (rw [y_s, if_pos (by omega)] at y_ih; exact y_ih)
              | (rw [y_s, if_neg (by omega)] at y_ih; exact y_ih)
              | (exfalso; omega)
theorem tX7_ifPaid {G : z_G} {M : z_M} {N c k a p : Int} (hb : z_BI (M 22) N) (rk : z_rg k) (ra : z_rg a) (rp : z_rg p) (hc : z_c_ifPaid (M 22) k a p = c) : KX7_ifPaid G [.ref (z_ad G 0 40), z_I k, z_I a, z_I p] M (.inl (some (z_I (if c = 0 then z_paid (M 22) k a p else 0)))) (if c = 0 then z_pdM (z_sM M 21 4 0) k a else z_sM M 21 4 c) := by
  refine z_con (ls := [some (.ref (z_ad G 0 40)), some (z_I k), some (z_I a), some (z_I p)]) (by decide +kernel) (Nat.le_of_ble_eq_true rfl) rfl ?_
  intro Z htb
  refine z_rng fun hr => ?_
  refine z_aloadn dX7_ifPaid_0 rfl ?_
  refine z_iconst dX7_ifPaid_1 ?_
  refine pX7_40 (by first | (exact hr _ _ (by decide)) | omega) rfl dX7_ifPaid_2 ?_
  refine z_rng fun hr => ?_
  generalize hM0 : z_sM M 21 4 0 = M0
  have hz : M0 22 = M 22 := by rw [← hM0]; exact z_sM_row _ _ _ (by decide)
  have hz2 : M0 21 2 = M 21 2 := by rw [← hM0]; exact z_sM_ne _ _ _ (by decide)
  rw [hM0] at hr
  rw [← hz] at hb
  try rw [← hz] at hc
  have hh := z_BI_h hb
  refine z_aloadn dX7_ifPaid_5 rfl ?_
  refine z_iloadn dX7_ifPaid_6 rfl ?_
  refine kX7_77 (tX7_isPiece (by first | (exact hr _ _ (by decide)) | omega) (by first | assumption | omega)) rfl ⟨(Nat.le_of_ble_eq_true rfl), (Nat.le_of_ble_eq_true rfl)⟩ (Nat.le_of_ble_eq_true rfl) dX7_ifPaid_7 ?_
  refine z_ifb_eq (tgt := 21) dX7_ifPaid_10 (by decide) (fun h10 => ?_) (fun h10 => ?_)
  · refine z_aloadn dX7_ifPaid_21 rfl ?_
    refine z_iconst dX7_ifPaid_22 ?_
    refine kX7_55 (tX7_fails (by first | decide | omega)) rfl ⟨(Nat.le_of_ble_eq_true rfl), (Nat.le_of_ble_eq_true rfl)⟩ (Nat.le_of_ble_eq_true rfl) dX7_ifPaid_23 ?_
    refine z_rng fun hr => ?_
    obtain rfl : c = 1 := by rw [← hc]; unfold z_c_ifPaid; (repeat' split) <;> omega
    exact z_iret dX7_ifPaid_26 (if_neg (by decide)).symm (by rw [if_neg (by decide), ← hM0, z_sM_sM])
  · refine z_aloadn dX7_ifPaid_13 rfl ?_
    refine z_iloadn dX7_ifPaid_14 rfl ?_
    refine kX7_65 (tX7_isPen (by first | (exact hr _ _ (by decide)) | omega) (by first | assumption | omega)) rfl ⟨(Nat.le_of_ble_eq_true rfl), (Nat.le_of_ble_eq_true rfl)⟩ (Nat.le_of_ble_eq_true rfl) dX7_ifPaid_15 ?_
    refine z_ifb_ne (tgt := 27) dX7_ifPaid_18 (by decide) (fun h18 => ?_) (fun h18 => ?_)
    · refine z_iloadn dX7_ifPaid_27 rfl ?_
      refine z_iconst dX7_ifPaid_28 ?_
      refine z_ldc (i := 100000) wk_X7_69 dX7_ifPaid_29 ?_
      refine kX7_44 (tX7_within (by first | (exact hr _ _ (by decide)) | omega) (by first | (exact hr _ _ (by decide)) | omega) (by first | (exact hr _ _ (by decide)) | omega)) rfl ⟨(Nat.le_of_ble_eq_true rfl), (Nat.le_of_ble_eq_true rfl)⟩ (Nat.le_of_ble_eq_true rfl) dX7_ifPaid_31 ?_
      refine z_ifb_ne (tgt := 43) dX7_ifPaid_34 (by decide) (fun h34 => ?_) (fun h34 => ?_)
      · refine z_aloadn dX7_ifPaid_43 rfl ?_
        refine z_iloadn dX7_ifPaid_44 rfl ?_
        refine z_iconst dX7_ifPaid_45 ?_
        refine kX7_80 (tX7_in (by omega) (by omega)) rfl ⟨(Nat.le_of_ble_eq_true rfl), (Nat.le_of_ble_eq_true rfl)⟩ (Nat.le_of_ble_eq_true rfl) dX7_ifPaid_46 ?_
        refine z_iconst dX7_ifPaid_49 ?_
        refine z_icmp_ne (tgt := 63) (by first | (exact hr _ _ (by decide)) | omega) (by first | (exact hr _ _ (by decide)) | omega) dX7_ifPaid_50 (by decide) (fun h50 => ?_) (fun h50 => ?_)
        · refine z_aloadn dX7_ifPaid_63 rfl ?_
          refine z_iconst dX7_ifPaid_64 ?_
          refine kX7_55 (tX7_fails (by first | decide | omega)) rfl ⟨(Nat.le_of_ble_eq_true rfl), (Nat.le_of_ble_eq_true rfl)⟩ (Nat.le_of_ble_eq_true rfl) dX7_ifPaid_65 ?_
          refine z_rng fun hr => ?_
          obtain rfl : c = 3 := by rw [← hc]; unfold z_c_ifPaid; (repeat' split) <;> omega
          exact z_iret dX7_ifPaid_68 (if_neg (by decide)).symm (by rw [if_neg (by decide), ← hM0, z_sM_sM])
        · refine z_aloadn dX7_ifPaid_53 rfl ?_
          refine z_iloadn dX7_ifPaid_54 rfl ?_
          refine z_iloadn dX7_ifPaid_55 rfl ?_
          refine z_iloadn dX7_ifPaid_56 rfl ?_
          refine kX7_221 (tX7_paidNow hb (by omega) (by omega) (by omega) (by omega) (by omega) (by omega)) rfl ⟨(Nat.le_of_ble_eq_true rfl), (Nat.le_of_ble_eq_true rfl)⟩ (Nat.le_of_ble_eq_true rfl) dX7_ifPaid_57 ?_
          refine z_rng fun hr => ?_
          refine z_goto (tgt := 68) dX7_ifPaid_60 (by decide) ?_
          exact z_iret dX7_ifPaid_68 (by obtain rfl : c = 0 := by { rw [← hc]; unfold z_c_ifPaid; (repeat' split) <;> omega }; rw [if_pos rfl, ← hz]; try rw [hz2]) (by obtain rfl : c = 0 := by { rw [← hc]; unfold z_c_ifPaid; (repeat' split) <;> omega }; rw [if_pos rfl])
      · refine z_aloadn dX7_ifPaid_37 rfl ?_
        refine z_iconst dX7_ifPaid_38 ?_
        refine kX7_55 (tX7_fails (by first | decide | omega)) rfl ⟨(Nat.le_of_ble_eq_true rfl), (Nat.le_of_ble_eq_true rfl)⟩ (Nat.le_of_ble_eq_true rfl) dX7_ifPaid_39 ?_
        refine z_rng fun hr => ?_
        obtain rfl : c = 2 := by rw [← hc]; unfold z_c_ifPaid; (repeat' split) <;> omega
        exact z_iret dX7_ifPaid_42 (if_neg (by decide)).symm (by rw [if_neg (by decide), ← hM0, z_sM_sM])
    · refine z_aloadn dX7_ifPaid_21 rfl ?_
      refine z_iconst dX7_ifPaid_22 ?_
      refine kX7_55 (tX7_fails (by first | decide | omega)) rfl ⟨(Nat.le_of_ble_eq_true rfl), (Nat.le_of_ble_eq_true rfl)⟩ (Nat.le_of_ble_eq_true rfl) dX7_ifPaid_23 ?_
      refine z_rng fun hr => ?_
      obtain rfl : c = 1 := by rw [← hc]; unfold z_c_ifPaid; (repeat' split) <;> omega
      exact z_iret dX7_ifPaid_26 (if_neg (by decide)).symm (by rw [if_neg (by decide), ← hM0, z_sM_sM])
theorem tX7_bestPiece {G : z_G} {M : z_M} {N c p t : Int} (hb : z_BI (M 22) N) (rp : z_rg p) (rt : z_rg t) (hc : z_c_bestPiece (M 22) p t = c) : KX7_bestPiece G [.ref (z_ad G 0 40), z_I p, z_I t] M (.inl (some (z_I (if c = 0 then z_bestN (M 22) p t else 0)))) (if c = 0 then z_bsM (z_sM M 21 4 0) t (M 22 1).toNat else z_sM M 21 4 c) := by
  refine z_con (ls := [some (.ref (z_ad G 0 40)), some (z_I p), some (z_I t)]) (by decide +kernel) (Nat.le_of_ble_eq_true rfl) rfl ?_
  intro Z htb
  refine z_rng fun hr => ?_
  refine z_aloadn dX7_bestPiece_0 rfl ?_
  refine z_iconst dX7_bestPiece_1 ?_
  refine pX7_40 (by first | (exact hr _ _ (by decide)) | omega) rfl dX7_bestPiece_2 ?_
  refine z_rng fun hr => ?_
  generalize hM0 : z_sM M 21 4 0 = M0
  have hz : M0 22 = M 22 := by rw [← hM0]; exact z_sM_row _ _ _ (by decide)
  have hz2 : M0 21 2 = M 21 2 := by rw [← hM0]; exact z_sM_ne _ _ _ (by decide)
  rw [hM0] at hr
  rw [← hz] at hb
  try rw [← hz] at hc
  have hh := z_BI_h hb
  refine z_aloadn dX7_bestPiece_5 rfl ?_
  refine z_iloadn dX7_bestPiece_6 rfl ?_
  refine kX7_65 (tX7_isPen (by first | (exact hr _ _ (by decide)) | omega) (by first | assumption | omega)) rfl ⟨(Nat.le_of_ble_eq_true rfl), (Nat.le_of_ble_eq_true rfl)⟩ (Nat.le_of_ble_eq_true rfl) dX7_bestPiece_7 ?_
  refine z_ifb_ne (tgt := 19) dX7_bestPiece_10 (by decide) (fun h10 => ?_) (fun h10 => ?_)
  · refine z_iloadn dX7_bestPiece_19 rfl ?_
    refine z_iconst dX7_bestPiece_20 ?_
    refine z_ldc (i := 100000) wk_X7_69 dX7_bestPiece_21 ?_
    refine kX7_44 (tX7_within (by first | (exact hr _ _ (by decide)) | omega) (by first | (exact hr _ _ (by decide)) | omega) (by first | (exact hr _ _ (by decide)) | omega)) rfl ⟨(Nat.le_of_ble_eq_true rfl), (Nat.le_of_ble_eq_true rfl)⟩ (Nat.le_of_ble_eq_true rfl) dX7_bestPiece_23 ?_
    refine z_ifb_eq (tgt := 38) dX7_bestPiece_26 (by decide) (fun h26 => ?_) (fun h26 => ?_)
    · refine z_aloadn dX7_bestPiece_38 rfl ?_
      refine z_iconst dX7_bestPiece_39 ?_
      refine kX7_55 (tX7_fails (by first | decide | omega)) rfl ⟨(Nat.le_of_ble_eq_true rfl), (Nat.le_of_ble_eq_true rfl)⟩ (Nat.le_of_ble_eq_true rfl) dX7_bestPiece_40 ?_
      refine z_rng fun hr => ?_
      obtain rfl : c = 2 := by rw [← hc]; unfold z_c_bestPiece; (repeat' split) <;> omega
      exact z_iret dX7_bestPiece_43 (if_neg (by decide)).symm (by rw [if_neg (by decide), ← hM0, z_sM_sM])
    · refine z_aloadn dX7_bestPiece_29 rfl ?_
      refine z_iloadn dX7_bestPiece_30 rfl ?_
      refine z_iloadn dX7_bestPiece_31 rfl ?_
      refine kX7_239 (tX7_bestNow hb (by omega) (by omega) (by omega) (by omega)) rfl ⟨(Nat.le_of_ble_eq_true rfl), (Nat.le_of_ble_eq_true rfl)⟩ (Nat.le_of_ble_eq_true rfl) dX7_bestPiece_32 ?_
      refine z_rng fun hr => ?_
      refine z_goto (tgt := 43) dX7_bestPiece_35 (by decide) ?_
      exact z_iret dX7_bestPiece_43 (by obtain rfl : c = 0 := by { rw [← hc]; unfold z_c_bestPiece; (repeat' split) <;> omega }; rw [if_pos rfl, ← hz]; try rw [hz2]) (by obtain rfl : c = 0 := by { rw [← hc]; unfold z_c_bestPiece; (repeat' split) <;> omega }; rw [if_pos rfl, hz])
  · refine z_aloadn dX7_bestPiece_13 rfl ?_
    refine z_iconst dX7_bestPiece_14 ?_
    refine kX7_55 (tX7_fails (by first | decide | omega)) rfl ⟨(Nat.le_of_ble_eq_true rfl), (Nat.le_of_ble_eq_true rfl)⟩ (Nat.le_of_ble_eq_true rfl) dX7_bestPiece_15 ?_
    refine z_rng fun hr => ?_
    obtain rfl : c = 1 := by rw [← hc]; unfold z_c_bestPiece; (repeat' split) <;> omega
    exact z_iret dX7_bestPiece_18 (if_neg (by decide)).symm (by rw [if_neg (by decide), ← hM0, z_sM_sM])
