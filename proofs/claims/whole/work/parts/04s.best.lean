/-! ===== money that comes in: what it depends on ===== -/
theorem z_am_eq {r r' : Int → Int} (h : ∀ p, 0 ≤ p → p < 12 → r p = r' p) : ∀ n : Nat, n < 12 → z_am r n = z_am r' n := by
  intro n
  induction n with
  | zero => intro _; rfl
  | succ n ih =>
    intro hn
    have e := ih (by omega)
    have l := z_am_le r n
    show (if r (z_am r n) < r ((n + 1 : Nat) : Int) then ((n + 1 : Nat) : Int) else z_am r n) = if r' (z_am r' n) < r' ((n + 1 : Nat) : Int) then ((n + 1 : Nat) : Int) else z_am r' n
    rw [← e, h (z_am r n) (by omega) (by omega), h ((n + 1 : Nat) : Int) (by omega) (by omega)]
theorem z_gv_eq {x : Int} : ∀ (m : Nat) {s r s' r' : Int → Int}, (∀ p, 0 ≤ p → p < 12 → s p = s' p ∧ r p = r' p) → ∀ p, 0 ≤ p → p < 12 → (z_gv x m s r).1 p = (z_gv x m s' r').1 p := by
  intro m
  induction m with
  | zero => intro s r s' r' h p p0 p1; exact (h p p0 p1).1
  | succ m ih =>
    intro s r s' r' h p p0 p1
    have e := z_am_eq (fun q q0 q1 => (h q q0 q1).2) 11 (by omega)
    show (z_gv x m (z_uf s (z_am r 11) (s (z_am r 11) + 1)) (z_uf r (z_am r 11) x)).1 p = (z_gv x m (z_uf s' (z_am r' 11) (s' (z_am r' 11) + 1)) (z_uf r' (z_am r' 11) x)).1 p
    have l := z_am_le r 11
    rw [← e]
    exact ih (fun q q0 q1 => by
      have h1 := h q q0 q1
      have h2 := h (z_am r 11) (by omega) (by omega)
      unfold z_uf
      constructor
      · split
        · omega
        · exact h1.1
      · split
        · rfl
        · exact h1.2) p p0 p1
theorem z_sh_ind {b : Int → Int} {k rest : Int} (s0 r0 s1 r1 : Int → Int) : ∀ p, 0 ≤ p → p < 12 → (z_sh b k rest s0 r0).1 p = (z_sh b k rest s1 r1).1 p := by
  unfold z_sh
  exact z_gv_eq _ (fun q q0 q1 => by unfold z_cp; constructor <;> rw [if_pos (by omega), if_pos (by omega)])
theorem z_lps_eq {y k : Int} {S S' : Int → Int} {x : (Int → Int) × Int} : ∀ n : Nat, (∀ p : Int, 0 ≤ p → p < n → S p = S' p) → z_lps y S k n x = z_lps y S' k n x := by
  intro n
  induction n with
  | zero => intro _; rfl
  | succ n ih =>
    intro h
    show z_stp y S k n (z_lps y S k n x) = z_stp y S' k n (z_lps y S' k n x)
    rw [ih (fun p p0 p1 => h p p0 (by omega))]
    unfold z_stp
    rw [h n (by omega) (by omega)]
theorem z_com2_ind {b : Int → Int} {k a y : Int} (n1 : b 0 ≤ 12) (s0 r0 s1 r1 : Int → Int) : z_com2 b k a y s0 r0 = z_com2 b k a y s1 r1 :=
  z_lps_eq _ fun p p0 p1 => z_sh_ind s0 r0 s1 r1 p p0 (by omega)
def z_cm (b : Int → Int) (k a y : Int) : (Int → Int) × Int := z_com2 b k a y (fun _ => 0) (fun _ => 0)
theorem z_com2_cm {b : Int → Int} {k a y : Int} (n1 : b 0 ≤ 12) (s0 r0 : Int → Int) : z_com2 b k a y s0 r0 = z_cm b k a y := z_com2_ind n1 _ _ _ _
theorem z_stp_out {y : Int} {S : Int → Int} {k p j : Int} {x : (Int → Int) × Int} (k0 : 0 ≤ k) (k1 : k < 20) (p0 : 0 ≤ p) (p1 : p < 12) (hj : j < 0 ∨ 906 ≤ j) : (z_stp y S k p x).1 j = x.1 j := by
  unfold z_stp
  split
  · exact z_inb_o (by omega)
  · exact (z_inb_o (by omega)).trans (z_cpb_o (by omega))
theorem z_lps_out {y : Int} {S : Int → Int} {k j : Int} {x : (Int → Int) × Int} (k0 : 0 ≤ k) (k1 : k < 20) (hj : j < 0 ∨ 906 ≤ j) : ∀ n : Nat, n ≤ 12 → (z_lps y S k n x).1 j = x.1 j := by
  intro n
  induction n with
  | zero => intro _; rfl
  | succ n ih => intro h; exact (z_stp_out k0 k1 (by omega) (by omega) hj).trans (ih (by omega))
theorem z_com2_out {b : Int → Int} {k a y j : Int} {s0 r0 : Int → Int} (k0 : 0 ≤ k) (k1 : k < 20) (n1 : b 0 ≤ 12) (go : 0 ≤ b (14 + 6 * b (86 + 5 * k) + 3) ∧ b (14 + 6 * b (86 + 5 * k) + 3) < 12) (hj : j < 0 ∨ 906 ≤ j) : (z_com2 b k a y s0 r0).1 j = b j := by
  refine (z_lps_out k0 k1 hj _ (by omega)).trans ?_
  unfold z_ci
  split
  · show z_cb1 b a j = b j
    unfold z_cb1
    rw [z_uf_ne _ _ (by omega), z_uf_ne _ _ (by omega)]
  · refine (z_inb_o ?_).trans (z_cb2_o (by omega))
    unfold z_oo
    omega
theorem z_cm_bd {b : Int → Int} {k a y : Int} (k0 : 0 ≤ k) (k1 : k < 20) (a0 : 0 ≤ a) (a1 : a ≤ 100000) (h : z_cF b k) : z_bd (z_cm b k a y).1 (z_cm b k a y).2 1000000000 := by
  obtain ⟨h1, h2, h3, h4, h5, h6, h7, h8, h9, h10, h11⟩ := h
  have hc := z_ci_rg (y := y) k0 k1 a0 a1 h3 h6 h7 h9 h11
  have hr := z_rs_rg (y := y) a0 a1 h6 h7
  have hs := z_sh_rg (s0 := fun _ => 0) (r0 := fun _ => 0) h1 h2 hr.1 hr.2
  exact z_bd_mono (by omega) (z_bd_lps k0 k1 hs hc.1 (b 0).toNat (by omega))
/-- what pen p would get if a was paid for piece k -/
def z_paid (b : Int → Int) (k a p : Int) : Int := (z_cm b k a 1).1 (14 + 6 * p) - b (14 + 6 * p)
theorem z_paid_rg {b : Int → Int} {k a p : Int} (k0 : 0 ≤ k) (k1 : k < 20) (a0 : 0 ≤ a) (a1 : a ≤ 100000) (p0 : 0 ≤ p) (p1 : p < 12) (h : z_cF b k) : z_rg (z_paid b k a p) := by
  have h1 := (z_cm_bd (y := 1) k0 k1 a0 a1 h).1 p p0 p1
  have h2 := h.2.2.1.1 p p0 p1
  unfold z_paid
  omega
abbrev z_keep (M : z_M) : z_M := z_sR M 23 (z_cp (M 23) (M 22) 0 0 906)
abbrev z_pdM (M : z_M) (k a : Int) : z_M := z_m4 (z_keep M) (M 22) (z_cm (M 22) k a 1).2 (z_sh (M 22) k (z_rs (M 22) a 1) (M 27) (M 28)).1 (z_sh (M 22) k (z_rs (M 22) a 1) (M 27) (M 28)).2
theorem z_pdM_eq {M : z_M} {k a : Int} (k0 : 0 ≤ k) (k1 : k < 20) (h : z_cF (M 22) k) : z_sR (z_m4 (z_keep M) (z_com2 (M 22) k a 1 (M 27) (M 28)).1 (z_com2 (M 22) k a 1 (M 27) (M 28)).2 (z_sh (M 22) k (z_rs (M 22) a 1) (M 27) (M 28)).1 (z_sh (M 22) k (z_rs (M 22) a 1) (M 27) (M 28)).2) 22 (z_cp (z_com2 (M 22) k a 1 (M 27) (M 28)).1 (z_cp (M 23) (M 22) 0 0 906) 0 0 906) = z_pdM M k a := by
  obtain ⟨h1, h2, h3, h4, h5, h6, h7, h8, h9, h10, h11⟩ := h
  rw [z_m4_R, z_com2_cm h4.2]
  congr 1
  · congr 2
    congr 1
    funext j
    unfold z_cp
    by_cases e : 0 ≤ j ∧ j < 0 + 906
    · rw [if_pos e, if_pos (by omega)]; congr 1; omega
    · rw [if_neg e]; exact z_com2_out k0 k1 h4.2 h11 (by omega)
def z_bst (b : Int → Int) (p t : Int) : Nat → Int × Int
  | 0 => (-1, -1)
  | n + 1 => if (z_bst b p t n).2 < (if b (86 + 5 * n + 2) = 3 then z_paid b n t p else -1) then ((n : Int), if b (86 + 5 * n + 2) = 3 then z_paid b n t p else -1) else z_bst b p t n
def z_bsM (M : z_M) (t : Int) : Nat → z_M
  | 0 => M
  | n + 1 => if (M 22) (86 + 5 * n + 2) = 3 then z_pdM (z_bsM M t n) n t else z_bsM M t n
theorem z_bsM_22 (M : z_M) (t : Int) (n : Nat) : z_bsM M t n 22 = M 22 := by
  induction n with
  | zero => rfl
  | succ n ih => unfold z_bsM; split <;> exact ih
def z_bestN (b : Int → Int) (p t : Int) : Int := (z_bst b p t (b 1).toNat).1
def z_c_ifPaid (b : Int → Int) (k a p : Int) : Int := if ¬ (0 ≤ k ∧ k < b 1) ∨ ¬ (0 ≤ p ∧ p < b 0) then 1 else if ¬ (1 ≤ a ∧ a ≤ 100000) then 2 else if b (86 + 5 * k + 2) = 3 then 0 else 3
def z_c_bestPiece (b : Int → Int) (p t : Int) : Int := if ¬ (0 ≤ p ∧ p < b 0) then 1 else if ¬ (1 ≤ t ∧ t ≤ 100000) then 2 else 0
theorem tX7_paidNow {G : z_G} {M : z_M} {N k a p : Int} (hb : z_BI (M 22) N) (k0 : 0 ≤ k) (k1 : k < M 22 1) (a0 : 1 ≤ a) (a1 : a ≤ 100000) (p0 : 0 ≤ p) (p1 : p < 12) : KX7_paidNow G [.ref (z_ad G 0 40), z_I k, z_I a, z_I p] M (.inl (some (z_I (z_paid (M 22) k a p)))) (z_pdM M k a) := by
  refine z_con (ls := [some (.ref (z_ad G 0 40)), some (z_I k), some (z_I a), some (z_I p), none]) (by decide +kernel) (Nat.le_of_ble_eq_true rfl) rfl ?_
  intro Z htb
  refine z_rng fun hr => ?_
  have hh := z_BI_h hb
  have y_f := z_BI_cF hb k0 k1
  have k2 : k < 20 := by omega
  refine z_aloadn dX7_paidNow_0 rfl ?_
  refine kX7_215 tX7_keep rfl ⟨(Nat.le_of_ble_eq_true rfl), (Nat.le_of_ble_eq_true rfl)⟩ (Nat.le_of_ble_eq_true rfl) dX7_paidNow_1 ?_
  refine z_rng fun hr => ?_
  refine z_aloadn dX7_paidNow_4 rfl ?_
  refine z_iloadn dX7_paidNow_5 rfl ?_
  refine z_iloadn dX7_paidNow_6 rfl ?_
  refine z_iconst dX7_paidNow_7 ?_
  refine kX7_156 (tX7_com1 (by omega) (by omega) (by omega) (by omega) y_f) rfl ⟨(Nat.le_of_ble_eq_true rfl), (Nat.le_of_ble_eq_true rfl)⟩ (Nat.le_of_ble_eq_true rfl) dX7_paidNow_8 ?_
  refine z_rng fun hr => ?_
  refine z_aloadn dX7_paidNow_11 rfl ?_
  refine z_iloadn dX7_paidNow_12 rfl ?_
  refine z_iconst dX7_paidNow_13 ?_
  refine kX7_61 (tX7_of0 (by omega) (by omega)) rfl ⟨(Nat.le_of_ble_eq_true rfl), (Nat.le_of_ble_eq_true rfl)⟩ (Nat.le_of_ble_eq_true rfl) dX7_paidNow_14 ?_
  refine z_istore_4 dX7_paidNow_17 (Nat.le_of_ble_eq_true rfl) rfl ?_
  refine z_aloadn dX7_paidNow_19 rfl ?_
  refine kX7_218 tX7_bring rfl ⟨(Nat.le_of_ble_eq_true rfl), (Nat.le_of_ble_eq_true rfl)⟩ (Nat.le_of_ble_eq_true rfl) dX7_paidNow_20 ?_
  refine z_rng fun hr => ?_
  refine z_iload dX7_paidNow_23 rfl ?_
  refine z_aloadn dX7_paidNow_25 rfl ?_
  refine z_iloadn dX7_paidNow_26 rfl ?_
  refine z_iconst dX7_paidNow_27 ?_
  refine kX7_61 (tX7_of0 (by omega) (by omega)) rfl ⟨(Nat.le_of_ble_eq_true rfl), (Nat.le_of_ble_eq_true rfl)⟩ (Nat.le_of_ble_eq_true rfl) dX7_paidNow_28 ?_
  refine z_isub dX7_paidNow_31 ?_
  exact z_iret dX7_paidNow_32 (by show _ = (z_cm (M 22) k a 1).1 (14 + 6 * p) - (M 22) (14 + 6 * p); rw [← z_com2_cm (show (M 22) 0 ≤ 12 by omega) (M 27) (M 28)]; congr 1; exact congrFun (congrFun (z_pdM_eq k0 k2 y_f) 22) _) (z_pdM_eq k0 k2 y_f)
