theorem z_f0_self : Op.cmpValue (FP.dcmp FP.dconst0 FP.dconst0) .l = Int32.ofInt 0 := by decide +kernel
/-- an int as the machine holds it -/
def z_iw (v : Int) : Int := (Int32.ofInt v).toInt
theorem z_iw_rg (v : Int) : z_rg (z_iw v) := ⟨Int32.le_toInt _, by have := Int32.toInt_lt (Int32.ofInt v); unfold z_iw; omega⟩
theorem z_iw_I (v : Int) : z_I v = z_I (z_iw v) := by unfold z_I z_iw; rw [Int32.ofInt_toInt]
section ZIW
variable {G : z_G} {Z : z_Z} {d : z_Md} {Q : State → Prop} {pc : Nat} {ls : List (Option Value)} {st : List Value} {M : z_M} {k n : Nat}
theorem z_topI {v v' : Int} (e : v = v') (kk : z_J G Z d Q pc ls (z_I (z_iw v') :: st) M k n) : z_J G Z d Q pc ls (z_I v :: st) M k n := by
  subst e
  rw [z_iw_I v]
  exact kk
end ZIW
theorem z_sM_id (M : z_M) (a : Nat) (i : Int) : z_sM M a i (M a i) = M := by
  funext x y
  unfold z_sM
  split
  · rename_i h; rw [h.1, h.2]
  · rfl
/-! ===== what is mixed ===== -/
def z_hm (f : Int → Int) (h : Int) : Nat → Int
  | 0 => h
  | n + 1 => 31 * z_hm f h n + f n
def z_hq (b : Int → Int) (k : Int) (w0 : Int → Int) (h : Int) : Nat → Int
  | 0 => h
  | p + 1 => 31 * z_hm (fun w => z_iw (z_bv b k p w)) (z_hq b k w0 h p) 3 + z_iw (z_fX b k w0 p)
def z_h1 (b : Int → Int) (k h : Int) : Int := z_hm (fun w => z_iw (z_kv b k w)) h 10
def z_hP (b : Int → Int) (k : Int) (w0 : Int → Int) (h : Int) : Int := z_hq b k w0 (z_h1 b k h) (b 0).toNat
def z_mpB (M : z_M) (k : Int) : z_M := z_fM (z_sM M 20 0 (z_h1 (M 22) k (M 20 0))) k
def z_mpM (M : z_M) (k : Int) : z_M := z_sM (z_mpB M k) 20 0 (z_hP (M 22) k (M 29) (M 20 0))
/-- the mixed pen -/
def z_hpn (b : Int → Int) (p h : Int) : Int := 31 * z_hm (fun w => z_iw (z_pnv b p w)) h 9 + z_iw (z_bestN b p 100)
def z_dnM (M : z_M) (p : Int) : z_M := z_sM (z_bsM (z_sM M 20 0 (z_hm (fun w => z_iw (z_pnv (M 22) p w)) (M 20 0) 9)) 100 (M 22 1).toNat) 20 0 (z_hpn (M 22) p (M 20 0))
def z_dpM (M : z_M) : Nat → z_M
  | 0 => M
  | p + 1 => z_dnM (z_dpM M p) p
def z_dkM (M : z_M) : Nat → z_M
  | 0 => M
  | k + 1 => z_mpM (z_dkM M k) k
theorem z_mpB_row (M : z_M) (k : Int) {a : Nat} (h : a ≠ 20 ∧ a ≠ 21 ∧ a ≠ 29 ∧ a ≠ 30 ∧ a ≠ 31) : z_mpB M k a = M a := by
  show z_sR (z_sR (z_sM (z_sR (z_sM M 20 0 _) 29 _) 21 0 _) 30 _) 31 _ a = M a
  rw [z_sR_ne _ _ h.2.2.2.2, z_sR_ne _ _ h.2.2.2.1, z_sM_row _ _ _ h.2.1, z_sR_ne _ _ h.2.2.1, z_sM_row _ _ _ h.1]
theorem z_mpB_20 (M : z_M) (k : Int) : z_mpB M k 20 0 = z_h1 (M 22) k (M 20 0) := rfl
theorem z_mpM_row (M : z_M) (k : Int) {a : Nat} (h : a ≠ 20 ∧ a ≠ 21 ∧ a ≠ 29 ∧ a ≠ 30 ∧ a ≠ 31) : z_mpM M k a = M a := by
  unfold z_mpM
  rw [z_sM_row _ _ _ h.1, z_mpB_row M k h]
theorem z_mpM_21 (M : z_M) (k : Int) {i : Int} (h : i ≠ 0) : z_mpM M k 21 i = M 21 i := by
  show z_sM _ 21 0 _ 21 i = _
  rw [z_sM_ne _ _ _ h]
  rfl
theorem z_pdM_row (M : z_M) (k a : Int) {r : Nat} (h : r ≠ 21 ∧ r ≠ 22 ∧ r ≠ 23 ∧ r ≠ 27 ∧ r ≠ 28) : z_pdM M k a r = M r := by
  show z_sR (z_sR (z_sM (z_sR (z_sR M 23 _) 22 _) 21 1 _) 27 _) 28 _ r = _
  rw [z_sR_ne _ _ h.2.2.2.2, z_sR_ne _ _ h.2.2.2.1, z_sM_row _ _ _ h.1, z_sR_ne _ _ h.2.1, z_sR_ne _ _ h.2.2.1]
theorem z_pdM_21 (M : z_M) (k a : Int) {i : Int} (h : i ≠ 1) : z_pdM M k a 21 i = M 21 i := by
  show z_sM _ 21 1 _ 21 i = _
  rw [z_sM_ne _ _ _ h]
  rfl
theorem z_bsM_row (M : z_M) (t : Int) {r : Nat} (h : r ≠ 21 ∧ r ≠ 22 ∧ r ≠ 23 ∧ r ≠ 27 ∧ r ≠ 28) (n : Nat) : z_bsM M t n r = M r := by
  induction n with
  | zero => rfl
  | succ n ih =>
    unfold z_bsM
    split
    · rw [z_pdM_row _ _ _ h, ih]
    · exact ih
theorem z_bsM_21 (M : z_M) (t : Int) {i : Int} (h : i ≠ 1) (n : Nat) : z_bsM M t n 21 i = M 21 i := by
  induction n with
  | zero => rfl
  | succ n ih =>
    unfold z_bsM
    split
    · rw [z_pdM_21 _ _ _ h, ih]
    · exact ih
theorem z_dnM_row (M : z_M) (p : Int) {r : Nat} (h : r ≠ 20 ∧ r ≠ 21 ∧ r ≠ 23 ∧ r ≠ 27 ∧ r ≠ 28) : z_dnM M p r = M r := by
  unfold z_dnM
  rw [z_sM_row _ _ _ h.1]
  by_cases e : r = 22
  · subst e; rw [z_bsM_22]; exact z_sM_row _ _ _ (by decide)
  · rw [z_bsM_row _ _ ⟨h.2.1, e, h.2.2.1, h.2.2.2.1, h.2.2.2.2⟩, z_sM_row _ _ _ h.1]
theorem z_dnM_21 (M : z_M) (p : Int) {i : Int} (h : i ≠ 1) : z_dnM M p 21 i = M 21 i := by
  unfold z_dnM
  rw [z_sM_row _ _ _ (by decide), z_bsM_21 _ _ h]
  exact congrFun (z_sM_row _ _ _ (by decide)) i
theorem z_dpM_row (M : z_M) {r : Nat} (h : r ≠ 20 ∧ r ≠ 21 ∧ r ≠ 23 ∧ r ≠ 27 ∧ r ≠ 28) (n : Nat) : z_dpM M n r = M r := by
  induction n with
  | zero => rfl
  | succ n ih => exact (z_dnM_row _ _ h).trans ih
theorem z_dpM_21 (M : z_M) {i : Int} (h : i ≠ 1) (n : Nat) : z_dpM M n 21 i = M 21 i := by
  induction n with
  | zero => rfl
  | succ n ih => exact (z_dnM_21 _ _ h).trans ih
theorem z_dkM_row (M : z_M) {r : Nat} (h : r ≠ 20 ∧ r ≠ 21 ∧ r ≠ 29 ∧ r ≠ 30 ∧ r ≠ 31) (n : Nat) : z_dkM M n r = M r := by
  induction n with
  | zero => rfl
  | succ n ih => exact (z_mpM_row _ _ h).trans ih
theorem z_dkM_21 (M : z_M) {i : Int} (h : i ≠ 0) (n : Nat) : z_dkM M n 21 i = M 21 i := by
  induction n with
  | zero => rfl
  | succ n ih => exact (z_mpM_21 _ _ h).trans ih
/-! ===== how far the pens are apart ===== -/
def z_spr (b : Int → Int) (n : Nat) : Int := z_sm n (fun i => z_sm i.toNat (fun j => z_ab (b (14 + 6 * i) - b (14 + 6 * j))))
def z_spd (b : Int → Int) : UInt64 := if z_sumOf b 0 = 0 then FP.dconst0 else FP.ddiv (FP.i2d (Int32.ofInt (z_spr b (b 0).toNat))) (FP.i2d (Int32.ofInt (b 0 * z_sumOf b 0)))
theorem z_sm_mono {f : Int → Int} {n m : Nat} (h : ∀ i : Nat, i < m → 0 ≤ f i) (hn : n ≤ m) : z_sm n f ≤ z_sm m f := by
  induction m with
  | zero => rw [Nat.le_zero.mp hn]; exact Int.le_refl _
  | succ m ih =>
    by_cases e : n = m + 1
    · subst e; exact Int.le_refl _
    · have := ih (fun i hi => h i (by omega)) (by omega)
      have := h m (by omega)
      rw [z_sm_s]
      omega
theorem z_sumOf_0 {b : Int → Int} {N : Int} (hb : z_BI b N) : 0 ≤ z_sumOf b 0 ∧ z_sumOf b 0 ≤ b 4 := by
  have hh := z_BI_h hb
  have h1 : ∀ i : Nat, i < 12 → 0 ≤ b (14 + 6 * (i : Int) + 0) := fun i hi => by have := z_BI_bal hb (p := i) (by omega) (by omega); rw [Int.add_zero]; exact this.1
  have h2 := z_sm_mono (f := fun p => b (14 + 6 * p + 0)) (n := (b 0).toNat) h1 (by omega)
  have h3 := z_sm_nn (f := fun p => b (14 + 6 * p + 0)) (n := (b 0).toNat) (fun i hi => h1 i (by omega))
  have h4 := (z_BI_s hb).1
  have h5 := z_BI_res hb
  have e : z_sm 12 (fun p => b (14 + 6 * p + 0)) = z_sm 12 (fun p => b (14 + 6 * p)) := z_sm_eq (fun i _ => by show b _ = b _; rw [Int.add_zero])
  unfold z_sumOf
  omega
theorem z_spd_c {b : Int → Int} {N : Int} (hb : z_BI b N) : Op.cmpValue (FP.dcmp (z_spd b) (z_spd b)) .l = Int32.ofInt 0 := by
  have hs := z_sumOf_0 hb
  have hh := z_BI_h hb
  unfold z_spd
  split
  · exact z_f0_self
  · rename_i e
    have n0 : b 0 ≠ 0 := fun e0 => e (by unfold z_sumOf; rw [e0]; rfl)
    have hm := z_mb (show 0 ≤ b 0 by omega) (show b 0 ≤ 12 by omega) hs.1 hs.2
    refine z_fdiv_self ?_ ?_
    · exact Int.mul_pos (by omega) (by omega)
    · omega
theorem tX7_spreadNow {G : z_G} {M : z_M} {N  : Int} (hb : z_BI (M 22) N) : KX7_spreadNow G [.ref (z_ad G 0 40)] M (.inl (some (.double (z_spd (M 22))))) M := by
  refine z_con (ls := [some (.ref (z_ad G 0 40)), none, none, none, none]) (by decide +kernel) (Nat.le_of_ble_eq_true rfl) rfl ?_
  intro Z htb
  refine z_rng fun hr => ?_
  have hh := z_BI_h hb
  have y_sum := z_sumOf_0 hb
  refine z_iconst dX7_spreadNow_0 ?_
  refine z_istoren_1 dX7_spreadNow_1 (Nat.le_of_ble_eq_true rfl) rfl ?_
  refine z_iconst dX7_spreadNow_2 ?_
  refine z_istoren_2 dX7_spreadNow_3 (Nat.le_of_ble_eq_true rfl) rfl ?_
  refine z_upn (P := fun i : Nat => z_J G Z _ _ 4 [some (.ref (z_ad G 0 40)), some (z_I (z_spr (M 22) i)), some (z_I i), none, none] [] M 0 0) (M 22 0).toNat ?_ ?_
  · refine z_rng fun hr => ?_
    refine z_iloadn dX7_spreadNow_4 rfl ?_
    refine z_aloadn dX7_spreadNow_5 rfl ?_
    refine gX7_7 rfl dX7_spreadNow_6 ?_
    refine z_iconst dX7_spreadNow_9 ?_
    refine z_iald (by rfl) (by first | decide | exact Or.inl ⟨by decide, hg⟩) (by omega) (by omega) (by decide) dX7_spreadNow_10 ?_
    refine z_icmp_ge (tgt := 64) (by first | (exact hr _ _ (by decide)) | omega) (by first | (exact hr _ _ (by decide)) | omega) dX7_spreadNow_11 (by decide) (fun h11 => ?_) (fun h11 => ?_)
    · refine z_aloadn dX7_spreadNow_64 rfl ?_
      refine z_iconst dX7_spreadNow_65 ?_
      refine kX7_203 (tX7_sumOf hb (by omega) (by omega)) rfl ⟨(Nat.le_of_ble_eq_true rfl), (Nat.le_of_ble_eq_true rfl)⟩ (Nat.le_of_ble_eq_true rfl) dX7_spreadNow_66 ?_
      refine z_istoren_2 dX7_spreadNow_69 (Nat.le_of_ble_eq_true rfl) rfl ?_
      refine z_iloadn dX7_spreadNow_70 rfl ?_
      refine z_if_ne (tgt := 78) (by first | (exact hr _ _ (by decide)) | omega) dX7_spreadNow_71 (by decide) (fun h71 => ?_) (fun h71 => ?_)
      · have y_n : 0 < M 22 0 := by
          rcases Int.lt_or_le 0 (M 22 0) with h | h
          · exact h
          · exact absurd (show z_sumOf (M 22) 0 = 0 by unfold z_sumOf; rw [show (M 22 0).toNat = 0 by omega]; rfl) h71
        have y_mm := z_mb (show 0 ≤ M 22 0 by omega) (show M 22 0 ≤ 12 by omega) y_sum.1 y_sum.2
        have y_mp : 0 < M 22 0 * z_sumOf (M 22) 0 := Int.mul_pos y_n (by omega)
        refine z_iloadn dX7_spreadNow_78 rfl ?_
        refine z_i2d dX7_spreadNow_79 ?_
        refine z_aloadn dX7_spreadNow_80 rfl ?_
        refine gX7_7 rfl dX7_spreadNow_81 ?_
        refine z_iconst dX7_spreadNow_84 ?_
        refine z_iald (by rfl) (by first | decide | exact Or.inl ⟨by decide, hg⟩) (by omega) (by omega) (by decide) dX7_spreadNow_85 ?_
        refine z_iloadn dX7_spreadNow_86 rfl ?_
        refine z_imul dX7_spreadNow_87 ?_
        refine z_i2d dX7_spreadNow_88 ?_
        refine z_ddiv (z_fdiv y_mp (by omega)) dX7_spreadNow_89 ?_
        exact z_dret dX7_spreadNow_90 (by unfold z_spd; first | rw [if_pos h71] | rw [if_neg h71]) rfl
      · refine z_dconst0 dX7_spreadNow_74 ?_
        refine z_goto (tgt := 90) dX7_spreadNow_75 (by decide) ?_
        exact z_dret dX7_spreadNow_90 (by unfold z_spd; first | rw [if_pos h71] | rw [if_neg h71]) rfl
    · exfalso; omega
  · intro i hi y_ih
    refine z_rng fun hr => ?_
    have y_bi := z_BI_bal hb (p := i) (by omega) (by omega)
    have y_s : z_spr (M 22) (i + 1) = z_spr (M 22) i + z_sm i (fun j => z_ab (M 22 (14 + 6 * (i : Int)) - M 22 (14 + 6 * j))) := rfl
    generalize y_g : z_spr (M 22) i = A at *
    refine z_iloadn dX7_spreadNow_4 rfl ?_
    refine z_aloadn dX7_spreadNow_5 rfl ?_
    refine gX7_7 rfl dX7_spreadNow_6 ?_
    refine z_iconst dX7_spreadNow_9 ?_
    refine z_iald (by rfl) (by first | decide | exact Or.inl ⟨by decide, hg⟩) (by omega) (by omega) (by decide) dX7_spreadNow_10 ?_
    refine z_icmp_ge (tgt := 64) (by first | (exact hr _ _ (by decide)) | omega) (by first | (exact hr _ _ (by decide)) | omega) dX7_spreadNow_11 (by decide) (fun h11 => ?_) (fun h11 => ?_)
    · exfalso; omega
    · refine z_iconst dX7_spreadNow_14 ?_
      refine z_istoren_3 dX7_spreadNow_15 (Nat.le_of_ble_eq_true rfl) rfl ?_
      have y_e : A = A + z_sm 0 (fun j => z_ab (M 22 (14 + 6 * (i : Int)) - M 22 (14 + 6 * j))) := (Int.add_zero A).symm
      rw [y_e]
      refine z_upn (P := fun j : Nat => z_J G Z _ _ 16 [some (.ref (z_ad G 0 40)), some (z_I (A + z_sm j (fun j => z_ab (M 22 (14 + 6 * (i : Int)) - M 22 (14 + 6 * j))))), some (z_I i), some (z_I j), none] [] M 0 0) i ?_ ?_
      · refine z_rng fun hr => ?_
        refine z_iloadn dX7_spreadNow_16 rfl ?_
        refine z_iloadn dX7_spreadNow_17 rfl ?_
        refine z_icmp_ge (tgt := 58) (by first | (exact hr _ _ (by decide)) | omega) (by first | (exact hr _ _ (by decide)) | omega) dX7_spreadNow_18 (by decide) (fun h18 => ?_) (fun h18 => ?_)
        · refine z_iinc_2 dX7_spreadNow_58 (Nat.le_of_ble_eq_true rfl) rfl ?_
          refine z_goto (tgt := 4) dX7_spreadNow_61 (by decide) ?_
          refine z_fgt 3 ?_
          rw [y_s] at y_ih
          exact y_ih
        · exfalso; omega
      · intro j hj y_jh
        refine z_rng fun hr => ?_
        have y_bj := z_BI_bal hb (p := j) (by omega) (by omega)
        have y_t : A + z_sm (j + 1) (fun j => z_ab (M 22 (14 + 6 * (i : Int)) - M 22 (14 + 6 * j))) = A + z_sm j (fun j => z_ab (M 22 (14 + 6 * (i : Int)) - M 22 (14 + 6 * j))) + (z_ab (M 22 (14 + 6 * (i : Int)) - M 22 (14 + 6 * (j : Int)))) := by rw [z_sm_s, Int.add_assoc]
        refine z_iloadn dX7_spreadNow_16 rfl ?_
        refine z_iloadn dX7_spreadNow_17 rfl ?_
        refine z_icmp_ge (tgt := 58) (by first | (exact hr _ _ (by decide)) | omega) (by first | (exact hr _ _ (by decide)) | omega) dX7_spreadNow_18 (by decide) (fun h18 => ?_) (fun h18 => ?_)
        · exfalso; omega
        · refine z_aloadn dX7_spreadNow_21 rfl ?_
          refine z_iloadn dX7_spreadNow_22 rfl ?_
          refine z_iconst dX7_spreadNow_23 ?_
          refine kX7_61 (tX7_of0 (by omega) (by omega)) rfl ⟨(Nat.le_of_ble_eq_true rfl), (Nat.le_of_ble_eq_true rfl)⟩ (Nat.le_of_ble_eq_true rfl) dX7_spreadNow_24 ?_
          refine z_aloadn dX7_spreadNow_27 rfl ?_
          refine z_iloadn dX7_spreadNow_28 rfl ?_
          refine z_iconst dX7_spreadNow_29 ?_
          refine kX7_61 (tX7_of0 (by omega) (by omega)) rfl ⟨(Nat.le_of_ble_eq_true rfl), (Nat.le_of_ble_eq_true rfl)⟩ (Nat.le_of_ble_eq_true rfl) dX7_spreadNow_30 ?_
          refine z_isub dX7_spreadNow_33 ?_
          refine z_istore_4 dX7_spreadNow_34 (Nat.le_of_ble_eq_true rfl) rfl ?_
          refine z_iloadn dX7_spreadNow_36 rfl ?_
          refine z_iload dX7_spreadNow_37 rfl ?_
          refine z_if_ge (tgt := 48) (by first | (exact hr _ _ (by decide)) | omega) dX7_spreadNow_39 (by decide) (fun h39 => ?_) (fun h39 => ?_)
          · refine z_iload dX7_spreadNow_48 rfl ?_
            refine z_top (v' := (z_ab (M 22 (14 + 6 * (i : Int)) - M 22 (14 + 6 * (j : Int))))) (by unfold z_ab; first | rw [if_pos (by omega)] | rw [if_neg (by omega)]) ?_
            refine z_iadd dX7_spreadNow_50 ?_
            refine z_istoren_1 dX7_spreadNow_51 (Nat.le_of_ble_eq_true rfl) rfl ?_
            refine z_iinc_3 dX7_spreadNow_52 (Nat.le_of_ble_eq_true rfl) rfl ?_
            refine z_goto (tgt := 16) dX7_spreadNow_55 (by decide) ?_
            refine z_fgt 4 ?_
            rw [y_t] at y_jh
            exact y_jh
          · refine z_iload dX7_spreadNow_42 rfl ?_
            refine z_ineg dX7_spreadNow_44 ?_
            refine z_goto (tgt := 50) dX7_spreadNow_45 (by decide) ?_
            refine z_top (v' := (z_ab (M 22 (14 + 6 * (i : Int)) - M 22 (14 + 6 * (j : Int))))) (by unfold z_ab; first | rw [if_pos (by omega)] | rw [if_neg (by omega)]) ?_
            refine z_iadd dX7_spreadNow_50 ?_
            refine z_istoren_1 dX7_spreadNow_51 (Nat.le_of_ble_eq_true rfl) rfl ?_
            refine z_iinc_3 dX7_spreadNow_52 (Nat.le_of_ble_eq_true rfl) rfl ?_
            refine z_goto (tgt := 16) dX7_spreadNow_55 (by decide) ?_
            refine z_fgt 4 ?_
            rw [y_t] at y_jh
            exact y_jh
theorem tX7_spread {G : z_G} {M : z_M} {N  : Int} (hb : z_BI (M 22) N) : KX7_spread G [.ref (z_ad G 0 40)] M (.inl (some (.double (z_spd (M 22))))) (z_sM M 21 4 0) := by
  refine z_con (ls := [some (.ref (z_ad G 0 40))]) (by decide +kernel) (Nat.le_of_ble_eq_true rfl) rfl ?_
  intro Z htb
  refine z_rng fun hr => ?_
  refine z_aloadn dX7_spread_0 rfl ?_
  refine z_iconst dX7_spread_1 ?_
  refine pX7_40 (by first | (exact hr _ _ (by decide)) | omega) rfl dX7_spread_2 ?_
  refine z_rng fun hr => ?_
  refine z_aloadn dX7_spread_5 rfl ?_
  refine kX7_242 (tX7_spreadNow (show z_BI (z_sM M 21 4 0 22) N from (z_sM_row M (a := 21) (a' := 22) 4 0 (by decide)).symm ▸ hb)) rfl ⟨(Nat.le_of_ble_eq_true rfl), (Nat.le_of_ble_eq_true rfl)⟩ (Nat.le_of_ble_eq_true rfl) dX7_spread_6 ?_
  exact z_dret dX7_spread_9 (by rw [z_sM_row _ _ _ (by decide)]) rfl
theorem tX7_mix {G : z_G} {M : z_M} {v : Int} : KX7_mix G [.ref (z_ad G 0 40), z_L v] M (.inl none) (z_sM M 20 0 (31 * M 20 0 + v)) := by
  refine z_con (ls := [some (.ref (z_ad G 0 40)), some (z_L v), none]) (by decide +kernel) (Nat.le_of_ble_eq_true rfl) rfl ?_
  intro Z htb
  refine z_rng fun hr => ?_
  refine z_aloadn dX7_mix_0 rfl ?_
  refine z_ldc2 (i := 31) wk_X7_246 dX7_mix_1 ?_
  refine z_aloadn dX7_mix_4 rfl ?_
  refine gX7_248 rfl dX7_mix_5 ?_
  refine z_lmul dX7_mix_8 ?_
  refine z_lloadn dX7_mix_9 rfl ?_
  refine z_ladd dX7_mix_10 ?_
  refine pX7_248 rfl dX7_mix_11 ?_
  refine z_rng fun hr => ?_
  exact z_vret dX7_mix_14 rfl
theorem wc_Jxe99ae_isNaN_b9ae7 : Cond.code yJxe99ae_isNaN_b9ae7 cJxe99ae_isNaN_b9ae7 2 (some .boolean) ∈ z_W := z_wi 1392 (by decide +kernel) (by decide +kernel)
theorem wt_Jxe99ae_isNaN_b9ae7 : Cond.static yJxe99ae_isNaN_b9ae7 ∈ z_W := z_wi 1391 (by decide +kernel) (by decide +kernel)
theorem wmJxe99ae_122 : Cond.methodLink RJxe99ae 122 yJxe99ae_isNaN_b9ae7 ∈ z_W := z_wi 1390 (by decide +kernel) (by decide +kernel)
theorem wmJxe99ae_134 : Cond.methodLink RJxe99ae 134 ⟨"java/lang/Double", "doubleToRawLongBits", "(D)J"⟩ ∈ z_W := z_wi 1393 (by decide +kernel) (by decide +kernel)
theorem wv_d2raw : Cond.native ⟨"java/lang/Double", "doubleToRawLongBits", "(D)J"⟩ ∈ z_W := z_wi 1395 (by decide +kernel) (by decide +kernel)
theorem wt_d2raw : Cond.static ⟨"java/lang/Double", "doubleToRawLongBits", "(D)J"⟩ ∈ z_W := z_wi 1394 (by decide +kernel) (by decide +kernel)
abbrev KJxe99ae_isNaN_b9ae7 (G : z_G) (args : List Value) (M : z_M) (o : z_O) (M1 : z_M) : Prop := z_Con G yJxe99ae_isNaN_b9ae7 cJxe99ae_isNaN_b9ae7 2 (some .boolean) 0 0 args M o M1
theorem n_Jxe99ae_isNaN_b9ae7 : z_name yJxe99ae_isNaN_b9ae7 1 := ⟨⟨by decide +kernel, by decide +kernel⟩, by decide +kernel⟩
section ZD9
variable {G : z_G} {Z : z_Z} {d : z_Md} {Q : State → Prop} {pc : Nat} {ls : List (Option Value)} {rest : List Value} {M M1 : z_M}
theorem kJxe99ae_122 {a1 : Value} {r : Int} (hC : KJxe99ae_isNaN_b9ae7 G [a1] M (.inl (some (z_I r))) M1) (ho : z_own d = RJxe99ae) (hfit : z_fit d 0 0 2) (hcat : (rest.map fun v => v.category).sum ≤ 8) (hd : decode (z_cc d) pc = .ok (.invokestatic 122, 3)) (kk : z_J G Z d Q (pc + 3) ls (z_I r :: rest) M1 0 0) : z_J G Z d Q pc ls (a1 :: rest) M 0 0 :=
  z_callS hC (by rw [ho]; exact wmJxe99ae_122) wt_Jxe99ae_isNaN_b9ae7 wc_Jxe99ae_isNaN_b9ae7 wn_Jxe99ae n_Jxe99ae_isNaN_b9ae7 rfl rfl hfit ⟨Nat.zero_le _, Nat.zero_le _⟩ hcat hd kk
theorem z_d2raw {x : UInt64} {k n : Nat} (ho : z_own d = RJxe99ae) (hfr : 1 ≤ (z_R d).frames) (hlo : (rest.map fun v => v.category).sum + 15 ≤ (z_R d).locals) (hd : decode (z_cc d) pc = .ok (.invokestatic 134, 3)) (kk : z_J G Z d Q (pc + 3) ls (.long x.toInt64 :: rest) M k n) : z_J G Z d Q pc ls (.double x :: rest) M k n := fun hO H locs la hW hS hL =>
  vn_d2l hO.1 hO.2.1 (by rw [hL.1]; exact hO.2.2.1) hO.2.2.2.1 (by rw [ho]; exact z_tw hO wmJxe99ae_134 _) (z_tw hO wv_d2raw _) (z_tw hO wt_d2raw _) (z_tw hO wn_Jxe99ae _) hfr hlo hd (kk hO H locs la hW hS hL)
end ZD9
theorem tJxe99ae_isNaN_b9ae7 {G : z_G} {M : z_M} {x : UInt64} (hx : Op.cmpValue (FP.dcmp x x) .l = Int32.ofInt 0) : KJxe99ae_isNaN_b9ae7 G [.double x] M (.inl (some (z_I 0))) M := by
  refine z_con (ls := [some (.double x), none]) (by decide +kernel) (Nat.le_of_ble_eq_true rfl) rfl ?_
  intro Z htb
  refine z_rng fun hr => ?_
  refine z_dloadn dJxe99ae_isNaN_b9ae7_0 rfl ?_
  refine z_dloadn dJxe99ae_isNaN_b9ae7_1 rfl ?_
  refine z_dcmp hx dJxe99ae_isNaN_b9ae7_2 ?_
  refine z_if_eq (tgt := 10) (by first | (exact hr _ _ (by decide)) | omega) dJxe99ae_isNaN_b9ae7_3 (by decide) (fun h3 => ?_) (fun h3 => ?_)
  · refine z_iconst dJxe99ae_isNaN_b9ae7_10 ?_
    exact z_zret dJxe99ae_isNaN_b9ae7_11 (by first | rfl | omega | (split <;> omega)) rfl (by first | decide | (split <;> simp))
  · exfalso; omega
theorem tJxe99ae_doubleToLongBits_ccdee {G : z_G} {M : z_M} {x : UInt64} (hx : Op.cmpValue (FP.dcmp x x) .l = Int32.ofInt 0) : KJxe99ae_doubleToLongBits_ccdee G [.double x] M (.inl (some (z_L x.toInt64.toInt))) M := by
  refine z_con (ls := [some (.double x), none]) (by decide +kernel) (Nat.le_of_ble_eq_true rfl) rfl ?_
  intro Z htb
  refine z_rng fun hr => ?_
  refine z_dloadn dJxe99ae_doubleToLongBits_ccdee_0 rfl ?_
  refine kJxe99ae_122 (tJxe99ae_isNaN_b9ae7 hx) rfl ⟨(Nat.le_of_ble_eq_true rfl), (Nat.le_of_ble_eq_true rfl)⟩ (Nat.le_of_ble_eq_true rfl) dJxe99ae_doubleToLongBits_ccdee_1 ?_
  refine z_if_ne (tgt := 12) (by decide) dJxe99ae_doubleToLongBits_ccdee_4 (by decide) (fun h4 => ?_) (fun h4 => ?_)
  · exact absurd rfl h4
  refine z_dloadn dJxe99ae_doubleToLongBits_ccdee_7 rfl ?_
  refine z_d2raw rfl (Nat.le_of_ble_eq_true rfl) (Nat.le_of_ble_eq_true rfl) dJxe99ae_doubleToLongBits_ccdee_8 ?_
  rw [show Value.long x.toInt64 = z_L x.toInt64.toInt from by unfold z_L; rw [Int64.ofInt_toInt]]
  exact z_lret dJxe99ae_doubleToLongBits_ccdee_11 rfl rfl
