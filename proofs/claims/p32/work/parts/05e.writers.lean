/-! ===== the class: writers as bits, parts, incomes ===== -/
def z_wbx (f : Int → Int) (x : Int) (n : Nat) : Int := z_nx f (fun p => z_bit x p) n
theorem z_wbx_rg (f : Int → Int) (x : Int) (n : Nat) : -1 ≤ z_wbx f x n ∧ z_wbx f x n < n := z_nx_rg _ _ _
def z_wbs (f : Int → Int) : Nat → Int
  | 0 => 0
  | i + 1 => if z_wbx f (z_wbs f i) 12 = -1 then z_wbs f i else z_bor (z_wbs f i) (z_wbx f (z_wbs f i) 12)
theorem z_wbs_rg (f : Int → Int) (i : Nat) : 0 ≤ z_wbs f i ∧ z_wbs f i < 4096 := by
  induction i with
  | zero => exact ⟨Int.le_refl _, by show (0 : Int) < 4096; decide⟩
  | succ i ih =>
    have h := z_wbx_rg f (z_wbs f i) 12
    unfold z_wbs
    split
    · exact ih
    · exact ⟨z_bor_nn _ _, z_bor_lt (n := 12) ih.1 ih.2 (by omega) (by omega)⟩
theorem z_wd_4 {b : Int → Int} {k : Int} (h : b (86 + 5 * k + 2) = 4) (n : Nat) : z_wd b k n = 0 := by
  induction n with
  | zero => rfl
  | succ n ih => unfold z_wd; rw [if_neg (fun q => q.1 h)]; exact ih
theorem z_wd_rg (b : Int → Int) (k : Int) (n : Nat) (hn : n ≤ 12) : 0 ≤ z_wd b k n ∧ z_wd b k n < 4096 := by
  induction n with
  | zero => exact ⟨Int.le_refl _, by show (0 : Int) < 4096; decide⟩
  | succ i ih =>
    have h := ih (by omega)
    unfold z_wd
    split
    · exact ⟨z_bor_nn _ _, z_bor_lt (n := 12) h.1 h.2 (by omega) (by omega)⟩
    · exact h
/-- parts from drafts -/
def z_gpb (b : Int → Int) (k : Int) : Int → Int := fun p => if z_bit (z_wbs (z_dr b k) 4) p = 1 then b (186 + 12 * k + p) else 0
def z_begin (b : Int → Int) (x f : Int) : Int → Int := z_uf (z_uf (z_uf (z_uf (z_uf b (86 + 5 * b 1) x) (86 + 5 * b 1 + 1) f) (86 + 5 * b 1 + 3) 1) (426 + 12 * b 1 + x) 1) 1 (b 1 + 1)
def z_ay (b : Int → Int) (k : Int) (s : Int → Int) : Int → Int := z_cp b (fun p => b (666 + 12 * k + p) + s p) (666 + 12 * k) 0 12
/-- the pens' incomes: the row and what is withheld -/
def z_eL (S : Int → Int) (x : (Int → Int) × Int) : Nat → (Int → Int) × Int
  | 0 => x
  | p + 1 => (z_ern (z_eL S x p).1 p (S p), (z_eL S x p).2 + z_hl (S p) ((z_eL S x p).1 (14 + 6 * p + 1)))
/-- what comes in, with B the division's row of ints and S its row of parts -/
def z_e0 (b B : Int → Int) : (Int → Int) × Int := (z_ern b (B 10) (B 11), B 8 + B 9 + z_hl (B 11) (b (14 + 6 * B 10 + 1)))
def z_eA (b B S : Int → Int) : (Int → Int) × Int := z_eL S (z_e0 b B) (b 0).toNat
def z_bin (b B S : Int → Int) (a : Int) : Int → Int := z_uf (z_uf (z_eA b B S).1 3 ((z_eA b B S).1 3 + (z_eA b B S).2)) 4 ((z_eA b B S).1 4 + a)
theorem z_ern_o {b : Int → Int} {p a j : Int} (h : j ≠ 14 + 6 * p ∧ j ≠ 14 + 6 * p + 1 ∧ j ≠ 14 + 6 * p + 2) : z_ern b p a j = b j := by
  unfold z_ern
  rw [z_uf_ne _ _ h.1, z_uf_ne _ _ h.2.1, z_uf_ne _ _ h.2.2]
theorem z_eL_o {S : Int → Int} {x : (Int → Int) × Int} {j : Int} (h : j < 14 ∨ 86 ≤ j) : ∀ n : Nat, n ≤ 12 → (z_eL S x n).1 j = x.1 j := by
  intro n
  induction n with
  | zero => intro _; rfl
  | succ n ih => intro hn; exact (z_ern_o (by omega)).trans (ih (by omega))
/-- what pen p would get -/
def z_gain (b B S : Int → Int) (p : Int) : Int :=
  (if p = B 10 then B 11 else 0) - z_hl (if p = B 10 then B 11 else 0) (b (14 + 6 * p + 1)) + S p - z_hl (S p) (b (14 + 6 * p + 1) - z_hl (if p = B 10 then B 11 else 0) (b (14 + 6 * p + 1)))
/-- bounds while it comes in -/
def z_ebd (b : Int → Int) (B : Int) : Prop := ∀ p, 0 ≤ p → p < 12 → 0 ≤ b (14 + 6 * p) ∧ b (14 + 6 * p) ≤ B ∧ 0 ≤ b (14 + 6 * p + 1) ∧ b (14 + 6 * p + 1) ≤ B ∧ 0 ≤ b (14 + 6 * p + 2) ∧ b (14 + 6 * p + 2) ≤ B
theorem z_ebd_ern {b : Int → Int} {B A p a : Int} (h : z_ebd b B) (p0 : 0 ≤ p) (p1 : p < 12) (a0 : 0 ≤ a) (a1 : a ≤ A) : z_ebd (z_ern b p a) (B + A) := by
  intro q q0 q1
  have h1 := h p p0 p1
  have h2 := h q q0 q1
  have h3 := z_hl_rg a0 h1.2.2.1
  unfold z_ern
  by_cases e : q = p
  · subst e
    rw [z_uf_self, z_uf_ne _ _ (by omega), z_uf_self, z_uf_ne _ _ (by omega), z_uf_ne _ _ (by omega), z_uf_self]
    omega
  · rw [z_uf_ne _ _ (by omega), z_uf_ne _ _ (by omega), z_uf_ne _ _ (by omega), z_uf_ne _ _ (by omega), z_uf_ne _ _ (by omega), z_uf_ne _ _ (by omega), z_uf_ne _ _ (by omega), z_uf_ne _ _ (by omega), z_uf_ne _ _ (by omega)]
    omega
theorem z_ebd_eL {S : Int → Int} {x : (Int → Int) × Int} {A B : Int} (hx : z_ebd x.1 B) (h0 : 0 ≤ x.2 ∧ x.2 ≤ B) (A0 : 0 ≤ A) (hS : ∀ p, 0 ≤ p → p < 12 → 0 ≤ S p ∧ S p ≤ A) : ∀ n : Nat, n ≤ 12 → z_ebd (z_eL S x n).1 (B + n * A) ∧ 0 ≤ (z_eL S x n).2 ∧ (z_eL S x n).2 ≤ B + n * A := by
  intro n
  induction n with
  | zero => intro _; rw [show ((0 : Nat) : Int) = 0 from rfl, Int.zero_mul, Int.add_zero]; exact ⟨hx, h0⟩
  | succ n ih =>
    intro hn
    obtain ⟨i1, i2, i3⟩ := ih (by omega)
    have hs := hS n (by omega) (by omega)
    have e : B + ((n + 1 : Nat) : Int) * A = B + n * A + A := by
      rw [show ((n + 1 : Nat) : Int) = (n : Int) + 1 from rfl, Int.add_mul, Int.one_mul, Int.add_assoc]
    rw [e]
    have hw := z_hl_rg hs.1 (i1 n (by omega) (by omega)).2.2.1
    refine ⟨z_ebd_ern i1 (by omega) (by omega) hs.1 hs.2, ?_, ?_⟩
    · show 0 ≤ (z_eL S x n).2 + z_hl (S n) _
      omega
    · show (z_eL S x n).2 + z_hl (S n) _ ≤ _
      omega
theorem tX6_isIn {G : z_G} {M : z_M} {x p : Int} (x0 : 0 ≤ x) (x1 : x ≤ 2147483647) (p0 : 0 ≤ p) (p1 : p < 31) : KX6_isIn G [z_I x, z_I p] M (.inl (some (z_I (if z_bit x p = 1 then 1 else 0)))) M := by
  refine z_con (ls := [some (z_I x), some (z_I p)]) (by decide +kernel) (Nat.le_of_ble_eq_true rfl) rfl ?_
  intro Z htb
  refine z_rng fun hr => ?_
  have y_d : 0 ≤ x / 2 ^ p.toNat := Int.ediv_nonneg x0 (Int.le_of_lt (Int.pow_pos (by decide)))
  refine z_iloadn dX6_isIn_0 rfl ?_
  refine z_iloadn dX6_isIn_1 rfl ?_
  refine z_ishr (z_bshr (by omega) (by omega) (by omega) (by omega)) dX6_isIn_2 ?_
  refine z_iconst dX6_isIn_3 ?_
  refine z_iand (z_band1 y_d) dX6_isIn_4 ?_
  refine z_if_eq (tgt := 12) (by first | (exact hr _ _ (by decide)) | (exact hr _ _ (by omega)) | omega) dX6_isIn_5 (by decide) (fun h5 => ?_) (fun h5 => ?_)
  · refine z_iconst dX6_isIn_12 ?_
    exact z_zret dX6_isIn_13 (by unfold z_bit; split <;> omega) rfl (by first | decide | (split <;> simp))
  · refine z_iconst dX6_isIn_8 ?_
    refine z_goto (tgt := 13) dX6_isIn_9 (by decide) ?_
    exact z_zret dX6_isIn_13 (by unfold z_bit; split <;> omega) rfl (by first | decide | (split <;> simp))
theorem tX4_writerWithMost {G : z_G} {M : z_M} {g : Nat} {N k x : Int} (hg : g < 7) (hb : z_BI (M g) N) (k0 : 0 ≤ k) (k1 : k < 20) (x0 : 0 ≤ x) (x1 : x < 4096) : KX4_writerWithMost G [.ref (z_ad G g 8), z_I k, z_I x] M (.inl (some (z_I (z_wbx (z_dr (M g) k) x 12)))) M := by
  refine z_con (ls := [some (.ref (z_ad G g 8)), some (z_I k), some (z_I x), none, none, none]) (by decide +kernel) (Nat.le_of_ble_eq_true rfl) rfl ?_
  intro Z htb
  refine z_rng fun hr => ?_
  have hh := z_BI_h hb
  have y_Q := fun p p0 p1 => z_BI_Q hb k p k0 k1 p0 p1
  unfold z_QI at y_Q
  refine z_iconst dX4_writerWithMost_0 ?_
  refine z_istoren_3 dX4_writerWithMost_1 (Nat.le_of_ble_eq_true rfl) rfl ?_
  refine z_iconst dX4_writerWithMost_2 ?_
  refine z_istore_4 dX4_writerWithMost_3 (Nat.le_of_ble_eq_true rfl) rfl ?_
  refine z_iconst dX4_writerWithMost_5 ?_
  refine z_istore_5 dX4_writerWithMost_6 (Nat.le_of_ble_eq_true rfl) rfl ?_
  refine z_upn (P := fun i : Nat => z_J G Z _ _ 8 [some (.ref (z_ad G g 8)), some (z_I k), some (z_I x), some (z_I (z_wbx (z_dr (M g) k) x i)), some (z_I (if (z_wbx (z_dr (M g) k) x i) = -1 then 0 else M g (186 + 12 * k + (z_wbx (z_dr (M g) k) x i)))), some (z_I i)] [] M 0 0) 12 ?_ ?_
  · refine z_rng fun hr => ?_
    refine z_iload dX4_writerWithMost_8 rfl ?_
    refine z_bipush dX4_writerWithMost_10 (by decide) ?_
    refine z_icmp_ge (tgt := 62) (by first | (exact hr _ _ (by decide)) | (exact hr _ _ (by omega)) | omega) (by first | (exact hr _ _ (by decide)) | (exact hr _ _ (by omega)) | omega) dX4_writerWithMost_12 (by decide) (fun h12 => ?_) (fun h12 => ?_)
    · refine z_iloadn dX4_writerWithMost_62 rfl ?_
      exact z_iret dX4_writerWithMost_63 (by first | rfl | omega) rfl
    · exfalso; omega
  · intro i hi y_ih
    refine z_rng fun hr => ?_
    have y_q := y_Q i (by omega) (by omega)
    have y_r := z_wbx_rg (z_dr (M g) k) x i
    have y_b := z_bit_01 x i
    have y_s : z_wbx (z_dr (M g) k) x (i + 1) = if 0 < M g (186 + 12 * k + i) ∧ z_bit x i = 0 ∧ ((z_wbx (z_dr (M g) k) x i) = -1 ∨ M g (186 + 12 * k + (z_wbx (z_dr (M g) k) x i)) < M g (186 + 12 * k + i)) then (i : Int) else (z_wbx (z_dr (M g) k) x i) := rfl
    have y_v : 0 ≤ (if (z_wbx (z_dr (M g) k) x i) = -1 then 0 else M g (186 + 12 * k + (z_wbx (z_dr (M g) k) x i))) ∧ (if (z_wbx (z_dr (M g) k) x i) = -1 then 0 else M g (186 + 12 * k + (z_wbx (z_dr (M g) k) x i))) ≤ 9 := by
      split
      · omega
      · have := y_Q (z_wbx (z_dr (M g) k) x i) (by omega) (by omega); omega
    have y_w : (if (z_wbx (z_dr (M g) k) x i) = -1 then 0 else M g (186 + 12 * k + (z_wbx (z_dr (M g) k) x i))) < M g (186 + 12 * k + i) → 0 < M g (186 + 12 * k + i) ∧ ((z_wbx (z_dr (M g) k) x i) = -1 ∨ M g (186 + 12 * k + (z_wbx (z_dr (M g) k) x i)) < M g (186 + 12 * k + i)) := by
      split <;> omega
    have y_x : ¬ (if (z_wbx (z_dr (M g) k) x i) = -1 then 0 else M g (186 + 12 * k + (z_wbx (z_dr (M g) k) x i))) < M g (186 + 12 * k + i) → ¬ (0 < M g (186 + 12 * k + i) ∧ ((z_wbx (z_dr (M g) k) x i) = -1 ∨ M g (186 + 12 * k + (z_wbx (z_dr (M g) k) x i)) < M g (186 + 12 * k + i))) := by
      split <;> omega
    refine z_iload dX4_writerWithMost_8 rfl ?_
    refine z_bipush dX4_writerWithMost_10 (by decide) ?_
    refine z_icmp_ge (tgt := 62) (by first | (exact hr _ _ (by decide)) | (exact hr _ _ (by omega)) | omega) (by first | (exact hr _ _ (by decide)) | (exact hr _ _ (by omega)) | omega) dX4_writerWithMost_12 (by decide) (fun h12 => ?_) (fun h12 => ?_)
    · exfalso; omega
    · refine z_aloadn dX4_writerWithMost_15 rfl ?_
      refine gX4_30 hg rfl dX4_writerWithMost_16 ?_
      refine z_iloadn dX4_writerWithMost_19 rfl ?_
      refine z_iload dX4_writerWithMost_20 rfl ?_
      refine kX4_44 tX6_at rfl ⟨(Nat.le_of_ble_eq_true rfl), (Nat.le_of_ble_eq_true rfl)⟩ (Nat.le_of_ble_eq_true rfl) dX4_writerWithMost_22 ?_
      refine z_iald (by rfl) (by first | exact Or.inl (by decide) | exact Or.inl (Or.inl ⟨by decide, hg⟩)) (by omega) (by omega) (by decide) dX4_writerWithMost_25 ?_
      refine z_top (v' := M g (186 + 12 * k + (i : Int))) (by congr 1; omega) ?_
      refine z_iload dX4_writerWithMost_26 rfl ?_
      refine z_icmp_le (tgt := 56) (by first | (exact hr _ _ (by decide)) | (exact hr _ _ (by omega)) | omega) (by first | (exact hr _ _ (by decide)) | (exact hr _ _ (by omega)) | omega) dX4_writerWithMost_28 (by decide) (fun h28 => ?_) (fun h28 => ?_)
      · refine z_iinc_5 dX4_writerWithMost_56 (Nat.le_of_ble_eq_true rfl) rfl ?_
        refine z_goto (tgt := 8) dX4_writerWithMost_59 (by decide) ?_
        first
          | (rw [y_s, if_pos ⟨(y_w (by omega)).1, by omega, (y_w (by omega)).2⟩, if_neg (by omega)] at y_ih; exact y_ih)
          | (rw [y_s, if_neg (fun q => by omega)] at y_ih; exact y_ih)
          | (rw [y_s, if_neg (fun q => y_x (by omega) ⟨q.1, q.2.2⟩)] at y_ih; exact y_ih)
      · refine z_iloadn dX4_writerWithMost_31 rfl ?_
        refine z_iload dX4_writerWithMost_32 rfl ?_
        refine kX4_62 (tX6_isIn (by omega) (by omega) (by omega) (by omega)) rfl ⟨(Nat.le_of_ble_eq_true rfl), (Nat.le_of_ble_eq_true rfl)⟩ (Nat.le_of_ble_eq_true rfl) dX4_writerWithMost_34 ?_
        refine z_ifb_ne (tgt := 56) dX4_writerWithMost_37 (by decide) (fun h37 => ?_) (fun h37 => ?_)
        · refine z_iinc_5 dX4_writerWithMost_56 (Nat.le_of_ble_eq_true rfl) rfl ?_
          refine z_goto (tgt := 8) dX4_writerWithMost_59 (by decide) ?_
          first
            | (rw [y_s, if_pos ⟨(y_w (by omega)).1, by omega, (y_w (by omega)).2⟩, if_neg (by omega)] at y_ih; exact y_ih)
            | (rw [y_s, if_neg (fun q => by omega)] at y_ih; exact y_ih)
            | (rw [y_s, if_neg (fun q => y_x (by omega) ⟨q.1, q.2.2⟩)] at y_ih; exact y_ih)
        · refine z_iload dX4_writerWithMost_40 rfl ?_
          refine z_istoren_3 dX4_writerWithMost_42 (Nat.le_of_ble_eq_true rfl) rfl ?_
          refine z_aloadn dX4_writerWithMost_43 rfl ?_
          refine gX4_30 hg rfl dX4_writerWithMost_44 ?_
          refine z_iloadn dX4_writerWithMost_47 rfl ?_
          refine z_iload dX4_writerWithMost_48 rfl ?_
          refine kX4_44 tX6_at rfl ⟨(Nat.le_of_ble_eq_true rfl), (Nat.le_of_ble_eq_true rfl)⟩ (Nat.le_of_ble_eq_true rfl) dX4_writerWithMost_50 ?_
          refine z_iald (by rfl) (by first | exact Or.inl (by decide) | exact Or.inl (Or.inl ⟨by decide, hg⟩)) (by omega) (by omega) (by decide) dX4_writerWithMost_53 ?_
          refine z_top (v' := M g (186 + 12 * k + (i : Int))) (by congr 1; omega) ?_
          refine z_istore_4 dX4_writerWithMost_54 (Nat.le_of_ble_eq_true rfl) rfl ?_
          refine z_iinc_5 dX4_writerWithMost_56 (Nat.le_of_ble_eq_true rfl) rfl ?_
          refine z_goto (tgt := 8) dX4_writerWithMost_59 (by decide) ?_
          first
            | (rw [y_s, if_pos ⟨(y_w (by omega)).1, by omega, (y_w (by omega)).2⟩, if_neg (by omega)] at y_ih; exact y_ih)
            | (rw [y_s, if_neg (fun q => by omega)] at y_ih; exact y_ih)
            | (rw [y_s, if_neg (fun q => y_x (by omega) ⟨q.1, q.2.2⟩)] at y_ih; exact y_ih)
theorem tX4_writers {G : z_G} {M : z_M} {g : Nat} {N k : Int} (hg : g < 7) (hb : z_BI (M g) N) (k0 : 0 ≤ k) (k1 : k < 20) : KX4_writers G [.ref (z_ad G g 8), z_I k] M (.inl (some (z_I (z_wbs (z_dr (M g) k) 4)))) M := by
  refine z_con (ls := [some (.ref (z_ad G g 8)), some (z_I k), none, none, none]) (by decide +kernel) (Nat.le_of_ble_eq_true rfl) rfl ?_
  intro Z htb
  refine z_rng fun hr => ?_
  have hh := z_BI_h hb
  refine z_iconst dX4_writers_0 ?_
  refine z_istoren_2 dX4_writers_1 (Nat.le_of_ble_eq_true rfl) rfl ?_
  refine z_iconst dX4_writers_2 ?_
  refine z_istoren_3 dX4_writers_3 (Nat.le_of_ble_eq_true rfl) rfl ?_
  refine z_upn (P := fun i : Nat => z_J G Z _ _ 4 [some (.ref (z_ad G g 8)), some (z_I k), some (z_I (z_wbs (z_dr (M g) k) i)), some (z_I i), none] [] M 0 0) 4 ?_ ?_
  · refine z_rng fun hr => ?_
    refine z_iloadn dX4_writers_4 rfl ?_
    refine z_iconst dX4_writers_5 ?_
    refine z_icmp_ge (tgt := 40) (by first | (exact hr _ _ (by decide)) | (exact hr _ _ (by omega)) | omega) (by first | (exact hr _ _ (by decide)) | (exact hr _ _ (by omega)) | omega) dX4_writers_6 (by decide) (fun h6 => ?_) (fun h6 => ?_)
    · refine z_iloadn dX4_writers_40 rfl ?_
      exact z_iret dX4_writers_41 (by first | rfl | omega) rfl
    · exfalso; omega
  · intro i hi y_ih
    refine z_rng fun hr => ?_
    have y_w := z_wbs_rg (z_dr (M g) k) i
    have y_r := z_wbx_rg (z_dr (M g) k) (z_wbs (z_dr (M g) k) i) 12
    have y_s : z_wbs (z_dr (M g) k) (i + 1) = if z_wbx (z_dr (M g) k) (z_wbs (z_dr (M g) k) i) 12 = -1 then (z_wbs (z_dr (M g) k) i) else z_bor (z_wbs (z_dr (M g) k) i) (z_wbx (z_dr (M g) k) (z_wbs (z_dr (M g) k) i) 12) := rfl
    refine z_iloadn dX4_writers_4 rfl ?_
    refine z_iconst dX4_writers_5 ?_
    refine z_icmp_ge (tgt := 40) (by first | (exact hr _ _ (by decide)) | (exact hr _ _ (by omega)) | omega) (by first | (exact hr _ _ (by decide)) | (exact hr _ _ (by omega)) | omega) dX4_writers_6 (by decide) (fun h6 => ?_) (fun h6 => ?_)
    · exfalso; omega
    · refine z_aloadn dX4_writers_9 rfl ?_
      refine z_iloadn dX4_writers_10 rfl ?_
      refine z_iloadn dX4_writers_11 rfl ?_
      refine kX4_66 hg (tX4_writerWithMost hg hb (by omega) (by omega) (by omega) (by omega)) rfl ⟨(Nat.le_of_ble_eq_true rfl), (Nat.le_of_ble_eq_true rfl)⟩ (Nat.le_of_ble_eq_true rfl) dX4_writers_12 ?_
      refine z_istore_4 dX4_writers_15 (Nat.le_of_ble_eq_true rfl) rfl ?_
      refine z_iloadn dX4_writers_17 rfl ?_
      refine z_iload dX4_writers_18 rfl ?_
      refine z_iconst dX4_writers_20 ?_
      refine z_icmp_ne (tgt := 28) (by first | (exact hr _ _ (by decide)) | (exact hr _ _ (by omega)) | omega) (by first | (exact hr _ _ (by decide)) | (exact hr _ _ (by omega)) | omega) dX4_writers_21 (by decide) (fun h21 => ?_) (fun h21 => ?_)
      · refine z_iconst dX4_writers_28 ?_
        refine z_iload dX4_writers_29 rfl ?_
        refine z_ishl (z_bshl (by omega) (by omega)) dX4_writers_31 ?_
        refine z_ior (by first | exact z_bori y_w.1 | exact z_bori0 y_w.1) dX4_writers_32 ?_
        refine z_istoren_2 dX4_writers_33 (Nat.le_of_ble_eq_true rfl) rfl ?_
        refine z_iinc_3 dX4_writers_34 (Nat.le_of_ble_eq_true rfl) rfl ?_
        refine z_goto (tgt := 4) dX4_writers_37 (by decide) ?_
        refine z_fgt 4 ?_
        first
          | (rw [y_s, if_pos (by omega)] at y_ih; exact y_ih)
          | (rw [y_s, if_neg (by omega)] at y_ih; exact y_ih)
      · refine z_iconst dX4_writers_24 ?_
        refine z_goto (tgt := 32) dX4_writers_25 (by decide) ?_
        refine z_ior (by first | exact z_bori y_w.1 | exact z_bori0 y_w.1) dX4_writers_32 ?_
        refine z_istoren_2 dX4_writers_33 (Nat.le_of_ble_eq_true rfl) rfl ?_
        refine z_iinc_3 dX4_writers_34 (Nat.le_of_ble_eq_true rfl) rfl ?_
        refine z_goto (tgt := 4) dX4_writers_37 (by decide) ?_
        refine z_fgt 4 ?_
        first
          | (rw [y_s, if_pos (by omega)] at y_ih; exact y_ih)
          | (rw [y_s, if_neg (by omega)] at y_ih; exact y_ih)
theorem tX4_disputers {G : z_G} {M : z_M} {g : Nat} {N k : Int} (hg : g < 7) (hb : z_BI (M g) N) (k0 : 0 ≤ k) (k1 : k < 20) : KX4_disputers G [.ref (z_ad G g 8), z_I k] M (.inl (some (z_I (z_wd (M g) k 12)))) M := by
  refine z_con (ls := [some (.ref (z_ad G g 8)), some (z_I k), none, none, none, none, none]) (by decide +kernel) (Nat.le_of_ble_eq_true rfl) rfl ?_
  intro Z htb
  refine z_rng fun hr => ?_
  have hh := z_BI_h hb
  have y_Q := fun p p0 p1 => z_BI_Q hb k p k0 k1 p0 p1
  unfold z_QI at y_Q
  have y_k := z_BI_K hb k k0 k1
  unfold z_KI at y_k
  have y_aP : 0 ≤ z_aP (M g) k ∧ z_aP (M g) k ≤ 9 * 12 := ⟨(z_smb (f := fun p => M g (426 + 12 * k + p)) (a := 0) (b := 9) 12 (fun i hi => ⟨(y_Q i (by omega) (by omega)).2.2.1, (y_Q i (by omega) (by omega)).2.2.2.1⟩)).1, (z_smb (f := fun p => M g (426 + 12 * k + p)) (a := 0) (b := 9) 12 (fun i hi => ⟨(y_Q i (by omega) (by omega)).2.2.1, (y_Q i (by omega) (by omega)).2.2.2.1⟩)).2⟩
  have y_aD : 0 ≤ z_aD (M g) k := (z_smb (f := fun p => M g (186 + 12 * k + p)) (a := 0) (b := 9) 12 (fun i hi => ⟨(y_Q i (by omega) (by omega)).1, (y_Q i (by omega) (by omega)).2.1⟩)).1
  refine z_aloadn dX4_disputers_0 rfl ?_
  refine gX4_18 hg rfl dX4_disputers_1 ?_
  refine z_iloadn dX4_disputers_4 rfl ?_
  refine z_iald (by rfl) (by first | exact Or.inl (by decide) | exact Or.inl (Or.inl ⟨by decide, hg⟩)) (by omega) (by omega) (by decide) dX4_disputers_5 ?_
  refine z_iconst dX4_disputers_6 ?_
  refine z_icmp_ne (tgt := 12) (by first | (exact hr _ _ (by decide)) | (exact hr _ _ (by omega)) | omega) (by first | (exact hr _ _ (by decide)) | (exact hr _ _ (by omega)) | omega) dX4_disputers_7 (by decide) (fun h7 => ?_) (fun h7 => ?_)
  · refine z_aloadn dX4_disputers_12 rfl ?_
    refine z_iloadn dX4_disputers_13 rfl ?_
    refine kX4_52 hg (tX4_allParts hg (by omega) (by omega)) rfl ⟨(Nat.le_of_ble_eq_true rfl), (Nat.le_of_ble_eq_true rfl)⟩ (Nat.le_of_ble_eq_true rfl) dX4_disputers_14 ?_
    refine z_istoren_2 dX4_disputers_17 (Nat.le_of_ble_eq_true rfl) rfl ?_
    refine z_aloadn dX4_disputers_18 rfl ?_
    refine z_iloadn dX4_disputers_19 rfl ?_
    refine kX4_56 hg (tX4_allDrafts hg (by omega) (by omega)) rfl ⟨(Nat.le_of_ble_eq_true rfl), (Nat.le_of_ble_eq_true rfl)⟩ (Nat.le_of_ble_eq_true rfl) dX4_disputers_20 ?_
    refine z_istoren_3 dX4_disputers_23 (Nat.le_of_ble_eq_true rfl) rfl ?_
    refine z_iconst dX4_disputers_24 ?_
    refine z_istore_4 dX4_disputers_25 (Nat.le_of_ble_eq_true rfl) rfl ?_
    refine z_iconst dX4_disputers_27 ?_
    refine z_istore_5 dX4_disputers_28 (Nat.le_of_ble_eq_true rfl) rfl ?_
    refine z_upn (P := fun i : Nat => z_J G Z _ _ 30 [some (.ref (z_ad G g 8)), some (z_I k), some (z_I (z_aP (M g) k)), some (z_I (z_aD (M g) k)), some (z_I (z_wd (M g) k i)), some (z_I i), none] [] M 0 0) 12 ?_ ?_
    · refine z_rng fun hr => ?_
      refine z_iload dX4_disputers_30 rfl ?_
      refine z_bipush dX4_disputers_32 (by decide) ?_
      refine z_icmp_ge (tgt := 97) (by first | (exact hr _ _ (by decide)) | (exact hr _ _ (by omega)) | omega) (by first | (exact hr _ _ (by decide)) | (exact hr _ _ (by omega)) | omega) dX4_disputers_34 (by decide) (fun h34 => ?_) (fun h34 => ?_)
      · refine z_iload dX4_disputers_97 rfl ?_
        exact z_iret dX4_disputers_99 (by first | rfl | omega) rfl
      · exfalso; omega
    · intro i hi y_ih
      refine z_rng fun hr => ?_
      have y_q := y_Q i (by omega) (by omega)
      have y_m1 := z_mb y_q.2.2.1 y_q.2.2.2.1 y_aD (show z_aD (M g) k ≤ 9 by omega)
      have y_m2 := z_mb y_q.1 y_q.2.1 y_aP.1 y_aP.2
      have y_n := (z_wd_rg (M g) k i (by omega)).1
      have y_s : z_wd (M g) k (i + 1) = if z_cd (M g) k i then z_bor (z_wd (M g) k i) i else z_wd (M g) k i := rfl
      refine z_iload dX4_disputers_30 rfl ?_
      refine z_bipush dX4_disputers_32 (by decide) ?_
      refine z_icmp_ge (tgt := 97) (by first | (exact hr _ _ (by decide)) | (exact hr _ _ (by omega)) | omega) (by first | (exact hr _ _ (by decide)) | (exact hr _ _ (by omega)) | omega) dX4_disputers_34 (by decide) (fun h34 => ?_) (fun h34 => ?_)
      · exfalso; omega
      · refine z_aloadn dX4_disputers_37 rfl ?_
        refine gX4_27 hg rfl dX4_disputers_38 ?_
        refine z_iloadn dX4_disputers_41 rfl ?_
        refine z_iload dX4_disputers_42 rfl ?_
        refine kX4_44 tX6_at rfl ⟨(Nat.le_of_ble_eq_true rfl), (Nat.le_of_ble_eq_true rfl)⟩ (Nat.le_of_ble_eq_true rfl) dX4_disputers_44 ?_
        refine z_iald (by rfl) (by first | exact Or.inl (by decide) | exact Or.inl (Or.inl ⟨by decide, hg⟩)) (by omega) (by omega) (by decide) dX4_disputers_47 ?_
        refine z_top (v' := M g (426 + 12 * k + (i : Int))) (by congr 1; omega) ?_
        refine z_iloadn dX4_disputers_48 rfl ?_
        refine z_imul dX4_disputers_49 ?_
        refine z_aloadn dX4_disputers_50 rfl ?_
        refine gX4_30 hg rfl dX4_disputers_51 ?_
        refine z_iloadn dX4_disputers_54 rfl ?_
        refine z_iload dX4_disputers_55 rfl ?_
        refine kX4_44 tX6_at rfl ⟨(Nat.le_of_ble_eq_true rfl), (Nat.le_of_ble_eq_true rfl)⟩ (Nat.le_of_ble_eq_true rfl) dX4_disputers_57 ?_
        refine z_iald (by rfl) (by first | exact Or.inl (by decide) | exact Or.inl (Or.inl ⟨by decide, hg⟩)) (by omega) (by omega) (by decide) dX4_disputers_60 ?_
        refine z_top (v' := M g (186 + 12 * k + (i : Int))) (by congr 1; omega) ?_
        refine z_iloadn dX4_disputers_61 rfl ?_
        refine z_imul dX4_disputers_62 ?_
        refine z_icmp_ge (tgt := 70) (by first | (exact hr _ _ (by decide)) | (exact hr _ _ (by omega)) | omega) (by first | (exact hr _ _ (by decide)) | (exact hr _ _ (by omega)) | omega) dX4_disputers_63 (by decide) (fun h63 => ?_) (fun h63 => ?_)
        · refine z_iconst dX4_disputers_70 ?_
          refine z_istore_6 dX4_disputers_71 (Nat.le_of_ble_eq_true rfl) rfl ?_
          refine z_iload dX4_disputers_73 rfl ?_
          refine z_iload dX4_disputers_75 rfl ?_
          refine z_if_eq (tgt := 87) (by first | (exact hr _ _ (by decide)) | (exact hr _ _ (by omega)) | omega) dX4_disputers_77 (by decide) (fun h77 => ?_) (fun h77 => ?_)
          · refine z_iconst dX4_disputers_87 ?_
            refine z_ior (by first | exact z_bori y_n | exact z_bori0 y_n) dX4_disputers_88 ?_
            refine z_istore_4 dX4_disputers_89 (Nat.le_of_ble_eq_true rfl) rfl ?_
            refine z_iinc_5 dX4_disputers_91 (Nat.le_of_ble_eq_true rfl) rfl ?_
            refine z_goto (tgt := 30) dX4_disputers_94 (by decide) ?_
            refine z_fgt 6 ?_
            first
              | (rw [y_s, if_pos ⟨by omega, Int.not_le.mp h63⟩] at y_ih; exact y_ih)
              | (rw [y_s, if_neg (fun q => Int.not_le.mpr q.2 h63)] at y_ih; exact y_ih)
          · exact absurd h77 (by decide)
        · refine z_iconst dX4_disputers_66 ?_
          refine z_goto (tgt := 71) dX4_disputers_67 (by decide) ?_
          refine z_istore_6 dX4_disputers_71 (Nat.le_of_ble_eq_true rfl) rfl ?_
          refine z_iload dX4_disputers_73 rfl ?_
          refine z_iload dX4_disputers_75 rfl ?_
          refine z_if_eq (tgt := 87) (by first | (exact hr _ _ (by decide)) | (exact hr _ _ (by omega)) | omega) dX4_disputers_77 (by decide) (fun h77 => ?_) (fun h77 => ?_)
          · exact absurd h77 (by decide)
          · refine z_iconst dX4_disputers_80 ?_
            refine z_iload dX4_disputers_81 rfl ?_
            refine z_ishl (z_bshl (by omega) (by omega)) dX4_disputers_83 ?_
            refine z_goto (tgt := 88) dX4_disputers_84 (by decide) ?_
            refine z_ior (by first | exact z_bori y_n | exact z_bori0 y_n) dX4_disputers_88 ?_
            refine z_istore_4 dX4_disputers_89 (Nat.le_of_ble_eq_true rfl) rfl ?_
            refine z_iinc_5 dX4_disputers_91 (Nat.le_of_ble_eq_true rfl) rfl ?_
            refine z_goto (tgt := 30) dX4_disputers_94 (by decide) ?_
            refine z_fgt 6 ?_
            first
              | (rw [y_s, if_pos ⟨by omega, Int.not_le.mp h63⟩] at y_ih; exact y_ih)
              | (rw [y_s, if_neg (fun q => Int.not_le.mpr q.2 h63)] at y_ih; exact y_ih)
  · refine z_iconst dX4_disputers_10 ?_
    exact z_iret dX4_disputers_11 (z_wd_4 (by omega) 12).symm rfl
