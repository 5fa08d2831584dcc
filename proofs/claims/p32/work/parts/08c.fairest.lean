/-! ===== the fairest parts are the same ===== -/
theorem z_kt_o {w f : Int → Int} {r : Int → Int} {p : Int} : ∀ n : Nat, (∀ j : Nat, j < n → w j ≠ p) → z_kt w f n r p = r p := by
  intro n
  induction n with
  | zero => intro _; rfl
  | succ n ih =>
    intro h
    show z_uf (z_kt w f n r) (w n) (f n) p = _
    rw [z_uf_ne _ _ (fun e => h n (by omega) e.symm)]
    exact ih (fun j hj => h j (by omega))
theorem z_kt_fo {w f r : Int → Int} {p : Int} (h : r p = 0) : ∀ n : Nat, z_kt w f n r p = z_fo w f p n := by
  intro n
  induction n with
  | zero => exact h
  | succ n ih =>
    show z_uf (z_kt w f n r) (w n) (f n) p = if w n = p then f n else z_fo w f p n
    unfold z_uf
    by_cases e : p = w n
    · rw [if_pos e, if_pos e.symm]
    · rw [if_neg e, if_neg (fun q => e q.symm)]; exact ih
theorem z_kt_kt {w f f' r : Int → Int} {m : Nat} : z_kt w f m (z_kt w f' m r) = z_kt w f m r := by
  have key : ∀ n : Nat, ∀ r r' : Int → Int, (∀ p, (∀ j : Nat, j < n → w j ≠ p) → r p = r' p) → z_kt w f n r = z_kt w f n r' := by
    intro n
    induction n with
    | zero => intro r r' h; funext p; exact h p (fun j hj => absurd hj (Nat.not_lt_zero j))
    | succ n ih =>
      intro r r' h
      funext p
      show z_uf (z_kt w f n r) (w n) (f n) p = z_uf (z_kt w f n r') (w n) (f n) p
      unfold z_uf
      split
      · rfl
      · rename_i e
        by_cases c : ∀ j : Nat, j < n → w j ≠ p
        · rw [z_kt_o n c, z_kt_o n c]
          exact h p (fun j hj => by
            by_cases e2 : j = n
            · subst e2; exact fun q => e q.symm
            · exact c j (by omega))
        · have q : ∀ k : Nat, k ≤ n → ∀ s s' : Int → Int, (∃ j : Nat, j < k ∧ w j = p) → z_kt w f k s p = z_kt w f k s' p := by
            intro k
            induction k with
            | zero => rintro _ s s' ⟨j, hj, _⟩; omega
            | succ k ihk =>
              intro hk s s' hj
              show z_uf (z_kt w f k s) (w k) (f k) p = z_uf (z_kt w f k s') (w k) (f k) p
              unfold z_uf
              split
              · rfl
              · rename_i e3
                obtain ⟨j, j1, j2⟩ := hj
                have hjk : j < k := by
                  rcases (by omega : j < k ∨ j = k) with a | a
                  · exact a
                  · subst a
                    exact absurd j2.symm e3
                exact ihk (by omega) s s' ⟨j, hjk, j2⟩
          refine q n (Nat.le_refl n) r r' ?_
          refine Classical.byContradiction fun c2 => c (fun j hj e2 => c2 ⟨j, hj, e2⟩)
  exact key m _ _ (fun p hp => z_kt_o m hp)
theorem z_kt_ind {w w' f r : Int → Int} : ∀ n : Nat, (∀ j : Nat, j < n → w j = w' j) → z_kt w f n r = z_kt w' f n r := by
  intro n
  induction n with
  | zero => intro _; rfl
  | succ n ih =>
    intro h
    show z_uf (z_kt w f n r) (w n) (f n) = z_uf (z_kt w' f n r) (w' n) (f n)
    rw [ih (fun j hj => h j (by omega)), h n (by omega)]
theorem z_ffs_ind {m : Nat} {d d' w w' R0 : Int → Int} {D : Int} (hd : ∀ j, 0 ≤ j → j < (m : Int) → d j = d' j) (hw : ∀ j : Nat, j < m → w j = w' j) : ∀ n : Nat, z_ffs m d D w R0 n = z_ffs m d' D w' R0 n := by
  intro n
  induction n with
  | zero => rfl
  | succ n ih =>
    unfold z_ffs
    rw [ih, z_ug_ind hd m (Nat.le_refl m), z_kt_ind m hw]
theorem z_ug_ge {f d : Int → Int} {D S : Int} : ∀ n : Nat, ∀ j : Nat, j < n → z_ab (f j * D - d j * S) ≤ z_ug f d D S n := by
  intro n
  induction n with
  | zero => intro j hj; omega
  | succ n ih =>
    intro j hj
    unfold z_ug
    by_cases e : j = n
    · subst e
      split
      · exact Int.le_refl _
      · omega
    · have := ih j (by omega)
      split
      · omega
      · exact this
theorem z_rst_mul {c : Int} (c0 : 0 ≤ c) : ∀ q : Nat, z_rst c q * ((4 ^ q : Nat) : Int) ≤ c := by
  intro q
  induction q with
  | zero => show c * 1 ≤ c; omega
  | succ q ih =>
    have r := z_rst_rg c0 q
    show z_rst c q / 4 * ((4 ^ (q + 1) : Nat) : Int) ≤ c
    have e : ((4 ^ (q + 1) : Nat) : Int) = 4 * ((4 ^ q : Nat) : Int) := by rw [Nat.pow_succ]; show ((4 ^ q * 4 : Nat) : Int) = _; omega
    rw [e, ← Int.mul_assoc]
    refine Int.le_trans (Int.mul_le_mul_of_nonneg_right (show z_rst c q / 4 * 4 ≤ z_rst c q by omega) (Int.natCast_nonneg _)) ih
theorem z_rst_top {c : Int} {m : Nat} (c0 : 0 ≤ c) (c1 : c < ((4 ^ m : Nat) : Int)) : z_rst c m = 0 := by
  have h := z_rst_mul c0 m
  have r := (z_rst_rg c0 m).1
  refine Classical.byContradiction fun e => ?_
  have g : 1 * ((4 ^ m : Nat) : Int) ≤ z_rst c m * ((4 ^ m : Nat) : Int) := Int.mul_le_mul_of_nonneg_right (by omega) (by omega)
  omega
theorem z_dg_lt {m : Nat} {c c' : Int} (m1 : 1 ≤ m) (c0 : 0 ≤ c) (c1 : c < ((4 ^ m : Nat) : Int)) (d0 : 0 ≤ c') (d1 : c' < ((4 ^ m : Nat) : Int)) (h : ∀ j : Nat, j < m → z_dg m c j < z_dg m c' j) : c < c' := by
  have key : ∀ t : Nat, t ≤ m → z_rst c (m - t) ≤ z_rst c' (m - t) ∧ (1 ≤ t → z_rst c (m - t) < z_rst c' (m - t)) := by
    intro t
    induction t with
    | zero => intro _; rw [Nat.sub_zero, z_rst_top c0 c1, z_rst_top d0 d1]; exact ⟨Int.le_refl 0, fun q => absurd q (by decide)⟩
    | succ t ih =>
      intro ht
      have i := (ih (by omega)).1
      have q := h t (by omega)
      unfold z_dg at q
      rw [show ((m : Int) - 1 - (t : Int)).toNat = m - (t + 1) by omega] at q
      have e : m - t = (m - (t + 1)) + 1 := by omega
      rw [e] at i
      change z_rst c (m - (t + 1)) / 4 ≤ z_rst c' (m - (t + 1)) / 4 at i
      omega
  have h := (key m (Nat.le_refl m)).2 m1
  rw [Nat.sub_self] at h
  exact h
theorem z_ffs_fss {m : Nat} {d w R0 : Int → Int} {D : Int} (m1 : 1 ≤ m) (m4 : m ≤ 4) (hd : ∀ j, 0 ≤ j → j < (m : Int) → 1 ≤ d j ∧ d j ≤ 9) (D0 : 1 ≤ D) (D1 : D ≤ 36) : ∀ n : Nat, 1 ≤ n → n ≤ 4 ^ m →
    (z_ffs m d D w R0 n).1 = (z_fss m d D n).1 ∧ (z_ffs m d D w R0 n).2.1 = (z_fss m d D n).2.1 ∧ (z_ffs m d D w R0 n).2.2 = z_kt w (z_dg m (z_fss m d D n).2.2) m R0 ∧ 1 ≤ (z_fss m d D n).1 ∧ 0 ≤ (z_fss m d D n).2.2 ∧ (z_fss m d D n).2.2 < n ∧ (z_fss m d D n).1 = z_ts m (z_fss m d D n).2.2 ∧ (z_fss m d D n).2.1 = z_ug (z_dg m (z_fss m d D n).2.2) d D (z_fss m d D n).1 m := by
  have hd0 : ∀ j, 0 ≤ j → j < (m : Int) → 0 ≤ d j ∧ d j ≤ 9 := fun j j0 j1 => by have := hd j j0 j1; omega
  intro n
  induction n with
  | zero => intro h; omega
  | succ n ih =>
    intro _ hn
    have ts := z_ts_rg (m := m) (n : Int) m4
    have eF : z_ffs m d D w R0 (n + 1) = if 0 < (z_ffs m d D w R0 n).2.1 ∧ (z_ug (z_dg m n) d D (z_ts m n) m * (z_ffs m d D w R0 n).1 - (z_ffs m d D w R0 n).2.1 * z_ts m n < 0 ∨ (z_ug (z_dg m n) d D (z_ts m n) m * (z_ffs m d D w R0 n).1 - (z_ffs m d D w R0 n).2.1 * z_ts m n = 0 ∧ z_ts m n < (z_ffs m d D w R0 n).1)) then (z_ts m n, z_ug (z_dg m n) d D (z_ts m n) m, z_kt w (z_dg m n) m (z_ffs m d D w R0 n).2.2) else z_ffs m d D w R0 n := rfl
    have eS : z_fss m d D (n + 1) = if z_fst (z_fss m d D n).1 (z_fss m d D n).2.1 (z_ts m n) (z_ug (z_dg m n) d D (z_ts m n) m) < 0 ∨ (z_fst (z_fss m d D n).1 (z_fss m d D n).2.1 (z_ts m n) (z_ug (z_dg m n) d D (z_ts m n) m) = 0 ∧ z_ts m n < (z_fss m d D n).1) then (z_ts m n, z_ug (z_dg m n) d D (z_ts m n) m, (n : Int)) else z_fss m d D n := rfl
    by_cases n0 : n = 0
    · subst n0
      have a1 : z_ffs m d D w R0 0 = (0, 1, R0) := rfl
      have a2 : z_fss m d D 0 = (0, 0, 0) := rfl
      rw [eF, eS, a1, a2]
      have c2 : z_fst 0 0 (z_ts m ((0 : Nat) : Int)) (z_ug (z_dg m ((0 : Nat) : Int)) d D (z_ts m ((0 : Nat) : Int)) m) < 0 := by unfold z_fst; rw [if_pos rfl]; decide
      rw [if_pos (show (0 : Int) < 1 ∧ _ from ⟨by decide, Or.inl (by
        show z_ug (z_dg m ((0 : Nat) : Int)) d D (z_ts m ((0 : Nat) : Int)) m * 0 - 1 * z_ts m ((0 : Nat) : Int) < 0
        rw [Int.mul_zero, Int.one_mul]
        omega)⟩), if_pos (Or.inl c2)]
      exact ⟨rfl, rfl, rfl, by show 1 ≤ z_ts m ((0 : Nat) : Int); omega, by show (0 : Int) ≤ ((0 : Nat) : Int); omega, by show ((0 : Nat) : Int) < ((0 + 1 : Nat) : Int); omega, rfl, rfl⟩
    · obtain ⟨i1, i2, i3, i4, i5, i6, i7, i8⟩ := ih (by omega) (by omega)
      have ug := z_ug_rg (fun j _ _ => z_dg_rg m n j) hd0 (by omega) D1 (show 0 ≤ z_ts m n by omega) ts.2 m (Nat.le_refl m)
      have ur := (z_fss_rg m4 hd0 (by omega) D1 n).2.2.1
      rw [eF, eS, i1, i2]
      obtain ⟨F, hF⟩ : ∃ F, z_ffs m d D w R0 n = F := ⟨_, rfl⟩
      obtain ⟨s, hs⟩ : ∃ s, z_fss m d D n = s := ⟨_, rfl⟩
      rw [hF] at i1 i2 i3
      rw [hs] at i1 i2 i3 i4 i5 i6 i7 i8 ur
      rw [hF, hs]
      have ft : z_fst s.1 s.2.1 (z_ts m n) (z_ug (z_dg m n) d D (z_ts m n) m) = z_ug (z_dg m n) d D (z_ts m n) m * s.1 - s.2.1 * z_ts m n := by unfold z_fst; rw [if_neg (by omega)]
      rw [ft]
      by_cases u0 : 0 < s.2.1
      · by_cases c : z_ug (z_dg m n) d D (z_ts m n) m * s.1 - s.2.1 * z_ts m n < 0 ∨ (z_ug (z_dg m n) d D (z_ts m n) m * s.1 - s.2.1 * z_ts m n = 0 ∧ z_ts m n < s.1)
        · rw [if_pos ⟨u0, c⟩, if_pos c]
          refine ⟨rfl, rfl, ?_, by show 1 ≤ z_ts m n; omega, by show 0 ≤ (n : Int); omega, by show (n : Int) < ((n + 1 : Nat) : Int); omega, rfl, rfl⟩
          show z_kt w (z_dg m n) m F.2.2 = z_kt w (z_dg m n) m R0
          rw [i3, z_kt_kt]
        · rw [if_neg (fun q => c q.2), if_neg c]
          exact ⟨i1, i2, i3, i4, i5, by omega, i7, i8⟩
      · have us : s.2.1 = 0 := by omega
        rw [if_neg (fun q => u0 q.1), if_neg]
        · exact ⟨i1, i2, i3, i4, i5, by omega, i7, i8⟩
        · rw [us, Int.zero_mul, Int.sub_zero]
          have nn := Int.mul_nonneg ug.1 (show 0 ≤ s.1 by omega)
          rintro (q | ⟨q1, q2⟩)
          · omega
          · -- U = 0, fewer parts: each part is smaller, so the number too
            have U0 : z_ug (z_dg m n) d D (z_ts m n) m = 0 := by
              rcases Int.mul_eq_zero.mp q1 with a | a
              · exact a
              · omega
            have lt := z_dg_lt (m := m) (c := n) (c' := s.2.2) m1 (by omega) (by omega) i5 (by omega) (fun j hj => by
              have g1 := z_ug_ge (f := z_dg m n) (d := d) (D := D) (S := z_ts m n) m j hj
              have g2 := z_ug_ge (f := z_dg m s.2.2) (d := d) (D := D) (S := s.1) m j hj
              rw [U0] at g1
              rw [← i8, us] at g2
              have ab : ∀ x : Int, z_ab x ≤ 0 → x = 0 := fun x hx => by unfold z_ab at hx; split at hx <;> omega
              have e1 := ab _ g1
              have e2 := ab _ g2
              have dj := hd j (by omega) (by omega)
              have l1 : d j * z_ts m n < d j * s.1 := Int.mul_lt_mul_of_pos_left q2 (by omega)
              have l2 : z_dg m n j * D < z_dg m s.2.2 j * D := by omega
              exact Int.lt_of_mul_lt_mul_right l2 (by omega))
            omega
theorem z_fair_eq {M : z_M} {g : Nat} {N k : Int} (h : z_BI (M g) N) (k0 : 0 ≤ k) (k1 : k < 20) : ∀ p, 0 ≤ p → p < 12 → z_fiM M g k 12 p = z_fX (M g) k z_w0 p := by
  intro p p0 p1
  obtain ⟨m, hm, m4, hm2, hj, hd, hD, hw⟩ := z_fg_ref (w0 := z_w0) h k0 k1
  have e0 : z_fiM M g k 12 p = (z_fgF M g k).2.2 p := rfl
  have em : z_fgm M g k = m := by unfold z_fgm; omega
  have em2 : z_fm (M g) k z_w0 = m := by unfold z_fm; omega
  have R0 : z_cp (M 12) (fun _ => 0) 0 0 12 p = 0 := by unfold z_cp; rw [if_pos (by omega)]
  rw [e0]
  unfold z_fgF z_fgn z_fX z_fc
  rw [em, em2, hD, z_ffs_ind (fun j j0 j1 => (hd j j0 j1).1) (fun j hj2 => hj j (by omega) (by omega))]
  by_cases m0 : m = 0
  · subst m0
    exact R0
  · rw [if_neg m0]
    have hdd : ∀ j, 0 ≤ j → j < (m : Int) → 1 ≤ z_fd (M g) k z_w0 j ∧ z_fd (M g) k z_w0 j ≤ 9 := fun j j0 j1 => (hd j j0 j1).2
    have hDD := z_smb (f := z_fd (M g) k z_w0) (a := 1) (b := 9) m (fun i hi => hdd i (by omega) (by omega))
    have p4 := z_p4_le m4
    have q := z_ffs_fss (w := z_WS (M g) k z_w0) (R0 := z_cp (M 12) (fun _ => 0) 0 0 12) (by omega) m4 hdd (D := z_sm m (z_fd (M g) k z_w0)) (by omega) (by omega) (4 ^ m) p4.1 (Nat.le_refl _)
    rw [q.2.2.1, z_kt_fo R0]
/-! ===== parts from drafts, of the class ===== -/
theorem z_wbs_mono {f : Int → Int} {p : Int} (p0 : 0 ≤ p) : ∀ i j : Nat, z_bit (z_wbs f i) p = 1 → z_bit (z_wbs f (i + j)) p = 1 := by
  intro i j
  induction j with
  | zero => intro h; exact h
  | succ j ih =>
    intro h
    have a := ih h
    have r := z_wbs_rg f (i + j)
    have x := z_wbx_rg f (z_wbs f (i + j)) 12
    show z_bit (if z_wbx f (z_wbs f (i + j)) 12 = -1 then z_wbs f (i + j) else z_bor (z_wbs f (i + j)) (z_wbx f (z_wbs f (i + j)) 12)) p = 1
    split
    · exact a
    · rw [z_bit_bor (by omega) p0 r.1]
      split
      · rfl
      · exact a
theorem z_gpb_ok {b : Int → Int} {N k p : Int} (h : z_BI b N) (k0 : 0 ≤ k) (k1 : k < 20) (p0 : 0 ≤ p) (p1 : p < 12) (hc : z_cd b k p) : (∀ q, 0 ≤ q → q < 12 → 0 ≤ z_gpb b k q ∧ z_gpb b k q ≤ 9) ∧ (∀ q, b 0 ≤ q → q < 12 → z_gpb b k q = 0) ∧ z_sm 12 (fun q => if 0 < z_gpb b k q then 1 else 0) ≤ 4 ∧ 1 ≤ z_sm 12 (z_gpb b k) := by
  have hh := z_BI_h h
  have hQ := fun p p0 p1 => z_BI_Q h k p k0 k1 p0 p1
  unfold z_QI at hQ
  have hr : ∀ q, 0 ≤ q → q < 12 → 0 ≤ z_gpb b k q ∧ z_gpb b k q ≤ 9 := fun q q0 q1 => by
    have a := hQ q q0 q1
    unfold z_gpb
    split <;> omega
  obtain ⟨m, hm, m4, hw, hcw, -⟩ := z_WS_all (w0 := z_w0) h k0 k1
  refine ⟨hr, fun q q0 q1 => ?_, ?_, ?_⟩
  · have a := hQ q (by omega) q1
    unfold z_gpb
    split <;> omega
  · have le : z_sm 12 (fun q => if 0 < z_gpb b k q then (1 : Int) else 0) ≤ z_sm 12 (fun q => z_cw (z_WS b k z_w0) m q) := z_sm_le (fun i hi => by
      have nn := z_cw_nn (z_WS b k z_w0) m i
      show (if 0 < z_gpb b k i then (1 : Int) else 0) ≤ _
      split
      · rename_i c
        have e : z_bit (z_wbs (z_dr b k) 4) i = 1 := by
          refine Classical.byContradiction fun q => ?_
          unfold z_gpb at c
          rw [if_neg q] at c
          omega
        have := (hcw i (by omega) (by omega)).1.mp e
        omega
      · exact nn)
    rw [z_cw_sum (fun j j0 j1 => (hw j j0 j1).1)] at le
    have u := z_smb (f := fun i => if z_WS b k z_w0 i < ((12 : Nat) : Int) then (1 : Int) else 0) (a := 0) (b := 1) m (fun i _ => by show 0 ≤ (if _ then (1 : Int) else 0) ∧ (if _ then (1 : Int) else 0) ≤ 1; split <;> decide)
    omega
  · have aP : 0 ≤ z_aP b k := z_sm_nn (fun i hi => (hQ i (by omega) (by omega)).2.2.1)
    have aD : 0 ≤ z_aD b k := z_sm_nn (fun i hi => (hQ i (by omega) (by omega)).1)
    have a := hQ p p0 p1
    have dp : 0 < b (186 + 12 * k + p) := by
      refine Classical.byContradiction fun q => ?_
      have e : b (186 + 12 * k + p) = 0 := by omega
      have c2 := hc.2
      rw [e, Int.zero_mul] at c2
      have := Int.mul_nonneg a.2.2.1 aD
      omega
    have ne := z_nx_some (f := z_dr b k) (u := fun p => z_bit 0 p) 12 ⟨p.toNat, by omega, by rw [Int.toNat_of_nonneg p0]; exact dp, z_bit_0 _⟩
    have ok := z_nx_ok (f := z_dr b k) (u := fun p => z_bit 0 p) 12 ne
    have rg := z_nx_rg (z_dr b k) (fun p => z_bit 0 p) 12
    obtain ⟨x, hx⟩ : ∃ x, z_nx (z_dr b k) (fun p => z_bit 0 p) 12 = x := ⟨_, rfl⟩
    rw [hx] at ne ok rg
    have b1 : z_bit (z_wbs (z_dr b k) 1) x = 1 := by
      show z_bit (if z_nx (z_dr b k) (fun p => z_bit 0 p) 12 = -1 then 0 else z_bor 0 (z_nx (z_dr b k) (fun p => z_bit 0 p) 12)) x = 1
      rw [hx, if_neg ne, z_bit_bor (by omega) (by omega) (Int.le_refl 0), if_pos rfl]
    have b4 := z_wbs_mono (f := z_dr b k) (p := x) (by omega) 1 3 b1
    have gx : z_gpb b k x = z_dr b k x := by unfold z_gpb; rw [if_pos b4]
    have le := z_sm_1 (f := z_gpb b k) (n := 12) (fun i hi => (hr i (by omega) (by omega)).1) (i := x.toNat) (by omega)
    rw [Int.toNat_of_nonneg (by omega), gx] at le
    omega
