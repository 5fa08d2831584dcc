/-! ===== the writers' lists are the same; the fairest parts ===== -/
theorem z_BI_dz {b : Int → Int} {N k : Int} (h : z_BI b N) (k0 : 0 ≤ k) (k1 : k < 20) : ∀ p : Nat, (b 0).toNat ≤ p → p < 12 → z_dr b k p = 0 := fun p p0 p1 => by
  have hq := z_BI_Q h k p k0 k1 (by omega) (by omega)
  have hh := z_BI_h h
  unfold z_QI at hq
  exact (hq.2.2.2.2.2.2 (Or.inl (by omega))).1
/-- the reference's writers: facts -/
theorem z_WS_all {b : Int → Int} {N k : Int} {w0 : Int → Int} (h : z_BI b N) (k0 : 0 ≤ k) (k1 : k < 20) : ∃ m : Nat, (z_WR b k w0).2 = (m : Int) ∧ m ≤ 4 ∧ (∀ j : Int, 0 ≤ j → j < m → 0 ≤ z_WS b k w0 j ∧ z_WS b k w0 j < 12) ∧ (∀ p, 0 ≤ p → p < 12 → (z_bit (z_wbs (z_dr b k) 4) p = 1 ↔ z_cw (z_WS b k w0) m p ≠ 0) ∧ z_cw (z_WS b k w0) m p ≤ 1 ∧ (z_cw (z_WS b k w0) m p ≠ 0 → 0 < z_dr b k p)) ∧ (∀ j : Int, 0 ≤ j → j + 1 < m → z_WS b k w0 j < z_WS b k w0 (j + 1)) := by
  have hh := z_BI_h h
  obtain ⟨m, hm⟩ : ∃ m : Nat, (z_WR b k w0).2 = (m : Int) := ⟨(z_WR b k w0).2.toNat, (Int.toNat_of_nonneg (z_wst_m (z_dr b k) (b 0).toNat w0 4).1).symm⟩
  obtain ⟨m4, hw⟩ := z_WS_rg h hm
  have hb := z_wb_wst (f := z_dr b k) (n := (b 0).toNat) (by omega) (z_BI_dz h k0 k1) w0 4
  have hW : z_wst (z_dr b k) (b 0).toNat 4 (w0, 0) = z_WR b k w0 := rfl
  rw [hW, hm] at hb
  have hcw : ∀ p, z_cw (z_WS b k w0) m p = z_cw (z_WR b k w0).1 m p := fun p => by
    unfold z_WS
    rw [hm]
    by_cases e : (m : Int) = 0
    · unfold z_cw; rw [e]; rfl
    · exact z_bb_cw (by omega) p _ _
  refine ⟨m, hm, m4, hw, fun p p0 p1 => by rw [hcw]; exact hb p p0 p1, fun j j0 j1 => ?_⟩
  have hs : z_WS b k w0 j ≤ z_WS b k w0 (j + 1) := by
    unfold z_WS
    rw [hm]
    exact z_bb_sorted m4 _ j j0 j1
  refine Int.lt_iff_le_and_ne.mpr ⟨hs, fun e => ?_⟩
  have r := hw j j0 (by omega)
  have c := (hb (z_WS b k w0 j) r.1 r.2).2.1
  rw [← hcw] at c
  have q := z_sm_2 (f := fun i => if z_WS b k w0 i = z_WS b k w0 j then (1 : Int) else 0) (n := m) (fun i _ => by show 0 ≤ (if _ then (1 : Int) else 0); split <;> decide) (i := j.toNat) (j := (j + 1).toNat) (by omega) (by omega) (by omega)
  rw [Int.toNat_of_nonneg j0, Int.toNat_of_nonneg (by omega : 0 ≤ j + 1)] at q
  have q2 : (if z_WS b k w0 j = z_WS b k w0 j then (1 : Int) else 0) + (if z_WS b k w0 (j + 1) = z_WS b k w0 j then 1 else 0) ≤ z_cw (z_WS b k w0) m (z_WS b k w0 j) := q
  rw [if_pos rfl, if_pos e.symm] at q2
  omega
theorem z_gp_gpb {b : Int → Int} {N k : Int} {w0 : Int → Int} (h : z_BI b N) (k0 : 0 ≤ k) (k1 : k < 20) : ∀ p, 0 ≤ p → p < 12 → z_gp b k (z_WS b k w0) (z_WR b k w0).2 p = z_gpb b k p := by
  intro p p0 p1
  obtain ⟨m, hm, -, -, hc, -⟩ := z_WS_all (w0 := w0) h k0 k1
  have q := (hc p p0 p1).1
  unfold z_gp z_gpb
  rw [hm]
  exact z_ifc q.symm _ _
/-- an increasing list is what counting makes of its members -/
theorem z_inc {w : Int → Int} {m : Nat} (hs : ∀ j : Int, 0 ≤ j → j + 1 < m → w j < w (j + 1)) : ∀ d i : Nat, i + d < m → (w i + d ≤ w ((i + d : Nat) : Int)) := by
  intro d
  induction d with
  | zero => intro i hi; show w i + 0 ≤ w i; omega
  | succ d ih =>
    intro i hi
    have a := ih i (by omega)
    have c := hs ((i + d : Nat) : Int) (by omega) (by omega)
    have e : ((i + d : Nat) : Int) + 1 = ((i + (d + 1) : Nat) : Int) := by omega
    rw [e] at c
    omega
theorem z_inc2 {w : Int → Int} {m : Nat} (hs : ∀ j : Int, 0 ≤ j → j + 1 < m → w j < w (j + 1)) {i j : Int} (i0 : 0 ≤ i) (ij : i < j) (jm : j < m) : w i < w j := by
  have h := z_inc hs (j.toNat - i.toNat) i.toNat (by omega)
  rw [show i.toNat + (j.toNat - i.toNat) = j.toNat by omega, Int.toNat_of_nonneg i0, Int.toNat_of_nonneg (by omega : 0 ≤ j)] at h
  omega
theorem z_sm_one {f : Int → Int} {n : Nat} (h : ∀ i : Nat, i < n → f i = 1) : z_sm n f = n := by
  have q := z_smb (f := f) (a := 1) (b := 1) n (fun i hi => by rw [h i hi]; exact ⟨Int.le_refl 1, Int.le_refl 1⟩)
  omega
/-- how many members there are below n -/
theorem z_cw_sum {w : Int → Int} {m : Nat} (h0 : ∀ j : Int, 0 ≤ j → j < m → 0 ≤ w j) (n : Nat) : z_sm n (fun q => z_cw w m q) = z_sm m (fun i => if w i < n then 1 else 0) := by
  induction n with
  | zero =>
    show (0 : Int) = _
    rw [z_sm_z (fun i hi => if_neg (by have := h0 i (by omega) (by omega); omega))]
  | succ n ih =>
    rw [z_sm_s, ih]
    show _ + z_sm ((m : Int)).toNat (fun i => if w i = n then 1 else 0) = _
    rw [Int.toNat_natCast, ← z_sm_add]
    exact z_sm_eq (fun i hi => by
      show (if w i < n then (1 : Int) else 0) + (if w i = n then 1 else 0) = if w i < ((n + 1 : Nat) : Int) then 1 else 0
      (repeat' split) <;> omega)
theorem z_cw_rank {w : Int → Int} {m : Nat} (h0 : ∀ j : Int, 0 ≤ j → j < m → 0 ≤ w j) (hs : ∀ j : Int, 0 ≤ j → j + 1 < m → w j < w (j + 1)) {j : Nat} (jm : j < m) : z_sm (w j).toNat (fun q => z_cw w m q) = j := by
  have hj := h0 j (by omega) (by omega)
  rw [z_cw_sum h0]
  have e : z_sm m (fun i => if w i < (((w j).toNat : Nat) : Int) then (1 : Int) else 0) = z_sm m (fun i => if i < (j : Int) then 1 else 0) := z_sm_eq (fun i hi => by
    show (if w i < (((w j).toNat : Nat) : Int) then (1 : Int) else 0) = if (i : Int) < j then 1 else 0
    rw [Int.toNat_of_nonneg hj]
    rcases (by omega : i < j ∨ i = j ∨ j < i) with c | c | c
    · rw [if_pos (z_inc2 hs (by omega) (by omega) (by omega)), if_pos (by omega)]
    · subst c; rw [if_neg (by omega), if_neg (by omega)]
    · have := z_inc2 (i := (j : Int)) (j := (i : Int)) hs (by omega) (by omega) (by omega)
      rw [if_neg (by omega), if_neg (by omega)])
  rw [e, z_sm_tail (n := j) (by omega) (fun i a c => if_neg (by omega))]
  exact z_sm_one (fun i hi => if_pos (by omega))
theorem z_sm_split {f : Int → Int} {n m : Nat} (hn : n ≤ m) : z_sm m f = z_sm n f + z_sm (m - n) (fun i => f (n + i)) := by
  induction m with
  | zero => rw [Nat.le_zero.mp hn]; rfl
  | succ m ih =>
    by_cases e : n = m + 1
    · subst e; rw [Nat.sub_self]; exact (Int.add_zero _).symm
    · rw [z_sm_s, ih (by omega), show m + 1 - n = (m - n) + 1 by omega, z_sm_s]
      show _ + f m = _ + (_ + f ((n : Int) + ((m - n : Nat) : Int)))
      rw [show (n : Int) + ((m - n : Nat) : Int) = m by omega]
      omega
/-- the class's list, and all of f -/
theorem z_fg_ok {f : Int → Int} {x : Int} {w0 d0 : Int → Int} (h4 : z_sm 12 (fun p => z_bit x p) ≤ 4) : ∀ n : Nat, n ≤ 12 → (z_fg f x w0 d0 n).2.2.1 = z_sm n (fun p => z_bit x p) ∧ (∀ p : Nat, p < n → z_bit x p = 1 → (z_fg f x w0 d0 n).1 (z_sm p (fun p => z_bit x p)) = p) ∧ (z_fg f x w0 d0 n).2.2.2 = z_sm n (fun p => z_bit x p * f p) := by
  intro n
  induction n with
  | zero => intro _; exact ⟨rfl, fun p hp => absurd hp (Nat.not_lt_zero p), rfl⟩
  | succ n ih =>
    intro hn
    obtain ⟨i1, i2, i3⟩ := ih (by omega)
    have b01 := z_bit_01 x n
    have mono : ∀ a c : Nat, a ≤ c → z_sm a (fun p => z_bit x p) ≤ z_sm c (fun p => z_bit x p) := fun a c h => z_sm_mono (fun i _ => by have := z_bit_01 x i; show 0 ≤ z_bit x i; omega) h
    rw [z_sm_s, z_sm_s]
    have e : z_fg f x w0 d0 (n + 1) = if z_bit x n = 1 ∧ (z_fg f x w0 d0 n).2.2.1 < 4 then (z_uf (z_fg f x w0 d0 n).1 (z_fg f x w0 d0 n).2.2.1 n, z_uf (z_fg f x w0 d0 n).2.1 (z_fg f x w0 d0 n).2.2.1 (f n), (z_fg f x w0 d0 n).2.2.1 + 1, (z_fg f x w0 d0 n).2.2.2 + f n) else z_fg f x w0 d0 n := rfl
    rw [e]
    by_cases c : z_bit x n = 1
    · have lt : (z_fg f x w0 d0 n).2.2.1 < 4 := by
        have q := mono (n + 1) 12 hn
        rw [z_sm_s] at q
        have q2 : z_sm n (fun p => z_bit x p) + z_bit x n ≤ 4 := Int.le_trans q h4
        omega
      rw [if_pos ⟨c, lt⟩]
      refine ⟨by show (z_fg f x w0 d0 n).2.2.1 + 1 = _ + z_bit x n; omega, fun p hp hb => ?_, by show (z_fg f x w0 d0 n).2.2.2 + f n = _ + z_bit x n * f n; rw [c, i3, Int.one_mul]⟩
      show z_uf (z_fg f x w0 d0 n).1 (z_fg f x w0 d0 n).2.2.1 n _ = _
      by_cases ep : p = n
      · subst ep; rw [i1, z_uf_self]
      · have l := mono (p + 1) n (by omega)
        rw [z_sm_s] at l
        have l2 : z_sm p (fun p => z_bit x p) + z_bit x p ≤ z_sm n (fun p => z_bit x p) := l
        rw [z_uf_ne _ _ (by omega)]
        exact i2 p (by omega) hb
    · rw [if_neg (fun q => c q.1)]
      have c0 : z_bit x n = 0 := by omega
      refine ⟨by show _ = _ + z_bit x n; omega, fun p hp hb => ?_, by show _ = _ + z_bit x n * f n; rw [c0, Int.zero_mul, Int.add_zero]; exact i3⟩
      have ep : p ≠ n := fun q => by subst q; exact c hb
      exact i2 p (by omega) hb
/-- the class's list is the reference's -/
theorem z_fg_ref {M : z_M} {g : Nat} {N k : Int} {w0 : Int → Int} (h : z_BI (M g) N) (k0 : 0 ≤ k) (k1 : k < 20) : ∃ m : Nat, (z_WR (M g) k w0).2 = (m : Int) ∧ m ≤ 4 ∧ (z_fgS M g k).2.2.1 = (m : Int) ∧ (∀ j : Int, 0 ≤ j → j < m → (z_fgS M g k).1 j = z_WS (M g) k w0 j) ∧ (∀ j : Int, 0 ≤ j → j < m → (z_fgS M g k).2.1 j = z_fd (M g) k w0 j ∧ 1 ≤ z_fd (M g) k w0 j ∧ z_fd (M g) k w0 j ≤ 9) ∧ (z_fgS M g k).2.2.2 = z_sm m (z_fd (M g) k w0) ∧ (∀ j : Int, 0 ≤ j → j < m → 0 ≤ z_WS (M g) k w0 j ∧ z_WS (M g) k w0 j < 12) := by
  obtain ⟨m, hm, m4, hw, hc, hs⟩ := z_WS_all (w0 := w0) h k0 k1
  have hQ := fun p p0 p1 => z_BI_Q h k p k0 k1 p0 p1
  unfold z_QI at hQ
  have hf : ∀ p, 0 ≤ p → p < 12 → 0 ≤ z_dr (M g) k p ∧ z_dr (M g) k p ≤ 9 := fun p p0 p1 => ⟨(hQ p p0 p1).1, (hQ p p0 p1).2.1⟩
  obtain ⟨W, hW⟩ : ∃ W, z_WS (M g) k w0 = W := ⟨_, rfl⟩
  have hbc : ∀ p : Nat, p < 12 → z_bit (z_wbs (z_dr (M g) k) 4) p = z_cw (z_WS (M g) k w0) m p := fun p hp => by
    have q := hc p (by omega) (by omega)
    have b01 := z_bit_01 (z_wbs (z_dr (M g) k) 4) p
    have nn := z_cw_nn (z_WS (M g) k w0) m p
    by_cases e : z_cw (z_WS (M g) k w0) m p = 0
    · have : ¬ z_bit (z_wbs (z_dr (M g) k) 4) p = 1 := fun c => q.1.mp c e
      omega
    · have := q.1.mpr e
      omega
  have hall : z_sm 12 (fun p => z_bit (z_wbs (z_dr (M g) k) 4) p) = m := by
    rw [z_sm_eq (g := fun q => z_cw (z_WS (M g) k w0) m q) (fun i hi => hbc i hi), z_cw_sum (fun j j0 j1 => (hw j j0 j1).1)]
    exact z_sm_one (fun i hi => if_pos (hw i (by omega) (by omega)).2)
  have F := z_fg_ok (f := z_dr (M g) k) (x := z_wbs (z_dr (M g) k) 4) (w0 := M 13) (d0 := M 14) (by omega) 12 (Nat.le_refl 12)
  obtain ⟨F1, F2, F3⟩ := F
  have hj : ∀ j : Int, 0 ≤ j → j < m → (z_fgS M g k).1 j = z_WS (M g) k w0 j := fun j j0 j1 => by
    have r := hw j j0 j1
    have e1 := z_cw_rank (w := z_WS (M g) k w0) (m := m) (fun i i0 i1 => (hw i i0 i1).1) hs (j := j.toNat) (by omega)
    rw [Int.toNat_of_nonneg j0] at e1
    have e2 : z_sm (z_WS (M g) k w0 j).toNat (fun p => z_bit (z_wbs (z_dr (M g) k) 4) p) = j := (z_sm_eq (fun i hi => hbc i (by omega))).trans e1
    have c1 : 1 ≤ z_cw (z_WS (M g) k w0) m (z_WS (M g) k w0 j) := by
      have q := z_sm_1 (f := fun i => if z_WS (M g) k w0 i = z_WS (M g) k w0 j then (1 : Int) else 0) (n := m) (fun i _ => by show 0 ≤ (if _ then (1 : Int) else 0); split <;> decide) (i := j.toNat) (by omega)
      rw [Int.toNat_of_nonneg j0] at q
      have q2 : (if z_WS (M g) k w0 j = z_WS (M g) k w0 j then (1 : Int) else 0) ≤ z_cw (z_WS (M g) k w0) m (z_WS (M g) k w0 j) := q
      rwa [if_pos rfl] at q2
    have hb := (hc (z_WS (M g) k w0 j) r.1 r.2).1.mpr (by omega)
    have q := F2 (z_WS (M g) k w0 j).toNat (by omega) (by rw [Int.toNat_of_nonneg r.1]; exact hb)
    rw [e2, Int.toNat_of_nonneg r.1] at q
    exact q
  have hB := z_fg_rg (x := z_wbs (z_dr (M g) k) 4) (w0 := M 13) (d0 := M 14) hf 12 (Nat.le_refl 12)
  have hm2 : (z_fgS M g k).2.2.1 = (m : Int) := F1.trans hall
  have hd : ∀ j : Int, 0 ≤ j → j < m → (z_fgS M g k).2.1 j = z_fd (M g) k w0 j := fun j j0 j1 => by
    have q := (hB.2.2 j j0 (by rw [show (z_fg (z_dr (M g) k) (z_wbs (z_dr (M g) k) 4) (M 13) (M 14) 12).2.2.1 = (m : Int) from hm2]; exact j1)).2
    rw [show (z_fg (z_dr (M g) k) (z_wbs (z_dr (M g) k) 4) (M 13) (M 14) 12).1 j = _ from hj j j0 j1] at q
    exact q
  refine ⟨m, hm, m4, hm2, hj, fun j j0 j1 => ⟨hd j j0 j1, ?_⟩, ?_, hw⟩
  · have r := hw j j0 j1
    have c1 : 1 ≤ z_cw (z_WS (M g) k w0) m (z_WS (M g) k w0 j) := by
      have q := z_sm_1 (f := fun i => if z_WS (M g) k w0 i = z_WS (M g) k w0 j then (1 : Int) else 0) (n := m) (fun i _ => by show 0 ≤ (if _ then (1 : Int) else 0); split <;> decide) (i := j.toNat) (by omega)
      rw [Int.toNat_of_nonneg j0] at q
      have q2 : (if z_WS (M g) k w0 j = z_WS (M g) k w0 j then (1 : Int) else 0) ≤ z_cw (z_WS (M g) k w0) m (z_WS (M g) k w0 j) := q
      rwa [if_pos rfl] at q2
    have p1 := (hc (z_WS (M g) k w0 j) r.1 r.2).2.2 (by omega)
    have p2 := hf (z_WS (M g) k w0 j) r.1 r.2
    exact ⟨p1, p2.2⟩
  · have e : (z_fgS M g k).2.2.2 = z_sm 12 (fun p => z_bit (z_wbs (z_dr (M g) k) 4) p * z_dr (M g) k p) := F3
    rw [e]
    -- all of f over the members, by places
    have key : ∀ n : Nat, n ≤ 12 → z_sm n (fun p => z_bit (z_wbs (z_dr (M g) k) 4) p * z_dr (M g) k p) = z_sm m (fun j => if z_WS (M g) k w0 j < n then z_fd (M g) k w0 j else 0) := by
      intro n
      induction n with
      | zero => intro _; exact (z_sm_z (fun i hi => if_neg (by have := hw i (by omega) (by omega); omega))).symm
      | succ n ih =>
        intro hn
        rw [z_sm_s, ih (by omega)]
        have q : z_bit (z_wbs (z_dr (M g) k) 4) n * z_dr (M g) k n = z_sm m (fun j => if z_WS (M g) k w0 j = n then z_fd (M g) k w0 j else 0) := by
          rw [hbc n (by omega)]
          show z_sm ((m : Int)).toNat (fun i => if z_WS (M g) k w0 i = n then 1 else 0) * z_dr (M g) k n = _
          rw [Int.toNat_natCast, Int.mul_comm, ← z_sm_mul]
          exact z_sm_eq (fun i hi => by
            show z_dr (M g) k n * (if z_WS (M g) k w0 i = n then 1 else 0) = if z_WS (M g) k w0 i = n then z_fd (M g) k w0 i else 0
            split
            · rename_i c
              rw [Int.mul_one]
              unfold z_fd
              rw [c]
            · exact Int.mul_zero _)
        show _ + z_bit (z_wbs (z_dr (M g) k) 4) n * z_dr (M g) k n = _
        rw [q, ← z_sm_add]
        exact z_sm_eq (fun i hi => by
          show (if z_WS (M g) k w0 i < n then z_fd (M g) k w0 i else 0) + (if z_WS (M g) k w0 i = n then z_fd (M g) k w0 i else 0) = if z_WS (M g) k w0 i < ((n + 1 : Nat) : Int) then z_fd (M g) k w0 i else 0
          (repeat' split) <;> omega)
    rw [key 12 (Nat.le_refl 12)]
    exact z_sm_eq (fun i hi => if_pos (hw i (by omega) (by omega)).2)
