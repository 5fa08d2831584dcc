/-! ===== the shares of the class and of the reference ===== -/
theorem z_am_ge (r : Int → Int) : ∀ n : Nat, ∀ p : Int, 0 ≤ p → p ≤ n → r p ≤ r (z_am r n) := by
  intro n
  induction n with
  | zero => intro p p0 p1; have e : p = 0 := by omega
            subst e; exact Int.le_refl _
  | succ n ih =>
    intro p p0 p1
    unfold z_am
    by_cases e : p = ((n + 1 : Nat) : Int)
    · subst e
      split
      · exact Int.le_refl _
      · omega
    · have := ih p p0 (by omega)
      split
      · omega
      · exact this
/-- remainders that agree where they are above 0 -/
def z_rsm (r r' : Int → Int) : Prop := ∀ p, 0 ≤ p → p < 12 → (0 < r p → r' p = r p) ∧ (r p ≤ 0 → r' p ≤ 0)
theorem z_am_same {r r' : Int → Int} (h : z_rsm r r') : ∀ n : Nat, n < 12 → z_am r n = z_am r' n ∨ (r (z_am r n) ≤ 0 ∧ r' (z_am r' n) ≤ 0) := by
  intro n
  induction n with
  | zero => intro _; exact Or.inl rfl
  | succ n ih =>
    intro hn
    have i := ih (by omega)
    have hp := h ((n + 1 : Nat) : Int) (by omega) (by omega)
    have l1 := z_am_le r n
    have l2 := z_am_le r' n
    have h1 := h (z_am r n) (by omega) (by omega)
    have h2 := h (z_am r' n) (by omega) (by omega)
    have e1 : z_am r (n + 1) = if r (z_am r n) < r ((n + 1 : Nat) : Int) then ((n + 1 : Nat) : Int) else z_am r n := rfl
    have e2 : z_am r' (n + 1) = if r' (z_am r' n) < r' ((n + 1 : Nat) : Int) then ((n + 1 : Nat) : Int) else z_am r' n := rfl
    rw [e1, e2]
    generalize ((n + 1 : Nat) : Int) = m at *
    generalize z_am r n = x at *
    generalize z_am r' n = y at *
    rcases i with i | i
    · subst i
      by_cases c1 : r x < r m
      · rw [if_pos c1]
        by_cases c2 : r' x < r' m
        · rw [if_pos c2]; exact Or.inl rfl
        · rw [if_neg c2]; right; omega
      · rw [if_neg c1]
        by_cases c2 : r' x < r' m
        · rw [if_pos c2]; right; omega
        · rw [if_neg c2]; exact Or.inl rfl
    · by_cases c1 : r x < r m
      · rw [if_pos c1]
        by_cases c2 : r' y < r' m
        · rw [if_pos c2]; exact Or.inl rfl
        · rw [if_neg c2]; right; omega
      · rw [if_neg c1]
        by_cases c2 : r' y < r' m
        · rw [if_pos c2]; right; omega
        · rw [if_neg c2]; right; omega
theorem z_pos_of_sm {r : Int → Int} : ∀ n : Nat, 0 < z_sm n r → ∃ i : Nat, i < n ∧ 0 < r i := by
  intro n
  induction n with
  | zero => intro h; exact absurd (show (0 : Int) < 0 from h) (by decide)
  | succ n ih =>
    intro h
    rw [z_sm_s] at h
    by_cases c : 0 < r n
    · exact ⟨n, by omega, c⟩
    · obtain ⟨i, i1, i2⟩ := ih (by omega)
      exact ⟨i, by omega, i2⟩
theorem z_gv_same {P : Int} (hP : 0 < P) : ∀ (m : Nat) (s s' r r' : Int → Int), (∀ p, 0 ≤ p → p < 12 → s p = s' p) → z_rsm r r' → (∀ p, 0 ≤ p → p < 12 → r p < P) → P * m ≤ z_sm 12 r →
    (∀ p, 0 ≤ p → p < 12 → (z_gv 0 m s r).1 p = (z_gv (-1) m s' r').1 p) ∧ (∀ p, 0 ≤ p → p < 12 → r p ≤ 0 → (z_gv 0 m s r).1 p = s p) ∧ z_sm 12 (z_gv 0 m s r).1 = z_sm 12 s + m := by
  intro m
  induction m with
  | zero => intro s s' r r' hs _ _ _; exact ⟨hs, fun p _ _ _ => rfl, (Int.add_zero _).symm⟩
  | succ m ih =>
    intro s s' r r' hs hr hb hm
    rw [show ((m + 1 : Nat) : Int) = (m : Int) + 1 from rfl, Int.mul_add, Int.mul_one] at hm
    have h0 : 0 ≤ P * (m : Int) := Int.mul_nonneg (by omega) (by omega)
    obtain ⟨i, i1, i2⟩ := z_pos_of_sm 12 (show 0 < z_sm 12 r by omega)
    have hg := z_am_ge r 11 i (by omega) (by omega)
    have ha : z_am r 11 = z_am r' 11 := by
      rcases z_am_same hr 11 (by decide) with h | h
      · exact h
      · omega
    have hl := z_am_le r 11
    obtain ⟨q, hq⟩ : ∃ q, z_am r 11 = q := ⟨_, rfl⟩
    rw [hq] at ha hg hl
    have hsum := z_sm_uI (f := r) (f' := z_uf r q 0) (q := q) hl.1 (by omega) (fun j _ _ ne => z_uf_ne _ _ ne)
    rw [z_uf_self] at hsum
    have hsum2 := z_sm_uI (f := s) (f' := z_uf s q (s q + 1)) (q := q) hl.1 (by omega) (fun j _ _ ne => z_uf_ne _ _ ne)
    rw [z_uf_self] at hsum2
    have hbq := hb q hl.1 (by omega)
    have e1 : z_gv 0 (m + 1) s r = z_gv 0 m (z_uf s q (s q + 1)) (z_uf r q 0) := by show z_gv 0 m (z_uf s (z_am r 11) (s (z_am r 11) + 1)) (z_uf r (z_am r 11) 0) = _; rw [hq]
    have e2 : z_gv (-1) (m + 1) s' r' = z_gv (-1) m (z_uf s' q (s' q + 1)) (z_uf r' q (-1)) := by show z_gv (-1) m (z_uf s' (z_am r' 11) (s' (z_am r' 11) + 1)) (z_uf r' (z_am r' 11) (-1)) = _; rw [← ha]
    have h := ih (z_uf s q (s q + 1)) (z_uf s' q (s' q + 1)) (z_uf r q 0) (z_uf r' q (-1)) (fun p p0 p1 => by
      unfold z_uf
      split
      · rw [hs q hl.1 (by omega)]
      · exact hs p p0 p1) (fun p p0 p1 => by
      unfold z_uf
      split
      · exact ⟨fun c => absurd c (by decide), fun _ => by decide⟩
      · exact hr p p0 p1) (fun p p0 p1 => by
      unfold z_uf
      split
      · exact hP
      · exact hb p p0 p1) (by omega)
    rw [e1, e2]
    refine ⟨h.1, fun p p0 p1 hp => ?_, ?_⟩
    · have ne : p ≠ q := fun e => by subst e; omega
      rw [h.2.1 p p0 p1 (by rw [z_uf_ne _ _ ne]; exact hp), z_uf_ne _ _ ne]
    · rw [h.2.2, hsum2]
      show z_sm 12 s + (s q + 1 - s q) + (m : Int) = z_sm 12 s + ((m : Int) + 1)
      omega
/-- what is wanted of a share: as the reference's, nothing without parts, all together the rest -/
theorem z_sp_sh {b : Int → Int} {k rest : Int} {s r s0 r0 : Int → Int} (hq : ∀ p, 0 ≤ p → p < 12 → 0 ≤ b (426 + 12 * k + p) ∧ b (426 + 12 * k + p) ≤ 9) (ha : 1 ≤ z_aP b k) (h4 : z_p4c b k) :
    (∀ p, 0 ≤ p → p < 12 → (z_sp b k rest s r).1 p = (z_sh b k rest s0 r0).1 p) ∧ (∀ p, 0 ≤ p → p < 12 → b (426 + 12 * k + p) = 0 → (z_sp b k rest s r).1 p = 0) ∧ z_sm 12 (z_sp b k rest s r).1 = rest := by
  have hl := z_lf_rg (rest := rest) hq ha h4
  have hm := z_lf_mul b k rest
  have cin : ∀ (x f : Int → Int) (p : Int), 0 ≤ p → p < 12 → z_cp x f 0 0 12 p = f p := fun x f p p0 p1 => by unfold z_cp; rw [if_pos (by omega)]; congr 1; omega
  have hr := z_gv_same (P := z_aP b k) (by omega) (z_lf b k rest).toNat (z_cp s (z_s0 b k rest) 0 0 12) (z_cp s0 (z_s0 b k rest) 0 0 12) (z_cp r (z_rr b k rest) 0 0 12) (z_cp r0 (z_r0m b k rest) 0 0 12)
    (fun p p0 p1 => by rw [cin _ _ p p0 p1, cin _ _ p p0 p1])
    (fun p p0 p1 => by
      rw [cin _ _ p p0 p1, cin _ _ p p0 p1]
      have hp := hq p p0 p1
      unfold z_r0m z_rr
      by_cases e : b (426 + 12 * k + p) = 0
      · rw [if_pos e, e, Int.mul_zero, Int.zero_emod]
        exact ⟨fun c => absurd c (by decide), fun _ => by decide⟩
      · rw [if_neg e]
        exact ⟨fun _ => rfl, fun c => c⟩)
    (fun p p0 p1 => by rw [cin _ _ p p0 p1]; exact (z_rr_rg ha p).2)
    (by
      rw [z_sm_eq (f := z_cp r (z_rr b k rest) 0 0 12) (g := z_rr b k rest) (fun i hi => cin _ _ i (by omega) (by omega)), ← hm, Int.toNat_of_nonneg hl.1]
      exact Int.le_refl _)
  refine ⟨hr.1, fun p p0 p1 e => ?_, ?_⟩
  · have h2 := hr.2.1 p p0 p1 (by rw [cin _ _ p p0 p1]; unfold z_rr; rw [e, Int.mul_zero, Int.zero_emod]; exact Int.le_refl 0)
    unfold z_sp
    rw [h2, cin _ _ p p0 p1]
    unfold z_s0
    rw [e, Int.mul_zero, Int.zero_ediv]
  · have h3 := hr.2.2
    rw [z_sm_eq (f := z_cp s (z_s0 b k rest) 0 0 12) (g := z_s0 b k rest) (fun i hi => cin _ _ i (by omega) (by omega)), Int.toNat_of_nonneg hl.1] at h3
    unfold z_sp
    rw [h3]
    unfold z_lf
    omega
