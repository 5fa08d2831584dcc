/-! ===== the reference's reader: f its numbers (5 state, 6 entries, 7 used, 8 number, 9 parts), r its parts ===== -/
abbrev z_us (f : Int → Int) (p : Int) : Prop := z_bit (f 7) p = 1
abbrev z_rbB (f : Int → Int) (c : Int) : Prop := (0 ≤ c - 48 ∧ c - 48 ≤ 9) ∧ (c - 48 = 1 ∨ ¬ z_us f (c - 48)) ∧ ¬ (c - 48 = 1 ∧ z_us f 1 ∧ z_us f 10 ∧ z_us f 11)
def z_rbf (f : Int → Int) (c : Int) : Int → Int := z_uf (z_uf (z_uf f 8 (c - 48)) 9 1) 5 (if c - 48 = 1 then 1 else 2)
abbrev z_ovr (f : Int → Int) : Prop := f 5 = 2 ∨ f 5 = 4 ∨ (f 5 = 1 ∧ ¬ z_us f 1)
def z_endf (f : Int → Int) : Int → Int := z_uf (z_uf f 7 (z_bor (f 7) (f 8))) 6 (f 6 + 1)
def z_endr (f r : Int → Int) : Int → Int := z_uf r (f 8) (f 9)
abbrev z_ten (f : Int → Int) (c : Int) : Prop := f 5 = 1 ∧ (c = 48 ∨ c = 49) ∧ ¬ z_us f (10 + c - 48)
abbrev z_str (f : Int → Int) (c : Int) : Prop := c = 42 ∧ f 5 < 3 ∧ z_ovr f
abbrev z_com (f : Int → Int) (c : Int) : Prop := c = 44 ∧ z_ovr f ∧ f 6 + 1 < 4
/-- takes: does it take c, and what the numbers and parts are then -/
abbrev z_tB (f : Int → Int) (c : Int) : Prop := (f 5 = 0 ∧ z_rbB f c) ∨ (f 5 = 3 ∧ 2 ≤ c - 48 ∧ c - 48 ≤ 9) ∨ (f 5 ≠ 0 ∧ f 5 ≠ 3 ∧ (z_ten f c ∨ z_str f c ∨ z_com f c))
def z_tf (f : Int → Int) (c : Int) : Int → Int :=
  if f 5 = 0 then (if z_rbB f c then z_rbf f c else f)
  else if f 5 = 3 then z_uf (z_uf f 9 (c - 48)) 5 4
  else if z_ten f c then z_uf (z_uf f 8 (10 + c - 48)) 5 2
  else if z_str f c then z_uf f 5 3
  else if z_com f c then z_uf (z_endf f) 5 0
  else f
def z_tr (f r : Int → Int) (c : Int) : Int → Int := if f 5 = 0 ∨ f 5 = 3 then r else if z_ten f c then r else if z_str f c then r else if z_com f c then z_endr f r else r
/-- the reading from place k on, m characters left: where it ends, numbers, parts -/
def z_rd (tx : Int → Int) : Nat → Int → (Int → Int) → (Int → Int) → Int × (Int → Int) × (Int → Int)
  | 0, k, f, r => (k, f, r)
  | m + 1, k, f, r => if z_tB f (tx k) then z_rd tx m (k + 1) (z_tf f (tx k)) (z_tr f r (tx k)) else (k, z_uf (z_tf f (tx k)) 5 0, z_tr f r (tx k))
def z_f0 (f : Int → Int) : Int → Int := z_uf (z_uf (z_uf f 5 0) 6 0) 7 0
def z_r0 (r : Int → Int) : Int → Int := z_cp r (fun _ => 0) 0 0 12
/-- what holds while it reads -/
def z_PF (f r : Int → Int) : Prop := 0 ≤ f 5 ∧ f 5 ≤ 4 ∧ 0 ≤ f 6 ∧ f 6 ≤ 3 ∧ 0 ≤ f 7 ∧ f 7 < 4096 ∧ (f 5 = 1 → f 8 = 1) ∧ (f 5 ≠ 0 → 0 ≤ f 8 ∧ f 8 < 12 ∧ (f 5 ≠ 3 → 1 ≤ f 9 ∧ f 9 ≤ 9)) ∧ (∀ p, 0 ≤ p → p < 12 → 0 ≤ r p ∧ r p ≤ 9)
theorem z_PF_t {f r : Int → Int} {c : Int} (h : z_PF f r) (ht : z_tB f c) : z_PF (z_tf f c) (z_tr f r c) := by
  obtain ⟨h1, h2, h3, h4, h5, h6, h7, h8, h9⟩ := h
  have hb := z_bor_nn (f 7) (f 8)
  have hl : 0 ≤ f 8 → f 8 < 12 → z_bor (f 7) (f 8) < 4096 := fun a b => z_bor_lt (n := 12) h5 h6 a b
  by_cases e0 : f 5 = 0
  · have hB : z_rbB f c := by
      rcases ht with ht | ht | ht
      · exact ht.2
      · omega
      · exact absurd e0 ht.1
    unfold z_tf z_tr
    rw [if_pos e0, if_pos hB, if_pos (Or.inl e0)]
    unfold z_PF z_rbf
    simp only [z_uf]
    refine ⟨by simp; split <;> omega, by simp; split <;> omega, by simpa using h3, by simpa using h4, by simpa using h5, by simpa using h6, ?_, ?_, h9⟩
    · simp <;> omega
    · have := hB.1; simp <;> omega
  · by_cases e3 : f 5 = 3
    · have hB : 2 ≤ c - 48 ∧ c - 48 ≤ 9 := by
        rcases ht with ht | ht | ht
        · exact absurd ht.1 e0
        · exact ht.2
        · exact absurd e3 ht.2.1
      unfold z_tf z_tr
      rw [if_neg e0, if_pos e3, if_pos (Or.inr e3)]
      unfold z_PF
      simp only [z_uf]
      refine ⟨by simp, by simp, by simpa using h3, by simpa using h4, by simpa using h5, by simpa using h6, by simp, ?_, h9⟩
      have := h8 e0
      simp; omega
    · have h8 := h8 e0
      have hB : z_ten f c ∨ z_str f c ∨ z_com f c := by
        rcases ht with ht | ht | ht
        · exact absurd ht.1 e0
        · exact absurd ht.1 e3
        · exact ht.2.2
      unfold z_tf z_tr
      rw [if_neg e0, if_neg e3, if_neg (show ¬ (f 5 = 0 ∨ f 5 = 3) by omega)]
      by_cases q1 : z_ten f c
      · rw [if_pos q1, if_pos q1]
        unfold z_PF
        simp only [z_uf]
        refine ⟨by simp, by simp, by simpa using h3, by simpa using h4, by simpa using h5, by simpa using h6, by simp, ?_, h9⟩
        have := q1.2.1
        simp; omega
      · rw [if_neg q1, if_neg q1]
        by_cases q2 : z_str f c
        · rw [if_pos q2, if_pos q2]
          unfold z_PF
          simp only [z_uf]
          refine ⟨by simp, by simp, by simpa using h3, by simpa using h4, by simpa using h5, by simpa using h6, by simp, ?_, h9⟩
          simp; omega
        · rw [if_neg q2, if_neg q2]
          have q3 : z_com f c := by
            rcases hB with hB | hB | hB
            · exact absurd hB q1
            · exact absurd hB q2
            · exact hB
          rw [if_pos q3, if_pos q3]
          unfold z_PF z_endf z_endr
          simp only [z_uf]
          refine ⟨by simp, by simp, by simp; omega, by simp; omega, by simpa using hb, by simpa using hl h8.1 h8.2.1, by simp, by simp, fun p p0 p1 => ?_⟩
          split
          · omega
          · exact h9 p p0 p1
