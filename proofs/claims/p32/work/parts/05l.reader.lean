/-! ===== the class's reader: F its numbers (4 place, 5 the item's pen, 6 its parts, 7 items ended), r its parts ===== -/
abbrev z_c2 (M : z_M) (F r : Int → Int) : z_M := z_sR (z_sR M 7 F) 9 r
theorem z_c2_7 (M : z_M) (F r : Int → Int) (i v : Int) : z_sM (z_c2 M F r) 7 i v = z_c2 M (z_uf F i v) r := by
  show z_sM (z_sR (z_sR M 7 F) 9 r) 7 i v = _
  rw [← z_sR_sM _ _ _ _ (by decide), z_sM_sR]
theorem z_c2_9 (M : z_M) (F r : Int → Int) (i v : Int) : z_sM (z_c2 M F r) 9 i v = z_c2 M F (z_uf r i v) := z_sM_sR _ _ _ _ _
theorem z_c2_row {M : z_M} {F r : Int → Int} {a : Nat} (h : a ≠ 7 ∧ a ≠ 9) : z_c2 M F r a = M a := (z_sR_ne _ _ h.2).trans (z_sR_ne _ _ h.1)
abbrev z_w1 (r : Int → Int) : Prop := r 1 ≠ 0 ∧ r 10 ≠ 0 ∧ r 11 ≠ 0
abbrev z_wc (F : Int → Int) (c : Int) : Prop := c = 44 ∧ F 7 < 3
def z_endF (F : Int → Int) : Int → Int := z_uf (z_uf F 6 1) 7 (F 7 + 1)
def z_endW (F r : Int → Int) : Int → Int := z_uf r (F 5) (F 6)
abbrev z_dgB (r : Int → Int) (c : Int) : Prop := (c = 49 ∧ ¬ z_w1 r) ∨ (c ≠ 49 ∧ 48 ≤ c ∧ c ≤ 57 ∧ r (c - 48) = 0)
abbrev z_aoB (F r : Int → Int) (c : Int) : Prop := ((c = 48 ∨ c = 49) ∧ r (10 + c - 48) = 0) ∨ (c ≠ 48 ∧ c ≠ 49 ∧ r 1 = 0 ∧ (c = 42 ∨ z_wc F c))
abbrev z_kB (F r : Int → Int) (c : Int) : Prop := (F 4 = 0 ∧ z_dgB r c) ∨ (F 4 = 1 ∧ z_aoB F r c) ∨ (F 4 = 2 ∧ (c = 42 ∨ z_wc F c)) ∨ (F 4 = 3 ∧ 50 ≤ c ∧ c ≤ 57) ∨ (F 4 = 4 ∧ z_wc F c)
def z_dgF (F : Int → Int) (c : Int) : Int → Int := if c = 49 then z_uf (z_uf F 5 1) 4 1 else z_uf (z_uf F 5 (c - 48)) 4 2
def z_aoF (F : Int → Int) (c : Int) : Int → Int := if c = 48 ∨ c = 49 then z_uf (z_uf F 5 (10 + c - 48)) 4 2 else if c = 42 then z_uf F 4 3 else z_uf (z_endF F) 4 0
def z_aoR (F r : Int → Int) (c : Int) : Int → Int := if c = 48 ∨ c = 49 ∨ c = 42 then r else z_endW F r
def z_scF (F : Int → Int) (c : Int) : Int → Int := if c = 42 then z_uf F 4 3 else z_uf (z_endF F) 4 0
def z_scR (F r : Int → Int) (c : Int) : Int → Int := if c = 42 then r else z_endW F r
def z_kfF (F : Int → Int) (c : Int) : Int → Int := if F 4 = 0 then z_dgF F c else if F 4 = 1 then z_aoF F c else if F 4 = 2 then z_scF F c else if F 4 = 3 then z_uf (z_uf F 6 (c - 48)) 4 4 else z_uf (z_endF F) 4 0
def z_kfR (F r : Int → Int) (c : Int) : Int → Int := if F 4 = 0 then r else if F 4 = 1 then z_aoR F r c else if F 4 = 2 then z_scR F r c else if F 4 = 3 then r else z_endW F r
def z_PK (F r : Int → Int) : Prop := 0 ≤ F 4 ∧ F 4 ≤ 4 ∧ 0 ≤ F 5 ∧ F 5 < 12 ∧ 1 ≤ F 6 ∧ F 6 ≤ 9 ∧ 0 ≤ F 7 ∧ F 7 ≤ 4 ∧ ∀ p, 0 ≤ p → p < 12 → 0 ≤ r p ∧ r p ≤ 9
theorem z_PK_e {F r : Int → Int} {x : Int} (h : z_PK F r) (h7 : F 7 < 4) (x0 : 0 ≤ x) (x1 : x ≤ 4) : z_PK (z_uf (z_endF F) 4 x) (z_endW F r) := by
  obtain ⟨h1, h2, h3, h4, h5, h6, h7', h8, h9⟩ := h
  unfold z_PK z_endF z_endW z_uf
  refine ⟨by simp; omega, by simp; omega, by simp; omega, by simp; omega, by simp, by simp, by simp; omega, by simp; omega, fun p p0 p1 => ?_⟩
  split
  · omega
  · exact h9 p p0 p1
theorem z_PK_k {F r : Int → Int} {c : Int} (h : z_PK F r) (ht : z_kB F r c) : z_PK (z_kfF F c) (z_kfR F r c) := by
  have hh := h
  obtain ⟨h1, h2, h3, h4, h5, h6, h7, h8, h9⟩ := h
  have u : ∀ a x : Int, 0 ≤ a → a < 12 → 0 ≤ x → x ≤ 4 → z_PK (z_uf (z_uf F 5 a) 4 x) r := fun a x a0 a1 x0 x1 => by
    unfold z_PK z_uf
    exact ⟨by simp; omega, by simp; omega, by simp; omega, by simp; omega, by simp; omega, by simp; omega, by simp; omega, by simp; omega, h9⟩
  have v : ∀ x : Int, 0 ≤ x → x ≤ 4 → z_PK (z_uf F 4 x) r := fun x x0 x1 => by
    unfold z_PK z_uf
    exact ⟨by simp; omega, by simp; omega, by simp; omega, by simp; omega, by simp; omega, by simp; omega, by simp; omega, by simp; omega, h9⟩
  have w : ∀ a x : Int, 1 ≤ a → a ≤ 9 → 0 ≤ x → x ≤ 4 → z_PK (z_uf (z_uf F 6 a) 4 x) r := fun a x a0 a1 x0 x1 => by
    unfold z_PK z_uf
    exact ⟨by simp; omega, by simp; omega, by simp; omega, by simp; omega, by simp; omega, by simp; omega, by simp; omega, by simp; omega, h9⟩
  unfold z_kfF z_kfR
  rcases ht with ⟨a, b⟩ | ⟨a, b⟩ | ⟨a, b⟩ | ⟨a, b⟩ | ⟨a, b⟩
  · rw [if_pos a, if_pos a]
    unfold z_dgF
    split
    · exact u 1 1 (by decide) (by decide) (by decide) (by decide)
    · exact u (c - 48) 2 (by omega) (by omega) (by decide) (by decide)
  · rw [if_neg (by omega), if_pos a, if_neg (by omega), if_pos a]
    unfold z_aoF z_aoR
    rcases b with b | b
    · rw [if_pos b.1, if_pos (by omega)]
      exact u (10 + c - 48) 2 (by omega) (by omega) (by decide) (by decide)
    · rw [if_neg (by omega)]
      by_cases e : c = 42
      · rw [if_pos e, if_pos (by omega)]; exact v 3 (by decide) (by decide)
      · rw [if_neg e, if_neg (by omega)]
        exact z_PK_e hh (by omega) (by decide) (by decide)
  · rw [if_neg (by omega), if_neg (by omega), if_pos a, if_neg (by omega), if_neg (by omega), if_pos a]
    unfold z_scF z_scR
    by_cases e : c = 42
    · rw [if_pos e, if_pos e]; exact v 3 (by decide) (by decide)
    · rw [if_neg e, if_neg e]
      exact z_PK_e hh (by omega) (by decide) (by decide)
  · rw [if_neg (by omega), if_neg (by omega), if_neg (by omega), if_pos a, if_neg (by omega), if_neg (by omega), if_neg (by omega), if_pos a]
    exact w (c - 48) 4 (by omega) (by omega) (by decide) (by decide)
  · rw [if_neg (by omega), if_neg (by omega), if_neg (by omega), if_neg (by omega), if_neg (by omega), if_neg (by omega), if_neg (by omega), if_neg (by omega)]
    exact z_PK_e hh (by omega) (by decide) (by decide)
/-- the reading from place k on, m characters left -/
def z_krd (tx : Int → Int) : Nat → Int → (Int → Int) → (Int → Int) → Int × (Int → Int) × (Int → Int)
  | 0, k, F, r => (k, F, r)
  | m + 1, k, F, r => if z_kB F r (tx k) then z_krd tx m (k + 1) (z_kfF F (tx k)) (z_kfR F r (tx k)) else (k, F, r)
def z_kF0 (F : Int → Int) : Int → Int := z_uf (z_uf (z_uf (z_uf F 4 0) 5 0) 6 1) 7 0
def z_kr0 (r : Int → Int) : Int → Int := z_cp r (fun _ => 0) 0 0 12
theorem z_PK_0 (F r : Int → Int) : z_PK (z_kF0 F) (z_kr0 r) := by
  unfold z_PK z_kF0 z_kr0 z_cp z_uf
  refine ⟨by simp, by simp, by simp, by simp, by simp, by simp, by simp, by simp, fun p p0 p1 => ?_⟩
  rw [if_pos (by omega)]
  exact ⟨Int.le_refl 0, by show (0 : Int) ≤ 9; decide⟩
theorem z_kfF_o {F : Int → Int} {c j : Int} (h : j < 4 ∨ 7 < j) : z_kfF F c j = F j := by
  unfold z_kfF z_dgF z_aoF z_scF z_endF
  have q : ∀ (g : Int → Int) (i v : Int), 4 ≤ i → i ≤ 7 → z_uf g i v j = g j := fun g i v a b => z_uf_ne _ _ (by omega)
  (repeat' split) <;> simp only [q _ 4 _ (by decide) (by decide), q _ 5 _ (by decide) (by decide), q _ 6 _ (by decide) (by decide), q _ 7 _ (by decide) (by decide)]
theorem z_krd_o (tx : Int → Int) {j : Int} (hj : j < 4 ∨ 7 < j) : ∀ (m : Nat) (k : Int) (F r : Int → Int), (z_krd tx m k F r).2.1 j = F j := by
  intro m
  induction m with
  | zero => intro k F r; rfl
  | succ m ih =>
    intro k F r
    unfold z_krd
    by_cases q : z_kB F r (tx k)
    · rw [if_pos q, ih, z_kfF_o hj]
    · rw [if_neg q]
theorem z_krd_k (tx : Int → Int) : ∀ (m : Nat) (k : Int) (F r : Int → Int), k ≤ (z_krd tx m k F r).1 ∧ (z_krd tx m k F r).1 ≤ k + m := by
  intro m
  induction m with
  | zero => intro k F r; exact ⟨Int.le_refl _, by show k ≤ k + 0; omega⟩
  | succ m ih =>
    intro k F r
    unfold z_krd
    by_cases q : z_kB F r (tx k)
    · rw [if_pos q]; have := ih (k + 1) (z_kfF F (tx k)) (z_kfR F r (tx k)); omega
    · rw [if_neg q]; show k ≤ k ∧ k ≤ k + _; omega
theorem z_krd_PK (tx : Int → Int) : ∀ (m : Nat) (k : Int) (F r : Int → Int), z_PK F r → z_PK (z_krd tx m k F r).2.1 (z_krd tx m k F r).2.2 := by
  intro m
  induction m with
  | zero => intro k F r h; exact h
  | succ m ih =>
    intro k F r h
    unfold z_krd
    by_cases q : z_kB F r (tx k)
    · rw [if_pos q]; exact ih _ _ _ (z_PK_k h q)
    · rw [if_neg q]; exact h
def z_gtp (r : Int → Int) : Nat → Int
  | 0 => -1
  | n + 1 => if 0 < r n then (n : Int) else z_gtp r n
theorem z_gtp_rg (r : Int → Int) (n : Nat) : -1 ≤ z_gtp r n ∧ z_gtp r n < n := by
  induction n with
  | zero => exact ⟨Int.le_refl _, by show (-1 : Int) < 0; decide⟩
  | succ n ih => unfold z_gtp; split <;> omega
abbrev z_KR (M : z_M) : Int × (Int → Int) × (Int → Int) := z_krd (M 8) (M 7 3).toNat 0 (z_kF0 (M 7)) (z_kr0 (M 9))
abbrev z_kLB (M : z_M) : Prop := (z_KR M).1 = M 7 3 ∧ (z_KR M).2.1 4 ≠ 0 ∧ (z_KR M).2.1 4 ≠ 3 ∧ (z_KR M).2.2 ((z_KR M).2.1 5) = 0
def z_kLF (M : z_M) : Int → Int := if z_kLB M then z_endF (z_KR M).2.1 else (z_KR M).2.1
def z_kLR (M : z_M) : Int → Int := if z_kLB M then z_endW (z_KR M).2.1 (z_KR M).2.2 else (z_KR M).2.2
/-- while an item stands, not all four have ended -/
theorem z_P7_k {F r : Int → Int} {c : Int} (h : F 7 < 4) (ht : z_kB F r c) : z_kfF F c 7 < 4 := by
  unfold z_kfF z_dgF z_aoF z_scF z_endF z_uf
  rcases ht with ⟨a, b⟩ | ⟨a, b⟩ | ⟨a, b⟩ | ⟨a, b⟩ | ⟨a, b⟩ <;> (repeat' split) <;> simp <;> omega
theorem z_krd_7 (tx : Int → Int) : ∀ (m : Nat) (k : Int) (F r : Int → Int), F 7 < 4 → True ∧ ((z_krd tx m k F r).2.1 4 = 1 ∨ (z_krd tx m k F r).2.1 4 = 2 ∨ (z_krd tx m k F r).2.1 4 = 4 → (z_krd tx m k F r).2.1 7 < 4) := by
  intro m
  induction m with
  | zero => intro k F r h; exact ⟨trivial, fun _ => h⟩
  | succ m ih =>
    intro k F r h
    unfold z_krd
    by_cases q : z_kB F r (tx k)
    · rw [if_pos q]; exact ih _ _ _ (z_P7_k h q)
    · rw [if_neg q]; exact ⟨trivial, fun _ => h⟩
theorem z_P7_0 (F r : Int → Int) : z_kF0 F 7 < 4 := by unfold z_kF0 z_uf; simp
section ZKB
variable {F r : Int → Int} {c : Int}
theorem z_kB0 (h : F 4 = 0) : z_dgB r c ↔ z_kB F r c := ⟨fun q => Or.inl ⟨h, q⟩, fun q => by
  rcases q with q | q | q | q | q
  · exact q.2
  · exact absurd q.1 (by omega)
  · exact absurd q.1 (by omega)
  · exact absurd q.1 (by omega)
  · exact absurd q.1 (by omega)⟩
theorem z_kB1 (h : F 4 = 1) : z_aoB F r c ↔ z_kB F r c := ⟨fun q => Or.inr (Or.inl ⟨h, q⟩), fun q => by
  rcases q with q | q | q | q | q
  · exact absurd q.1 (by omega)
  · exact q.2
  · exact absurd q.1 (by omega)
  · exact absurd q.1 (by omega)
  · exact absurd q.1 (by omega)⟩
theorem z_kB2 (h : F 4 = 2) : (c = 42 ∨ z_wc F c) ↔ z_kB F r c := ⟨fun q => Or.inr (Or.inr (Or.inl ⟨h, q⟩)), fun q => by
  rcases q with q | q | q | q | q
  · exact absurd q.1 (by omega)
  · exact absurd q.1 (by omega)
  · exact q.2
  · exact absurd q.1 (by omega)
  · exact absurd q.1 (by omega)⟩
theorem z_kB3 (h : F 4 = 3) : (50 ≤ c ∧ c ≤ 57) ↔ z_kB F r c := ⟨fun q => Or.inr (Or.inr (Or.inr (Or.inl ⟨h, q⟩))), fun q => by
  rcases q with q | q | q | q | q
  · exact absurd q.1 (by omega)
  · exact absurd q.1 (by omega)
  · exact absurd q.1 (by omega)
  · exact q.2
  · exact absurd q.1 (by omega)⟩
theorem z_kB4 (h : F 4 = 4) : z_wc F c ↔ z_kB F r c := ⟨fun q => Or.inr (Or.inr (Or.inr (Or.inr (⟨h, q⟩)))), fun q => by
  rcases q with q | q | q | q | q
  · exact absurd q.1 (by omega)
  · exact absurd q.1 (by omega)
  · exact absurd q.1 (by omega)
  · exact absurd q.1 (by omega)
  · exact q.2⟩
theorem z_kfF0 (h : F 4 = 0) : z_kfF F c = z_dgF F c := by
  unfold z_kfF
  rw [if_pos h]
theorem z_kfR0 (h : F 4 = 0) : z_kfR F r c = r := by
  unfold z_kfR
  rw [if_pos h]
theorem z_kfF1 (h : F 4 = 1) : z_kfF F c = z_aoF F c := by
  unfold z_kfF
  rw [if_neg (by omega), if_pos h]
theorem z_kfR1 (h : F 4 = 1) : z_kfR F r c = z_aoR F r c := by
  unfold z_kfR
  rw [if_neg (by omega), if_pos h]
theorem z_kfF2 (h : F 4 = 2) : z_kfF F c = z_scF F c := by
  unfold z_kfF
  rw [if_neg (by omega), if_neg (by omega), if_pos h]
theorem z_kfR2 (h : F 4 = 2) : z_kfR F r c = z_scR F r c := by
  unfold z_kfR
  rw [if_neg (by omega), if_neg (by omega), if_pos h]
theorem z_kfF3 (h : F 4 = 3) : z_kfF F c = z_uf (z_uf F 6 (c - 48)) 4 4 := by
  unfold z_kfF
  rw [if_neg (by omega), if_neg (by omega), if_neg (by omega), if_pos h]
theorem z_kfR3 (h : F 4 = 3) : z_kfR F r c = r := by
  unfold z_kfR
  rw [if_neg (by omega), if_neg (by omega), if_neg (by omega), if_pos h]
theorem z_kfF4 (h : F 4 = 4) : z_kfF F c = z_uf (z_endF F) 4 0 := by
  unfold z_kfF
  rw [if_neg (by omega), if_neg (by omega), if_neg (by omega), if_neg (by omega)]
theorem z_kfR4 (h : F 4 = 4) : z_kfR F r c = z_endW F r := by
  unfold z_kfR
  rw [if_neg (by omega), if_neg (by omega), if_neg (by omega), if_neg (by omega)]
end ZKB
theorem tX2_endItem {G : z_G} {M : z_M} {F r : Int → Int} (hp : z_PK F r) (h7 : F 7 < 4) : KX2_endItem G [.ref (z_ad G 0 22)] (z_c2 M F r) (.inl none) (z_c2 M (z_endF F) (z_endW F r)) := by
  refine z_con (ls := [some (.ref (z_ad G 0 22))]) (by decide +kernel) (Nat.le_of_ble_eq_true rfl) rfl ?_
  intro Z htb
  refine z_rng fun hr => ?_
  have hp' := hp
  obtain ⟨h1, h2, h3, h4, h5, h6, h7x, h8, h9⟩ := hp'
  refine z_aloadn dX2_endItem_0 rfl ?_
  refine gX2_15 rfl dX2_endItem_1 ?_
  refine z_aloadn dX2_endItem_4 rfl ?_
  refine gX2_29 rfl dX2_endItem_5 ?_
  refine z_top (v' := F 5) rfl ?_
  refine z_aloadn dX2_endItem_8 rfl ?_
  refine gX2_41 rfl dX2_endItem_9 ?_
  refine z_top (v' := F 6) rfl ?_
  refine z_iast (by rfl) (by first | exact Or.inl (by decide) | exact Or.inl (Or.inl ⟨by decide, hg⟩)) (by omega) (by omega) (by decide) (by first | (exact hr _ _ (by decide)) | (exact hr _ _ (by omega)) | omega) dX2_endItem_12 ?_
  refine z_rng fun hr => ?_
  refine z_aloadn dX2_endItem_13 rfl ?_
  refine z_iconst dX2_endItem_14 ?_
  refine pX2_41 (by first | (exact hr _ _ (by decide)) | (exact hr _ _ (by omega)) | omega) rfl dX2_endItem_15 ?_
  refine z_rng fun hr => ?_
  refine z_aloadn dX2_endItem_18 rfl ?_
  refine z_dup dX2_endItem_19 rfl ?_
  refine gX2_44 rfl dX2_endItem_20 ?_
  refine z_top (v' := F 7) ((z_sM_ne _ _ _ (by decide)).trans (congrFun (z_sM_row _ _ _ (by decide)) _)) ?_
  refine z_iconst dX2_endItem_23 ?_
  refine z_iadd dX2_endItem_24 ?_
  refine pX2_44 (by first | (exact hr _ _ (by decide)) | (exact hr _ _ (by omega)) | omega) rfl dX2_endItem_25 ?_
  refine z_rng fun hr => ?_
  exact z_vret dX2_endItem_28 (by rw [z_c2_9, z_c2_7, z_c2_7]; rfl)
theorem tX2_takesComma {G : z_G} {M : z_M} {F r : Int → Int} (hp : z_PK F r) {c : Int} (c0 : 33 ≤ c) (c1 : c ≤ 126) : KX2_takesComma G [.ref (z_ad G 0 22), z_I c] (z_c2 M F r) (.inl (some (z_I (if z_wc F c then 1 else 0)))) (if z_wc F c then z_c2 M (z_uf (z_endF F) 4 0) (z_endW F r) else (z_c2 M F r)) := by
  refine z_con (ls := [some (.ref (z_ad G 0 22)), some (z_I c)]) (by decide +kernel) (Nat.le_of_ble_eq_true rfl) rfl ?_
  intro Z htb
  refine z_rng fun hr => ?_
  have hp' := hp
  obtain ⟨h1, h2, h3, h4, h5, h6, h7, h8, h9⟩ := hp'
  refine z_iloadn dX2_takesComma_0 rfl ?_
  refine z_bipush dX2_takesComma_1 (by decide) ?_
  refine z_icmp_ne (tgt := 14) (by first | (exact hr _ _ (by decide)) | (exact hr _ _ (by omega)) | omega) (by first | (exact hr _ _ (by decide)) | (exact hr _ _ (by omega)) | omega) dX2_takesComma_3 (by decide) (fun h3 => ?_) (fun h3 => ?_)
  · refine z_iconst dX2_takesComma_14 ?_
    exact z_zret dX2_takesComma_15 (by first | rw [if_pos (by omega)] | rw [if_neg (by omega)]) (by first | (rw [if_pos (by omega)]; simp only [z_c2_7, z_c2_9]; done) | rw [if_neg (by omega)] | (rw [if_pos (by omega)])) (by first | decide | (split <;> simp))
  · refine z_aloadn dX2_takesComma_6 rfl ?_
    refine gX2_44 rfl dX2_takesComma_7 ?_
    refine z_top (v' := F 7) rfl ?_
    refine z_iconst dX2_takesComma_10 ?_
    refine z_icmp_lt (tgt := 16) (by first | (exact hr _ _ (by decide)) | (exact hr _ _ (by omega)) | omega) (by first | (exact hr _ _ (by decide)) | (exact hr _ _ (by omega)) | omega) dX2_takesComma_11 (by decide) (fun h11 => ?_) (fun h11 => ?_)
    · refine z_aloadn dX2_takesComma_16 rfl ?_
      refine kX2_32 (tX2_endItem hp (by omega)) rfl ⟨(Nat.le_of_ble_eq_true rfl), (Nat.le_of_ble_eq_true rfl)⟩ (Nat.le_of_ble_eq_true rfl) dX2_takesComma_17 ?_
      refine z_rng fun hr => ?_
      refine z_aloadn dX2_takesComma_20 rfl ?_
      refine z_iconst dX2_takesComma_21 ?_
      refine pX2_26 (by first | (exact hr _ _ (by decide)) | (exact hr _ _ (by omega)) | omega) rfl dX2_takesComma_22 ?_
      refine z_rng fun hr => ?_
      refine z_iconst dX2_takesComma_25 ?_
      exact z_zret dX2_takesComma_26 (by first | rw [if_pos (by omega)] | rw [if_neg (by omega)]) (by first | (rw [if_pos (by omega)]; simp only [z_c2_7, z_c2_9]; done) | rw [if_neg (by omega)] | (rw [if_pos (by omega)])) (by first | decide | (split <;> simp))
    · refine z_iconst dX2_takesComma_14 ?_
      exact z_zret dX2_takesComma_15 (by first | rw [if_pos (by omega)] | rw [if_neg (by omega)]) (by first | (rw [if_pos (by omega)]; simp only [z_c2_7, z_c2_9]; done) | rw [if_neg (by omega)] | (rw [if_pos (by omega)])) (by first | decide | (split <;> simp))
theorem tX2_takesStar {G : z_G} {M : z_M} {F r : Int → Int} {c : Int} (c0 : 33 ≤ c) (c1 : c ≤ 126) : KX2_takesStar G [.ref (z_ad G 0 22), z_I c] (z_c2 M F r) (.inl (some (z_I (if c = 42 then 1 else 0)))) (if c = 42 then z_c2 M (z_uf F 4 3) r else (z_c2 M F r)) := by
  refine z_con (ls := [some (.ref (z_ad G 0 22)), some (z_I c)]) (by decide +kernel) (Nat.le_of_ble_eq_true rfl) rfl ?_
  intro Z htb
  refine z_rng fun hr => ?_
  refine z_iloadn dX2_takesStar_0 rfl ?_
  refine z_bipush dX2_takesStar_1 (by decide) ?_
  refine z_icmp_eq (tgt := 8) (by first | (exact hr _ _ (by decide)) | (exact hr _ _ (by omega)) | omega) (by first | (exact hr _ _ (by decide)) | (exact hr _ _ (by omega)) | omega) dX2_takesStar_3 (by decide) (fun h3 => ?_) (fun h3 => ?_)
  · refine z_aloadn dX2_takesStar_8 rfl ?_
    refine z_iconst dX2_takesStar_9 ?_
    refine pX2_26 (by first | (exact hr _ _ (by decide)) | (exact hr _ _ (by omega)) | omega) rfl dX2_takesStar_10 ?_
    refine z_rng fun hr => ?_
    refine z_iconst dX2_takesStar_13 ?_
    exact z_zret dX2_takesStar_14 (by first | rw [if_pos (by omega)] | rw [if_neg (by omega)]) (by first | (rw [if_pos (by omega)]; simp only [z_c2_7, z_c2_9]; done) | rw [if_neg (by omega)] | (rw [if_pos (by omega)])) (by first | decide | (split <;> simp))
  · refine z_iconst dX2_takesStar_6 ?_
    exact z_zret dX2_takesStar_7 (by first | rw [if_pos (by omega)] | rw [if_neg (by omega)]) (by first | (rw [if_pos (by omega)]; simp only [z_c2_7, z_c2_9]; done) | rw [if_neg (by omega)] | (rw [if_pos (by omega)])) (by first | decide | (split <;> simp))
theorem tX2_takesFactor {G : z_G} {M : z_M} {F r : Int → Int} {c : Int} (c0 : 33 ≤ c) (c1 : c ≤ 126) : KX2_takesFactor G [.ref (z_ad G 0 22), z_I c] (z_c2 M F r) (.inl (some (z_I (if 50 ≤ c ∧ c ≤ 57 then 1 else 0)))) (if 50 ≤ c ∧ c ≤ 57 then z_c2 M (z_uf (z_uf F 6 (c - 48)) 4 4) r else (z_c2 M F r)) := by
  refine z_con (ls := [some (.ref (z_ad G 0 22)), some (z_I c)]) (by decide +kernel) (Nat.le_of_ble_eq_true rfl) rfl ?_
  intro Z htb
  refine z_rng fun hr => ?_
  refine z_iloadn dX2_takesFactor_0 rfl ?_
  refine z_bipush dX2_takesFactor_1 (by decide) ?_
  refine z_icmp_lt (tgt := 12) (by first | (exact hr _ _ (by decide)) | (exact hr _ _ (by omega)) | omega) (by first | (exact hr _ _ (by decide)) | (exact hr _ _ (by omega)) | omega) dX2_takesFactor_3 (by decide) (fun h3 => ?_) (fun h3 => ?_)
  · refine z_iconst dX2_takesFactor_12 ?_
    exact z_zret dX2_takesFactor_13 (by first | rw [if_pos (by omega)] | rw [if_neg (by omega)]) (by first | (rw [if_pos (by omega)]; simp only [z_c2_7, z_c2_9]; done) | rw [if_neg (by omega)] | (rw [if_pos (by omega)])) (by first | decide | (split <;> simp))
  · refine z_iloadn dX2_takesFactor_6 rfl ?_
    refine z_bipush dX2_takesFactor_7 (by decide) ?_
    refine z_icmp_le (tgt := 14) (by first | (exact hr _ _ (by decide)) | (exact hr _ _ (by omega)) | omega) (by first | (exact hr _ _ (by decide)) | (exact hr _ _ (by omega)) | omega) dX2_takesFactor_9 (by decide) (fun h9 => ?_) (fun h9 => ?_)
    · refine z_aloadn dX2_takesFactor_14 rfl ?_
      refine z_iloadn dX2_takesFactor_15 rfl ?_
      refine z_bipush dX2_takesFactor_16 (by decide) ?_
      refine z_isub dX2_takesFactor_18 ?_
      refine pX2_41 (by first | (exact hr _ _ (by decide)) | (exact hr _ _ (by omega)) | omega) rfl dX2_takesFactor_19 ?_
      refine z_rng fun hr => ?_
      refine z_aloadn dX2_takesFactor_22 rfl ?_
      refine z_iconst dX2_takesFactor_23 ?_
      refine pX2_26 (by first | (exact hr _ _ (by decide)) | (exact hr _ _ (by omega)) | omega) rfl dX2_takesFactor_24 ?_
      refine z_rng fun hr => ?_
      refine z_iconst dX2_takesFactor_27 ?_
      exact z_zret dX2_takesFactor_28 (by first | rw [if_pos (by omega)] | rw [if_neg (by omega)]) (by first | (rw [if_pos (by omega)]; simp only [z_c2_7, z_c2_9]; done) | rw [if_neg (by omega)] | (rw [if_pos (by omega)])) (by first | decide | (split <;> simp))
    · refine z_iconst dX2_takesFactor_12 ?_
      exact z_zret dX2_takesFactor_13 (by first | rw [if_pos (by omega)] | rw [if_neg (by omega)]) (by first | (rw [if_pos (by omega)]; simp only [z_c2_7, z_c2_9]; done) | rw [if_neg (by omega)] | (rw [if_pos (by omega)])) (by first | decide | (split <;> simp))
theorem tX2_takesPen {G : z_G} {M : z_M} {F r : Int → Int} (hp : z_PK F r) {p : Int} (p0 : -48 ≤ p) (p1 : p ≤ 100) : KX2_takesPen G [.ref (z_ad G 0 22), z_I p] (z_c2 M F r) (.inl (some (z_I (if 0 ≤ p ∧ p < 12 ∧ r p = 0 then 1 else 0)))) (if 0 ≤ p ∧ p < 12 ∧ r p = 0 then z_c2 M (z_uf (z_uf F 5 p) 4 2) r else (z_c2 M F r)) := by
  refine z_con (ls := [some (.ref (z_ad G 0 22)), some (z_I p)]) (by decide +kernel) (Nat.le_of_ble_eq_true rfl) rfl ?_
  intro Z htb
  refine z_rng fun hr => ?_
  have hp' := hp
  obtain ⟨h1, h2, h3, h4, h5, h6, h7, h8, h9⟩ := hp'
  refine z_iloadn dX2_takesPen_0 rfl ?_
  refine z_if_lt (tgt := 19) (by first | (exact hr _ _ (by decide)) | (exact hr _ _ (by omega)) | omega) dX2_takesPen_1 (by decide) (fun h1 => ?_) (fun h1 => ?_)
  · refine z_iconst dX2_takesPen_19 ?_
    exact z_zret dX2_takesPen_20 (by first | rw [if_pos (by omega)] | rw [if_neg (by omega)]) (by first | (rw [if_pos (by omega)]; simp only [z_c2_7, z_c2_9]; done) | rw [if_neg (by omega)] | (rw [if_pos (by omega)])) (by first | decide | (split <;> simp))
  · refine z_iloadn dX2_takesPen_4 rfl ?_
    refine z_bipush dX2_takesPen_5 (by decide) ?_
    refine z_icmp_ge (tgt := 19) (by first | (exact hr _ _ (by decide)) | (exact hr _ _ (by omega)) | omega) (by first | (exact hr _ _ (by decide)) | (exact hr _ _ (by omega)) | omega) dX2_takesPen_7 (by decide) (fun h7 => ?_) (fun h7 => ?_)
    · refine z_iconst dX2_takesPen_19 ?_
      exact z_zret dX2_takesPen_20 (by first | rw [if_pos (by omega)] | rw [if_neg (by omega)]) (by first | (rw [if_pos (by omega)]; simp only [z_c2_7, z_c2_9]; done) | rw [if_neg (by omega)] | (rw [if_pos (by omega)])) (by first | decide | (split <;> simp))
    · refine z_aloadn dX2_takesPen_10 rfl ?_
      refine gX2_15 rfl dX2_takesPen_11 ?_
      refine z_iloadn dX2_takesPen_14 rfl ?_
      refine z_iald (by rfl) (by first | exact Or.inl (by decide) | exact Or.inl (Or.inl ⟨by decide, hg⟩)) (by omega) (by omega) (by decide) dX2_takesPen_15 ?_
      refine z_top (v' := r p) rfl ?_
      refine z_if_eq (tgt := 21) (by have := h9 p (by omega) (by omega); omega) dX2_takesPen_16 (by decide) (fun h16 => ?_) (fun h16 => ?_)
      · refine z_aloadn dX2_takesPen_21 rfl ?_
        refine z_iloadn dX2_takesPen_22 rfl ?_
        refine pX2_29 (by first | (exact hr _ _ (by decide)) | (exact hr _ _ (by omega)) | omega) rfl dX2_takesPen_23 ?_
        refine z_rng fun hr => ?_
        refine z_aloadn dX2_takesPen_26 rfl ?_
        refine z_iconst dX2_takesPen_27 ?_
        refine pX2_26 (by first | (exact hr _ _ (by decide)) | (exact hr _ _ (by omega)) | omega) rfl dX2_takesPen_28 ?_
        refine z_rng fun hr => ?_
        refine z_iconst dX2_takesPen_31 ?_
        exact z_zret dX2_takesPen_32 (by first | rw [if_pos (by omega)] | rw [if_neg (by omega)]) (by first | (rw [if_pos (by omega)]; simp only [z_c2_7, z_c2_9]; done) | rw [if_neg (by omega)] | (rw [if_pos (by omega)])) (by first | decide | (split <;> simp))
      · refine z_iconst dX2_takesPen_19 ?_
        exact z_zret dX2_takesPen_20 (by first | rw [if_pos (by omega)] | rw [if_neg (by omega)]) (by first | (rw [if_pos (by omega)]; simp only [z_c2_7, z_c2_9]; done) | rw [if_neg (by omega)] | (rw [if_pos (by omega)])) (by first | decide | (split <;> simp))
theorem tX2_takesOne {G : z_G} {M : z_M} {F r : Int → Int} (hp : z_PK F r) : KX2_takesOne G [.ref (z_ad G 0 22)] (z_c2 M F r) (.inl (some (z_I (if ¬ z_w1 r then 1 else 0)))) (if ¬ z_w1 r then z_c2 M (z_uf (z_uf F 5 1) 4 1) r else (z_c2 M F r)) := by
  refine z_con (ls := [some (.ref (z_ad G 0 22))]) (by decide +kernel) (Nat.le_of_ble_eq_true rfl) rfl ?_
  intro Z htb
  refine z_rng fun hr => ?_
  have hp' := hp
  obtain ⟨h1, h2, h3, h4, h5, h6, h7, h8, h9⟩ := hp'
  have q1 := h9 1 (by decide) (by decide)
  have q10 := h9 10 (by decide) (by decide)
  have q11 := h9 11 (by decide) (by decide)
  refine z_aloadn dX2_takesOne_0 rfl ?_
  refine gX2_15 rfl dX2_takesOne_1 ?_
  refine z_iconst dX2_takesOne_4 ?_
  refine z_iald (by rfl) (by first | exact Or.inl (by decide) | exact Or.inl (Or.inl ⟨by decide, hg⟩)) (by omega) (by omega) (by decide) dX2_takesOne_5 ?_
  refine z_top (v' := r 1) rfl ?_
  refine z_if_eq (tgt := 31) (by first | (exact hr _ _ (by decide)) | (exact hr _ _ (by omega)) | omega) dX2_takesOne_6 (by decide) (fun h6 => ?_) (fun h6 => ?_)
  · refine z_aloadn dX2_takesOne_31 rfl ?_
    refine z_iconst dX2_takesOne_32 ?_
    refine pX2_29 (by first | (exact hr _ _ (by decide)) | (exact hr _ _ (by omega)) | omega) rfl dX2_takesOne_33 ?_
    refine z_rng fun hr => ?_
    refine z_aloadn dX2_takesOne_36 rfl ?_
    refine z_iconst dX2_takesOne_37 ?_
    refine pX2_26 (by first | (exact hr _ _ (by decide)) | (exact hr _ _ (by omega)) | omega) rfl dX2_takesOne_38 ?_
    refine z_rng fun hr => ?_
    refine z_iconst dX2_takesOne_41 ?_
    exact z_zret dX2_takesOne_42 (by first | rw [if_pos (by omega)] | rw [if_neg (by omega)]) (by first | (rw [if_pos (by omega)]; simp only [z_c2_7, z_c2_9]; done) | rw [if_neg (by omega)] | (rw [if_pos (by omega)])) (by first | decide | (split <;> simp))
  · refine z_aloadn dX2_takesOne_9 rfl ?_
    refine gX2_15 rfl dX2_takesOne_10 ?_
    refine z_bipush dX2_takesOne_13 (by decide) ?_
    refine z_iald (by rfl) (by first | exact Or.inl (by decide) | exact Or.inl (Or.inl ⟨by decide, hg⟩)) (by omega) (by omega) (by decide) dX2_takesOne_15 ?_
    refine z_top (v' := r 10) rfl ?_
    refine z_if_eq (tgt := 31) (by first | (exact hr _ _ (by decide)) | (exact hr _ _ (by omega)) | omega) dX2_takesOne_16 (by decide) (fun h16 => ?_) (fun h16 => ?_)
    · refine z_aloadn dX2_takesOne_31 rfl ?_
      refine z_iconst dX2_takesOne_32 ?_
      refine pX2_29 (by first | (exact hr _ _ (by decide)) | (exact hr _ _ (by omega)) | omega) rfl dX2_takesOne_33 ?_
      refine z_rng fun hr => ?_
      refine z_aloadn dX2_takesOne_36 rfl ?_
      refine z_iconst dX2_takesOne_37 ?_
      refine pX2_26 (by first | (exact hr _ _ (by decide)) | (exact hr _ _ (by omega)) | omega) rfl dX2_takesOne_38 ?_
      refine z_rng fun hr => ?_
      refine z_iconst dX2_takesOne_41 ?_
      exact z_zret dX2_takesOne_42 (by first | rw [if_pos (by omega)] | rw [if_neg (by omega)]) (by first | (rw [if_pos (by omega)]; simp only [z_c2_7, z_c2_9]; done) | rw [if_neg (by omega)] | (rw [if_pos (by omega)])) (by first | decide | (split <;> simp))
    · refine z_aloadn dX2_takesOne_19 rfl ?_
      refine gX2_15 rfl dX2_takesOne_20 ?_
      refine z_bipush dX2_takesOne_23 (by decide) ?_
      refine z_iald (by rfl) (by first | exact Or.inl (by decide) | exact Or.inl (Or.inl ⟨by decide, hg⟩)) (by omega) (by omega) (by decide) dX2_takesOne_25 ?_
      refine z_top (v' := r 11) rfl ?_
      refine z_if_eq (tgt := 31) (by first | (exact hr _ _ (by decide)) | (exact hr _ _ (by omega)) | omega) dX2_takesOne_26 (by decide) (fun h26 => ?_) (fun h26 => ?_)
      · refine z_aloadn dX2_takesOne_31 rfl ?_
        refine z_iconst dX2_takesOne_32 ?_
        refine pX2_29 (by first | (exact hr _ _ (by decide)) | (exact hr _ _ (by omega)) | omega) rfl dX2_takesOne_33 ?_
        refine z_rng fun hr => ?_
        refine z_aloadn dX2_takesOne_36 rfl ?_
        refine z_iconst dX2_takesOne_37 ?_
        refine pX2_26 (by first | (exact hr _ _ (by decide)) | (exact hr _ _ (by omega)) | omega) rfl dX2_takesOne_38 ?_
        refine z_rng fun hr => ?_
        refine z_iconst dX2_takesOne_41 ?_
        exact z_zret dX2_takesOne_42 (by first | rw [if_pos (by omega)] | rw [if_neg (by omega)]) (by first | (rw [if_pos (by omega)]; simp only [z_c2_7, z_c2_9]; done) | rw [if_neg (by omega)] | (rw [if_pos (by omega)])) (by first | decide | (split <;> simp))
      · refine z_iconst dX2_takesOne_29 ?_
        exact z_zret dX2_takesOne_30 (by first | rw [if_pos (by omega)] | rw [if_neg (by omega)]) (by first | (rw [if_pos (by omega)]; simp only [z_c2_7, z_c2_9]; done) | rw [if_neg (by omega)] | (rw [if_pos (by omega)])) (by first | decide | (split <;> simp))
