/-! ===== parts as a text, read back ===== -/
theorem z_krd_s (tx : Int → Int) (m : Nat) (k : Int) (F r : Int → Int) : z_krd tx (m + 1) k F r = if z_kB F r (tx k) then z_krd tx m (k + 1) (z_kfF F (tx k)) (z_kfR F r (tx k)) else (k, F, r) := rfl
theorem z_krd_tx {tx tx' : Int → Int} : ∀ (m : Nat) (k : Int) (F r : Int → Int), (∀ i, k ≤ i → i < k + m → tx i = tx' i) → z_krd tx m k F r = z_krd tx' m k F r := by
  intro m
  induction m with
  | zero => intro k F r _; rfl
  | succ m ih =>
    intro k F r h
    rw [z_krd_s, z_krd_s, h k (Int.le_refl _) (by omega)]
    by_cases c : z_kB F r (tx' k)
    · rw [if_pos c, if_pos c]
      exact ih _ _ _ fun i i0 i1 => h i (by omega) (by omega)
    · rw [if_neg c, if_neg c]
theorem z_krd_more {tx : Int → Int} {F' r' : Int → Int} : ∀ (m : Nat) (k : Int) (F r : Int → Int), z_krd tx m k F r = (k + m, F', r') → z_kB F' r' (tx (k + m)) → z_krd tx (m + 1) k F r = (k + m + 1, z_kfF F' (tx (k + m)), z_kfR F' r' (tx (k + m))) := by
  intro m
  induction m with
  | zero =>
    intro k F r h hB
    have e0 : k + ((0 : Nat) : Int) = k := Int.add_zero k
    rw [e0] at h hB ⊢
    have e := (show (k, F, r) = (k, F', r') from h)
    cases e
    rw [z_krd_s, if_pos hB]
    rfl
  | succ m ih =>
    intro k F r h hB
    rw [z_krd_s] at h
    by_cases c : z_kB F r (tx k)
    · rw [if_pos c] at h
      have e : k + ((m + 1 : Nat) : Int) = k + 1 + m := by omega
      rw [e] at h hB ⊢
      rw [z_krd_s, if_pos c]
      exact ih _ _ _ h hB
    · rw [if_neg c] at h
      have := congrArg Prod.fst h
      change k = k + ((m + 1 : Nat) : Int) at this
      omega
theorem z_kr_snoc {t F0 r0 F r : Int → Int} {l c : Int} (l0 : 0 ≤ l) (h : z_krd t l.toNat 0 F0 r0 = (l, F, r)) (hB : z_kB F r c) : z_krd (z_uf t l c) (l + 1).toNat 0 F0 r0 = (l + 1, z_kfF F c, z_kfR F r c) := by
  obtain ⟨m, rfl⟩ := Int.eq_ofNat_of_zero_le l0
  rw [Int.toNat_natCast] at h
  have e : ((m : Int) + 1).toNat = m + 1 := by omega
  have e0 : (0 : Int) + (m : Int) = m := Int.zero_add _
  have h2 : z_krd (z_uf t m c) m 0 F0 r0 = (0 + (m : Int), F, r) := by
    rw [e0, ← h]
    exact z_krd_tx m 0 F0 r0 fun i _ i1 => z_uf_ne _ _ (by omega)
  have h3 := z_krd_more (tx := z_uf t m c) m 0 F0 r0 h2 (by rw [e0, z_uf_self]; exact hB)
  rw [e0, z_uf_self] at h3
  rw [e]
  exact h3
/-- how many of the pens lo .. 3 have parts -/
def z_ctn (n : Int → Int) (lo : Int) : Int := (if lo ≤ 0 ∧ n 0 ≠ 0 then 1 else 0) + (if lo ≤ 1 ∧ n 1 ≠ 0 then 1 else 0) + (if lo ≤ 2 ∧ n 2 ≠ 0 then 1 else 0) + (if lo ≤ 3 ∧ n 3 ≠ 0 then 1 else 0)
/-- the reader waits for a number, the pens lo .. 3 being read -/
def z_nmb (n : Int → Int) (lo : Int) (F r : Int → Int) : Prop := F 4 = 0 ∧ F 6 = 1 ∧ F 7 = z_ctn n lo ∧ ∀ q, 0 ≤ q → q < 12 → r q = if lo ≤ q ∧ q ≤ 3 then n q else 0
/-- the reader stands behind the item of the least of the pens lo .. 3 -/
def z_it (n : Int → Int) (lo : Int) (F r : Int → Int) : Prop := ∃ l, lo ≤ l ∧ l ≤ 3 ∧ (∀ q, lo ≤ q → q < l → n q = 0) ∧ F 5 = l ∧ F 6 = n l ∧ F 7 = z_ctn n (l + 1) ∧ (∀ q, 0 ≤ q → q < 12 → r q = if l + 1 ≤ q ∧ q ≤ 3 then n q else 0) ∧ ((F 4 = 1 ∧ l = 1 ∧ n l = 1) ∨ (F 4 = 2 ∧ n l = 1) ∨ (F 4 = 4 ∧ 2 ≤ n l ∧ n l ≤ 9))
theorem z_ctn_it {n : Int → Int} {lo l : Int} (h0 : 0 ≤ lo) (h1 : lo ≤ l) (h2 : l ≤ 3) (hn : n l ≠ 0) (hz : ∀ q, lo ≤ q → q < l → n q = 0) : z_ctn n lo = z_ctn n (l + 1) + 1 := by
  have z0 := hz 0
  have z1 := hz 1
  have z2 := hz 2
  unfold z_ctn
  rcases (show l = 0 ∨ l = 1 ∨ l = 2 ∨ l = 3 by omega) with rfl | rfl | rfl | rfl <;> (repeat' split) <;> omega
theorem z_endF_7 (F : Int → Int) : z_endF F 7 = F 7 + 1 := z_uf_self _ _ _
theorem z_endF_6 (F : Int → Int) : z_endF F 6 = 1 := (z_uf_ne _ _ (by decide)).trans (z_uf_self _ _ _)
theorem z_it_comma {n F r : Int → Int} {lo : Int} (h1 : 1 ≤ lo) (h : z_it n lo F r) : z_kB F r 44 ∧ z_nmb n lo (z_kfF F 44) (z_kfR F r 44) := by
  obtain ⟨l, a, b, hz, e5, e6, e7, hr, h4⟩ := h
  have hne : n l ≠ 0 := by omega
  have hc := z_ctn_it (by omega) a b hne hz
  have c7 : F 7 < 3 := by
    rw [e7]
    unfold z_ctn
    rcases (show l = 1 ∨ l = 2 ∨ l = 3 by omega) with rfl | rfl | rfl <;> (repeat' split) <;> omega
  have r1 : l = 1 → r 1 = 0 := fun q => by rw [hr 1 (by decide) (by decide), if_neg (by omega)]
  have hB : z_kB F r 44 := by
    rcases h4 with ⟨f4, hl, hn⟩ | ⟨f4, hn⟩ | ⟨f4, hn⟩
    · exact Or.inr (Or.inl ⟨f4, Or.inr ⟨by decide, by decide, r1 hl, Or.inr ⟨rfl, c7⟩⟩⟩)
    · exact Or.inr (Or.inr (Or.inl ⟨f4, Or.inr ⟨rfl, c7⟩⟩))
    · exact Or.inr (Or.inr (Or.inr (Or.inr ⟨f4, rfl, c7⟩)))
  have eF : z_kfF F 44 = z_uf (z_endF F) 4 0 := by
    unfold z_kfF z_aoF z_scF
    rcases h4 with ⟨f4, -⟩ | ⟨f4, -⟩ | ⟨f4, -⟩ <;> rw [f4] <;> rfl
  have eR : z_kfR F r 44 = z_endW F r := by
    unfold z_kfR z_aoR z_scR
    rcases h4 with ⟨f4, -⟩ | ⟨f4, -⟩ | ⟨f4, -⟩ <;> rw [f4] <;> rfl
  refine ⟨hB, ?_⟩
  rw [eF, eR]
  refine ⟨z_uf_self _ _ _, (z_uf_ne _ _ (by decide)).trans (z_endF_6 F), (z_uf_ne _ _ (by decide)).trans ((z_endF_7 F).trans (by rw [e7, hc])), fun q q0 q1 => ?_⟩
  unfold z_endW z_uf
  rw [e5, e6]
  by_cases c : q = l
  · subst c
    rw [if_pos rfl, if_pos (by omega)]
  · rw [if_neg c, hr q q0 q1]
    by_cases c2 : l + 1 ≤ q ∧ q ≤ 3
    · rw [if_pos c2, if_pos (by omega)]
    · rw [if_neg c2]
      by_cases c3 : lo ≤ q ∧ q ≤ 3
      · rw [if_pos c3, hz q c3.1 (by omega)]
      · rw [if_neg c3]
theorem z_nm_digit {n F r : Int → Int} {lo p : Int} (hp : p = lo - 1) (p0 : 0 ≤ p) (p3 : p ≤ 3) (h : z_nmb n lo F r) : z_kB F r (48 + p) ∧ z_kfR F r (48 + p) = r ∧ z_kfF F (48 + p) 5 = p ∧ z_kfF F (48 + p) 6 = 1 ∧ z_kfF F (48 + p) 7 = z_ctn n lo ∧ z_kfF F (48 + p) 4 = (if p = 1 then 1 else 2) := by
  obtain ⟨f4, f6, f7, hr⟩ := h
  have rp : r p = 0 := by rw [hr p p0 (by omega), if_neg (by omega)]
  have r10 : r 10 = 0 := by rw [hr 10 (by decide) (by decide), if_neg (by omega)]
  have eF : z_kfF F (48 + p) = z_dgF F (48 + p) := by unfold z_kfF; rw [if_pos f4]
  have eR : z_kfR F r (48 + p) = r := by unfold z_kfR; rw [if_pos f4]
  have hB : z_kB F r (48 + p) := by
    refine Or.inl ⟨f4, ?_⟩
    by_cases c : p = 1
    · exact Or.inl ⟨by omega, fun q => q.2.1 r10⟩
    · refine Or.inr ⟨by omega, by omega, by omega, ?_⟩
      rw [show 48 + p - 48 = p by omega]; exact rp
  rw [eF]
  refine ⟨hB, eR, ?_⟩
  unfold z_dgF
  by_cases c : p = 1
  · subst c
    rw [if_pos (by decide), if_pos rfl]
    exact ⟨rfl, f6, f7, rfl⟩
  · rw [if_neg (by omega), if_neg c, show 48 + p - 48 = p by omega]
    exact ⟨rfl, f6, f7, rfl⟩
theorem z_nm_1 {n F r : Int → Int} {lo p : Int} (hp : p = lo - 1) (p0 : 0 ≤ p) (p3 : p ≤ 3) (hn : n p = 1) (h : z_nmb n lo F r) : z_kB F r (48 + p) ∧ z_it n p (z_kfF F (48 + p)) (z_kfR F r (48 + p)) := by
  obtain ⟨hB, eR, g5, g6, g7, g4⟩ := z_nm_digit hp p0 p3 h
  refine ⟨hB, p, Int.le_refl _, p3, fun q a b => by omega, g5, by rw [g6, hn], by rw [g7, show p + 1 = lo by omega], ?_, ?_⟩
  · rw [eR, show p + 1 = lo by omega]; exact h.2.2.2
  · by_cases c : p = 1
    · rw [if_pos c] at g4
      exact Or.inl ⟨g4, c, hn⟩
    · rw [if_neg c] at g4
      exact Or.inr (Or.inl ⟨g4, hn⟩)
theorem z_nm_s {n F r : Int → Int} {lo p : Int} (hp : p = lo - 1) (p0 : 0 ≤ p) (p3 : p ≤ 3) (h2 : 2 ≤ n p) (h9 : n p ≤ 9) (h : z_nmb n lo F r) : ∃ F1 r1 F2 r2 F3 r3 : Int → Int, (z_kB F r (48 + p) ∧ z_kfF F (48 + p) = F1 ∧ z_kfR F r (48 + p) = r1) ∧ (z_kB F1 r1 42 ∧ z_kfF F1 42 = F2 ∧ z_kfR F1 r1 42 = r2) ∧ (z_kB F2 r2 (48 + n p) ∧ z_kfF F2 (48 + n p) = F3 ∧ z_kfR F2 r2 (48 + n p) = r3) ∧ z_it n p F3 r3 := by
  obtain ⟨hB, eR, g5, g6, g7, g4⟩ := z_nm_digit hp p0 p3 h
  have hr := h.2.2.2
  rw [eR]
  generalize hF1 : z_kfF F (48 + p) = F1 at *
  have r1 : p = 1 → r 1 = 0 := fun q => by rw [hr 1 (by decide) (by decide), if_neg (by omega)]
  have hB2 : z_kB F1 r 42 := by
    by_cases c : p = 1
    · rw [if_pos c] at g4
      exact Or.inr (Or.inl ⟨g4, Or.inr ⟨by decide, by decide, r1 c, Or.inl rfl⟩⟩)
    · rw [if_neg c] at g4
      exact Or.inr (Or.inr (Or.inl ⟨g4, Or.inl rfl⟩))
  have eF2 : z_kfF F1 42 = z_uf F1 4 3 := by
    unfold z_kfF z_aoF z_scF
    by_cases c : p = 1
    · rw [if_pos c] at g4; rw [g4]; rfl
    · rw [if_neg c] at g4; rw [g4]; rfl
  have eR2 : z_kfR F1 r 42 = r := by
    unfold z_kfR z_aoR z_scR
    by_cases c : p = 1
    · rw [if_pos c] at g4; rw [g4]; rfl
    · rw [if_neg c] at g4; rw [g4]; rfl
  have f24 : z_uf F1 4 3 4 = 3 := z_uf_self _ _ _
  have hB3 : z_kB (z_uf F1 4 3) r (48 + n p) := Or.inr (Or.inr (Or.inr (Or.inl ⟨f24, by omega, by omega⟩)))
  have eF3 : z_kfF (z_uf F1 4 3) (48 + n p) = z_uf (z_uf (z_uf F1 4 3) 6 (n p)) 4 4 := by
    unfold z_kfF
    rw [f24, show 48 + n p - 48 = n p by omega]
    rfl
  have eR3 : z_kfR (z_uf F1 4 3) r (48 + n p) = r := by
    unfold z_kfR
    rw [f24]
    rfl
  refine ⟨F1, r, z_uf F1 4 3, r, _, r, ⟨hB, rfl, rfl⟩, ⟨hB2, eF2, eR2⟩, ⟨hB3, eF3, eR3⟩, p, Int.le_refl _, p3, fun q a b => by omega, ?_, ?_, ?_, ?_, Or.inr (Or.inr ⟨z_uf_self _ _ _, h2, h9⟩)⟩
  · rw [z_uf_ne _ _ (by decide), z_uf_ne _ _ (by decide), z_uf_ne _ _ (by decide)]; exact g5
  · rw [z_uf_ne _ _ (by decide), z_uf_self]
  · rw [z_uf_ne _ _ (by decide), z_uf_ne _ _ (by decide), z_uf_ne _ _ (by decide), g7, show p + 1 = lo by omega]
  · rw [show p + 1 = lo by omega]; exact hr
def z_cok (t : Int → Int) (l : Int) : Prop := ∀ j, 0 ≤ j → j < l → 33 ≤ t j ∧ t j ≤ 126
theorem z_cok_s {t : Int → Int} {l c : Int} (h : z_cok t l) (c0 : 33 ≤ c) (c1 : c ≤ 126) : z_cok (z_uf t l c) (l + 1) := fun j j0 j1 => by
  unfold z_uf
  split
  · exact ⟨c0, c1⟩
  · exact h j j0 (by omega)
/-- the text of the first i of the pens 3, 2, 1, 0 stands; c: an item is in it -/
def z_TI (n : Int → Int) (i : Nat) (t : Int → Int) (l c : Int) : Prop :=
  (c = 0 ∧ l = 0 ∧ ∀ q, 4 - (i : Int) ≤ q → q ≤ 3 → n q = 0) ∨ (c = 1 ∧ 1 ≤ l ∧ l ≤ 4 * i ∧ z_cok t l ∧ ∀ F r, ∃ F' r', z_krd t l.toNat 0 (z_kF0 F) (z_kr0 r) = (l, F', r') ∧ z_it n (4 - i) F' r')
def z_TN (n : Int → Int) (i : Nat) (t : Int → Int) (l : Int) : Prop := 0 ≤ l ∧ l ≤ 4 * i + 1 ∧ z_cok t l ∧ ∀ F r, ∃ F' r', z_krd t l.toNat 0 (z_kF0 F) (z_kr0 r) = (l, F', r') ∧ z_nmb n (4 - i) F' r'
theorem z_TN_0 {n t : Int → Int} {i : Nat} {l : Int} (hi : i ≤ 4) (h : z_TI n i t l 0) : z_TN n i t l := by
  rcases h with ⟨-, rfl, hz⟩ | ⟨h, -⟩
  · refine ⟨Int.le_refl 0, by omega, fun j j0 j1 => by omega, fun F r => ⟨z_kF0 F, z_kr0 r, rfl, rfl, rfl, ?_, fun q q0 q1 => ?_⟩⟩
    · show (0 : Int) = _
      have z0 := hz 0
      have z1 := hz 1
      have z2 := hz 2
      have z3 := hz 3
      unfold z_ctn
      (repeat' split) <;> omega
    · unfold z_kr0 z_cp
      rw [if_pos (by omega)]
      by_cases c : 4 - (i : Int) ≤ q ∧ q ≤ 3
      · rw [if_pos c, hz q c.1 c.2]
      · rw [if_neg c]
  · cases h
theorem z_TN_c {n t : Int → Int} {i : Nat} {l : Int} (hi : i < 4) (h : z_TI n i t l 1) : z_TN n i (z_uf t l 44) (l + 1) := by
  rcases h with ⟨h, -⟩ | ⟨-, l1, l2, hc, hF⟩
  · cases h
  · refine ⟨by omega, by omega, z_cok_s hc (by decide) (by decide), fun F r => ?_⟩
    obtain ⟨F', r', e, ht⟩ := hF F r
    obtain ⟨hB, hm⟩ := z_it_comma (by omega) ht
    exact ⟨_, _, z_kr_snoc (by omega) e hB, hm⟩
theorem z_TI_n {n t : Int → Int} {i : Nat} {l c : Int} (hi : i < 4) (hn : n (3 - (i : Int)) = 0) (h : z_TI n i t l c) : z_TI n (i + 1) t l c := by
  rcases h with ⟨h1, h2, hz⟩ | ⟨h1, l1, l2, hc, hF⟩
  · refine Or.inl ⟨h1, h2, fun q a b => ?_⟩
    by_cases e : q = 3 - (i : Int)
    · rw [e]; exact hn
    · exact hz q (by omega) b
  · refine Or.inr ⟨h1, l1, by omega, hc, fun F r => ?_⟩
    obtain ⟨F', r', e, l, a, b, hz, hh⟩ := hF F r
    refine ⟨F', r', e, l, by omega, b, fun q q0 q1 => ?_, hh⟩
    by_cases e2 : q = 3 - (i : Int)
    · rw [e2]; exact hn
    · exact hz q (by omega) q1
theorem z_TI_1 {n t : Int → Int} {i : Nat} {l p : Int} (hi : i < 4) (hp : p = 3 - (i : Int)) (hn : n p = 1) (h : z_TN n i t l) : z_TI n (i + 1) (z_uf t l (48 + p)) (l + 1) 1 := by
  obtain ⟨l0, l1, hc, hF⟩ := h
  refine Or.inr ⟨rfl, by omega, by omega, z_cok_s hc (by omega) (by omega), fun F r => ?_⟩
  obtain ⟨F', r', e, hm⟩ := hF F r
  obtain ⟨hB, ht⟩ := z_nm_1 (p := p) (by omega) (by omega) (by omega) hn hm
  refine ⟨_, _, z_kr_snoc l0 e hB, ?_⟩
  rw [show 4 - ((i + 1 : Nat) : Int) = p by omega]
  exact ht
theorem z_TI_s {n t : Int → Int} {i : Nat} {l p : Int} (hi : i < 4) (hp : p = 3 - (i : Int)) (h2 : 2 ≤ n p) (h9 : n p ≤ 9) (h : z_TN n i t l) : z_TI n (i + 1) (z_uf (z_uf (z_uf t l (48 + p)) (l + 1) 42) (l + 1 + 1) (48 + n p)) (l + 1 + 1 + 1) 1 := by
  obtain ⟨l0, l1, hc, hF⟩ := h
  refine Or.inr ⟨rfl, by omega, by omega, z_cok_s (z_cok_s (z_cok_s hc (by omega) (by omega)) (by decide) (by decide)) (by omega) (by omega), fun F r => ?_⟩
  obtain ⟨F', r', e, hm⟩ := hF F r
  obtain ⟨F1, r1, F2, r2, F3, r3, ⟨b1, f1, g1⟩, ⟨b2, f2, g2⟩, ⟨b3, f3, g3⟩, ht⟩ := z_nm_s (p := p) (by omega) (by omega) (by omega) h2 h9 hm
  have e1 := z_kr_snoc l0 e b1
  rw [f1, g1] at e1
  have e2 := z_kr_snoc (show 0 ≤ l + 1 by omega) e1 b2
  rw [f2, g2] at e2
  have e3 := z_kr_snoc (show 0 ≤ l + 1 + 1 by omega) e2 b3
  rw [f3, g3] at e3
  refine ⟨_, _, e3, ?_⟩
  rw [show 4 - ((i + 1 : Nat) : Int) = p by omega]
  exact ht
/-- the memory while the text is written: text, its length, the law's row -/
def z_mt (M : z_M) (t : Int → Int) (l : Int) (R : Int → Int) : z_M := z_sR (z_sM (z_sR M 8 t) 7 3 l) 40 R
theorem z_mt_73 (M : z_M) (t : Int → Int) (l : Int) (R : Int → Int) : z_mt M t l R 7 3 = l := (congrFun (z_sR_ne _ _ (by decide)) _).trans (z_sM_self _ _ _ _)
theorem z_mt_7 (M : z_M) (t : Int → Int) (l : Int) (R : Int → Int) {i : Int} (h : i ≠ 3) : z_mt M t l R 7 i = M 7 i := (congrFun (z_sR_ne _ _ (by decide)) _).trans ((z_sM_ne _ _ _ h).trans (congrFun (z_sR_ne _ _ (by decide)) _))
theorem z_mt_8 (M : z_M) (t : Int → Int) (l : Int) (R : Int → Int) : z_mt M t l R 8 = t := (z_sR_ne _ _ (by decide)).trans ((z_sM_row _ _ _ (by decide)).trans (z_sR_self _ _ _))
theorem z_mt_40 (M : z_M) (t : Int → Int) (l : Int) (R : Int → Int) : z_mt M t l R 40 = R := z_sR_self _ _ _
theorem z_mt_r (M : z_M) (t : Int → Int) (l : Int) (R : Int → Int) {r : Nat} (h : r ≠ 7 ∧ r ≠ 8 ∧ r ≠ 40) : z_mt M t l R r = M r := (z_sR_ne _ _ h.2.2).trans ((z_sM_row _ _ _ h.1).trans (z_sR_ne _ _ h.2.1))
theorem z_mt_app (M : z_M) (t : Int → Int) (l c : Int) (R : Int → Int) : z_sM (z_sM (z_mt M t l R) 8 l c) 7 3 (l + 1) = z_mt M (z_uf t l c) (l + 1) R := by
  funext a i
  unfold z_mt z_sM z_sR z_uf
  by_cases h40 : a = 40
  · subst h40; simp
  · by_cases h7 : a = 7
    · subst h7
      by_cases h3 : i = 3
      · simp [h3]
      · simp [h3]
    · by_cases h8 : a = 8
      · subst h8; simp
      · simp [h40, h7, h8]
theorem z_mt_0 (M : z_M) (R : Int → Int) (hE : M 40 = R) : z_sM M 7 3 0 = z_mt M (M 8) 0 R := by
  subst hE
  funext a i
  unfold z_mt z_sM z_sR
  by_cases h40 : a = 40
  · subst h40; simp
  · by_cases h7 : a = 7
    · subst h7
      by_cases h3 : i = 3
      · simp [h3]
      · simp [h3]
    · by_cases h8 : a = 8
      · subst h8; simp
      · simp [h40, h7, h8]
theorem z_mt_st (M : z_M) (t : Int → Int) (l : Int) (R : Int → Int) (j v : Int) : z_sM (z_mt M t l R) 40 j v = z_mt M t l (z_uf R j v) := z_sM_sR _ _ _ _ _
theorem z_mt_LC {M : z_M} {t R : Int → Int} {l : Int} {g : Nat} {N : Int} (h : z_LC M g N) : z_LC (z_mt M t l R) g N :=
  z_LC_row h (fun r hr => z_mt_r _ _ _ _ (by omega)) (fun i i0 i1 => z_mt_7 _ _ _ _ (by omega))
/-- the row with the parts of the first i of the pens 3, 2, 1, 0 -/
def z_pai (b n : Int → Int) (k : Int) (i : Int) : Int → Int := fun j => if 430 + 12 * k - i ≤ j ∧ j < 430 + 12 * k then n (j - 426 - 12 * k) else b j
theorem z_pai_0 (b n : Int → Int) (k : Int) : z_pai b n k 0 = b := by
  funext j; unfold z_pai; rw [if_neg (by omega)]
theorem z_pai_s (b n : Int → Int) (k : Int) {i p : Int} (hp : p = 3 - i) (hi : 0 ≤ i) : z_uf (z_pai b n k i) (426 + 12 * k + p) (n p) = z_pai b n k (i + 1) := by
  funext j
  unfold z_uf z_pai
  by_cases c : j = 426 + 12 * k + p
  · rw [if_pos c, if_pos (by omega)]
    congr 1; omega
  · rw [if_neg c]
    by_cases c2 : 430 + 12 * k - i ≤ j ∧ j < 430 + 12 * k
    · rw [if_pos c2, if_pos (by omega)]
    · rw [if_neg c2, if_neg (by omega)]
def z_n4 (n : Int → Int) : Int → Int := fun q => if 0 ≤ q ∧ q ≤ 3 then n q else 0
theorem z_pai_4 {b n : Int → Int} {k : Int} (k0 : 0 ≤ k) (hz : ∀ p, 4 ≤ p → p < 12 → b (426 + 12 * k + p) = 0) : z_uf (z_pai b n k 4) (86 + 5 * k + 3) (b (86 + 5 * k + 3) + 1) = z_o_share b k (z_n4 n) := by
  funext j
  unfold z_o_share z_uf z_cp z_pai z_n4
  by_cases c : j = 86 + 5 * k + 3
  · rw [if_pos c, if_pos c]
  · rw [if_neg c, if_neg c]
    by_cases c2 : 426 + 12 * k ≤ j ∧ j < 426 + 12 * k + 12
    · rw [if_pos c2]
      by_cases c3 : 430 + 12 * k - 4 ≤ j ∧ j < 430 + 12 * k
      · rw [if_pos c3, if_pos (by omega)]
        congr 1; omega
      · rw [if_neg c3, if_neg (by omega)]
        have h := hz (j - 426 - 12 * k) (by omega) (by omega)
        rw [show 426 + 12 * k + (j - 426 - 12 * k) = j by omega] at h
        exact h
    · rw [if_neg c2, if_neg (by omega)]
/-- what the reader says of the whole text -/
theorem z_TI_read {M : z_M} {n : Int → Int} {l c : Int} (hl : M 7 3 = l) (hn : ∃ q, 0 ≤ q ∧ q ≤ 3 ∧ n q ≠ 0) (h : z_TI n 4 (M 8) l c) : z_kLB M ∧ (∀ q, 0 ≤ q → q < 12 → z_kLR M q = z_n4 n q) ∧ z_cok (M 8) l ∧ 0 ≤ l ∧ l ≤ 16 := by
  subst hl
  rcases h with ⟨-, -, hz⟩ | ⟨-, l1, l2, hc, hF⟩
  · obtain ⟨q, q0, q1, hq⟩ := hn
    exact absurd (hz q (by omega) q1) hq
  · obtain ⟨F, r, e, l, a, b, hz, e5, e6, e7, hr, h4⟩ := hF (M 7) (M 9)
    have hk : z_KR M = (M 7 3, F, r) := e
    have hL : z_kLB M := by
      unfold z_kLB
      rw [hk]
      refine ⟨rfl, by show F 4 ≠ 0; omega, by show F 4 ≠ 3; omega, ?_⟩
      show r (F 5) = 0
      rw [e5, hr l (by omega) (by omega), if_neg (by omega)]
    refine ⟨hL, fun q q0 q1 => ?_, hc, by omega, by omega⟩
    unfold z_kLR
    rw [if_pos hL, hk]
    show z_uf r (F 5) (F 6) q = _
    unfold z_uf z_n4
    rw [e5, e6]
    by_cases c : q = l
    · subst c
      rw [if_pos rfl, if_pos (by omega)]
    · rw [if_neg c, hr q q0 q1]
      by_cases c2 : l + 1 ≤ q ∧ q ≤ 3
      · rw [if_pos c2, if_pos (by omega)]
      · rw [if_neg c2]
        by_cases c3 : 0 ≤ q ∧ q ≤ 3
        · rw [if_pos c3, hz q (by omega) (by omega)]
        · rw [if_neg c3]
theorem z_o_share_eq {b r r' : Int → Int} {k : Int} (h : ∀ q, 0 ≤ q → q < 12 → r q = r' q) : z_o_share b k r = z_o_share b k r' := by
  unfold z_o_share
  have e : z_cp b r (426 + 12 * k) 0 12 = z_cp b r' (426 + 12 * k) 0 12 := by
    funext j
    unfold z_cp
    split
    · exact h _ (by omega) (by omega)
    · rfl
  rw [e]
theorem z_k_share {b n : Int → Int} {N k : Int} (h : z_BI b N) (hN : N + 1 ≤ 600) (k0 : 0 ≤ k) (k1 : k < b 1) (hr : ∀ q, 0 ≤ q → q ≤ 3 → 0 ≤ n q ∧ n q ≤ 9) (hz : ∀ q, b 0 ≤ q → q ≤ 3 → n q = 0) (hn : ∃ q, 0 ≤ q ∧ q ≤ 3 ∧ n q ≠ 0) : z_BI (z_o_share b k (z_n4 n)) (N + 1) ∧ z_aP (z_o_share b k (z_n4 n)) k = n 3 + n 2 + n 1 + n 0 := by
  have hh := z_BI_h h
  have e4 : ∀ f : Int → Int, (∀ p, 4 ≤ p → p < 12 → f p = 0) → z_sm 12 f = f 0 + f 1 + f 2 + f 3 := fun f hf => z_sm4 hf
  have cp : ∀ p, 0 ≤ p → p < 12 → z_o_share b k (z_n4 n) (426 + 12 * k + p) = z_n4 n p := fun p p0 p1 => by
    unfold z_o_share z_uf z_cp
    rw [if_neg (by omega), if_pos (by omega)]
    congr 1; omega
  have hs : z_sm 12 (z_n4 n) = n 0 + n 1 + n 2 + n 3 := by
    rw [e4 _ (fun p p0 p1 => by unfold z_n4; rw [if_neg (by omega)])]
    rfl
  have a0 := hr 0 (by decide) (by decide)
  have a1 := hr 1 (by decide) (by decide)
  have a2 := hr 2 (by decide) (by decide)
  have a3 := hr 3 (by decide) (by decide)
  refine ⟨z_k_parts (r := z_n4 n) h hN k0 k1 (fun p p0 p1 => ?_) (fun p p0 p1 => ?_) ?_ ?_ (Or.inl ?_) cp (z_uf_self _ _ _) (fun j j6 j3 jn => ?_), ?_⟩
  · unfold z_n4
    split
    · exact hr p (by omega) (by omega)
    · omega
  · unfold z_n4
    split
    · exact hz p p0 (by omega)
    · rfl
  · have e := e4 (fun p => if 0 < z_n4 n p then 1 else 0) (fun p p0 p1 => by show (if 0 < z_n4 n p then (1 : Int) else 0) = 0; unfold z_n4; rw [if_neg (by omega)])
    rw [e]
    (repeat' split) <;> omega
  · rw [hs]
    obtain ⟨q, q0, q1, hq⟩ := hn
    rcases (show q = 0 ∨ q = 1 ∨ q = 2 ∨ q = 3 by omega) with rfl | rfl | rfl | rfl <;> omega
  · unfold z_o_share z_uf z_cp
    rw [if_neg (by omega), if_neg (by omega)]
  · unfold z_o_share z_uf z_cp
    rw [if_neg j3, if_neg (by omega)]
  · have e : z_aP (z_o_share b k (z_n4 n)) k = z_sm 12 (z_n4 n) := z_sm_eq fun i hi => cp i (by omega) (by omega)
    rw [e, hs]
    omega
theorem z_PS_share {M0 M : z_M} {g : Nat} {N : Int} {o : Int → Int} (h : z_LC M g N) (e40 : M 40 = o) (hb : z_BI o (N + 1)) (o0 : o 0 ≤ 4) (o1 : o 1 ≤ 4) : z_PS M0 N (z_sM (z_sR (z_SC (z_shZ M) g) (z_sg g) o) 7 3 0) := by
  have hq := z_sg_lt g
  have k : ∀ i, i ≠ 3 → z_sM (z_sR (z_SC (z_shZ M) g) (z_sg g) o) 7 3 0 7 i = z_SC (z_shZ M) g 7 i := fun i hi => (z_sM_ne _ _ _ hi).trans (congrFun (z_sR_ne _ _ (by omega)) i)
  have zr : ∀ r, r ≠ 7 → r ≠ 9 → z_shZ M r = M r := fun r h7 h9 => (z_sR_ne _ _ h9).trans (z_sR_ne _ _ h7)
  have z1 : z_shZ M 7 1 = M 7 1 := (congrFun ((z_sR_ne _ _ (by decide)).trans (z_sR_self _ _ _)) 1).trans (z_kLF_o (Or.inl (by decide)))
  have h2 := z_LR_sv (M1 := z_sM (z_sR (z_SC (z_shZ M) g) (z_sg g) o) 7 3 0) (o := o) h (fun r hr hne => by rw [z_sM_row _ _ _ (by omega), z_sR_ne _ _ hne, z_SC_row (by omega) hne, zr r (by omega) (by omega)]) ((z_sM_row _ _ _ (by omega)).trans (z_sR_self _ _ _))
    (by rw [z_sM_row _ _ _ (by decide), z_sR_ne _ _ (by omega), z_SC_row (by omega) (by omega), zr _ (by decide) (by decide)]; exact e40)
    (by rw [k 2 (by decide)]; exact z_SC_72 _ _) (by rw [k 0 (by decide)]; unfold z_SC; rw [z_sM_ne _ _ _ (by decide), z_sM_self]) (by rw [k 1 (by decide)]; unfold z_SC; rw [z_sM_self, z1]) hb o0 o1
  exact ⟨h2.1, Or.inr h2.2⟩
