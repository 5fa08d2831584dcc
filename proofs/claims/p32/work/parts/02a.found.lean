/-! ===== the layer: memories of whole numbers, cells, worlds ===== -/
abbrev z_M : Type := Nat → Int → Int
def z_I (n : Int) : Value := .int (Int32.ofInt n)
def z_L (n : Int) : Value := .long (Int64.ofInt n)
abbrev z_rg (n : Int) : Prop := -2147483648 ≤ n ∧ n ≤ 2147483647
def z_sM (M : z_M) (a : Nat) (i v : Int) : z_M := fun a' i' => if a' = a ∧ i' = i then v else M a' i'
/-- launch, base address, class numbers and slots, classes of int, long and State arrays, the two static rows -/
abbrev z_G : Type := Launch × Nat × va_G × ClassId × ClassId × ClassId × Nat × Nat × Nat × Nat × Nat × (Nat → Int32)
abbrev z_l (G : z_G) : Launch := G.1
abbrev z_b (G : z_G) : Nat := G.2.1
abbrev z_D (G : z_G) : va_G := G.2.2.1
abbrev z_cI (G : z_G) : ClassId := G.2.2.2.1
abbrev z_cL (G : z_G) : ClassId := G.2.2.2.2.1
abbrev z_cR (G : z_G) : ClassId := G.2.2.2.2.2.1
abbrev z_fs (G : z_G) : Nat := G.2.2.2.2.2.2.1
abbrev z_gs (G : z_G) : Nat := G.2.2.2.2.2.2.2.1
/-- where the law's copies begin; none are there while this is 0 -/
abbrev z_x (G : z_G) : Nat := G.2.2.2.2.2.2.2.2.1
/-- the script: its cell, its length, its numbers -/
abbrev z_scp (G : z_G) : Nat × Nat × (Nat → Int32) := G.2.2.2.2.2.2.2.2.2
def z_A (G : z_G) : Nat → Prop := fun q => z_b G ≤ q
/-- the place of a cell: kinds 0..17 are a state's (g: its number), 20..34 the class's own, 40..46 the law's rows (g = 1: its copies) -/
def z_of (g k : Nat) : Nat := if k < 18 then 15 + 18 * g + k else if k < 40 then k - 20 else 101 + k
def z_xo (k : Nat) : Nat := if k = 46 then 3 else if k = 44 then 2 else k - 40
def z_ad (G : z_G) (g k : Nat) : Nat := if 40 ≤ k ∧ g = 1 then z_x G + z_xo k else z_b G + z_of g k
abbrev z_dmb (g k : Nat) : Prop := (k < 18 ∧ g < 7) ∨ (g = 0 ∧ ((20 ≤ k ∧ k < 35) ∨ (40 ≤ k ∧ k < 47)))
/-- the law's copies are there -/
def z_on (G : z_G) : Prop := z_b G + 148 ≤ z_x G
abbrev z_dm (G : z_G) (g k : Nat) : Prop := z_dmb g k ∨ (z_on G ∧ g = 1 ∧ (k = 40 ∨ k = 41 ∨ k = 44 ∨ k = 46))
theorem z_ad_inj {G : z_G} {g k g' k' : Nat} (h : z_dm G g k) (h' : z_dm G g' k') (e : z_ad G g k = z_ad G g' k') : g = g' ∧ k = k' := by
  unfold z_ad z_of z_xo at e
  unfold z_dm z_dmb z_on at h h'
  (repeat' split at e) <;> omega
theorem z_ad_b {G : z_G} {g k : Nat} (h : z_dmb g k) : z_ad G g k = z_b G + z_of g k := if_neg (by unfold z_dmb at h; omega)
theorem z_of_lt {g k : Nat} (h : z_dmb g k) : z_of g k < 148 := by
  unfold z_dmb at h
  unfold z_of
  (repeat' split) <;> omega
/-- a slot: 0, an int at a place of the memory; 1, a reference to a cell; 2, a reference to the state whose number stands at a place; 3, a long at a place -/
abbrev z_F : Type := Nat × Nat × Int
def z_fv (G : z_G) (M : z_M) (f : z_F) : Value := match f with
  | (0, a, i) => z_I (M a i)
  | (1, g, k) => .ref (z_ad G g k.toNat)
  | (2, a, i) => .ref (z_ad G (M a i).toNat 0)
  | (_, a, i) => z_L (M a i)
/-- objects: number of the class, slots -/
def z_ob (g k : Nat) : Option (Nat × List z_F) := match k with
  | 0 => some (5, [(1, g, 1), (1, g, 8), (1, g, 17), (0, g, 2), (0, g, 3), (0, g, 4), (0, g, 7), (0, g, 6)])
  | 1 => some (3, [(0, g, 0), (1, g, 2), (1, g, 3), (1, g, 4), (1, g, 5), (1, g, 6), (1, g, 7)])
  | 8 => some (4, [(0, g, 1), (1, g, 9), (1, g, 10), (1, g, 11), (1, g, 12), (1, g, 13), (1, g, 14), (1, g, 15), (1, g, 16)])
  | 20 => some (6, [(1, 0, 21), (0, 7, 0), (0, 7, 1), (2, 7, 2), (1, 0, 22), (1, 0, 25), (1, 0, 28), (1, 0, 33), (1, 0, 34)])
  | 22 => some (2, [(1, 0, 23), (0, 7, 3), (1, 0, 24), (0, 7, 4), (0, 7, 5), (0, 7, 6), (0, 7, 7)])
  | 25 => some (0, [(0, 7, 8), (0, 7, 9), (0, 7, 10), (0, 7, 11), (1, 0, 26), (1, 0, 27)])
  | 28 => some (1, [(1, 0, 29), (1, 0, 30), (1, 0, 31), (1, 0, 32), (0, 7, 12), (0, 7, 13)])
  | _ => none
/-- arrays: 0 of ints, 3 of longs, 4 the row of states; memory row, length, where element j stands -/
def z_al (g k : Nat) : Option (Nat × Nat × Nat × (Int → Int)) := match k with
  | 2 => some (0, g, 12, fun p => 14 + 6 * p)
  | 3 => some (0, g, 12, fun p => 14 + 6 * p + 1)
  | 4 => some (0, g, 12, fun p => 14 + 6 * p + 2)
  | 5 => some (0, g, 12, fun p => 14 + 6 * p + 3)
  | 6 => some (0, g, 12, fun p => 14 + 6 * p + 4)
  | 7 => some (0, g, 12, fun p => 14 + 6 * p + 5)
  | 9 => some (0, g, 20, fun p => 86 + 5 * p)
  | 10 => some (0, g, 20, fun p => 86 + 5 * p + 1)
  | 11 => some (0, g, 20, fun p => 86 + 5 * p + 2)
  | 12 => some (0, g, 20, fun p => 86 + 5 * p + 3)
  | 13 => some (0, g, 20, fun p => 86 + 5 * p + 4)
  | 14 => some (0, g, 240, fun p => 426 + p)
  | 15 => some (0, g, 240, fun p => 186 + p)
  | 16 => some (0, g, 240, fun p => 666 + p)
  | 17 => some (0, g, 6, fun p => 8 + p)
  | 21 => some (4, 99, 7, fun p => p)
  | 23 => some (0, 8, 60, fun p => p)
  | 24 => some (0, 9, 12, fun p => p)
  | 26 => some (0, 10, 12, fun p => p)
  | 27 => some (0, 11, 12, fun p => p)
  | 29 => some (0, 12, 12, fun p => p)
  | 30 => some (0, 13, 4, fun p => p)
  | 31 => some (0, 14, 4, fun p => p)
  | 32 => some (0, 15, 4, fun p => p)
  | 33 => some (0, 16, 12, fun p => p)
  | 34 => some (0, 17, 12, fun p => p)
  | 40 => some (0, 40 + g, 24, fun p => 14 + p)
  | 41 => some (0, 40 + g, 20, fun p => 86 + p)
  | 42 => some (0, 40 + g, 16, fun p => 186 + 12 * (p / 4) + p % 4)
  | 43 => some (0, 40 + g, 16, fun p => 426 + 12 * (p / 4) + p % 4)
  | 44 => some (0, 40 + g, 16, fun p => 666 + 12 * (p / 4) + p % 4)
  | 45 => some (0, 40 + g, 6, fun p => 8 + p)
  | 46 => some (0, 40 + g, 8, fun p => p)
  | _ => none
def z_ac (G : z_G) (t : Nat) : ClassId := if t = 0 then z_cI G else if t = 3 then z_cL G else z_cR G
def z_ev (G : z_G) (M : z_M) (t a : Nat) (ix : Int → Int) (j : Nat) : Value := if t = 0 then z_I (M a (ix j)) else if t = 3 then z_L (M a (ix j)) else .ref (z_ad G j 0)
/-- a cell of the world -/
def z_hold (G : z_G) (M : z_M) (H : Heap) (g k : Nat) : Prop :=
  (∀ ci fs, z_ob g k = some (ci, fs) → t_OB (z_ad G g k) ((z_D G).1 ci) fs.length ((z_D G).2 ci) H (fun j => z_fv G M (fs.getD j (0, 0, 0)))) ∧
  (∀ t a n ix, z_al g k = some (t, a, n, ix) → H[z_ad G g k]? = some (arrV (z_ac G t) n (z_ev G M t a ix)))
def z_Wd (G : z_G) (M : z_M) (H : Heap) : Prop := (z_b G + 148 ≤ H.size ∧ (z_on G → z_x G + 4 ≤ H.size)) ∧ (∀ (a : Nat) (i : Int), a ≠ 20 → z_rg (M a i)) ∧ ∀ g k, z_dm G g k → z_hold G M H g k
/-- whose slot a place of a row of the law is -/
def z_owl (g : Nat) (i : Int) : Nat × Nat :=
  if i < 8 then (g, 46) else if i < 14 then (g, 45) else if i < 38 then (g, 40) else if i < 86 then (9, 99) else if i < 106 then (g, 41) else if i < 186 then (9, 99)
  else if i < 426 then (if i < 234 ∧ (i - 186) % 12 < 4 then (g, 42) else (9, 99)) else if i < 666 then (if i < 474 ∧ (i - 426) % 12 < 4 then (g, 43) else (9, 99)) else (if i < 714 ∧ (i - 666) % 12 < 4 then (g, 44) else (9, 99))
/-- whose slot a place of the memory is -/
def z_ow (a : Nat) (i : Int) : Nat × Nat :=
  if a < 7 then (a, if i = 0 then 1 else if i = 1 then 8 else if i = 5 then 99 else if i < 8 then 0 else if i < 14 then 17 else if i < 86 then 2 + ((i - 14) % 6).toNat else if i < 186 then 9 + ((i - 86) % 5).toNat else if i < 426 then 15 else if i < 666 then 14 else 16)
  else if a = 7 then (0, if i < 3 then 20 else if i < 8 then 22 else if i < 12 then 25 else 28)
  else if a < 10 then (0, a + 15) else if a < 12 then (0, a + 16) else if a < 18 then (0, a + 17) else if a < 40 then (9, 99) else if a < 42 then z_owl (a - 40) i else (9, 99)
theorem z_owA {G : z_G} {g k : Nat} (hd : z_dm G g k) {t a n : Nat} {ix : Int → Int} (h : z_al g k = some (t, a, n, ix)) (ht : t ≠ 4) (j : Nat) (hj : j < n) : z_ow a (ix j) = (g, k) := by
  have hg : 0 < k → k < 18 → g < 7 := fun _ _ => by unfold z_dm z_dmb at hd; omega
  have hg0 : 18 ≤ k → k < 40 → g = 0 := fun _ _ => by unfold z_dm z_dmb at hd; omega
  have hg1 : 40 ≤ k → g = 0 ∨ g = 1 := fun _ => by unfold z_dm z_dmb at hd; omega
  unfold z_al at h
  split at h <;> cases h <;> first
    | exact absurd rfl ht
    | (have hg := hg0 (by decide) (by decide); subst hg; rfl)
    | (have hg := hg (by decide) (by decide)
       show z_ow _ _ = _
       dsimp only
       rw [z_ow, if_pos hg]
       congr 1
       first
         | (rw [if_neg (by omega), if_neg (by omega), if_neg (by omega), if_neg (by omega), if_pos (by omega)]; done)
         | (rw [if_neg (by omega), if_neg (by omega), if_neg (by omega), if_neg (by omega), if_neg (by omega), if_pos (by omega)]; omega)
         | (rw [if_neg (by omega), if_neg (by omega), if_neg (by omega), if_neg (by omega), if_neg (by omega), if_neg (by omega), if_pos (by omega)]; omega)
         | (rw [if_neg (by omega), if_neg (by omega), if_neg (by omega), if_neg (by omega), if_neg (by omega), if_neg (by omega), if_neg (by omega), if_pos (by omega)]; done)
         | (rw [if_neg (by omega), if_neg (by omega), if_neg (by omega), if_neg (by omega), if_neg (by omega), if_neg (by omega), if_neg (by omega), if_neg (by omega), if_pos (by omega)]; done)
         | (rw [if_neg (by omega), if_neg (by omega), if_neg (by omega), if_neg (by omega), if_neg (by omega), if_neg (by omega), if_neg (by omega), if_neg (by omega), if_neg (by omega)]; done))
    | (have hg := hg1 (by decide)
       have e : ∀ i : Int, z_ow (40 + g) i = z_owl g i := fun i => by rcases hg with rfl | rfl <;> rfl
       dsimp only
       rw [e]
       unfold z_owl
       (repeat' split) <;> first | rfl | (exfalso; omega))
theorem z_owO {G : z_G} {g k : Nat} (hd : z_dm G g k) {ci : Nat} {fs : List z_F} (h : z_ob g k = some (ci, fs)) (j : Nat) {t a : Nat} {i : Int} (hf : fs[j]? = some (t, a, i)) (ht : t ≠ 1) : z_ow a i = (g, k) := by
  have hg : k < 18 → g < 7 := fun _ => by unfold z_dm z_dmb at hd; omega
  have hg0 : 18 ≤ k → k < 40 → g = 0 := fun _ _ => by unfold z_dm z_dmb at hd; omega
  have hm := List.mem_of_getElem? hf
  unfold z_ob at h
  split at h <;> cases h <;> simp only [List.mem_cons, Prod.mk.injEq, List.not_mem_nil, or_false] at hm
  all_goals first
    | (have hg := hg0 (by decide) (by decide); subst hg; (rcases hm with hm | hm | hm | hm | hm | hm | hm | hm | hm) <;> (obtain ⟨rfl, rfl, rfl⟩ := hm) <;> first | exact absurd rfl ht | rfl)
    | (have hg := hg0 (by decide) (by decide); subst hg; (rcases hm with hm | hm | hm | hm | hm | hm | hm) <;> (obtain ⟨rfl, rfl, rfl⟩ := hm) <;> first | exact absurd rfl ht | rfl)
    | (have hg := hg0 (by decide) (by decide); subst hg; (rcases hm with hm | hm | hm | hm | hm | hm) <;> (obtain ⟨rfl, rfl, rfl⟩ := hm) <;> first | exact absurd rfl ht | rfl)
    | (have hg := hg (by decide); (rcases hm with hm | hm | hm | hm | hm | hm | hm | hm | hm) <;> (obtain ⟨rfl, rfl, rfl⟩ := hm) <;> first | exact absurd rfl ht | (rw [z_ow, if_pos hg]; rfl))
    | (have hg := hg (by decide); (rcases hm with hm | hm | hm | hm | hm | hm | hm | hm) <;> (obtain ⟨rfl, rfl, rfl⟩ := hm) <;> first | exact absurd rfl ht | (rw [z_ow, if_pos hg]; rfl))
    | (have hg := hg (by decide); (rcases hm with hm | hm | hm | hm | hm | hm | hm) <;> (obtain ⟨rfl, rfl, rfl⟩ := hm) <;> first | exact absurd rfl ht | (rw [z_ow, if_pos hg]; rfl))
theorem z_al_inj {g k t a n : Nat} {ix : Int → Int} (h : z_al g k = some (t, a, n, ix)) (j j' : Nat) (e : ix j = ix j') : j = j' := by
  unfold z_al at h
  split at h <;> cases h <;> dsimp only at e <;> omega
def z_okl (l : List z_F) : Bool := (List.range l.length).all fun j => (List.range l.length).all fun j' => j == j' || (match l[j]?, l[j']? with
  | some (t, a, i), some (t', a', i') => t == 1 || t' == 1 || !(a == a' && i == i')
  | _, _ => true)
theorem z_okl_use {l : List z_F} (h : z_okl l = true) {j j' t t' a : Nat} {i : Int} (h1 : l[j]? = some (t, a, i)) (h2 : l[j']? = some (t', a, i)) (ht : t ≠ 1) (ht' : t' ≠ 1) : j = j' := by
  have l1 := (List.getElem?_eq_some_iff.mp h1).1
  have l2 := (List.getElem?_eq_some_iff.mp h2).1
  unfold z_okl at h
  have h3 := List.all_eq_true.mp (List.all_eq_true.mp h j (List.mem_range.mpr l1)) j' (List.mem_range.mpr l2)
  rw [h1, h2] at h3
  simpa [ht, ht'] using h3
theorem z_ob_inj {G : z_G} {g k : Nat} (hd : z_dm G g k) {ci : Nat} {fs : List z_F} (h : z_ob g k = some (ci, fs)) : z_okl fs = true := by
  have hg : k < 18 → g < 7 := fun _ => by unfold z_dm z_dmb at hd; omega
  have hg0 : 18 ≤ k → k < 40 → g = 0 := fun _ _ => by unfold z_dm z_dmb at hd; omega
  unfold z_ob at h
  split at h <;> cases h
  all_goals first
    | (have hg := hg0 (by decide) (by decide); subst hg; decide +kernel)
    | (have hg := hg (by decide)
       rcases (show g = 0 ∨ g = 1 ∨ g = 2 ∨ g = 3 ∨ g = 4 ∨ g = 5 ∨ g = 6 by omega) with rfl | rfl | rfl | rfl | rfl | rfl | rfl <;> decide +kernel)
theorem z_fv_eq {G : z_G} {M M' : z_M} {t a : Nat} {i : Int} (h : t ≠ 1 → M a i = M' a i) : z_fv G M (t, a, i) = z_fv G M' (t, a, i) := by
  match t, h with
  | 0, h => show z_I _ = z_I _; rw [h (by decide)]
  | 1, _ => rfl
  | 2, h => show Value.ref (z_ad G (M a i).toNat 0) = Value.ref (z_ad G (M' a i).toNat 0); rw [h (by decide)]
  | _ + 3, h => show z_L _ = z_L _; rw [h (by omega)]
theorem z_ev_eq {G : z_G} {M M' : z_M} {t a : Nat} {ix : Int → Int} {j : Nat} (h : t ≠ 4 → M a (ix j) = M' a (ix j)) : z_ev G M t a ix j = z_ev G M' t a ix j := by
  unfold z_ev
  by_cases h4 : t = 4
  · subst h4; rfl
  · rw [h h4]
theorem z_arrV_eq {cA : ClassId} {n : Nat} {f f' : Nat → Value} (h : ∀ j, j < n → f j = f' j) : arrV cA n f = arrV cA n f' := by
  unfold arrV
  have e : (fun j : Fin n => f j.val) = fun j : Fin n => f' j.val := funext fun j => h j.val j.isLt
  rw [e]
theorem z_al_t {g k t a n : Nat} {ix : Int → Int} (h : z_al g k = some (t, a, n, ix)) : t = 0 ∨ t = 3 ∨ t = 4 := by
  unfold z_al at h
  split at h <;> cases h <;> simp
theorem z_hold_move {G : z_G} {M M' : z_M} {H H' : Heap} {g k : Nat} (hd : z_dm G g k) (hM : ∀ a i, z_ow a i = (g, k) → M a i = M' a i) (hH : H'[z_ad G g k]? = H[z_ad G g k]?) (h : z_hold G M H g k) : z_hold G M' H' g k := by
  refine ⟨fun ci fs ho => ?_, fun t a n ix ha => ?_⟩
  · refine ((h.1 ci fs ho).kept hH).to fun j hj => ?_
    have e : fs[j]? = some fs[j] := List.getElem?_eq_getElem hj
    rw [List.getD_eq_getElem?_getD, e]
    rcases hf : fs[j] with ⟨t, a, i⟩
    exact z_fv_eq fun ht => hM a i (z_owO hd ho j (by rw [e, hf]) ht)
  · rw [hH, h.2 t a n ix ha]
    congr 1
    exact z_arrV_eq fun j hj => z_ev_eq fun ht => hM _ _ (z_owA hd ha ht j hj)
theorem z_Wd_put {G : z_G} {M : z_M} {H H' : Heap} {g k a : Nat} {i v : Int} (hW : z_Wd G M H) (hd : z_dm G g k) (hz : H'.size = H.size) (oq : ∀ q, q ≠ z_ad G g k → H'[q]? = H[q]?) (hrg : a ≠ 20 → z_rg v) (how : z_ow a i = (g, k)) (hnew : z_hold G (z_sM M a i v) H' g k) : z_Wd G (z_sM M a i v) H' := by
  refine ⟨by rw [hz]; exact hW.1, fun a' i' ha => ?_, fun g' k' hd' => ?_⟩
  · unfold z_sM
    split
    · rename_i h
      exact hrg (by rw [← h.1]; exact ha)
    · exact hW.2.1 a' i' ha
  · by_cases hgk : g' = g ∧ k' = k
    · obtain ⟨rfl, rfl⟩ := hgk
      exact hnew
    · refine z_hold_move (M := M) hd' (fun a' i' ho => ?_) (oq _ fun e => hgk (z_ad_inj hd' hd e)) (hW.2.2 g' k' hd')
      unfold z_sM
      rw [if_neg]
      rintro ⟨rfl, rfl⟩
      rw [how] at ho
      cases ho
      exact hgk ⟨rfl, rfl⟩
theorem z_lt {G : z_G} {M : z_M} {H : Heap} (hW : z_Wd G M H) {g k : Nat} (hd : z_dm G g k) : z_ad G g k < H.size := by
  have h1 := hW.1.1
  have h3 := hW.1.2
  rcases hd with hd | ⟨ho, rfl, hd⟩
  · have h2 := z_of_lt hd
    rw [z_ad_b hd]
    omega
  · have h4 := h3 ho
    unfold z_ad z_xo
    rw [if_pos (by omega)]
    (repeat' split) <;> omega
theorem z_Wd_keep {G : z_G} {M : z_M} {H H' : Heap} (hW : z_Wd G M H) (hz : H.size ≤ H'.size) (oq : ∀ q, q < H.size → H'[q]? = H[q]?) : z_Wd G M H' :=
  ⟨⟨Nat.le_trans hW.1.1 hz, fun h => Nat.le_trans (hW.1.2 h) hz⟩, hW.2.1, fun g k hd => z_hold_move (M := M) hd (fun _ _ _ => rfl) (oq _ (z_lt hW hd)) (hW.2.2 g k hd)⟩
/-- a memory that differs only where no cell is -/
theorem z_Wd_gh {G : z_G} {M M' : z_M} {H : Heap} (hW : z_Wd G M H) (hr : ∀ (a : Nat) (i : Int), a ≠ 20 → z_rg (M' a i)) (he : ∀ g k, z_dm G g k → ∀ a i, z_ow a i = (g, k) → M a i = M' a i) : z_Wd G M' H :=
  ⟨hW.1, hr, fun g k hd => z_hold_move (M := M) hd (fun a i ho => he g k hd a i ho) rfl (hW.2.2 g k hd)⟩
theorem z_in {G : z_G} {g k : Nat} (hd : z_dm G g k) : z_A G (z_ad G g k) := by
  show z_b G ≤ z_ad G g k
  rcases hd with hd | ⟨ho, rfl, hd⟩
  · rw [z_ad_b hd]; omega
  · unfold z_on at ho
    unfold z_ad
    rw [if_pos (by omega)]
    omega
/-- pure: Int32 and Int -/
theorem z_toI {n : Int} (h : z_rg n) : (Int32.ofInt n).toInt = n := Int32.toInt_ofInt_of_le (by have := h.1; omega) (by have := h.2; omega)
theorem z_clamp {n : Int} (h0 : 0 ≤ n) (h1 : n ≤ 2147483647) : (Int32.ofInt n).toNatClampNeg = n.toNat := by
  rw [← Int32.toNat_toInt, z_toI ⟨by omega, h1⟩]
theorem z_lt32 {a b : Int} (ha : z_rg a) (hb : z_rg b) : (Int32.ofInt a < Int32.ofInt b) ↔ a < b := by
  rw [Int32.lt_iff_toInt_lt, z_toI ha, z_toI hb]
theorem z_le32 {a b : Int} (ha : z_rg a) (hb : z_rg b) : (Int32.ofInt a ≤ Int32.ofInt b) ↔ a ≤ b := by
  rw [Int32.le_iff_toInt_le, z_toI ha, z_toI hb]
theorem z_eq32 {a b : Int} (ha : z_rg a) (hb : z_rg b) : (Int32.ofInt a = Int32.ofInt b) ↔ a = b := by
  rw [← Int32.toInt_inj, z_toI ha, z_toI hb]
theorem z_vp {i : Int} {n : Nat} (h0 : 0 ≤ i) (h1 : i < n) (hn : n ≤ 2147483647) : ¬ (Int32.ofInt i < 0 ∨ n ≤ (Int32.ofInt i).toNatClampNeg) := by
  have e := z_lt32 (a := i) (b := 0) ⟨by omega, by omega⟩ ⟨by omega, by omega⟩
  rw [z_clamp h0 (by omega)]
  rintro (h | h)
  · have := e.mp h
    omega
  · omega
