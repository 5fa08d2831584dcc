/-! ===== the memory at first ===== -/
def z_set0 (i : Int) : Int := if 8 ≤ i ∧ i < 14 then z_first (i - 8).toNat else 0
def z_M0 : z_M := fun r i => if r < 7 then z_set0 i else 0
theorem z_set0_0 {i : Int} (h : i < 8 ∨ 14 ≤ i) : z_set0 i = 0 := by unfold z_set0; rw [if_neg (by omega)]
theorem z_M0_g {r : Nat} (h : r < 7) : z_M0 r = z_set0 := by funext i; unfold z_M0; rw [if_pos h]
theorem z_M0_n {r : Nat} {i : Int} (h : ¬ r < 7) : z_M0 r i = 0 := by unfold z_M0; rw [if_neg h]
theorem z_first_rg (j : Nat) : 0 ≤ z_first j ∧ z_first j ≤ 50 := by unfold z_first; split <;> omega
theorem z_M0_rg (r : Nat) (i : Int) : z_rg (z_M0 r i) := by
  unfold z_M0 z_set0
  have h := z_first_rg (i - 8).toNat
  split
  · split <;> constructor <;> omega
  · constructor <;> omega
theorem z_BI_0 : z_BI z_set0 0 := by
  have q : ∀ j : Int, 14 ≤ j → z_set0 j = 0 := fun j hj => z_set0_0 (Or.inr hj)
  have q0 : ∀ j : Int, j < 8 → z_set0 j = 0 := fun j hj => z_set0_0 (Or.inl hj)
  have e0 := q0 0 (by decide)
  have e1 := q0 1 (by decide)
  have e2 := q0 2 (by decide)
  have e3 := q0 3 (by decide)
  have e4 := q0 4 (by decide)
  have e5 := q0 5 (by decide)
  have e6 := q0 6 (by decide)
  have e7 := q0 7 (by decide)
  refine ⟨by omega, by omega, by omega, by omega, by omega, by omega, by omega, by omega, by omega, by decide, by decide, by decide, by decide, by decide, by decide, fun p p0 p1 => ?_, fun k k0 k1 => ?_, fun k p k0 k1 p0 p1 => ?_, ?_, ?_, ?_, fun i hi => ?_⟩
  · have a0 := q (14 + 6 * p) (by omega)
    have a1 := q (14 + 6 * p + 1) (by omega)
    have a2 := q (14 + 6 * p + 2) (by omega)
    have a3 := q (14 + 6 * p + 3) (by omega)
    have a4 := q (14 + 6 * p + 4) (by omega)
    have a5 := q (14 + 6 * p + 5) (by omega)
    unfold z_PI
    refine ⟨by omega, by omega, by omega, by omega, by omega, by omega, fun _ => by omega, by omega, by omega, by omega, fun _ => by omega⟩
  · have a0 := q (86 + 5 * k) (by omega)
    have a1 := q (86 + 5 * k + 1) (by omega)
    have a2 := q (86 + 5 * k + 2) (by omega)
    have a3 := q (86 + 5 * k + 3) (by omega)
    have a4 := q (86 + 5 * k + 4) (by omega)
    have aD : z_aD z_set0 k = 0 := z_sm_z fun i hi => q _ (by omega)
    have aN : z_sm 12 (fun p => if 0 < z_set0 (426 + 12 * k + p) then 1 else 0) = 0 := z_sm_z fun i hi => by
      show (if 0 < z_set0 (426 + 12 * k + (i : Int)) then (1 : Int) else 0) = 0
      rw [q _ (by omega), if_neg (by decide)]
    unfold z_KI
    refine ⟨by omega, by omega, fun _ => by omega, by omega, by omega, fun _ => by omega, by omega, by omega, by omega, by omega, by omega, by omega, by omega, fun _ => by omega, by omega, fun _ => by omega⟩
  · have a0 := q (186 + 12 * k + p) (by omega)
    have a1 := q (426 + 12 * k + p) (by omega)
    have a2 := q (666 + 12 * k + p) (by omega)
    have a3 := q (86 + 5 * k + 4) (by omega)
    unfold z_QI
    refine ⟨by omega, by omega, by omega, by omega, by omega, by omega, fun _ => by omega⟩
  · have s := z_sm_z (n := 12) (f := fun p => z_set0 (14 + 6 * p)) (fun i hi => q _ (by omega))
    omega
  · have s := z_sm_z (n := 12) (f := fun p => z_set0 (14 + 6 * p + 2)) (fun i hi => q _ (by omega))
    omega
  · have s := z_sm_z (n := 12) (f := fun p => z_set0 (14 + 6 * p + 5)) (fun i hi => q _ (by omega))
    omega
  · exact z_set0_0 (by omega)
section ZH0
variable {G : z_G} {M : z_M} {H : Heap} {g k : Nat}
theorem z_hO {ci : Nat} {vs : List Value} {fs : List z_F} (hx : z_ch G H (z_ad G g k) (.inl (ci, vs))) (ho : z_ob g k = some (ci, fs)) (ha : z_al g k = none) (hl : vs.length = fs.length) (he : ∀ j, j < fs.length → vs.getD j .null = z_fv G M (fs.getD j (0, 0, 0))) : z_hold G M H g k := by
  refine ⟨fun ci' fs' h => ?_, fun t a n ix h => ?_⟩
  · rw [ho] at h
    cases h
    have q : t_OB (z_ad G g k) ((z_D G).1 ci) vs.length ((z_D G).2 ci) H (fun j => vs.getD j .null) := hx
    rw [hl] at q
    exact q.to he
  · rw [ha] at h; cases h
theorem z_hA {t a n : Nat} {ix : Int → Int} {f : Nat → Value} (hx : z_ch G H (z_ad G g k) (.inr (t, n, f))) (ho : z_ob g k = none) (ha : z_al g k = some (t, a, n, ix)) (he : ∀ j, j < n → f j = z_ev G M t a ix j) : z_hold G M H g k := by
  refine ⟨fun ci' fs' h => ?_, fun t' a' n' ix' h => ?_⟩
  · rw [ho] at h; cases h
  · rw [ha] at h
    cases h
    rw [(hx : H[z_ad G g k]? = _), z_arrV_eq he]
end ZH0
theorem z_sts_at (a : Nat) : ∀ n g k : Nat, g < n → k < 18 → (z_sts a n)[18 * g + k]? = (z_stC (a + 15 + 18 * g))[k]?
  | 0, g, k, hg, hk => by omega
  | n + 1, g, k, hg, hk => by
    have hl := z_sts_len a n
    show (z_sts a n ++ z_stC (a + 15 + 18 * n))[18 * g + k]? = _
    by_cases c : g < n
    · rw [List.getElem?_append_left (by omega)]
      exact z_sts_at a n g k c hk
    · have e : g = n := by omega
      subst e
      rw [List.getElem?_append_right (by omega), hl]
      congr 1
      omega
def z_lwr : List z_CC := [.inr (0, 24, fun _ => z_I 0), .inr (0, 20, fun _ => z_I 0), .inr (0, 16, fun _ => z_I 0), .inr (0, 16, fun _ => z_I 0), .inr (0, 16, fun _ => z_I 0), .inr (0, 6, fun _ => z_I 0), .inr (0, 8, fun _ => z_I 0)]
def z_cls (a : Nat) : List z_CC := z_L15 a (.ref (a + 15)) (z_rF a 7) ++ z_sts a 7
def z_all (a : Nat) : List z_CC := z_cls a ++ z_lwr
theorem z_cls_len (a : Nat) : (z_cls a).length = 141 := by
  unfold z_cls
  rw [List.length_append, z_sts_len]; rfl
theorem z_all_len (a : Nat) : (z_all a).length = 148 := by
  unfold z_all
  rw [List.length_append, z_cls_len]; rfl
theorem z_all_lo (a : Nat) {j : Nat} (h : j < 15) : (z_all a)[j]? = (z_L15 a (.ref (a + 15)) (z_rF a 7))[j]? := by
  unfold z_all
  rw [List.getElem?_append_left (by rw [z_cls_len]; omega)]
  unfold z_cls
  rw [List.getElem?_append_left h]
theorem z_all_st (a : Nat) {g k : Nat} (hg : g < 7) (hk : k < 18) : (z_all a)[15 + 18 * g + k]? = (z_stC (a + 15 + 18 * g))[k]? := by
  unfold z_all
  rw [List.getElem?_append_left (by rw [z_cls_len]; omega)]
  unfold z_cls
  rw [List.getElem?_append_right (by show 15 ≤ _; omega)]
  have e : 15 + 18 * g + k - (z_L15 a (.ref (a + 15)) (z_rF a 7)).length = 18 * g + k := by show 15 + 18 * g + k - 15 = _; omega
  rw [e]
  exact z_sts_at a 7 g k hg hk
theorem z_all_hi (a : Nat) {j : Nat} (h : 141 ≤ j) : (z_all a)[j]? = z_lwr[j - 141]? := by
  unfold z_all
  rw [List.getElem?_append_right (by rw [z_cls_len]; exact h), z_cls_len]
