section ZB
variable {G : z_G} {Z : z_Z} {d : z_Md} {Q : State → Prop} {pc : Nat} {ls : List (Option Value)} {st : List Value} {M : z_M} {k n : Nat}
theorem z_ifb_eq {p : Prop} [Decidable p] {off : Int} {tgt : Nat} (hd : decode (z_cc d) pc = .ok (.ifCond .eq off, 3)) (ht : (pc : Int) + off = (tgt : Int)) (kt : ¬ p → z_J G Z d Q tgt ls st M k n) (kf : p → z_J G Z d Q (pc + 3) ls st M k n) : z_J G Z d Q pc ls (z_I (if p then 1 else 0) :: st) M k n :=
  z_if_eq (by split <;> exact ⟨by decide, by decide⟩) hd ht (fun h => kt (fun hp => by rw [if_pos hp] at h; cases h)) (fun h => kf (Decidable.byContradiction fun hp => by rw [if_neg hp] at h; exact h rfl))
theorem z_ifb_ne {p : Prop} [Decidable p] {off : Int} {tgt : Nat} (hd : decode (z_cc d) pc = .ok (.ifCond .ne off, 3)) (ht : (pc : Int) + off = (tgt : Int)) (kt : p → z_J G Z d Q tgt ls st M k n) (kf : ¬ p → z_J G Z d Q (pc + 3) ls st M k n) : z_J G Z d Q pc ls (z_I (if p then 1 else 0) :: st) M k n :=
  z_if_ne (by split <;> exact ⟨by decide, by decide⟩) hd ht (fun h => kt (Decidable.byContradiction fun hp => by rw [if_neg hp] at h; exact h rfl)) (fun h => kf (fun hp => by rw [if_pos hp] at h; cases h))
/-- a loop that counts up -/
theorem z_up {P : Int → Prop} (n : Nat) (he : P n) (hs : ∀ i : Nat, i < n → P ((i : Int) + 1) → P i) : ∀ i : Nat, i ≤ n → P i := by
  intro i hi
  obtain ⟨j, rfl⟩ : ∃ j, n = i + j := ⟨n - i, by omega⟩
  induction j generalizing i with
  | zero => exact he
  | succ j ih =>
    refine hs i (by omega) ?_
    have h := ih (i + 1) (by rw [show i + 1 + j = i + (j + 1) by omega]; exact he) (by rw [show i + 1 + j = i + (j + 1) by omega]; exact hs) (by omega)
    have e : ((i + 1 : Nat) : Int) = (i : Int) + 1 := by omega
    rwa [e] at h
theorem z_up0 {P : Int → Prop} (n : Nat) (he : P n) (hs : ∀ i : Nat, i < n → P ((i : Int) + 1) → P i) : P 0 := z_up n he hs 0 (Nat.zero_le n)
/-- the sum of f 0 .. f (n - 1) -/
def z_sm (n : Nat) (f : Int → Int) : Int := match n with
  | 0 => 0
  | n + 1 => z_sm n f + f n
theorem z_sm_s (n : Nat) (f : Int → Int) : z_sm (n + 1) f = z_sm n f + f n := rfl
theorem z_sm_eq {n : Nat} {f g : Int → Int} (h : ∀ i : Nat, i < n → f i = g i) : z_sm n f = z_sm n g := by
  induction n with
  | zero => rfl
  | succ n ih => rw [z_sm_s, z_sm_s, ih (fun i hi => h i (by omega)), h n (by omega)]
/-- the number at place i of a row becomes v -/
def z_uf (b : Int → Int) (i v : Int) : Int → Int := fun j => if j = i then v else b j
/-- row a of the memory becomes b -/
def z_sR (M : z_M) (a : Nat) (b : Int → Int) : z_M := fun a' => if a' = a then b else M a'
theorem z_sM_R (M : z_M) (a : Nat) (i v : Int) : z_sM M a i v = z_sR M a (z_uf (M a) i v) := by
  funext a' i'
  unfold z_sM z_sR z_uf
  by_cases h : a' = a
  · subst h
    by_cases h2 : i' = i
    · rw [if_pos ⟨rfl, h2⟩, if_pos rfl, if_pos h2]
    · rw [if_neg (fun q => h2 q.2), if_pos rfl, if_neg h2]
  · rw [if_neg (fun q => h q.1), if_neg h]
theorem z_sR_self (M : z_M) (a : Nat) (b : Int → Int) : z_sR M a b a = b := by unfold z_sR; rw [if_pos rfl]
theorem z_sR_ne (M : z_M) {a a' : Nat} (b : Int → Int) (h : a' ≠ a) : z_sR M a b a' = M a' := by unfold z_sR; rw [if_neg h]
theorem z_sR_R (M : z_M) (a : Nat) (b c : Int → Int) : z_sR (z_sR M a b) a c = z_sR M a c := by
  funext a'
  unfold z_sR
  by_cases h : a' = a
  · rw [if_pos h, if_pos h]
  · rw [if_neg h, if_neg h, if_neg h]
theorem z_sR_id (M : z_M) (a : Nat) : z_sR M a (M a) = M := by
  funext a'
  unfold z_sR
  by_cases h : a' = a
  · rw [if_pos h, h]
  · rw [if_neg h]
theorem z_sR_comm (M : z_M) {a a' : Nat} (b c : Int → Int) (h : a ≠ a') : z_sR (z_sR M a b) a' c = z_sR (z_sR M a' c) a b := by
  funext x
  unfold z_sR
  by_cases h1 : x = a
  · by_cases h2 : x = a'
    · exact absurd (h1.symm.trans h2) h
    · rw [if_neg h2, if_pos h1, if_pos h1]
  · by_cases h2 : x = a'
    · rw [if_pos h2, if_neg h1, if_pos h2]
    · rw [if_neg h2, if_neg h1, if_neg h1, if_neg h2]
theorem z_uf_self (b : Int → Int) (i v : Int) : z_uf b i v i = v := by unfold z_uf; rw [if_pos rfl]
theorem z_uf_ne (b : Int → Int) {i j : Int} (v : Int) (h : j ≠ i) : z_uf b i v j = b j := by unfold z_uf; rw [if_neg h]
theorem z_uf_uf (b : Int → Int) (i v w : Int) : z_uf (z_uf b i v) i w = z_uf b i w := by
  funext j
  unfold z_uf
  split <;> rfl
end ZB
