/-! ===== copying a row of a state ===== -/
theorem z_Wd_putR {G : z_G} {M : z_M} {H H' : Heap} {g k a : Nat} {r : Int → Int} (hW : z_Wd G M H) (hd : z_dm G g k) (hz : H'.size = H.size) (oq : ∀ q, q ≠ z_ad G g k → H'[q]? = H[q]?) (hrg : ∀ i, z_rg (r i)) (how : ∀ i, z_ow a i ≠ (g, k) → r i = M a i) (hnew : z_hold G (z_sR M a r) H' g k) : z_Wd G (z_sR M a r) H' := by
  refine ⟨by rw [hz]; exact hW.1, fun a' i' ha => ?_, fun g' k' hd' => ?_⟩
  · unfold z_sR
    split
    · exact hrg i'
    · exact hW.2.1 a' i' ha
  · by_cases hgk : g' = g ∧ k' = k
    · obtain ⟨rfl, rfl⟩ := hgk
      exact hnew
    · refine z_hold_move (M := M) hd' (fun a' i' ho => ?_) (oq _ fun e => hgk (z_ad_inj hd' hd e)) (hW.2.2 g' k' hd')
      unfold z_sR
      split
      · rename_i h
        subst h
        exact (how i' (fun e => hgk (by rw [ho] at e; cases e; exact ⟨rfl, rfl⟩))).symm
      · rfl
/-- the places of a state's array -/
def z_isb (c : Nat) (i : Int) : Bool := decide ((c = 17 ∧ 8 ≤ i ∧ i < 14) ∨ (2 ≤ c ∧ c < 8 ∧ 14 ≤ i ∧ i < 86 ∧ (i - 14) % 6 = c - 2) ∨ (9 ≤ c ∧ c < 14 ∧ 86 ≤ i ∧ i < 186 ∧ (i - 86) % 5 = c - 9) ∨ (c = 15 ∧ 186 ≤ i ∧ i < 426) ∨ (c = 14 ∧ 426 ≤ i ∧ i < 666) ∨ (c = 16 ∧ 666 ≤ i ∧ i < 906))
theorem z_isb_ow {g c : Nat} {i : Int} (hg : g < 7) (h : z_isb c i = true) : z_ow g i = (g, c) := by
  unfold z_ow
  rw [if_pos hg]
  congr 1
  unfold z_isb at h
  have h := of_decide_eq_true h
  (repeat' split) <;> omega
theorem z_al_isb {g c n : Nat} {ix : Int → Int} (hal : z_al g c = some (0, g, n, ix)) (hc : c < 18) (j : Nat) (hj : j < n) : z_isb c (ix j) = true := by
  unfold z_al at hal
  unfold z_isb
  refine decide_eq_true ?_
  split at hal <;> first | (exfalso; omega; done) | (cases hal <;> first | omega | (dsimp only; omega))
/-- row r with the array c of row s -/
def z_kc (c : Nat) (s r : Int → Int) : Int → Int := fun i => if z_isb c i = true then s i else r i
section ZCP
variable {G : z_G} {Z : z_Z} {d : z_Md} {Q : State → Prop} {pc : Nat} {ls : List (Option Value)} {rest : List Value} {M : z_M} {k n : Nat}
theorem wmX6_389 : Cond.methodLink RX6 389 arraycopyName ∈ z_W := z_wi 672 (by decide +kernel) (by decide +kernel)
theorem wv_acopy : Cond.native arraycopyName ∈ z_W := z_wi 674 (by decide +kernel) (by decide +kernel)
theorem wt_acopy : Cond.static arraycopyName ∈ z_W := z_wi 673 (by decide +kernel) (by decide +kernel)
theorem wn_Sys : Cond.initialized "java/lang/System" ∈ z_W := z_wi 43 (by decide +kernel) (by decide +kernel)
theorem z_acopy {g g' c n' : Nat} {ix : Int → Int} (hal : z_al g c = some (0, g, n', ix)) (hal' : z_al g' c = some (0, g', n', ix)) (hc : c < 18) (hg : g < 7) (hg' : g' < 7) (hne : g ≠ g') (hm : n' ≤ 6000)
    (ho : z_own d = RX6) (hfr : 1 ≤ (z_R d).frames) (hlo : (rest.map fun v => v.category).sum + (nativeFrameWords "java/lang/System" "arraycopy" 5 + 11) ≤ (z_R d).locals) (hd : decode (z_cc d) pc = .ok (.invokestatic 389, 3))
    (kk : z_J G Z d Q (pc + 3) ls rest (z_sR M g' (z_kc c (M g) (M g'))) k n) : z_J G Z d Q pc ls (z_I n' :: z_I 0 :: .ref (z_ad G g' c) :: z_I 0 :: .ref (z_ad G g c) :: rest) M k n := fun hO H locs la hW hS hL => by
  have hdm : z_dm G g c := Or.inl (Or.inl ⟨hc, hg⟩)
  have hdm' : z_dm G g' c := Or.inl (Or.inl ⟨hc, hg'⟩)
  have hs := (hW.2.2 g c hdm).2 0 g n' ix hal
  have hdd := (hW.2.2 g' c hdm').2 0 g' n' ix hal'
  have hK := hO.2.2.2.2.2.2.2.2.1.2
  have e0 : (Int32.ofInt 0).toNatClampNeg = 0 := rfl
  have en : (Int32.ofInt (n' : Int)).toNatClampNeg = n' := by rw [z_clamp (by omega) (by omega)]; omega
  have en2 : (Int32.ofInt (n' : Int)).toInt = n' := z_toI ⟨by omega, by omega⟩
  intro T hT X
  rw [← hT] at hs hdd
  obtain ⟨-, k0, hk0, cm0, hkk0⟩ := (hK 0 _ rfl).1 n' (z_ev G M 0 g ix)
  obtain ⟨-, k1, hk1, cm1, hkk1⟩ := (hK 0 _ rfl).1 n' (z_ev G M 0 g' ix)
  obtain ⟨vm', X', step⟩ := X.arraycopy hO.1 hO.2.2.2.1 (by rw [ho]; exact z_tw hO wmX6_389 _) (z_tw hO wv_acopy _) (z_tw hO wt_acopy _) (z_tw hO wn_Sys _) (sType := .int) (dType := .int) (src := z_ad G g c) (dst := z_ad G g' c) (srcPos := Int32.ofInt 0) (destPos := Int32.ofInt 0) (n := Int32.ofInt n') hs hdd
    (fun _ h => by cases h) (fun _ h => by cases h) (fun h => by cases h) (fun h => by cases h) hk0 hk1 hkk0 hkk1 (by rfl) (by decide) (by decide) (by rw [Int32.not_lt, Int32.le_iff_toInt_le, en2]; exact Int.natCast_nonneg n')
    (by rw [en2]; show ¬ (0 : Int) + _ > ((arrV (z_ac G 0) n' (z_ev G M 0 g ix)).slots.size : Int); rw [arrV_size]; omega)
    (by rw [en2]; show ¬ (0 : Int) + _ > ((arrV (z_ac G 0) n' (z_ev G M 0 g' ix)).slots.size : Int); rw [arrV_size]; omega)
    (fun vm₁ _ i hi => by
      rw [en] at hi
      have e : (arrV (z_ac G 0) n' (z_ev G M 0 g ix)).slots.getD ((Int32.ofInt 0).toNatClampNeg + i) .null = z_I (M g (ix i)) := by
        rw [e0, Nat.zero_add, Array.getD_eq_getD_getElem?, arrV_read _ _ hi]
        rfl
      exact ⟨by rw [e]; rfl, by rw [e]; exact trivial⟩)
    (g := F0 (z_m Z) pc la (z_I n' :: z_I 0 :: .ref (z_ad G g' c) :: z_I 0 :: .ref (z_ad G g c) :: rest)) rfl (by rw [hO.2.2.1]; exact hL.1) (rest := rest) rfl (by rw [hO.2.1]; exact hd) hfr (by show 2 * 0 + _ + _ ≤ _; omega)
  have e1 : copied (arrV (z_ac G 0) n' (z_ev G M 0 g ix)) (arrV (z_ac G 0) n' (z_ev G M 0 g' ix)) (Int32.ofInt 0) (Int32.ofInt 0) (Int32.ofInt n') = arrV (z_ac G 0) n' (z_ev G (z_sR M g' (z_kc c (M g) (M g'))) 0 g' ix) := by
    have h := va_copied (fun z : Int => z_I z) (z_ac G 0) (z_ac G 0) (n0 := n') (n1 := n') (sp := 0) (dp := 0) (n := n') (fun j => M g (ix j)) (fun j => M g' (ix j)) (by omega)
    unfold copied
    rw [e0, en]
    refine (h.trans (z_arrV_eq fun j hj => ?_))
    show z_I (va_cpy _ _ 0 0 n' j) = z_I (z_sR M g' (z_kc c (M g) (M g')) g' (ix j))
    rw [z_sR_self]
    unfold va_cpy z_kc
    rw [if_pos (by omega), if_pos (z_al_isb hal hc j hj)]
    congr 2
    omega
  rw [e1] at X' step
  have hl : z_ad G g' c < H.size := z_lt hW hdm'
  have hheap : ((T.setVm vm').setCell (z_ad G g' c) (arrV (z_ac G 0) n' (z_ev G (z_sR M g' (z_kc c (M g) (M g'))) 0 g' ix))).heap = H.setIfInBounds (z_ad G g' c) (arrV (z_ac G 0) n' (z_ev G (z_sR M g' (z_kc c (M g) (M g'))) 0 g' ix)) := by rw [← hT]; rfl
  have oq : ∀ q : Nat, q ≠ z_ad G g' c → (H.setIfInBounds (z_ad G g' c) (arrV (z_ac G 0) n' (z_ev G (z_sR M g' (z_kc c (M g) (M g'))) 0 g' ix)))[q]? = H[q]? := fun q hq => by simp [Array.getElem?_setIfInBounds, Ne.symm hq]
  have hz : (H.setIfInBounds (z_ad G g' c) (arrV (z_ac G 0) n' (z_ev G (z_sR M g' (z_kc c (M g) (M g'))) 0 g' ix))).size = H.size := by simp
  obtain ⟨t, a1, b1⟩ := kk hO _ _ la (z_Wd_putR hW hdm' hz oq (fun i => by
      unfold z_kc
      split
      · exact hW.2.1 g i (by omega)
      · exact hW.2.1 g' i (by omega)) (fun i hi => by
      unfold z_kc
      rw [if_neg (fun h => hi (z_isb_ow hg' h))]) ⟨fun ci fs hob => (by
        have h := z_obal hob
        rw [hal'] at h
        cases h), fun t a m' ix' ha' => (by
        rw [hal'] at ha'
        cases ha'
        simp [Array.getElem?_setIfInBounds, hl])⟩) (⟨by rw [hz]; exact hS.1, fun q g1 g2 => by
      rw [oq q (fun e => g2 (by rw [e]; exact z_in hdm'))]
      exact hS.2.1 q g1 g2, fun q hq => by
      rcases List.mem_append.mp hq with h | h
      · exact hS.2.2 q h
      · obtain ⟨z, -, hz⟩ := List.mem_map.mp h
        rw [← hz]
        exact z_in hdm'⟩ : va_S (z_A G) (z_s Z).heap _ _) hL _ hheap X'
  exact ⟨t, step t a1, b1⟩
end ZCP
