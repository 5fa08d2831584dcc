/-! ===== act of the law: what it needs ===== -/
def z_PA (M : z_M) (N a c0 : Int) (M1 : z_M) : Prop := z_PS M N M1 ∧ (a = 0 → c0 < 4 → 1 ≤ M1 7 1)
theorem z_PA_ne {M M1 : z_M} {N a c0 : Int} (ha : a ≠ 0 ∨ 4 ≤ c0) (h : z_PS M N M1) : z_PA M N a c0 M1 := ⟨h, fun h1 h2 => by omega⟩
theorem z_PA_1 {M M1 : z_M} {N a c0 : Int} (h : (∃ g, z_LR M1 g (N + 1)) ∧ 1 ≤ M1 7 1) : z_PA M N a c0 M1 := ⟨⟨h.1, Or.inr h.2⟩, fun _ _ => h.2⟩
theorem z_PA_sv {M0 M : z_M} {g : Nat} {N a c0 : Int} {o : Int → Int} (h : z_LC M g N) (e40 : M 40 = o) (hb : z_BI o (N + 1)) (o0 : o 0 ≤ 4) (o1 : o 1 ≤ 4) : z_PA M0 N a c0 (z_sR (z_SC M g) (z_sg g) o) := by
  have hq := z_sg_lt g
  have k : ∀ i, z_sR (z_SC M g) (z_sg g) o 7 i = z_SC M g 7 i := fun i => congrFun (z_sR_ne _ _ (by omega)) i
  exact z_PA_1 (z_LR_sv (M1 := z_sR (z_SC M g) (z_sg g) o) (o := o) h (fun r hr hne => by rw [z_sR_ne _ _ hne, z_SC_row (by omega) hne]) (z_sR_self _ _ _) (by rw [z_sR_ne _ _ (by omega), z_SC_row (by omega) (by omega)]; exact e40)
    (by rw [k]; exact z_SC_72 _ _) (by rw [k]; unfold z_SC; rw [z_sM_ne _ _ _ (by decide), z_sM_self]) (by rw [k]; unfold z_SC; rw [z_sM_self]) hb o0 o1)
theorem z_acM_row {A : z_M} {q r : Nat} {k fee v : Int} (h : r ≠ 7 ∧ r ≠ 10 ∧ r ≠ 11 ∧ r ≠ q) : z_acM A q k fee v r = A r :=
  (z_sR_ne _ _ h.2.2.2).trans ((z_dFM_row ⟨h.1, h.2.1, h.2.2.1⟩).trans (z_sR_ne _ _ h.2.2.2))
theorem z_acM_7 {A : z_M} {q : Nat} {k fee v i : Int} (hq : q < 7) (h : i < 8 ∨ 12 ≤ i) : z_acM A q k fee v 7 i = A 7 i :=
  (congrFun (z_sR_ne _ _ (by omega)) i).trans ((z_dFM_7 h).trans (congrFun (z_sR_ne _ _ (by omega)) i))
theorem z_dRM_r {A : z_M} {q r : Nat} {k a : Int} (h : r ≠ 7 ∧ r ≠ 10 ∧ r ≠ 11) : z_dRM A q k a r = A r := by
  show z_sR (z_sR (z_sR A 7 _) 10 _) 11 _ r = A r
  rw [z_sR_ne _ _ h.2.2, z_sR_ne _ _ h.2.1, z_sR_ne _ _ h.1]
theorem z_roM_row {A : z_M} {q r : Nat} {k a : Int} (h : r ≠ 7 ∧ r ≠ 10 ∧ r ≠ 11 ∧ r ≠ q) : z_roM A q k a r = A r :=
  (z_sR_ne _ _ h.2.2.2).trans (z_dRM_r ⟨h.1, h.2.1, h.2.2.1⟩)
theorem z_roM_7 {A : z_M} {q : Nat} {k a i : Int} (hq : q < 7) (h : i < 8 ∨ 12 ≤ i) : z_roM A q k a 7 i = A 7 i :=
  (congrFun (z_sR_ne _ _ (by omega)) i).trans (z_dRM_7 h)
theorem z_LR_mv {M X F : z_M} {g : Nat} {N : Int} {o : Int → Int} (h : z_LC M g N) (eX : ∀ r, r < 7 → r ≠ z_sg g → X r = z_SC M g r) (e7 : ∀ i, i < 8 → X 7 i = z_SC M g 7 i) (eF : ∀ r, r ≠ 40 → F r = X r) (e40 : F 40 = o) (eq : X (z_sg g) = o) (hb : z_BI o (N + 1)) (o0 : o 0 ≤ 4) (o1 : o 1 ≤ 4) : (∃ q, z_LR F q (N + 1)) ∧ 1 ≤ F 7 1 := by
  have hq := z_sg_lt g
  have k : ∀ i, i < 8 → F 7 i = z_SC M g 7 i := fun i hi => (congrFun (eF 7 (by decide)) i).trans (e7 i hi)
  exact z_LR_sv (M1 := F) (o := o) h (fun r hr hne => by rw [eF r (by omega), eX r hr hne, z_SC_row (by omega) hne]) (by rw [eF _ (by omega)]; exact eq) e40
    (by rw [k 2 (by decide)]; exact z_SC_72 _ _) (by rw [k 0 (by decide)]; unfold z_SC; rw [z_sM_ne _ _ _ (by decide), z_sM_self]) (by rw [k 1 (by decide)]; unfold z_SC; rw [z_sM_self]) hb o0 o1
theorem z_LR_ac {M F : z_M} {g : Nat} {N k fee v : Int} {o : Int → Int} (h : z_LC M g N) (eF : ∀ r, r ≠ 40 → F r = z_acM (z_SC M g) (z_sg g) k fee v r) (e40 : F 40 = o) (eq : z_acM (z_SC M g) (z_sg g) k fee v (z_sg g) = o) (hb : z_BI o (N + 1)) (o0 : o 0 ≤ 4) (o1 : o 1 ≤ 4) : (∃ q, z_LR F q (N + 1)) ∧ 1 ≤ F 7 1 :=
  z_LR_mv h (fun r hr hne => z_acM_row ⟨by omega, by omega, by omega, hne⟩) (fun i hi => z_acM_7 (z_sg_lt g) (Or.inl hi)) eF e40 eq hb o0 o1
theorem z_LR_ro {M F : z_M} {g : Nat} {N k a : Int} {o : Int → Int} (h : z_LC M g N) (eF : ∀ r, r ≠ 40 → F r = z_roM (z_SC M g) (z_sg g) k a r) (e40 : F 40 = o) (eq : z_roM (z_SC M g) (z_sg g) k a (z_sg g) = o) (hb : z_BI o (N + 1)) (o0 : o 0 ≤ 4) (o1 : o 1 ≤ 4) : (∃ q, z_LR F q (N + 1)) ∧ 1 ≤ F 7 1 :=
  z_LR_mv h (fun r hr hne => z_roM_row ⟨by omega, by omega, by omega, hne⟩) (fun i hi => z_roM_7 (z_sg_lt g) (Or.inl hi)) eF e40 eq hb o0 o1
theorem z_cm_01 {b : Int → Int} {k a y : Int} (k0 : 0 ≤ k) (n1 : b 0 ≤ 12) (o0 : 0 ≤ z_oo b k) : (z_cm b k a y).1 0 = b 0 ∧ (z_cm b k a y).1 1 = b 1 := by
  have h0 := z_lps_o (y := y) (S := (z_sh b k (z_rs b a y) (fun _ => 0) (fun _ => 0)).1) (x := z_ci b k a y) (j := 0) k0 (by omega) (b 0).toNat (by omega)
  have h1 := z_lps_o (y := y) (S := (z_sh b k (z_rs b a y) (fun _ => 0) (fun _ => 0)).1) (x := z_ci b k a y) (j := 1) k0 (by omega) (b 0).toNat (by omega)
  have c : ∀ j, j = 0 ∨ j = 1 → (z_ci b k a y).1 j = b j := fun j hj => by
    unfold z_ci
    split
    · show z_cb1 b a j = b j
      unfold z_cb1
      rw [z_uf_ne _ _ (by omega), z_uf_ne _ _ (by omega)]
    · show z_inb (z_cb2 b k a) (z_oo b k) (z_ow2 b a y) j = b j
      rw [z_inb_o (by omega), z_cb2_o (by omega)]
  exact ⟨h0.trans (c 0 (Or.inl rfl)), h1.trans (c 1 (Or.inr rfl))⟩
theorem z_p4c_st {b : Int → Int} {k v : Int} (k0 : 0 ≤ k) (k1 : k < 20) (h : z_p4c b k) : z_p4c (z_uf b (86 + 5 * k + 2) v) k := z_p4c_o h fun p p0 p1 => z_uf_ne _ _ (by omega)
theorem z_gpb_4 {b : Int → Int} {N k : Int} (hb : z_BI b N) (h4 : b 0 ≤ 4) (k0 : 0 ≤ k) (k1 : k < 20) : ∀ q, 0 ≤ q → q < 12 → z_gpb b k q = z_dr b k q := fun q q0 q1 => by
  have h := z_BI_Q hb k q k0 k1 q0 q1
  unfold z_QI at h
  show (if z_bit (z_wbs (z_dr b k) 4) q = 1 then b (186 + 12 * k + q) else 0) = b (186 + 12 * k + q)
  by_cases c : 0 < b (186 + 12 * k + q)
  · rw [if_pos (z_wbs_all (f := z_dr b k) (z_drz hb h4 k0 k1) q0 q1 c)]
  · have e : b (186 + 12 * k + q) = 0 := by omega
    rw [e]
    split <;> rfl
theorem z_od_4 {b : Int → Int} {N k : Int} (hb : z_BI b N) (h4 : b 0 ≤ 4) (k0 : 0 ≤ k) (k1 : k < 20) : z_uf (z_uf (z_cp b (z_dr b k) (426 + 12 * k) 0 4) (86 + 5 * k + 3) (b (86 + 5 * k + 3) + 1)) 6 (b 6 + 1) = z_od b k (z_gpb b k) := by
  have e : z_cp b (z_dr b k) (426 + 12 * k) 0 4 = z_cp b (z_gpb b k) (426 + 12 * k) 0 12 := by
    funext j
    unfold z_cp
    by_cases c : 426 + 12 * k ≤ j ∧ j < 426 + 12 * k + 12
    · rw [if_pos c, z_gpb_4 hb h4 k0 k1 _ (by omega) (by omega)]
      by_cases c2 : 426 + 12 * k ≤ j ∧ j < 426 + 12 * k + 4
      · rw [if_pos c2]
      · rw [if_neg c2]
        have h1 := z_paz hb h4 k0 k1 (j - (426 + 12 * k)) (by omega) (by omega)
        have h2 := z_drz hb h4 k0 k1 (j - (426 + 12 * k) + 0) (by omega) (by omega)
        rw [show 426 + 12 * k + (j - (426 + 12 * k)) = j by omega] at h1
        rw [h1]
        exact h2.symm
    · rw [if_neg c, if_neg (by omega)]
  unfold z_od
  rw [e]
theorem z_k_od {b : Int → Int} {N k p : Int} (hb : z_BI b N) (hN : N + 1 ≤ 600) (k0 : 0 ≤ k) (k1 : k < b 1) (p0 : 0 ≤ p) (p1 : p < 12) (hc : z_cd b k p) : z_BI (z_od b k (z_gpb b k)) (N + 1) := by
  have hh := z_BI_h hb
  obtain ⟨h1, h2, h3, h4⟩ := z_gpb_ok hb k0 (by omega) p0 p1 hc
  refine z_k_parts (r := z_gpb b k) hb hN k0 k1 h1 h2 h3 h4 (Or.inr (z_uf_self _ _ _)) (fun q q0 q1 => ?_) ?_ (fun j j6 j3 jn => ?_)
  · unfold z_od z_uf z_cp
    rw [if_neg (by omega), if_neg (by omega), if_pos (by omega)]
    congr 1; omega
  · unfold z_od z_uf
    rw [if_neg (by omega), if_pos rfl]
  · unfold z_od z_uf z_cp
    rw [if_neg j6, if_neg j3, if_neg (by omega)]
theorem z_fl_s (ix r : Int → Int) (v : Int) (n : Nat) : z_fl ix r v (n + 1) = z_uf (z_fl ix r v n) (ix n) v := rfl
theorem z_fl_at {ix r : Int → Int} {v j : Int} : ∀ n : Nat, z_fl ix r v n j = v ∨ (z_fl ix r v n j = r j ∧ ∀ i : Nat, i < n → ix i ≠ j) := by
  intro n
  induction n with
  | zero => exact Or.inr ⟨rfl, fun i hi => by omega⟩
  | succ n ih =>
    rw [z_fl_s]
    unfold z_uf
    by_cases c : j = ix n
    · rw [if_pos c]; exact Or.inl rfl
    · rw [if_neg c]
      rcases ih with h | ⟨h1, h2⟩
      · exact Or.inl h
      · refine Or.inr ⟨h1, fun i hi => ?_⟩
        by_cases e : i = n
        · subst e; exact fun q => c q.symm
        · exact h2 i (by omega)
theorem z_fl_out {ix r : Int → Int} {v j : Int} : ∀ n : Nat, (∀ i : Nat, i < n → ix i ≠ j) → z_fl ix r v n j = r j := by
  intro n
  induction n with
  | zero => intro _; rfl
  | succ n ih =>
    intro h
    rw [z_fl_s, z_uf_ne _ _ (fun q => h n (by omega) q.symm)]
    exact ih fun i hi => h i (by omega)
theorem z_ny_4 {b : Int → Int} {N : Int} (hb : z_BI b N) (h4 : b 0 ≤ 4) (h5 : b 1 ≤ 4) : z_fl (fun p => 666 + 12 * (p / 4) + p % 4) (z_uf b 2 (b 2 + 1)) 0 16 = z_o_nextYear b := by
  have hh := z_BI_h hb
  funext j
  show _ = z_cp (z_uf b 2 (b 2 + 1)) (fun _ => 0) 666 0 240 j
  unfold z_cp
  by_cases c : 666 ≤ j ∧ j < 666 + 240
  · rw [if_pos c]
    rcases z_fl_at (ix := fun p => 666 + 12 * (p / 4) + p % 4) (r := z_uf b 2 (b 2 + 1)) (v := 0) (j := j) 16 with h | ⟨h1, h2⟩
    · exact h
    · rw [h1, z_uf_ne _ _ (by omega)]
      show b j = 0
      have hQ := z_BI_Q hb ((j - 666) / 12) ((j - 666) % 12) (by omega) (by omega) (by omega) (by omega)
      unfold z_QI at hQ
      have e : 666 + 12 * ((j - 666) / 12) + (j - 666) % 12 = j := by omega
      rw [e] at hQ
      by_cases c2 : (j - 666) / 12 < 4 ∧ (j - 666) % 12 < 4
      · have h3 := h2 (4 * ((j - 666) / 12) + (j - 666) % 12).toNat (by omega)
        exact absurd (show 666 + 12 * (((4 * ((j - 666) / 12) + (j - 666) % 12).toNat : Nat) / 4 : Int) + (((4 * ((j - 666) / 12) + (j - 666) % 12).toNat : Nat) : Int) % 4 = j by omega) h3
      · have := hQ.2.2.2.2.2.2
        omega
  · rw [if_neg c]
    exact z_fl_out 16 fun i hi => by
      show 666 + 12 * ((i : Int) / 4) + (i : Int) % 4 ≠ j
      omega
def z_sn (k : Int) : Int := if k = 0 then 31 else if k = 1 then 21 else if k = 2 then 2000 else 101
theorem z_sn_rg (k : Int) : 0 < z_sn k ∧ z_sn k ≤ 2000 ∧ z_sn k ≤ z_mo k + 1 := by unfold z_sn z_mo; (repeat' split) <;> omega
theorem z_dst_rg (b : Int → Int) (k : Int) : 1 ≤ z_dst b k ∧ z_dst b k ≤ 2 := by unfold z_dst; split <;> omega
theorem tL_moneyA {G : z_G} {M : z_M} {g : Nat} {N a x y : Int} (h : z_LR M g N) (hN : N + 1 ≤ 600) (b0 : 0 < M g 0) (a0 : 0 ≤ a) (a1 : a ≤ 3) : z_ConP G yL_money cL_money 10 (some .boolean) 8 148 0 0 [.ref (z_ad G 0 20), z_I a, z_I x, z_I y, .ref (z_ad G 0 40), .ref (z_ad G 0 46)] M (some (z_I 1)) (z_PS M N) := by
  rcases (show a = 0 ∨ a = 1 ∨ a = 2 ∨ a = 3 by omega) with rfl | rfl | rfl | rfl
  · exact tL_money0 h hN b0
  · exact tL_money1 h hN b0
  · exact tL_money2 h hN b0
  · exact tL_money3 h hN b0
