/-! ===== money that comes in: the class's and the reference's are the same ===== -/
theorem z_hl_0 {w : Int} (hw : 0 ≤ w) : z_hl 0 w = 0 := by unfold z_hl; split <;> omega
theorem z_ern_z {b : Int → Int} {o : Int} (hw : 0 ≤ b (14 + 6 * o + 1)) : z_ern b o 0 = b := by
  funext j
  unfold z_ern
  rw [z_hl_0 hw]
  unfold z_uf
  by_cases e1 : j = 14 + 6 * o
  · subst e1; rw [if_pos rfl]; omega
  · rw [if_neg e1]
    by_cases e2 : j = 14 + 6 * o + 1
    · subst e2; rw [if_pos rfl]; omega
    · rw [if_neg e2]
      by_cases e3 : j = 14 + 6 * o + 2
      · subst e3; rw [if_pos rfl]; omega
      · rw [if_neg e3]
theorem z_inb_ern {y x : Int → Int} {p s : Int} (p0 : 0 ≤ p) (p1 : p < 12) (h : ∀ j, 14 ≤ j → j < 86 → y j = x j) : ∀ j, z_inb y p s j = if j = 3 then y 3 + z_hl s (x (14 + 6 * p + 1)) else if 14 ≤ j ∧ j < 86 then z_ern x p s j else y j := by
  intro j
  have e1 := h (14 + 6 * p + 1) (by omega) (by omega)
  have e0 := h (14 + 6 * p) (by omega) (by omega)
  have e2 := h (14 + 6 * p + 2) (by omega) (by omega)
  unfold z_inb
  rw [e1, e0, e2]
  by_cases c3 : j = 3
  · subst c3; rw [z_uf_self, if_pos rfl]
  · rw [z_uf_ne _ _ c3, if_neg c3]
    by_cases c : 14 ≤ j ∧ j < 86
    · rw [if_pos c]
      by_cases c0 : j = 14 + 6 * p
      · subst c0; rw [z_uf_self, z_ern_0]
      · rw [z_uf_ne _ _ c0]
        by_cases c2 : j = 14 + 6 * p + 2
        · subst c2; rw [z_uf_self, z_ern_2]
        · rw [z_uf_ne _ _ c2]
          by_cases c1 : j = 14 + 6 * p + 1
          · subst c1; rw [z_uf_self, z_ern_1]
          · rw [z_uf_ne _ _ c1, z_ern_o ⟨c0, c1, c2⟩]
            exact h j c.1 c.2
    · rw [if_neg c, z_uf_ne _ _ (by omega), z_uf_ne _ _ (by omega), z_uf_ne _ _ (by omega)]
theorem z_lps_s {y : Int} {S : Int → Int} {k : Int} {x : (Int → Int) × Int} (i : Nat) : z_lps y S k (i + 1) x = z_stp y S k i (z_lps y S k i x) := rfl
theorem z_com_fee {b B S : Int → Int} {k a : Int} {s0 r0 : Int → Int} (n1 : 0 ≤ b 0 ∧ b 0 ≤ 12) (hw : 0 ≤ b (14 + 6 * B 10 + 1)) (q8 : B 8 = z_kp b a) (q9 : B 9 = 0) (q11 : B 11 = 0) (hS : ∀ p, 0 ≤ p → p < 12 → S p = (z_sh b k (z_rs b a 0) s0 r0).1 p) :
    z_com2 b k a 0 s0 r0 = (z_bin b B S a, (z_eA b B S).2) := by
  have x0 : z_e0 b B = (b, z_kp b a) := by
    unfold z_e0
    rw [q11, z_ern_z hw, z_hl_0 hw, q8, q9, Int.add_zero, Int.add_zero]
  have ci : z_ci b k a 0 = (z_cb1 b a, z_kp b a) := if_pos rfl
  have key : ∀ i : Nat, i ≤ 12 → (z_lps 0 (z_sh b k (z_rs b a 0) s0 r0).1 k i (z_ci b k a 0)).2 = (z_eL S (z_e0 b B) i).2 ∧ ∀ j, (z_lps 0 (z_sh b k (z_rs b a 0) s0 r0).1 k i (z_ci b k a 0)).1 j = if j = 3 then b 3 + (z_eL S (z_e0 b B) i).2 else if j = 4 then b 4 + a else (z_eL S (z_e0 b B) i).1 j := by
    intro i
    induction i with
    | zero =>
      intro _
      show (z_ci b k a 0).2 = (z_e0 b B).2 ∧ ∀ j, (z_ci b k a 0).1 j = if j = 3 then b 3 + (z_e0 b B).2 else if j = 4 then b 4 + a else (z_e0 b B).1 j
      rw [ci, x0]
      refine ⟨rfl, fun j => ?_⟩
      show z_uf (z_uf b 4 (b 4 + a)) 3 (b 3 + z_kp b a) j = _
      unfold z_uf
      rfl
    | succ i ih =>
      intro hi
      obtain ⟨i1, i2⟩ := ih (by omega)
      have hSi := hS i (by omega) (by omega)
      have hx : z_eL S (z_e0 b B) (i + 1) = (z_ern (z_eL S (z_e0 b B) i).1 i (S i), (z_eL S (z_e0 b B) i).2 + z_hl (S i) ((z_eL S (z_e0 b B) i).1 (14 + 6 * (i : Int) + 1))) := rfl
      rw [z_lps_s, hx, hSi]
      obtain ⟨y, hy⟩ : ∃ y, z_lps 0 (z_sh b k (z_rs b a 0) s0 r0).1 k i (z_ci b k a 0) = y := ⟨_, rfl⟩
      obtain ⟨x, hx2⟩ : ∃ x, z_eL S (z_e0 b B) i = x := ⟨_, rfl⟩
      obtain ⟨s, hs⟩ : ∃ s, (z_sh b k (z_rs b a 0) s0 r0).1 i = s := ⟨_, rfl⟩
      rw [hy, hx2] at i1 i2
      rw [hy, hx2, hs]
      have hstp : z_stp 0 (z_sh b k (z_rs b a 0) s0 r0).1 k i y = (z_inb y.1 i s, y.2 + z_hl s (y.1 (14 + 6 * (i : Int) + 1))) := by
        unfold z_stp
        rw [if_pos rfl, hs]
      rw [hstp]
      have ey : ∀ j, 14 ≤ j → j < 86 → y.1 j = x.1 j := fun j j0 j1 => by rw [i2 j, if_neg (by omega), if_neg (by omega)]
      refine ⟨?_, fun j => ?_⟩
      · show y.2 + z_hl s (y.1 _) = x.2 + z_hl s (x.1 _)
        rw [i1, ey _ (by omega) (by omega)]
      · show z_inb y.1 i s j = if j = 3 then b 3 + (x.2 + z_hl s (x.1 _)) else if j = 4 then b 4 + a else z_ern x.1 i s j
        rw [z_inb_ern (by omega) (by omega) ey j]
        by_cases c3 : j = 3
        · subst c3
          rw [if_pos rfl, if_pos rfl, i2 3, if_pos rfl, Int.add_assoc]
        · rw [if_neg c3, if_neg c3]
          by_cases c : 14 ≤ j ∧ j < 86
          · rw [if_pos c, if_neg (by omega)]
          · rw [if_neg c, i2 j, if_neg c3]
            split
            · rfl
            · exact (z_ern_o (by omega)).symm
  have h := key (b 0).toNat (by omega)
  unfold z_com2
  refine Prod.ext ?_ h.1
  funext j
  rw [h.2 j]
  have xo : ∀ j, j < 14 ∨ 86 ≤ j → (z_eA b B S).1 j = b j := fun j hj => by
    unfold z_eA
    rw [z_eL_o hj _ (by omega), x0]
  show _ = z_uf (z_uf (z_eA b B S).1 3 _) 4 _ j
  unfold z_uf
  by_cases c4 : j = 4
  · subst c4; rw [if_neg (by decide), if_pos rfl, if_pos rfl, xo 4 (by decide)]
  · rw [if_neg c4, if_neg c4]
    by_cases c3 : j = 3
    · subst c3; rw [if_pos rfl, if_pos rfl, xo 3 (by decide)]; rfl
    · rw [if_neg c3, if_neg c3]; rfl
theorem z_com_roy {b B S : Int → Int} {k a : Int} {s0 r0 : Int → Int} (k0 : 0 ≤ k) (k1 : k < 20) (n1 : 0 ≤ b 0 ∧ b 0 ≤ 12) (o1 : 0 ≤ z_oo b k ∧ z_oo b k < 12) (q8 : B 8 = z_kp b a) (q9 : B 9 = z_sm 12 (fun p => z_ov b k p ((z_sh b k (z_rs b a 1) s0 r0).1 p))) (q10 : B 10 = z_oo b k) (q11 : B 11 = z_ow2 b a 1)
    (hS : ∀ p, 0 ≤ p → p < 12 → S p = (z_sh b k (z_rs b a 1) s0 r0).1 p - z_ov b k p ((z_sh b k (z_rs b a 1) s0 r0).1 p)) (hz : ∀ p, b 0 ≤ p → p < 12 → (z_sh b k (z_rs b a 1) s0 r0).1 p = 0) :
    z_com2 b k a 1 s0 r0 = (z_bin (z_rob b k a (B 9) S) B S a, (z_eA (z_rob b k a (B 9) S) B S).2) := by
  obtain ⟨Sh, hSh⟩ : ∃ Sh, (z_sh b k (z_rs b a 1) s0 r0).1 = Sh := ⟨_, rfl⟩
  rw [hSh] at q9 hS hz
  obtain ⟨b2, hb2⟩ : ∃ b2, z_rob b k a (B 9) S = b2 := ⟨_, rfl⟩
  have b2o : ∀ j, j < 86 → j ≠ 7 → b2 j = b j := fun j h1 h2 => by rw [← hb2]; exact z_rob_o k0 h1 h2
  have b27 : b2 7 = b 7 + B 9 := by rw [← hb2]; exact z_uf_self _ _ _
  have b2r : b2 (86 + 5 * k + 4) = b (86 + 5 * k + 4) + a := by rw [← hb2]; unfold z_rob z_ay; rw [z_uf_ne _ _ (by omega), z_cp_o (by omega), z_uf_self]
  have b2g : ∀ p, 0 ≤ p → p < 12 → b2 (666 + 12 * k + p) = b (666 + 12 * k + p) + S p := fun p p0 p1 => by
    rw [← hb2]; unfold z_rob z_ay z_cp
    rw [z_uf_ne _ _ (by omega), if_pos (by omega), show 666 + 12 * k + p - (666 + 12 * k) + 0 = p by omega]
    show z_uf b (86 + 5 * k + 4) _ (666 + 12 * k + p) + S p = _
    rw [z_uf_ne _ _ (by omega)]
  have b2h : ∀ j, 86 ≤ j → j ≠ 86 + 5 * k + 4 → ¬ (666 + 12 * k ≤ j ∧ j < 666 + 12 * k + 12) → b2 j = b j := fun j h1 h2 h3 => by rw [← hb2]; unfold z_rob z_ay; rw [z_uf_ne _ _ (by omega), z_cp_o h3, z_uf_ne _ _ h2]
  have ci : z_ci b k a 1 = (z_inb (z_cb2 b k a) (z_oo b k) (z_ow2 b a 1), z_kp b a + z_hl (z_ow2 b a 1) (z_cb2 b k a (14 + 6 * z_oo b k + 1))) := if_neg (by decide)
  have cb : ∀ j, z_cb2 b k a j = if j = 86 + 5 * k + 4 then b j + a else if j = 3 then b 3 + z_kp b a else if j = 4 then b 4 + a else b j := fun j => by
    unfold z_cb2 z_cb1 z_uf
    by_cases c : j = 86 + 5 * k + 4
    · rw [if_pos c, if_pos c, c]
    · rw [if_neg c, if_neg c]
  have cbp : ∀ j, 14 ≤ j → j < 86 → z_cb2 b k a j = b2 j := fun j j0 j1 => by rw [cb, if_neg (by omega), if_neg (by omega), if_neg (by omega), b2o j j1 (by omega)]
  have x0 : z_e0 b2 B = (z_ern b2 (z_oo b k) (z_ow2 b a 1), z_kp b a + B 9 + z_hl (z_ow2 b a 1) (b2 (14 + 6 * z_oo b k + 1))) := by unfold z_e0; rw [q10, q11, q8]
  have key : ∀ i : Nat, i ≤ 12 → (z_lps 1 Sh k i (z_ci b k a 1)).2 = (z_eL S (z_e0 b2 B) i).2 - B 9 + z_sm i (fun p => z_ov b k p (Sh p)) ∧ ∀ j, (z_lps 1 Sh k i (z_ci b k a 1)).1 j =
      if j = 3 then b 3 + (z_lps 1 Sh k i (z_ci b k a 1)).2 else if j = 4 then b 4 + a else if j = 7 then b 7 + z_sm i (fun p => z_ov b k p (Sh p)) else if j = 86 + 5 * k + 4 then b j + a else if 666 + 12 * k ≤ j ∧ j < 666 + 12 * k + i then b j + S (j - (666 + 12 * k)) else if 14 ≤ j ∧ j < 86 then (z_eL S (z_e0 b2 B) i).1 j else b j := by
    intro i
    induction i with
    | zero =>
      intro _
      have e2 : (z_ci b k a 1).2 = (z_e0 b2 B).2 - B 9 + 0 := by rw [ci, x0]; show _ = z_kp b a + B 9 + _ - B 9 + 0; rw [cbp (14 + 6 * z_oo b k + 1) (by omega) (by omega)]; show z_kp b a + _ = _; omega
      refine ⟨e2, fun j => ?_⟩
      show (z_ci b k a 1).1 j = if j = 3 then b 3 + (z_ci b k a 1).2 else if j = 4 then b 4 + a else if j = 7 then b 7 + 0 else if j = 86 + 5 * k + 4 then b j + a else if 666 + 12 * k ≤ j ∧ j < 666 + 12 * k + ((0 : Nat) : Int) then b j + S (j - (666 + 12 * k)) else if 14 ≤ j ∧ j < 86 then (z_e0 b2 B).1 j else b j
      rw [ci, x0]
      show z_inb (z_cb2 b k a) (z_oo b k) (z_ow2 b a 1) j = if j = 3 then b 3 + (z_kp b a + z_hl (z_ow2 b a 1) (z_cb2 b k a _)) else _
      rw [z_inb_ern o1.1 o1.2 cbp j, cbp (14 + 6 * z_oo b k + 1) (by omega) (by omega)]
      by_cases c3 : j = 3
      · rw [if_pos c3, if_pos c3, cb, if_neg (by omega), if_pos rfl, Int.add_assoc]
      · rw [if_neg c3, if_neg c3]
        by_cases c : 14 ≤ j ∧ j < 86
        · rw [if_pos c, if_neg (by omega), if_neg (by omega), if_neg (by omega), if_neg (by omega), if_pos c]
        · rw [if_neg c, cb, if_neg c3]
          by_cases c4 : j = 4
          · subst c4; rw [if_neg (by omega), if_pos rfl, if_pos rfl]
          · rw [if_neg c4, if_neg c4]
            by_cases c7 : j = 7
            · subst c7; rw [if_neg (by omega), if_pos rfl, Int.add_zero]
            · rw [if_neg c7]
              by_cases cr : j = 86 + 5 * k + 4
              · rw [if_pos cr, if_pos cr]
              · rw [if_neg cr, if_neg cr, if_neg (by omega), if_neg c]
    | succ i ih =>
      intro hi
      obtain ⟨i1, i2⟩ := ih (by omega)
      have hSi := hS i (by omega) (by omega)
      have hx : z_eL S (z_e0 b2 B) (i + 1) = (z_ern (z_eL S (z_e0 b2 B) i).1 i (S i), (z_eL S (z_e0 b2 B) i).2 + z_hl (S i) ((z_eL S (z_e0 b2 B) i).1 (14 + 6 * (i : Int) + 1))) := rfl
      rw [z_lps_s, hx, z_sm_s]
      obtain ⟨y, hy⟩ : ∃ y, z_lps 1 Sh k i (z_ci b k a 1) = y := ⟨_, rfl⟩
      obtain ⟨x, hx2⟩ : ∃ x, z_eL S (z_e0 b2 B) i = x := ⟨_, rfl⟩
      obtain ⟨V, hV⟩ : ∃ V, z_sm i (fun p => z_ov b k p (Sh p)) = V := ⟨_, rfl⟩
      rw [hy, hx2, hV] at i1 i2
      rw [hy, hx2, hV]
      have y10 : y.1 10 = b 10 := by rw [i2 10, if_neg (by decide), if_neg (by decide), if_neg (by decide), if_neg (by omega), if_neg (by omega), if_neg (by omega)]
      have yg : y.1 (666 + 12 * k + i) = b (666 + 12 * k + i) := by rw [i2, if_neg (by omega), if_neg (by omega), if_neg (by omega), if_neg (by omega), if_neg (by omega), if_neg (by omega)]
      obtain ⟨ov, hov⟩ : ∃ ov, z_ov b k i (Sh i) = ov := ⟨_, rfl⟩
      have eov : z_ov y.1 k i (Sh i) = ov := by rw [← hov]; unfold z_ov; rw [y10, yg]
      rw [hov] at hSi
      have ecp : z_cpb y.1 k i (Sh i) = z_uf (z_uf (z_uf y.1 3 (y.1 3 + ov)) 7 (y.1 7 + ov)) (666 + 12 * k + i) (b (666 + 12 * k + i) + S i) := by unfold z_cpb; rw [eov, yg, hSi]
      obtain ⟨w, hw⟩ : ∃ w, z_cpb y.1 k i (Sh i) = w := ⟨_, rfl⟩
      have hstp : z_stp 1 Sh k i y = (z_inb w i (S i), y.2 + ov + z_hl (S i) (w (14 + 6 * (i : Int) + 1))) := by
        unfold z_stp
        rw [if_neg (by decide), eov, hw, ← hSi]
      rw [hstp]
      have w3 : w 3 = y.1 3 + ov := by rw [← hw, ecp, z_uf_ne _ _ (by omega), z_uf_ne _ _ (by decide), z_uf_self]
      have w7 : w 7 = y.1 7 + ov := by rw [← hw, ecp, z_uf_ne _ _ (by omega), z_uf_self]
      have wg : w (666 + 12 * k + i) = b (666 + 12 * k + i) + S i := by rw [← hw, ecp, z_uf_self]
      have wo : ∀ j, j ≠ 3 → j ≠ 7 → j ≠ 666 + 12 * k + i → w j = y.1 j := fun j h1 h2 h3 => by rw [← hw, ecp, z_uf_ne _ _ h3, z_uf_ne _ _ h2, z_uf_ne _ _ h1]
      have ey : ∀ j, 14 ≤ j → j < 86 → w j = x.1 j := fun j j0 j1 => by rw [wo j (by omega) (by omega) (by omega), i2 j, if_neg (by omega), if_neg (by omega), if_neg (by omega), if_neg (by omega), if_neg (by omega), if_pos ⟨j0, j1⟩]
      refine ⟨?_, fun j => ?_⟩
      · show y.2 + ov + z_hl (S i) (w _) = x.2 + z_hl (S i) (x.1 _) - B 9 + (V + z_ov b k i (Sh i))
        rw [i1, ey _ (by omega) (by omega), hov]
        omega
      · show z_inb w i (S i) j = if j = 3 then b 3 + (y.2 + ov + z_hl (S i) (w _)) else if j = 4 then b 4 + a else if j = 7 then b 7 + (V + z_ov b k i (Sh i)) else if j = 86 + 5 * k + 4 then b j + a else if 666 + 12 * k ≤ j ∧ j < 666 + 12 * k + ((i + 1 : Nat) : Int) then b j + S (j - (666 + 12 * k)) else if 14 ≤ j ∧ j < 86 then z_ern x.1 i (S i) j else b j
        rw [z_inb_ern (by omega) (by omega) ey j, ey (14 + 6 * (i : Int) + 1) (by omega) (by omega), hov]
        by_cases c3 : j = 3
        · subst c3
          rw [if_pos rfl, if_pos rfl, w3, i2 3, if_pos rfl]
          omega
        · rw [if_neg c3, if_neg c3]
          by_cases c : 14 ≤ j ∧ j < 86
          · rw [if_pos c, if_neg (by omega), if_neg (by omega), if_neg (by omega), if_neg (by omega), if_pos c]
          · rw [if_neg c]
            by_cases c4 : j = 4
            · subst c4; rw [if_pos rfl, wo 4 (by decide) (by decide) (by omega), i2 4, if_neg (by decide), if_pos rfl]
            · rw [if_neg c4]
              by_cases c7 : j = 7
              · subst c7; rw [if_pos rfl, w7, i2 7, if_neg (by decide), if_neg (by decide), if_pos rfl]; omega
              · rw [if_neg c7]
                by_cases cr : j = 86 + 5 * k + 4
                · rw [if_pos cr, wo j c3 c7 (by omega), i2 j, if_neg c3, if_neg c4, if_neg c7, if_pos cr]
                · rw [if_neg cr]
                  by_cases cg : j = 666 + 12 * k + i
                  · subst cg
                    rw [wg, if_pos (by omega)]
                    congr 2
                    omega
                  · rw [wo j c3 c7 cg, i2 j, if_neg c3, if_neg c4, if_neg c7, if_neg cr]
                    by_cases ch : 666 + 12 * k ≤ j ∧ j < 666 + 12 * k + (i : Int)
                    · rw [if_pos ch, if_pos (by omega)]
                    · rw [if_neg ch, if_neg c, if_neg (by omega), if_neg c]
  obtain ⟨n, hn⟩ : ∃ n : Nat, (n : Int) = b 0 := ⟨(b 0).toNat, Int.toNat_of_nonneg n1.1⟩
  have h := key n (by omega)
  have ovz : z_sm 12 (fun p => z_ov b k p (Sh p)) = z_sm n (fun p => z_ov b k p (Sh p)) := z_sm_tail (by omega) (fun i i0 i1 => by
    show z_ov b k i (Sh i) = 0
    rw [hz i (by omega) (by omega)]
    have := z_ov_rg (b := b) (k := k) (p := (i : Int)) (Int.le_refl 0)
    omega)
  have hA : z_eA b2 B S = z_eL S (z_e0 b2 B) n := by unfold z_eA; rw [b2o 0 (by decide) (by decide), ← hn]; rfl
  have xo : ∀ j, j < 14 ∨ 86 ≤ j → (z_eA b2 B S).1 j = b2 j := fun j hj => by
    rw [hA, z_eL_o hj _ (by omega), x0]
    exact z_ern_o (by omega)
  have e2 : (z_lps 1 Sh k n (z_ci b k a 1)).2 = (z_eA b2 B S).2 := by rw [h.1, hA, q9, ovz]; omega
  unfold z_com2
  rw [hSh, ← hn, hb2]
  refine Prod.ext ?_ e2
  funext j
  show (z_lps 1 Sh k n (z_ci b k a 1)).1 j = z_uf (z_uf (z_eA b2 B S).1 3 _) 4 _ j
  rw [h.2 j, e2]
  unfold z_uf
  by_cases c4 : j = 4
  · subst c4; rw [if_neg (by decide), if_pos rfl, if_pos rfl, xo 4 (by decide), b2o 4 (by decide) (by decide)]
  · rw [if_neg c4, if_neg c4]
    by_cases c3 : j = 3
    · subst c3; rw [if_pos rfl, if_pos rfl, xo 3 (by decide), b2o 3 (by decide) (by decide)]
    · rw [if_neg c3, if_neg c3]
      by_cases c7 : j = 7
      · subst c7; rw [if_pos rfl, xo 7 (by decide), b27, q9, ovz]
      · rw [if_neg c7]
        by_cases cr : j = 86 + 5 * k + 4
        · rw [if_pos cr, xo j (by omega), cr, b2r]
        · rw [if_neg cr]
          by_cases cg : 666 + 12 * k ≤ j ∧ j < 666 + 12 * k + 12
          · have e : b2 j = b j + S (j - (666 + 12 * k)) := by
              have q := b2g (j - (666 + 12 * k)) (by omega) (by omega)
              rwa [show 666 + 12 * k + (j - (666 + 12 * k)) = j by omega] at q
            rw [xo j (by omega), e]
            by_cases cn : 666 + 12 * k ≤ j ∧ j < 666 + 12 * k + (n : Int)
            · rw [if_pos cn]
            · rw [if_neg cn, if_neg (by omega)]
              have z1 := hz (j - (666 + 12 * k)) (by omega) (by omega)
              have z2 := hS (j - (666 + 12 * k)) (by omega) (by omega)
              rw [z1] at z2
              have := z_ov_rg (b := b) (k := k) (p := j - (666 + 12 * k)) (Int.le_refl 0)
              omega
          · rw [if_neg (by omega)]
            by_cases c : 14 ≤ j ∧ j < 86
            · rw [if_pos c, hA]
            · rw [if_neg c, xo j (by omega)]
              by_cases c86 : j < 86
              · rw [b2o j c86 c7]
              · rw [b2h j (by omega) cr cg]
