/-! ===== the law: what is told ===== -/
theorem z_or_add {x p : Nat} (h : x < 2 ^ p) : x ||| 2 ^ p = x + 2 ^ p := by
  have e := Nat.two_pow_add_eq_or_of_lt h 1
  rw [Nat.mul_one] at e
  rw [Nat.or_comm, ← e, Nat.add_comm]
theorem z_wd_lt (b : Int → Int) (k : Int) : ∀ n : Nat, z_wd b k n < 2 ^ n := by
  intro n
  induction n with
  | zero => show (0 : Int) < 2 ^ 0; decide
  | succ n ih =>
    have h0 := z_wd_nn b k n
    have hs : (2 : Int) ^ (n + 1) = 2 ^ n + 2 ^ n := by rw [Int.pow_succ]; omega
    have hp : (0 : Int) < 2 ^ n := Int.pow_pos (by decide)
    unfold z_wd
    split
    · exact z_bor_lt h0 (by omega) (by omega) (by omega)
    · omega
theorem z_wd_1 {b : Int → Int} {k : Int} {n : Nat} (h : z_cd b k n) : z_wd b k n + ((2 ^ ((n : Int)).toNat : Nat) : Int) = z_wd b k (n + 1) := by
  have h0 := z_wd_nn b k n
  have hl := z_wd_lt b k n
  have e : z_wd b k (n + 1) = z_bor (z_wd b k n) n := if_pos h
  have e2 : (z_wd b k n).toNat < 2 ^ n := by
    have h3 : ((z_wd b k n).toNat : Int) < ((2 ^ n : Nat) : Int) := by rw [Int.toNat_of_nonneg h0, Int.natCast_pow]; exact hl
    exact Int.ofNat_lt.mp h3
  rw [e]
  unfold z_bor
  rw [Int.toNat_natCast, z_or_add e2, Int.natCast_add, Int.toNat_of_nonneg h0]
theorem z_wd_0 {b : Int → Int} {k : Int} {n : Nat} (h : ¬ z_cd b k n) : z_wd b k n + 0 = z_wd b k (n + 1) := by
  have e : z_wd b k (n + 1) = z_wd b k n := if_neg h
  rw [e, Int.add_zero]
theorem z_sm_rg {f : Int → Int} {n : Nat} (hn : n ≤ 20) (h : ∀ i : Nat, i < n → 0 ≤ f i ∧ f i ≤ 1000000) : z_rg (z_sm n f) := by
  have q := z_smb (a := 0) (b := 1000000) n h
  exact ⟨by omega, by omega⟩
theorem z_one (p : Prop) [Decidable p] : 0 ≤ (if p then (1 : Int) else 0) ∧ (if p then (1 : Int) else 0) ≤ 1000000 := by split <;> omega
theorem z_one' (p : Prop) [Decidable p] : 0 ≤ (if p then (0 : Int) else 1) ∧ (if p then (0 : Int) else 1) ≤ 1000000 := by split <;> omega
theorem z_owns_rg {b : Int → Int} {N p : Int} (hb : z_BI b N) : z_rg (z_owns b p) := z_sm_rg (by have := z_BI_h hb; omega) fun i _ => z_one _
theorem z_plc_rg {b : Int → Int} {N p : Int} (hb : z_BI b N) : z_rg (z_plc b p) := z_sm_rg (by have := z_BI_h hb; omega) fun i _ => z_one _
theorem z_wrote_rg {b : Int → Int} {N p : Int} (hb : z_BI b N) (p0 : 0 ≤ p) (p1 : p < 12) : z_rg (z_wrote b p) := z_sm_rg (by have := z_BI_h hb; omega) fun i hi => by
  have hh := z_BI_h hb
  have h := z_BI_Q hb i p (by omega) (by omega) p0 p1
  unfold z_QI at h
  exact ⟨h.1, by show b (186 + 12 * (i : Int) + p) ≤ 1000000; omega⟩
theorem z_pwi_rg {b : Int → Int} {N k : Int} (hb : z_BI b N) : z_rg (z_pwi b k) := z_sm_rg (by have := z_BI_h hb; omega) fun i _ => z_one _
theorem z_stg_rg {b : Int → Int} {N s : Int} (hb : z_BI b N) : z_rg (z_stg b s) := z_sm_rg (by have := z_BI_h hb; omega) fun i _ => z_one _
theorem z_soldN_rg {b : Int → Int} {N : Int} (hb : z_BI b N) : z_rg (z_soldN b) := z_sm_rg (by have := z_BI_h hb; omega) fun i _ => z_one' _
theorem z_wd_rgl {b : Int → Int} {k : Int} {n : Nat} (hn : n ≤ 12) : z_rg (z_wd b k n) := by
  have h0 := z_wd_nn b k n
  have h1 := z_wd_lt b k n
  have h2 : (2 : Int) ^ n ≤ 2 ^ 12 := by
    have h3 : (2 : Nat) ^ n ≤ 2 ^ 12 := Nat.pow_le_pow_right (by decide) hn
    have h4 := Int.ofNat_le.mpr h3
    rw [Int.natCast_pow, Int.natCast_pow] at h4
    exact h4
  have h5 : (2 : Int) ^ 12 = 4096 := by decide
  exact ⟨by omega, by omega⟩
theorem z_sumOf_1 {b : Int → Int} {N : Int} (hb : z_BI b N) : z_rg (z_sumOf b 1) := by
  have hh := z_BI_h hb
  have h1 : ∀ i : Nat, i < (b 0).toNat → 0 ≤ b (14 + 6 * (i : Int) + 1) ∧ b (14 + 6 * (i : Int) + 1) ≤ 60000000 := fun i hi => by
    have h := z_BI_P hb i (by omega) (by omega)
    unfold z_PI at h
    omega
  have q := z_smb (f := fun p => b (14 + 6 * p + 1)) (a := 0) (b := 60000000) (b 0).toNat h1
  unfold z_sumOf
  exact ⟨by omega, by omega⟩
theorem z_m1d {a : Int} (h0 : 0 ≤ a) (h1 : a ≤ 2147483647) : FP.dmul FP.dconst1 (FP.i2d (Int32.ofInt a)) = FP.i2d (Int32.ofInt a) := by
  have e : FP.dconst1 = FP.i2d (Int32.ofInt 1) := by decide +kernel
  by_cases c : a = 0
  · subst c
    decide +kernel
  · rw [e, z_fmul (by decide) (by omega) (by omega) (by decide) h1, Int.one_mul]
theorem z_spr_rg {b : Int → Int} {N : Int} (hb : z_BI b N) (h4 : b 0 ≤ 4) : 0 ≤ z_spr b (b 0).toNat ∧ z_spr b (b 0).toNat ≤ 960000000 := by
  have hh := z_BI_h hb
  have h1 : ∀ i : Nat, i < (b 0).toNat → 0 ≤ (fun i => z_sm i.toNat (fun j => z_ab (b (14 + 6 * i) - b (14 + 6 * j)))) (i : Int) ∧ (fun i => z_sm i.toNat (fun j => z_ab (b (14 + 6 * i) - b (14 + 6 * j)))) (i : Int) ≤ 240000000 := fun i hi => by
    have h2 := z_smb (f := fun j => z_ab (b (14 + 6 * (i : Int)) - b (14 + 6 * j))) (a := 0) (b := 60000000) ((i : Int)).toNat (fun j hj => by
      have a1 := z_BI_bal hb (p := i) (by omega) (by omega)
      have a2 := z_BI_bal hb (p := j) (by omega) (by omega)
      show 0 ≤ z_ab (b (14 + 6 * (i : Int)) - b (14 + 6 * (j : Int))) ∧ z_ab (b (14 + 6 * (i : Int)) - b (14 + 6 * (j : Int))) ≤ 60000000
      unfold z_ab
      split <;> omega)
    show 0 ≤ z_sm _ _ ∧ z_sm _ _ ≤ _
    omega
  have h3 := z_smb (f := fun i => z_sm i.toNat (fun j => z_ab (b (14 + 6 * i) - b (14 + 6 * j)))) (a := 0) (b := 240000000) (b 0).toNat h1
  unfold z_spr
  omega
section ZLT
variable {G : z_G} {Z : z_Z} {d : z_Md} {Q : State → Prop} {pc : Nat} {ls : List (Option Value)} {st : List Value} {M : z_M} {k n : Nat}
theorem z_topD2 {v v' : UInt64} {x : Value} (e : v = v') (kk : z_J G Z d Q pc ls (x :: .double v' :: st) M k n) : z_J G Z d Q pc ls (x :: .double v :: st) M k n := e ▸ kk
end ZLT
theorem tL_pens {G : z_G} {M : z_M} {g : Nat} {N : Int} (hg : g < 7) (hn : M 7 2 = (g : Int)) (hb : z_BI (M g) N) (hE : M 40 = M g) (h4 : M g 0 ≤ 4) (h5 : M g 1 ≤ 4) : KL_pens G [.ref (z_ad G 0 20), .ref (z_ad G 0 40), .ref (z_ad G 0 42), .ref (z_ad G 0 46)] M (.inl (some (z_I 1))) M := by
  refine z_con (ls := [some (.ref (z_ad G 0 20)), some (.ref (z_ad G 0 40)), some (.ref (z_ad G 0 42)), some (.ref (z_ad G 0 46)), none, none, none, none, none]) (by decide +kernel) (Nat.le_of_ble_eq_true rfl) rfl ?_
  intro Z htb
  refine z_rng fun hr => ?_
  have hh := z_BI_h hb
  have y_rb : ∀ i, z_rg (M g i) := fun i => hr g i (by omega)
  refine z_iconst dL_pens_0 ?_
  refine z_istore_4 dL_pens_1 (Nat.le_of_ble_eq_true rfl) rfl ?_
  refine z_upn (P := fun i : Nat => z_J G Z _ _ 3 [some (.ref (z_ad G 0 20)), some (.ref (z_ad G 0 40)), some (.ref (z_ad G 0 42)), some (.ref (z_ad G 0 46)), some (z_I i), none, none, none, none] [] M 0 0) (M g 0).toNat ?_ ?_
  · refine z_rng fun hr => ?_
    refine z_iload dL_pens_3 rfl ?_
    refine z_aloadn dL_pens_5 rfl ?_
    refine z_iconst dL_pens_6 ?_
    refine z_lld (R := 40) (j := 0) al_c (Or.inl (by decide)) (congrFun hE _) (by omega) (by omega) (Nat.le_of_ble_eq_true rfl) (by omega) dL_pens_7 ?_
    refine z_icmp_ge (tgt := 247) (by first | exact y_rb _ | omega | exact z_owns_rg hb | exact z_plc_rg hb | exact z_wrote_rg hb (by omega) (by omega) | exact z_pwi_rg hb | exact z_stg_rg hb | exact z_soldN_rg hb | exact z_wd_rgl (by omega) | exact z_sumOf_1 hb) (by first | exact y_rb _ | omega | exact z_owns_rg hb | exact z_plc_rg hb | exact z_wrote_rg hb (by omega) (by omega) | exact z_pwi_rg hb | exact z_stg_rg hb | exact z_soldN_rg hb | exact z_wd_rgl (by omega) | exact z_sumOf_1 hb) dL_pens_8 (by decide) (fun h8 => ?_) (fun h8 => ?_)
    · refine z_iconst dL_pens_247 ?_
      exact z_zret dL_pens_248 (by first | rfl | omega | (split <;> omega)) rfl (by first | decide | (split <;> simp))
    · exfalso; omega
  · intro i hi y_ih
    refine z_rng fun hr => ?_
    refine z_iload dL_pens_3 rfl ?_
    refine z_aloadn dL_pens_5 rfl ?_
    refine z_iconst dL_pens_6 ?_
    refine z_lld (R := 40) (j := 0) al_c (Or.inl (by decide)) (congrFun hE _) (by omega) (by omega) (Nat.le_of_ble_eq_true rfl) (by omega) dL_pens_7 ?_
    refine z_icmp_ge (tgt := 247) (by first | exact y_rb _ | omega | exact z_owns_rg hb | exact z_plc_rg hb | exact z_wrote_rg hb (by omega) (by omega) | exact z_pwi_rg hb | exact z_stg_rg hb | exact z_soldN_rg hb | exact z_wd_rgl (by omega) | exact z_sumOf_1 hb) (by first | exact y_rb _ | omega | exact z_owns_rg hb | exact z_plc_rg hb | exact z_wrote_rg hb (by omega) (by omega) | exact z_pwi_rg hb | exact z_stg_rg hb | exact z_soldN_rg hb | exact z_wd_rgl (by omega) | exact z_sumOf_1 hb) dL_pens_8 (by decide) (fun h8 => ?_) (fun h8 => ?_)
    · exfalso; omega
    · refine z_iconst dL_pens_11 ?_
      refine z_istore_5 dL_pens_12 (Nat.le_of_ble_eq_true rfl) rfl ?_
      refine z_iconst dL_pens_14 ?_
      refine z_istore_6 dL_pens_15 (Nat.le_of_ble_eq_true rfl) rfl ?_
      refine z_iconst dL_pens_17 ?_
      refine z_istore_7 dL_pens_18 (Nat.le_of_ble_eq_true rfl) rfl ?_
      refine z_iconst dL_pens_20 ?_
      refine z_istore_8 dL_pens_21 (Nat.le_of_ble_eq_true rfl) rfl ?_
      refine z_upn (P := fun j : Nat => z_J G Z _ _ 23 [some (.ref (z_ad G 0 20)), some (.ref (z_ad G 0 40)), some (.ref (z_ad G 0 42)), some (.ref (z_ad G 0 46)), some (z_I i), some (z_I (z_sm j (fun q => if M g (14 + 6 * q + 3) = (i : Int) then 1 else 0))), some (z_I 0), some (z_I (z_sm j (fun q => if M g (14 + 6 * (i : Int)) < M g (14 + 6 * q) ∨ (M g (14 + 6 * q) = M g (14 + 6 * (i : Int)) ∧ q < (i : Int)) then 1 else 0))), some (z_I j)] [] M 0 0) (M g 0).toNat ?_ ?_
      · refine z_rng fun hr => ?_
        refine z_iload dL_pens_23 rfl ?_
        refine z_aloadn dL_pens_25 rfl ?_
        refine z_iconst dL_pens_26 ?_
        refine z_lld (R := 40) (j := 0) al_c (Or.inl (by decide)) (congrFun hE _) (by omega) (by omega) (Nat.le_of_ble_eq_true rfl) (by omega) dL_pens_27 ?_
        refine z_icmp_ge (tgt := 112) (by first | exact y_rb _ | omega | exact z_owns_rg hb | exact z_plc_rg hb | exact z_wrote_rg hb (by omega) (by omega) | exact z_pwi_rg hb | exact z_stg_rg hb | exact z_soldN_rg hb | exact z_wd_rgl (by omega) | exact z_sumOf_1 hb) (by first | exact y_rb _ | omega | exact z_owns_rg hb | exact z_plc_rg hb | exact z_wrote_rg hb (by omega) (by omega) | exact z_pwi_rg hb | exact z_stg_rg hb | exact z_soldN_rg hb | exact z_wd_rgl (by omega) | exact z_sumOf_1 hb) dL_pens_28 (by decide) (fun h28 => ?_) (fun h28 => ?_)
        · refine z_iconst dL_pens_112 ?_
          refine z_istore_8 dL_pens_113 (Nat.le_of_ble_eq_true rfl) rfl ?_
          refine z_upn (P := fun j : Nat => z_J G Z _ _ 115 [some (.ref (z_ad G 0 20)), some (.ref (z_ad G 0 40)), some (.ref (z_ad G 0 42)), some (.ref (z_ad G 0 46)), some (z_I i), some (z_I (z_sm (M g 0).toNat (fun q => if M g (14 + 6 * q + 3) = (i : Int) then 1 else 0))), some (z_I (z_sm j (fun q => M g (186 + 12 * q + (i : Int))))), some (z_I (z_sm (M g 0).toNat (fun q => if M g (14 + 6 * (i : Int)) < M g (14 + 6 * q) ∨ (M g (14 + 6 * q) = M g (14 + 6 * (i : Int)) ∧ q < (i : Int)) then 1 else 0))), some (z_I j)] [] M 0 0) (M g 1).toNat ?_ ?_
          · refine z_rng fun hr => ?_
            refine z_iload dL_pens_115 rfl ?_
            refine z_aloadn dL_pens_117 rfl ?_
            refine z_iconst dL_pens_118 ?_
            refine z_lld (R := 40) (j := 1) al_c (Or.inl (by decide)) (congrFun hE _) (by omega) (by omega) (Nat.le_of_ble_eq_true rfl) (by omega) dL_pens_119 ?_
            refine z_icmp_ge (tgt := 143) (by first | exact y_rb _ | omega | exact z_owns_rg hb | exact z_plc_rg hb | exact z_wrote_rg hb (by omega) (by omega) | exact z_pwi_rg hb | exact z_stg_rg hb | exact z_soldN_rg hb | exact z_wd_rgl (by omega) | exact z_sumOf_1 hb) (by first | exact y_rb _ | omega | exact z_owns_rg hb | exact z_plc_rg hb | exact z_wrote_rg hb (by omega) (by omega) | exact z_pwi_rg hb | exact z_stg_rg hb | exact z_soldN_rg hb | exact z_wd_rgl (by omega) | exact z_sumOf_1 hb) dL_pens_120 (by decide) (fun h120 => ?_) (fun h120 => ?_)
            · refine z_iconst dL_pens_143 ?_
              refine z_istore_8 dL_pens_144 (Nat.le_of_ble_eq_true rfl) rfl ?_
              refine z_upn (P := fun j : Nat => z_J G Z _ _ 146 [some (.ref (z_ad G 0 20)), some (.ref (z_ad G 0 40)), some (.ref (z_ad G 0 42)), some (.ref (z_ad G 0 46)), some (z_I i), some (z_I (z_sm (M g 0).toNat (fun q => if M g (14 + 6 * q + 3) = (i : Int) then 1 else 0))), some (z_I (z_sm (M g 1).toNat (fun q => M g (186 + 12 * q + (i : Int))))), some (z_I (z_sm (M g 0).toNat (fun q => if M g (14 + 6 * (i : Int)) < M g (14 + 6 * q) ∨ (M g (14 + 6 * q) = M g (14 + 6 * (i : Int)) ∧ q < (i : Int)) then 1 else 0))), some (z_I j)] [] M 0 0) 5 ?_ ?_
              · refine z_rng fun hr => ?_
                refine z_iload dL_pens_146 rfl ?_
                refine z_iconst dL_pens_148 ?_
                refine z_icmp_ge (tgt := 181) (by first | exact y_rb _ | omega | exact z_owns_rg hb | exact z_plc_rg hb | exact z_wrote_rg hb (by omega) (by omega) | exact z_pwi_rg hb | exact z_stg_rg hb | exact z_soldN_rg hb | exact z_wd_rgl (by omega) | exact z_sumOf_1 hb) (by first | exact y_rb _ | omega | exact z_owns_rg hb | exact z_plc_rg hb | exact z_wrote_rg hb (by omega) (by omega) | exact z_pwi_rg hb | exact z_stg_rg hb | exact z_soldN_rg hb | exact z_wd_rgl (by omega) | exact z_sumOf_1 hb) dL_pens_149 (by decide) (fun h149 => ?_) (fun h149 => ?_)
                · refine z_aloadn dL_pens_181 rfl ?_
                  refine z_iload dL_pens_182 rfl ?_
                  refine z_iconst dL_pens_184 ?_
                  refine kL_22 (tX6_pen hg hn hb (p := i) (w := 5) (by omega) (by omega) (by unfold z_c_pen; rw [if_neg (by omega), if_neg (by omega)])) rfl ⟨(Nat.le_of_ble_eq_true rfl), (Nat.le_of_ble_eq_true rfl)⟩ (Nat.le_of_ble_eq_true rfl) dL_pens_185 ?_
                  refine z_top (v' := z_owns (M g) i) (rfl) ?_
                  refine z_iload dL_pens_188 rfl ?_
                  refine z_top (v' := z_owns (M g) i) (rfl) ?_
                  refine z_icmp_ne (tgt := 239) (by first | exact y_rb _ | omega | exact z_owns_rg hb | exact z_plc_rg hb | exact z_wrote_rg hb (by omega) (by omega) | exact z_pwi_rg hb | exact z_stg_rg hb | exact z_soldN_rg hb | exact z_wd_rgl (by omega) | exact z_sumOf_1 hb) (by first | exact y_rb _ | omega | exact z_owns_rg hb | exact z_plc_rg hb | exact z_wrote_rg hb (by omega) (by omega) | exact z_pwi_rg hb | exact z_stg_rg hb | exact z_soldN_rg hb | exact z_wd_rgl (by omega) | exact z_sumOf_1 hb) dL_pens_190 (by decide) (fun h190 => ?_) (fun h190 => ?_)
                  · exfalso; omega
                  · refine z_aloadn dL_pens_193 rfl ?_
                    refine z_iload dL_pens_194 rfl ?_
                    refine z_bipush dL_pens_196 (by decide) ?_
                    refine kL_22 (tX6_pen hg hn hb (p := i) (w := 6) (by omega) (by omega) (by unfold z_c_pen; rw [if_neg (by omega), if_neg (by omega)])) rfl ⟨(Nat.le_of_ble_eq_true rfl), (Nat.le_of_ble_eq_true rfl)⟩ (Nat.le_of_ble_eq_true rfl) dL_pens_198 ?_
                    refine z_top (v' := M g (14 + 6 * (i : Int) + 5)) (rfl) ?_
                    refine z_aloadn dL_pens_201 rfl ?_
                    refine z_bipush dL_pens_202 (by decide) ?_
                    refine z_iload dL_pens_204 rfl ?_
                    refine z_imul dL_pens_206 ?_
                    refine z_iconst dL_pens_207 ?_
                    refine z_iadd dL_pens_208 ?_
                    refine z_lld (R := 40) (j := 14 + 6 * (i : Int) + 5) al_pe (Or.inl (by decide)) (congrFun hE _) (by omega) (by omega) (Nat.le_of_ble_eq_true rfl) (by omega) dL_pens_209 ?_
                    refine z_icmp_ne (tgt := 239) (by first | exact y_rb _ | omega | exact z_owns_rg hb | exact z_plc_rg hb | exact z_wrote_rg hb (by omega) (by omega) | exact z_pwi_rg hb | exact z_stg_rg hb | exact z_soldN_rg hb | exact z_wd_rgl (by omega) | exact z_sumOf_1 hb) (by first | exact y_rb _ | omega | exact z_owns_rg hb | exact z_plc_rg hb | exact z_wrote_rg hb (by omega) (by omega) | exact z_pwi_rg hb | exact z_stg_rg hb | exact z_soldN_rg hb | exact z_wd_rgl (by omega) | exact z_sumOf_1 hb) dL_pens_210 (by decide) (fun h210 => ?_) (fun h210 => ?_)
                    · exfalso; omega
                    · refine z_aloadn dL_pens_213 rfl ?_
                      refine z_iload dL_pens_214 rfl ?_
                      refine z_bipush dL_pens_216 (by decide) ?_
                      refine kL_22 (tX6_pen hg hn hb (p := i) (w := 7) (by omega) (by omega) (by unfold z_c_pen; rw [if_neg (by omega), if_neg (by omega)])) rfl ⟨(Nat.le_of_ble_eq_true rfl), (Nat.le_of_ble_eq_true rfl)⟩ (Nat.le_of_ble_eq_true rfl) dL_pens_218 ?_
                      refine z_top (v' := z_wrote (M g) i) (rfl) ?_
                      refine z_iload dL_pens_221 rfl ?_
                      refine z_top (v' := z_wrote (M g) i) (rfl) ?_
                      refine z_icmp_ne (tgt := 239) (by first | exact y_rb _ | omega | exact z_owns_rg hb | exact z_plc_rg hb | exact z_wrote_rg hb (by omega) (by omega) | exact z_pwi_rg hb | exact z_stg_rg hb | exact z_soldN_rg hb | exact z_wd_rgl (by omega) | exact z_sumOf_1 hb) (by first | exact y_rb _ | omega | exact z_owns_rg hb | exact z_plc_rg hb | exact z_wrote_rg hb (by omega) (by omega) | exact z_pwi_rg hb | exact z_stg_rg hb | exact z_soldN_rg hb | exact z_wd_rgl (by omega) | exact z_sumOf_1 hb) dL_pens_223 (by decide) (fun h223 => ?_) (fun h223 => ?_)
                      · exfalso; omega
                      · refine z_aloadn dL_pens_226 rfl ?_
                        refine z_iload dL_pens_227 rfl ?_
                        refine z_bipush dL_pens_229 (by decide) ?_
                        refine kL_22 (tX6_pen hg hn hb (p := i) (w := 8) (by omega) (by omega) (by unfold z_c_pen; rw [if_neg (by omega), if_neg (by omega)])) rfl ⟨(Nat.le_of_ble_eq_true rfl), (Nat.le_of_ble_eq_true rfl)⟩ (Nat.le_of_ble_eq_true rfl) dL_pens_231 ?_
                        refine z_top (v' := z_plc (M g) i) (rfl) ?_
                        refine z_iload dL_pens_234 rfl ?_
                        refine z_top (v' := z_plc (M g) i) (rfl) ?_
                        refine z_icmp_eq (tgt := 241) (by first | exact y_rb _ | omega | exact z_owns_rg hb | exact z_plc_rg hb | exact z_wrote_rg hb (by omega) (by omega) | exact z_pwi_rg hb | exact z_stg_rg hb | exact z_soldN_rg hb | exact z_wd_rgl (by omega) | exact z_sumOf_1 hb) (by first | exact y_rb _ | omega | exact z_owns_rg hb | exact z_plc_rg hb | exact z_wrote_rg hb (by omega) (by omega) | exact z_pwi_rg hb | exact z_stg_rg hb | exact z_soldN_rg hb | exact z_wd_rgl (by omega) | exact z_sumOf_1 hb) dL_pens_236 (by decide) (fun h236 => ?_) (fun h236 => ?_)
                        · refine z_iinc_4 dL_pens_241 (Nat.le_of_ble_eq_true rfl) rfl ?_
                          refine z_goto (tgt := 3) dL_pens_244 (by decide) ?_
                          refine z_fgt 5 ?_
                          refine z_fgt 6 ?_
                          refine z_fgt 7 ?_
                          refine z_fgt 8 ?_
                          exact y_ih
                        · exfalso; omega
                · exfalso; omega
              · intro j hj y_jh
                refine z_rng fun hr => ?_
                refine z_iload dL_pens_146 rfl ?_
                refine z_iconst dL_pens_148 ?_
                refine z_icmp_ge (tgt := 181) (by first | exact y_rb _ | omega | exact z_owns_rg hb | exact z_plc_rg hb | exact z_wrote_rg hb (by omega) (by omega) | exact z_pwi_rg hb | exact z_stg_rg hb | exact z_soldN_rg hb | exact z_wd_rgl (by omega) | exact z_sumOf_1 hb) (by first | exact y_rb _ | omega | exact z_owns_rg hb | exact z_plc_rg hb | exact z_wrote_rg hb (by omega) (by omega) | exact z_pwi_rg hb | exact z_stg_rg hb | exact z_soldN_rg hb | exact z_wd_rgl (by omega) | exact z_sumOf_1 hb) dL_pens_149 (by decide) (fun h149 => ?_) (fun h149 => ?_)
                · exfalso; omega
                · refine z_aloadn dL_pens_152 rfl ?_
                  refine z_iload dL_pens_153 rfl ?_
                  refine z_iload dL_pens_155 rfl ?_
                  refine kL_22 (tX6_pen hg hn hb (p := i) (w := j) (by omega) (by omega) (by unfold z_c_pen; rw [if_neg (by omega), if_neg (by omega)])) rfl ⟨(Nat.le_of_ble_eq_true rfl), (Nat.le_of_ble_eq_true rfl)⟩ (Nat.le_of_ble_eq_true rfl) dL_pens_157 ?_
                  refine z_top (v' := M g (14 + 6 * (i : Int) + (j : Int))) (by unfold z_pnv; rw [if_pos (by omega)]) ?_
                  refine z_aloadn dL_pens_160 rfl ?_
                  refine z_bipush dL_pens_161 (by decide) ?_
                  refine z_iload dL_pens_163 rfl ?_
                  refine z_imul dL_pens_165 ?_
                  refine z_iload dL_pens_166 rfl ?_
                  refine z_iadd dL_pens_168 ?_
                  refine z_lld (R := 40) (j := 14 + 6 * (i : Int) + (j : Int)) al_pe (Or.inl (by decide)) (congrFun hE _) (by omega) (by omega) (Nat.le_of_ble_eq_true rfl) (by omega) dL_pens_169 ?_
                  refine z_icmp_eq (tgt := 175) (by first | exact y_rb _ | omega | exact z_owns_rg hb | exact z_plc_rg hb | exact z_wrote_rg hb (by omega) (by omega) | exact z_pwi_rg hb | exact z_stg_rg hb | exact z_soldN_rg hb | exact z_wd_rgl (by omega) | exact z_sumOf_1 hb) (by first | exact y_rb _ | omega | exact z_owns_rg hb | exact z_plc_rg hb | exact z_wrote_rg hb (by omega) (by omega) | exact z_pwi_rg hb | exact z_stg_rg hb | exact z_soldN_rg hb | exact z_wd_rgl (by omega) | exact z_sumOf_1 hb) dL_pens_170 (by decide) (fun h170 => ?_) (fun h170 => ?_)
                  · refine z_iinc_8 dL_pens_175 (Nat.le_of_ble_eq_true rfl) rfl ?_
                    refine z_goto (tgt := 146) dL_pens_178 (by decide) ?_
                    exact y_jh
                  · exfalso; omega
            · exfalso; omega
          · intro j hj y_jh
            refine z_rng fun hr => ?_
            refine z_iload dL_pens_115 rfl ?_
            refine z_aloadn dL_pens_117 rfl ?_
            refine z_iconst dL_pens_118 ?_
            refine z_lld (R := 40) (j := 1) al_c (Or.inl (by decide)) (congrFun hE _) (by omega) (by omega) (Nat.le_of_ble_eq_true rfl) (by omega) dL_pens_119 ?_
            refine z_icmp_ge (tgt := 143) (by first | exact y_rb _ | omega | exact z_owns_rg hb | exact z_plc_rg hb | exact z_wrote_rg hb (by omega) (by omega) | exact z_pwi_rg hb | exact z_stg_rg hb | exact z_soldN_rg hb | exact z_wd_rgl (by omega) | exact z_sumOf_1 hb) (by first | exact y_rb _ | omega | exact z_owns_rg hb | exact z_plc_rg hb | exact z_wrote_rg hb (by omega) (by omega) | exact z_pwi_rg hb | exact z_stg_rg hb | exact z_soldN_rg hb | exact z_wd_rgl (by omega) | exact z_sumOf_1 hb) dL_pens_120 (by decide) (fun h120 => ?_) (fun h120 => ?_)
            · exfalso; omega
            · refine z_iload dL_pens_123 rfl ?_
              refine z_aloadn dL_pens_125 rfl ?_
              refine z_iconst dL_pens_126 ?_
              refine z_iload dL_pens_127 rfl ?_
              refine z_imul dL_pens_129 ?_
              refine z_iload dL_pens_130 rfl ?_
              refine z_iadd dL_pens_132 ?_
              refine z_lld (R := 40) (j := 186 + 12 * (j : Int) + (i : Int)) al_dr (Or.inl (by decide)) (congrFun hE _) (by omega) (by omega) (Nat.le_of_ble_eq_true rfl) (by omega) dL_pens_133 ?_
              refine z_iadd dL_pens_134 ?_
              refine z_istore_6 dL_pens_135 (Nat.le_of_ble_eq_true rfl) rfl ?_
              refine z_iinc_8 dL_pens_137 (Nat.le_of_ble_eq_true rfl) rfl ?_
              refine z_goto (tgt := 115) dL_pens_140 (by decide) ?_
              exact y_jh
        · exfalso; omega
      · intro j hj y_jh
        refine z_rng fun hr => ?_
        refine z_iload dL_pens_23 rfl ?_
        refine z_aloadn dL_pens_25 rfl ?_
        refine z_iconst dL_pens_26 ?_
        refine z_lld (R := 40) (j := 0) al_c (Or.inl (by decide)) (congrFun hE _) (by omega) (by omega) (Nat.le_of_ble_eq_true rfl) (by omega) dL_pens_27 ?_
        refine z_icmp_ge (tgt := 112) (by first | exact y_rb _ | omega | exact z_owns_rg hb | exact z_plc_rg hb | exact z_wrote_rg hb (by omega) (by omega) | exact z_pwi_rg hb | exact z_stg_rg hb | exact z_soldN_rg hb | exact z_wd_rgl (by omega) | exact z_sumOf_1 hb) (by first | exact y_rb _ | omega | exact z_owns_rg hb | exact z_plc_rg hb | exact z_wrote_rg hb (by omega) (by omega) | exact z_pwi_rg hb | exact z_stg_rg hb | exact z_soldN_rg hb | exact z_wd_rgl (by omega) | exact z_sumOf_1 hb) dL_pens_28 (by decide) (fun h28 => ?_) (fun h28 => ?_)
        · exfalso; omega
        · refine z_iload dL_pens_31 rfl ?_
          refine z_aloadn dL_pens_33 rfl ?_
          refine z_bipush dL_pens_34 (by decide) ?_
          refine z_iload dL_pens_36 rfl ?_
          refine z_imul dL_pens_38 ?_
          refine z_iconst dL_pens_39 ?_
          refine z_iadd dL_pens_40 ?_
          refine z_lld (R := 40) (j := 14 + 6 * (j : Int) + 3) al_pe (Or.inl (by decide)) (congrFun hE _) (by omega) (by omega) (Nat.le_of_ble_eq_true rfl) (by omega) dL_pens_41 ?_
          refine z_iload dL_pens_42 rfl ?_
          refine z_icmp_ne (tgt := 51) (by first | exact y_rb _ | omega | exact z_owns_rg hb | exact z_plc_rg hb | exact z_wrote_rg hb (by omega) (by omega) | exact z_pwi_rg hb | exact z_stg_rg hb | exact z_soldN_rg hb | exact z_wd_rgl (by omega) | exact z_sumOf_1 hb) (by first | exact y_rb _ | omega | exact z_owns_rg hb | exact z_plc_rg hb | exact z_wrote_rg hb (by omega) (by omega) | exact z_pwi_rg hb | exact z_stg_rg hb | exact z_soldN_rg hb | exact z_wd_rgl (by omega) | exact z_sumOf_1 hb) dL_pens_44 (by decide) (fun h44 => ?_) (fun h44 => ?_)
          · refine z_iconst dL_pens_51 ?_
            refine z_top (v' := if M g (14 + 6 * (j : Int) + 3) = (i : Int) then 1 else 0) (by first | rw [if_pos (by omega)] | rw [if_neg (by omega)]) ?_
            refine z_iadd dL_pens_52 ?_
            refine z_istore_5 dL_pens_53 (Nat.le_of_ble_eq_true rfl) rfl ?_
            refine z_iload dL_pens_55 rfl ?_
            refine z_aloadn dL_pens_57 rfl ?_
            refine z_bipush dL_pens_58 (by decide) ?_
            refine z_iload dL_pens_60 rfl ?_
            refine z_imul dL_pens_62 ?_
            refine z_lld (R := 40) (j := 14 + 6 * (j : Int)) al_pe (Or.inl (by decide)) (congrFun hE _) (by omega) (by omega) (Nat.le_of_ble_eq_true rfl) (by omega) dL_pens_63 ?_
            refine z_aloadn dL_pens_64 rfl ?_
            refine z_bipush dL_pens_65 (by decide) ?_
            refine z_iload dL_pens_67 rfl ?_
            refine z_imul dL_pens_69 ?_
            refine z_lld (R := 40) (j := 14 + 6 * (i : Int)) al_pe (Or.inl (by decide)) (congrFun hE _) (by omega) (by omega) (Nat.le_of_ble_eq_true rfl) (by omega) dL_pens_70 ?_
            refine z_icmp_gt (tgt := 98) (by first | exact y_rb _ | omega | exact z_owns_rg hb | exact z_plc_rg hb | exact z_wrote_rg hb (by omega) (by omega) | exact z_pwi_rg hb | exact z_stg_rg hb | exact z_soldN_rg hb | exact z_wd_rgl (by omega) | exact z_sumOf_1 hb) (by first | exact y_rb _ | omega | exact z_owns_rg hb | exact z_plc_rg hb | exact z_wrote_rg hb (by omega) (by omega) | exact z_pwi_rg hb | exact z_stg_rg hb | exact z_soldN_rg hb | exact z_wd_rgl (by omega) | exact z_sumOf_1 hb) dL_pens_71 (by decide) (fun h71 => ?_) (fun h71 => ?_)
            · refine z_iconst dL_pens_98 ?_
              refine z_goto (tgt := 103) dL_pens_99 (by decide) ?_
              refine z_top (v' := if M g (14 + 6 * (i : Int)) < M g (14 + 6 * (j : Int)) ∨ (M g (14 + 6 * (j : Int)) = M g (14 + 6 * (i : Int)) ∧ (j : Int) < (i : Int)) then 1 else 0) (by first | rw [if_pos (by omega)] | rw [if_neg (by omega)]) ?_
              refine z_iadd dL_pens_103 ?_
              refine z_istore_7 dL_pens_104 (Nat.le_of_ble_eq_true rfl) rfl ?_
              refine z_iinc_8 dL_pens_106 (Nat.le_of_ble_eq_true rfl) rfl ?_
              refine z_goto (tgt := 23) dL_pens_109 (by decide) ?_
              exact y_jh
            · refine z_aloadn dL_pens_74 rfl ?_
              refine z_bipush dL_pens_75 (by decide) ?_
              refine z_iload dL_pens_77 rfl ?_
              refine z_imul dL_pens_79 ?_
              refine z_lld (R := 40) (j := 14 + 6 * (j : Int)) al_pe (Or.inl (by decide)) (congrFun hE _) (by omega) (by omega) (Nat.le_of_ble_eq_true rfl) (by omega) dL_pens_80 ?_
              refine z_aloadn dL_pens_81 rfl ?_
              refine z_bipush dL_pens_82 (by decide) ?_
              refine z_iload dL_pens_84 rfl ?_
              refine z_imul dL_pens_86 ?_
              refine z_lld (R := 40) (j := 14 + 6 * (i : Int)) al_pe (Or.inl (by decide)) (congrFun hE _) (by omega) (by omega) (Nat.le_of_ble_eq_true rfl) (by omega) dL_pens_87 ?_
              refine z_icmp_ne (tgt := 102) (by first | exact y_rb _ | omega | exact z_owns_rg hb | exact z_plc_rg hb | exact z_wrote_rg hb (by omega) (by omega) | exact z_pwi_rg hb | exact z_stg_rg hb | exact z_soldN_rg hb | exact z_wd_rgl (by omega) | exact z_sumOf_1 hb) (by first | exact y_rb _ | omega | exact z_owns_rg hb | exact z_plc_rg hb | exact z_wrote_rg hb (by omega) (by omega) | exact z_pwi_rg hb | exact z_stg_rg hb | exact z_soldN_rg hb | exact z_wd_rgl (by omega) | exact z_sumOf_1 hb) dL_pens_88 (by decide) (fun h88 => ?_) (fun h88 => ?_)
              · refine z_iconst dL_pens_102 ?_
                refine z_top (v' := if M g (14 + 6 * (i : Int)) < M g (14 + 6 * (j : Int)) ∨ (M g (14 + 6 * (j : Int)) = M g (14 + 6 * (i : Int)) ∧ (j : Int) < (i : Int)) then 1 else 0) (by first | rw [if_pos (by omega)] | rw [if_neg (by omega)]) ?_
                refine z_iadd dL_pens_103 ?_
                refine z_istore_7 dL_pens_104 (Nat.le_of_ble_eq_true rfl) rfl ?_
                refine z_iinc_8 dL_pens_106 (Nat.le_of_ble_eq_true rfl) rfl ?_
                refine z_goto (tgt := 23) dL_pens_109 (by decide) ?_
                exact y_jh
              · refine z_iload dL_pens_91 rfl ?_
                refine z_iload dL_pens_93 rfl ?_
                refine z_icmp_ge (tgt := 102) (by first | exact y_rb _ | omega | exact z_owns_rg hb | exact z_plc_rg hb | exact z_wrote_rg hb (by omega) (by omega) | exact z_pwi_rg hb | exact z_stg_rg hb | exact z_soldN_rg hb | exact z_wd_rgl (by omega) | exact z_sumOf_1 hb) (by first | exact y_rb _ | omega | exact z_owns_rg hb | exact z_plc_rg hb | exact z_wrote_rg hb (by omega) (by omega) | exact z_pwi_rg hb | exact z_stg_rg hb | exact z_soldN_rg hb | exact z_wd_rgl (by omega) | exact z_sumOf_1 hb) dL_pens_95 (by decide) (fun h95 => ?_) (fun h95 => ?_)
                · refine z_iconst dL_pens_102 ?_
                  refine z_top (v' := if M g (14 + 6 * (i : Int)) < M g (14 + 6 * (j : Int)) ∨ (M g (14 + 6 * (j : Int)) = M g (14 + 6 * (i : Int)) ∧ (j : Int) < (i : Int)) then 1 else 0) (by first | rw [if_pos (by omega)] | rw [if_neg (by omega)]) ?_
                  refine z_iadd dL_pens_103 ?_
                  refine z_istore_7 dL_pens_104 (Nat.le_of_ble_eq_true rfl) rfl ?_
                  refine z_iinc_8 dL_pens_106 (Nat.le_of_ble_eq_true rfl) rfl ?_
                  refine z_goto (tgt := 23) dL_pens_109 (by decide) ?_
                  exact y_jh
                · refine z_iconst dL_pens_98 ?_
                  refine z_goto (tgt := 103) dL_pens_99 (by decide) ?_
                  refine z_top (v' := if M g (14 + 6 * (i : Int)) < M g (14 + 6 * (j : Int)) ∨ (M g (14 + 6 * (j : Int)) = M g (14 + 6 * (i : Int)) ∧ (j : Int) < (i : Int)) then 1 else 0) (by first | rw [if_pos (by omega)] | rw [if_neg (by omega)]) ?_
                  refine z_iadd dL_pens_103 ?_
                  refine z_istore_7 dL_pens_104 (Nat.le_of_ble_eq_true rfl) rfl ?_
                  refine z_iinc_8 dL_pens_106 (Nat.le_of_ble_eq_true rfl) rfl ?_
                  refine z_goto (tgt := 23) dL_pens_109 (by decide) ?_
                  exact y_jh
          · refine z_iconst dL_pens_47 ?_
            refine z_goto (tgt := 52) dL_pens_48 (by decide) ?_
            refine z_top (v' := if M g (14 + 6 * (j : Int) + 3) = (i : Int) then 1 else 0) (by first | rw [if_pos (by omega)] | rw [if_neg (by omega)]) ?_
            refine z_iadd dL_pens_52 ?_
            refine z_istore_5 dL_pens_53 (Nat.le_of_ble_eq_true rfl) rfl ?_
            refine z_iload dL_pens_55 rfl ?_
            refine z_aloadn dL_pens_57 rfl ?_
            refine z_bipush dL_pens_58 (by decide) ?_
            refine z_iload dL_pens_60 rfl ?_
            refine z_imul dL_pens_62 ?_
            refine z_lld (R := 40) (j := 14 + 6 * (j : Int)) al_pe (Or.inl (by decide)) (congrFun hE _) (by omega) (by omega) (Nat.le_of_ble_eq_true rfl) (by omega) dL_pens_63 ?_
            refine z_aloadn dL_pens_64 rfl ?_
            refine z_bipush dL_pens_65 (by decide) ?_
            refine z_iload dL_pens_67 rfl ?_
            refine z_imul dL_pens_69 ?_
            refine z_lld (R := 40) (j := 14 + 6 * (i : Int)) al_pe (Or.inl (by decide)) (congrFun hE _) (by omega) (by omega) (Nat.le_of_ble_eq_true rfl) (by omega) dL_pens_70 ?_
            refine z_icmp_gt (tgt := 98) (by first | exact y_rb _ | omega | exact z_owns_rg hb | exact z_plc_rg hb | exact z_wrote_rg hb (by omega) (by omega) | exact z_pwi_rg hb | exact z_stg_rg hb | exact z_soldN_rg hb | exact z_wd_rgl (by omega) | exact z_sumOf_1 hb) (by first | exact y_rb _ | omega | exact z_owns_rg hb | exact z_plc_rg hb | exact z_wrote_rg hb (by omega) (by omega) | exact z_pwi_rg hb | exact z_stg_rg hb | exact z_soldN_rg hb | exact z_wd_rgl (by omega) | exact z_sumOf_1 hb) dL_pens_71 (by decide) (fun h71 => ?_) (fun h71 => ?_)
            · refine z_iconst dL_pens_98 ?_
              refine z_goto (tgt := 103) dL_pens_99 (by decide) ?_
              refine z_top (v' := if M g (14 + 6 * (i : Int)) < M g (14 + 6 * (j : Int)) ∨ (M g (14 + 6 * (j : Int)) = M g (14 + 6 * (i : Int)) ∧ (j : Int) < (i : Int)) then 1 else 0) (by first | rw [if_pos (by omega)] | rw [if_neg (by omega)]) ?_
              refine z_iadd dL_pens_103 ?_
              refine z_istore_7 dL_pens_104 (Nat.le_of_ble_eq_true rfl) rfl ?_
              refine z_iinc_8 dL_pens_106 (Nat.le_of_ble_eq_true rfl) rfl ?_
              refine z_goto (tgt := 23) dL_pens_109 (by decide) ?_
              exact y_jh
            · refine z_aloadn dL_pens_74 rfl ?_
              refine z_bipush dL_pens_75 (by decide) ?_
              refine z_iload dL_pens_77 rfl ?_
              refine z_imul dL_pens_79 ?_
              refine z_lld (R := 40) (j := 14 + 6 * (j : Int)) al_pe (Or.inl (by decide)) (congrFun hE _) (by omega) (by omega) (Nat.le_of_ble_eq_true rfl) (by omega) dL_pens_80 ?_
              refine z_aloadn dL_pens_81 rfl ?_
              refine z_bipush dL_pens_82 (by decide) ?_
              refine z_iload dL_pens_84 rfl ?_
              refine z_imul dL_pens_86 ?_
              refine z_lld (R := 40) (j := 14 + 6 * (i : Int)) al_pe (Or.inl (by decide)) (congrFun hE _) (by omega) (by omega) (Nat.le_of_ble_eq_true rfl) (by omega) dL_pens_87 ?_
              refine z_icmp_ne (tgt := 102) (by first | exact y_rb _ | omega | exact z_owns_rg hb | exact z_plc_rg hb | exact z_wrote_rg hb (by omega) (by omega) | exact z_pwi_rg hb | exact z_stg_rg hb | exact z_soldN_rg hb | exact z_wd_rgl (by omega) | exact z_sumOf_1 hb) (by first | exact y_rb _ | omega | exact z_owns_rg hb | exact z_plc_rg hb | exact z_wrote_rg hb (by omega) (by omega) | exact z_pwi_rg hb | exact z_stg_rg hb | exact z_soldN_rg hb | exact z_wd_rgl (by omega) | exact z_sumOf_1 hb) dL_pens_88 (by decide) (fun h88 => ?_) (fun h88 => ?_)
              · refine z_iconst dL_pens_102 ?_
                refine z_top (v' := if M g (14 + 6 * (i : Int)) < M g (14 + 6 * (j : Int)) ∨ (M g (14 + 6 * (j : Int)) = M g (14 + 6 * (i : Int)) ∧ (j : Int) < (i : Int)) then 1 else 0) (by first | rw [if_pos (by omega)] | rw [if_neg (by omega)]) ?_
                refine z_iadd dL_pens_103 ?_
                refine z_istore_7 dL_pens_104 (Nat.le_of_ble_eq_true rfl) rfl ?_
                refine z_iinc_8 dL_pens_106 (Nat.le_of_ble_eq_true rfl) rfl ?_
                refine z_goto (tgt := 23) dL_pens_109 (by decide) ?_
                exact y_jh
              · refine z_iload dL_pens_91 rfl ?_
                refine z_iload dL_pens_93 rfl ?_
                refine z_icmp_ge (tgt := 102) (by first | exact y_rb _ | omega | exact z_owns_rg hb | exact z_plc_rg hb | exact z_wrote_rg hb (by omega) (by omega) | exact z_pwi_rg hb | exact z_stg_rg hb | exact z_soldN_rg hb | exact z_wd_rgl (by omega) | exact z_sumOf_1 hb) (by first | exact y_rb _ | omega | exact z_owns_rg hb | exact z_plc_rg hb | exact z_wrote_rg hb (by omega) (by omega) | exact z_pwi_rg hb | exact z_stg_rg hb | exact z_soldN_rg hb | exact z_wd_rgl (by omega) | exact z_sumOf_1 hb) dL_pens_95 (by decide) (fun h95 => ?_) (fun h95 => ?_)
                · refine z_iconst dL_pens_102 ?_
                  refine z_top (v' := if M g (14 + 6 * (i : Int)) < M g (14 + 6 * (j : Int)) ∨ (M g (14 + 6 * (j : Int)) = M g (14 + 6 * (i : Int)) ∧ (j : Int) < (i : Int)) then 1 else 0) (by first | rw [if_pos (by omega)] | rw [if_neg (by omega)]) ?_
                  refine z_iadd dL_pens_103 ?_
                  refine z_istore_7 dL_pens_104 (Nat.le_of_ble_eq_true rfl) rfl ?_
                  refine z_iinc_8 dL_pens_106 (Nat.le_of_ble_eq_true rfl) rfl ?_
                  refine z_goto (tgt := 23) dL_pens_109 (by decide) ?_
                  exact y_jh
                · refine z_iconst dL_pens_98 ?_
                  refine z_goto (tgt := 103) dL_pens_99 (by decide) ?_
                  refine z_top (v' := if M g (14 + 6 * (i : Int)) < M g (14 + 6 * (j : Int)) ∨ (M g (14 + 6 * (j : Int)) = M g (14 + 6 * (i : Int)) ∧ (j : Int) < (i : Int)) then 1 else 0) (by first | rw [if_pos (by omega)] | rw [if_neg (by omega)]) ?_
                  refine z_iadd dL_pens_103 ?_
                  refine z_istore_7 dL_pens_104 (Nat.le_of_ble_eq_true rfl) rfl ?_
                  refine z_iinc_8 dL_pens_106 (Nat.le_of_ble_eq_true rfl) rfl ?_
                  refine z_goto (tgt := 23) dL_pens_109 (by decide) ?_
                  exact y_jh
theorem tL_pieces {G : z_G} {M : z_M} {g : Nat} {N : Int} (hg : g < 7) (hn : M 7 2 = (g : Int)) (hb : z_BI (M g) N) (hE : M 40 = M g) (h4 : M g 0 ≤ 4) (h5 : M g 1 ≤ 4) : KL_pieces G [.ref (z_ad G 0 20), .ref (z_ad G 0 41), .ref (z_ad G 0 42), .ref (z_ad G 0 43), .ref (z_ad G 0 44), .ref (z_ad G 0 45), .ref (z_ad G 0 46)] M (.inl (some (z_I 1))) M := by
  refine z_con (ls := [some (.ref (z_ad G 0 20)), some (.ref (z_ad G 0 41)), some (.ref (z_ad G 0 42)), some (.ref (z_ad G 0 43)), some (.ref (z_ad G 0 44)), some (.ref (z_ad G 0 45)), some (.ref (z_ad G 0 46)), none, none, none, none]) (by decide +kernel) (Nat.le_of_ble_eq_true rfl) rfl ?_
  intro Z htb
  refine z_rng fun hr => ?_
  have hh := z_BI_h hb
  have y_rb : ∀ i, z_rg (M g i) := fun i => hr g i (by omega)
  refine z_iconst dL_pieces_0 ?_
  refine z_istore_7 dL_pieces_1 (Nat.le_of_ble_eq_true rfl) rfl ?_
  refine z_upn (P := fun i : Nat => z_J G Z _ _ 3 [some (.ref (z_ad G 0 20)), some (.ref (z_ad G 0 41)), some (.ref (z_ad G 0 42)), some (.ref (z_ad G 0 43)), some (.ref (z_ad G 0 44)), some (.ref (z_ad G 0 45)), some (.ref (z_ad G 0 46)), some (z_I i), none, none, none] [] M 0 0) (M g 1).toNat ?_ ?_
  · refine z_rng fun hr => ?_
    refine z_iload dL_pieces_3 rfl ?_
    refine z_aload dL_pieces_5 rfl ?_
    refine z_iconst dL_pieces_7 ?_
    refine z_lld (R := 40) (j := 1) al_c (Or.inl (by decide)) (congrFun hE _) (by omega) (by omega) (Nat.le_of_ble_eq_true rfl) (by omega) dL_pieces_8 ?_
    refine z_icmp_ge (tgt := 291) (by first | exact y_rb _ | omega | exact z_owns_rg hb | exact z_plc_rg hb | exact z_wrote_rg hb (by omega) (by omega) | exact z_pwi_rg hb | exact z_stg_rg hb | exact z_soldN_rg hb | exact z_wd_rgl (by omega) | exact z_sumOf_1 hb) (by first | exact y_rb _ | omega | exact z_owns_rg hb | exact z_plc_rg hb | exact z_wrote_rg hb (by omega) (by omega) | exact z_pwi_rg hb | exact z_stg_rg hb | exact z_soldN_rg hb | exact z_wd_rgl (by omega) | exact z_sumOf_1 hb) dL_pieces_9 (by decide) (fun h9 => ?_) (fun h9 => ?_)
    · refine z_iconst dL_pieces_291 ?_
      exact z_zret dL_pieces_292 (by first | rfl | omega | (split <;> omega)) rfl (by first | decide | (split <;> simp))
    · exfalso; omega
  · intro i hi y_ih
    refine z_rng fun hr => ?_
    have y_aP := z_aP_le (b := M g) (k := i) (fun p p0 p1 => by have h := z_BI_Q hb i p (by omega) (by omega) p0 p1; unfold z_QI at h; omega)
    have y_aP0 := z_aP_0 hb (show 0 ≤ (i : Int) by omega) (show (i : Int) < 20 by omega)
    have y_aD0 := z_aD_0 hb (show 0 ≤ (i : Int) by omega) (show (i : Int) < 20 by omega)
    have y_K := z_BI_K hb i (by omega) (by omega)
    unfold z_KI at y_K
    have y_kf := z_kf_rg hb (show 0 ≤ (i : Int) by omega) (show (i : Int) < 20 by omega)
    refine z_iload dL_pieces_3 rfl ?_
    refine z_aload dL_pieces_5 rfl ?_
    refine z_iconst dL_pieces_7 ?_
    refine z_lld (R := 40) (j := 1) al_c (Or.inl (by decide)) (congrFun hE _) (by omega) (by omega) (Nat.le_of_ble_eq_true rfl) (by omega) dL_pieces_8 ?_
    refine z_icmp_ge (tgt := 291) (by first | exact y_rb _ | omega | exact z_owns_rg hb | exact z_plc_rg hb | exact z_wrote_rg hb (by omega) (by omega) | exact z_pwi_rg hb | exact z_stg_rg hb | exact z_soldN_rg hb | exact z_wd_rgl (by omega) | exact z_sumOf_1 hb) (by first | exact y_rb _ | omega | exact z_owns_rg hb | exact z_plc_rg hb | exact z_wrote_rg hb (by omega) (by omega) | exact z_pwi_rg hb | exact z_stg_rg hb | exact z_soldN_rg hb | exact z_wd_rgl (by omega) | exact z_sumOf_1 hb) dL_pieces_9 (by decide) (fun h9 => ?_) (fun h9 => ?_)
    · exfalso; omega
    · refine z_iconst dL_pieces_12 ?_
      refine z_istore_8 dL_pieces_13 (Nat.le_of_ble_eq_true rfl) rfl ?_
      refine z_iconst dL_pieces_15 ?_
      refine z_istore_9 dL_pieces_16 (Nat.le_of_ble_eq_true rfl) rfl ?_
      refine z_iconst dL_pieces_18 ?_
      refine z_istore_10 dL_pieces_19 (Nat.le_of_ble_eq_true rfl) rfl ?_
      refine z_upn (P := fun j : Nat => z_J G Z _ _ 21 [some (.ref (z_ad G 0 20)), some (.ref (z_ad G 0 41)), some (.ref (z_ad G 0 42)), some (.ref (z_ad G 0 43)), some (.ref (z_ad G 0 44)), some (.ref (z_ad G 0 45)), some (.ref (z_ad G 0 46)), some (z_I i), some (z_I (z_sm j (fun q => if 0 < M g (426 + 12 * (i : Int) + q) then 1 else 0))), some (z_I (z_wd (M g) i j)), some (z_I j)] [] M 0 0) (M g 0).toNat ?_ ?_
      · refine z_rng fun hr => ?_
        refine z_iload dL_pieces_21 rfl ?_
        refine z_aload dL_pieces_23 rfl ?_
        refine z_iconst dL_pieces_25 ?_
        refine z_lld (R := 40) (j := 0) al_c (Or.inl (by decide)) (congrFun hE _) (by omega) (by omega) (Nat.le_of_ble_eq_true rfl) (by omega) dL_pieces_26 ?_
        refine z_icmp_ge (tgt := 150) (by first | exact y_rb _ | omega | exact z_owns_rg hb | exact z_plc_rg hb | exact z_wrote_rg hb (by omega) (by omega) | exact z_pwi_rg hb | exact z_stg_rg hb | exact z_soldN_rg hb | exact z_wd_rgl (by omega) | exact z_sumOf_1 hb) (by first | exact y_rb _ | omega | exact z_owns_rg hb | exact z_plc_rg hb | exact z_wrote_rg hb (by omega) (by omega) | exact z_pwi_rg hb | exact z_stg_rg hb | exact z_soldN_rg hb | exact z_wd_rgl (by omega) | exact z_sumOf_1 hb) dL_pieces_27 (by decide) (fun h27 => ?_) (fun h27 => ?_)
        · refine z_iconst dL_pieces_150 ?_
          refine z_istore_10 dL_pieces_151 (Nat.le_of_ble_eq_true rfl) rfl ?_
          refine z_upn (P := fun j : Nat => z_J G Z _ _ 153 [some (.ref (z_ad G 0 20)), some (.ref (z_ad G 0 41)), some (.ref (z_ad G 0 42)), some (.ref (z_ad G 0 43)), some (.ref (z_ad G 0 44)), some (.ref (z_ad G 0 45)), some (.ref (z_ad G 0 46)), some (z_I i), some (z_I (z_sm (M g 0).toNat (fun q => if 0 < M g (426 + 12 * (i : Int) + q) then 1 else 0))), some (z_I (z_wd (M g) i (M g 0).toNat)), some (z_I j)] [] M 0 0) 4 ?_ ?_
          · refine z_rng fun hr => ?_
            refine z_iload dL_pieces_153 rfl ?_
            refine z_iconst dL_pieces_155 ?_
            refine z_icmp_ge (tgt := 187) (by first | exact y_rb _ | omega | exact z_owns_rg hb | exact z_plc_rg hb | exact z_wrote_rg hb (by omega) (by omega) | exact z_pwi_rg hb | exact z_stg_rg hb | exact z_soldN_rg hb | exact z_wd_rgl (by omega) | exact z_sumOf_1 hb) (by first | exact y_rb _ | omega | exact z_owns_rg hb | exact z_plc_rg hb | exact z_wrote_rg hb (by omega) (by omega) | exact z_pwi_rg hb | exact z_stg_rg hb | exact z_soldN_rg hb | exact z_wd_rgl (by omega) | exact z_sumOf_1 hb) dL_pieces_156 (by decide) (fun h156 => ?_) (fun h156 => ?_)
            · refine z_aloadn dL_pieces_187 rfl ?_
              refine z_iload dL_pieces_188 rfl ?_
              refine z_iconst dL_pieces_190 ?_
              refine kL_36 (tX6_piece hg hn hb (k := i) (w := 4) (by omega) (by omega) (by unfold z_c_piece; rw [if_neg (by omega), if_neg (by omega)])) rfl ⟨(Nat.le_of_ble_eq_true rfl), (Nat.le_of_ble_eq_true rfl)⟩ (Nat.le_of_ble_eq_true rfl) dL_pieces_191 ?_
              refine z_top (v' := z_aD (M g) i) (rfl) ?_
              refine z_aloadn dL_pieces_194 rfl ?_
              refine z_iload dL_pieces_195 rfl ?_
              refine kL_8 (tL_four_dr (by omega) (by omega) (z_drz hb h4 (by omega) (by omega)) (fun q _ _ => congrFun hE _)) rfl ⟨(Nat.le_of_ble_eq_true rfl), (Nat.le_of_ble_eq_true rfl)⟩ (Nat.le_of_ble_eq_true rfl) dL_pieces_197 ?_
              refine z_icmp_ne (tgt := 283) (by first | exact y_rb _ | omega | exact z_owns_rg hb | exact z_plc_rg hb | exact z_wrote_rg hb (by omega) (by omega) | exact z_pwi_rg hb | exact z_stg_rg hb | exact z_soldN_rg hb | exact z_wd_rgl (by omega) | exact z_sumOf_1 hb) (by first | exact y_rb _ | omega | exact z_owns_rg hb | exact z_plc_rg hb | exact z_wrote_rg hb (by omega) (by omega) | exact z_pwi_rg hb | exact z_stg_rg hb | exact z_soldN_rg hb | exact z_wd_rgl (by omega) | exact z_sumOf_1 hb) dL_pieces_200 (by decide) (fun h200 => ?_) (fun h200 => ?_)
              · exfalso; omega
              · refine z_aloadn dL_pieces_203 rfl ?_
                refine z_iload dL_pieces_204 rfl ?_
                refine z_iconst dL_pieces_206 ?_
                refine kL_36 (tX6_piece hg hn hb (k := i) (w := 5) (by omega) (by omega) (by unfold z_c_piece; rw [if_neg (by omega), if_neg (by omega)])) rfl ⟨(Nat.le_of_ble_eq_true rfl), (Nat.le_of_ble_eq_true rfl)⟩ (Nat.le_of_ble_eq_true rfl) dL_pieces_207 ?_
                refine z_top (v' := z_pwi (M g) i) (rfl) ?_
                refine z_iload dL_pieces_210 rfl ?_
                refine z_top (v' := z_pwi (M g) i) (rfl) ?_
                refine z_icmp_ne (tgt := 283) (by first | exact y_rb _ | omega | exact z_owns_rg hb | exact z_plc_rg hb | exact z_wrote_rg hb (by omega) (by omega) | exact z_pwi_rg hb | exact z_stg_rg hb | exact z_soldN_rg hb | exact z_wd_rgl (by omega) | exact z_sumOf_1 hb) (by first | exact y_rb _ | omega | exact z_owns_rg hb | exact z_plc_rg hb | exact z_wrote_rg hb (by omega) (by omega) | exact z_pwi_rg hb | exact z_stg_rg hb | exact z_soldN_rg hb | exact z_wd_rgl (by omega) | exact z_sumOf_1 hb) dL_pieces_212 (by decide) (fun h212 => ?_) (fun h212 => ?_)
                · exfalso; omega
                · refine z_aloadn dL_pieces_215 rfl ?_
                  refine z_iload dL_pieces_216 rfl ?_
                  refine z_bipush dL_pieces_218 (by decide) ?_
                  refine kL_36 (tX6_piece hg hn hb (k := i) (w := 6) (by omega) (by omega) (by unfold z_c_piece; rw [if_neg (by omega), if_neg (by omega)])) rfl ⟨(Nat.le_of_ble_eq_true rfl), (Nat.le_of_ble_eq_true rfl)⟩ (Nat.le_of_ble_eq_true rfl) dL_pieces_220 ?_
                  refine z_top (v' := z_aP (M g) i) (rfl) ?_
                  refine z_aloadn dL_pieces_223 rfl ?_
                  refine z_iload dL_pieces_224 rfl ?_
                  refine kL_8 (tL_four_pa (by omega) (by omega) (z_paz hb h4 (by omega) (by omega)) (fun q _ _ => congrFun hE _)) rfl ⟨(Nat.le_of_ble_eq_true rfl), (Nat.le_of_ble_eq_true rfl)⟩ (Nat.le_of_ble_eq_true rfl) dL_pieces_226 ?_
                  refine z_icmp_ne (tgt := 283) (by first | exact y_rb _ | omega | exact z_owns_rg hb | exact z_plc_rg hb | exact z_wrote_rg hb (by omega) (by omega) | exact z_pwi_rg hb | exact z_stg_rg hb | exact z_soldN_rg hb | exact z_wd_rgl (by omega) | exact z_sumOf_1 hb) (by first | exact y_rb _ | omega | exact z_owns_rg hb | exact z_plc_rg hb | exact z_wrote_rg hb (by omega) (by omega) | exact z_pwi_rg hb | exact z_stg_rg hb | exact z_soldN_rg hb | exact z_wd_rgl (by omega) | exact z_sumOf_1 hb) dL_pieces_229 (by decide) (fun h229 => ?_) (fun h229 => ?_)
                  · exfalso; omega
                  · refine z_aloadn dL_pieces_232 rfl ?_
                    refine z_iload dL_pieces_233 rfl ?_
                    refine z_bipush dL_pieces_235 (by decide) ?_
                    refine kL_36 (tX6_piece hg hn hb (k := i) (w := 7) (by omega) (by omega) (by unfold z_c_piece; rw [if_neg (by omega), if_neg (by omega)])) rfl ⟨(Nat.le_of_ble_eq_true rfl), (Nat.le_of_ble_eq_true rfl)⟩ (Nat.le_of_ble_eq_true rfl) dL_pieces_237 ?_
                    refine z_top (v' := M g (86 + 5 * (i : Int) + 4)) (rfl) ?_
                    refine z_aloadn dL_pieces_240 rfl ?_
                    refine z_iconst dL_pieces_241 ?_
                    refine z_iload dL_pieces_242 rfl ?_
                    refine z_imul dL_pieces_244 ?_
                    refine z_iconst dL_pieces_245 ?_
                    refine z_iadd dL_pieces_246 ?_
                    refine z_lld (R := 40) (j := 86 + 5 * (i : Int) + 4) al_pi (Or.inl (by decide)) (congrFun hE _) (by omega) (by omega) (Nat.le_of_ble_eq_true rfl) (by omega) dL_pieces_247 ?_
                    refine z_icmp_ne (tgt := 283) (by first | exact y_rb _ | omega | exact z_owns_rg hb | exact z_plc_rg hb | exact z_wrote_rg hb (by omega) (by omega) | exact z_pwi_rg hb | exact z_stg_rg hb | exact z_soldN_rg hb | exact z_wd_rgl (by omega) | exact z_sumOf_1 hb) (by first | exact y_rb _ | omega | exact z_owns_rg hb | exact z_plc_rg hb | exact z_wrote_rg hb (by omega) (by omega) | exact z_pwi_rg hb | exact z_stg_rg hb | exact z_soldN_rg hb | exact z_wd_rgl (by omega) | exact z_sumOf_1 hb) dL_pieces_248 (by decide) (fun h248 => ?_) (fun h248 => ?_)
                    · exfalso; omega
                    · refine z_aloadn dL_pieces_251 rfl ?_
                      refine z_iload dL_pieces_252 rfl ?_
                      refine z_bipush dL_pieces_254 (by decide) ?_
                      refine kL_36 (tX6_piece hg hn hb (k := i) (w := 8) (by omega) (by omega) (by unfold z_c_piece; rw [if_neg (by omega), if_neg (by omega)])) rfl ⟨(Nat.le_of_ble_eq_true rfl), (Nat.le_of_ble_eq_true rfl)⟩ (Nat.le_of_ble_eq_true rfl) dL_pieces_256 ?_
                      refine z_top (v' := z_kf (M g) i) (rfl) ?_
                      refine z_iload dL_pieces_259 rfl ?_
                      refine z_aloadn dL_pieces_261 rfl ?_
                      refine z_aload dL_pieces_262 rfl ?_
                      refine kL_39 (tL_kill hb (by omega) (by omega) hE) rfl ⟨(Nat.le_of_ble_eq_true rfl), (Nat.le_of_ble_eq_true rfl)⟩ (Nat.le_of_ble_eq_true rfl) dL_pieces_264 ?_
                      refine z_icmp_ne (tgt := 283) (by first | exact y_rb _ | omega | exact z_owns_rg hb | exact z_plc_rg hb | exact z_wrote_rg hb (by omega) (by omega) | exact z_pwi_rg hb | exact z_stg_rg hb | exact z_soldN_rg hb | exact z_wd_rgl (by omega) | exact z_sumOf_1 hb) (by first | exact y_rb _ | omega | exact z_owns_rg hb | exact z_plc_rg hb | exact z_wrote_rg hb (by omega) (by omega) | exact z_pwi_rg hb | exact z_stg_rg hb | exact z_soldN_rg hb | exact z_wd_rgl (by omega) | exact z_sumOf_1 hb) dL_pieces_267 (by decide) (fun h267 => ?_) (fun h267 => ?_)
                      · exfalso; omega
                      · refine z_aloadn dL_pieces_270 rfl ?_
                        refine z_iload dL_pieces_271 rfl ?_
                        refine z_bipush dL_pieces_273 (by decide) ?_
                        refine kL_36 (tX6_piece hg hn hb (k := i) (w := 9) (by omega) (by omega) (by unfold z_c_piece; rw [if_neg (by omega), if_neg (by omega)])) rfl ⟨(Nat.le_of_ble_eq_true rfl), (Nat.le_of_ble_eq_true rfl)⟩ (Nat.le_of_ble_eq_true rfl) dL_pieces_275 ?_
                        refine z_top (v' := z_wd (M g) i (M g 0).toNat) (rfl) ?_
                        refine z_iload dL_pieces_278 rfl ?_
                        refine z_icmp_eq (tgt := 285) (by first | exact y_rb _ | omega | exact z_owns_rg hb | exact z_plc_rg hb | exact z_wrote_rg hb (by omega) (by omega) | exact z_pwi_rg hb | exact z_stg_rg hb | exact z_soldN_rg hb | exact z_wd_rgl (by omega) | exact z_sumOf_1 hb) (by first | exact y_rb _ | omega | exact z_owns_rg hb | exact z_plc_rg hb | exact z_wrote_rg hb (by omega) (by omega) | exact z_pwi_rg hb | exact z_stg_rg hb | exact z_soldN_rg hb | exact z_wd_rgl (by omega) | exact z_sumOf_1 hb) dL_pieces_280 (by decide) (fun h280 => ?_) (fun h280 => ?_)
                        · refine z_iinc_7 dL_pieces_285 (Nat.le_of_ble_eq_true rfl) rfl ?_
                          refine z_goto (tgt := 3) dL_pieces_288 (by decide) ?_
                          refine z_fgt 8 ?_
                          refine z_fgt 9 ?_
                          refine z_fgt 10 ?_
                          exact y_ih
                        · exfalso; omega
            · exfalso; omega
          · intro j hj y_jh
            refine z_rng fun hr => ?_
            refine z_iload dL_pieces_153 rfl ?_
            refine z_iconst dL_pieces_155 ?_
            refine z_icmp_ge (tgt := 187) (by first | exact y_rb _ | omega | exact z_owns_rg hb | exact z_plc_rg hb | exact z_wrote_rg hb (by omega) (by omega) | exact z_pwi_rg hb | exact z_stg_rg hb | exact z_soldN_rg hb | exact z_wd_rgl (by omega) | exact z_sumOf_1 hb) (by first | exact y_rb _ | omega | exact z_owns_rg hb | exact z_plc_rg hb | exact z_wrote_rg hb (by omega) (by omega) | exact z_pwi_rg hb | exact z_stg_rg hb | exact z_soldN_rg hb | exact z_wd_rgl (by omega) | exact z_sumOf_1 hb) dL_pieces_156 (by decide) (fun h156 => ?_) (fun h156 => ?_)
            · exfalso; omega
            · refine z_aloadn dL_pieces_159 rfl ?_
              refine z_iload dL_pieces_160 rfl ?_
              refine z_iload dL_pieces_162 rfl ?_
              refine kL_36 (tX6_piece hg hn hb (k := i) (w := j) (by omega) (by omega) (by unfold z_c_piece; rw [if_neg (by omega), if_neg (by omega)])) rfl ⟨(Nat.le_of_ble_eq_true rfl), (Nat.le_of_ble_eq_true rfl)⟩ (Nat.le_of_ble_eq_true rfl) dL_pieces_164 ?_
              refine z_top (v' := M g (86 + 5 * (i : Int) + (j : Int))) (by unfold z_kv; rw [if_pos (by omega)]) ?_
              refine z_aloadn dL_pieces_167 rfl ?_
              refine z_iconst dL_pieces_168 ?_
              refine z_iload dL_pieces_169 rfl ?_
              refine z_imul dL_pieces_171 ?_
              refine z_iload dL_pieces_172 rfl ?_
              refine z_iadd dL_pieces_174 ?_
              refine z_lld (R := 40) (j := 86 + 5 * (i : Int) + (j : Int)) al_pi (Or.inl (by decide)) (congrFun hE _) (by omega) (by omega) (Nat.le_of_ble_eq_true rfl) (by omega) dL_pieces_175 ?_
              refine z_icmp_eq (tgt := 181) (by first | exact y_rb _ | omega | exact z_owns_rg hb | exact z_plc_rg hb | exact z_wrote_rg hb (by omega) (by omega) | exact z_pwi_rg hb | exact z_stg_rg hb | exact z_soldN_rg hb | exact z_wd_rgl (by omega) | exact z_sumOf_1 hb) (by first | exact y_rb _ | omega | exact z_owns_rg hb | exact z_plc_rg hb | exact z_wrote_rg hb (by omega) (by omega) | exact z_pwi_rg hb | exact z_stg_rg hb | exact z_soldN_rg hb | exact z_wd_rgl (by omega) | exact z_sumOf_1 hb) dL_pieces_176 (by decide) (fun h176 => ?_) (fun h176 => ?_)
              · refine z_iinc_10 dL_pieces_181 (Nat.le_of_ble_eq_true rfl) rfl ?_
                refine z_goto (tgt := 153) dL_pieces_184 (by decide) ?_
                exact y_jh
              · exfalso; omega
        · exfalso; omega
      · intro j hj y_jh
        refine z_rng fun hr => ?_
        refine z_iload dL_pieces_21 rfl ?_
        refine z_aload dL_pieces_23 rfl ?_
        refine z_iconst dL_pieces_25 ?_
        refine z_lld (R := 40) (j := 0) al_c (Or.inl (by decide)) (congrFun hE _) (by omega) (by omega) (Nat.le_of_ble_eq_true rfl) (by omega) dL_pieces_26 ?_
        refine z_icmp_ge (tgt := 150) (by first | exact y_rb _ | omega | exact z_owns_rg hb | exact z_plc_rg hb | exact z_wrote_rg hb (by omega) (by omega) | exact z_pwi_rg hb | exact z_stg_rg hb | exact z_soldN_rg hb | exact z_wd_rgl (by omega) | exact z_sumOf_1 hb) (by first | exact y_rb _ | omega | exact z_owns_rg hb | exact z_plc_rg hb | exact z_wrote_rg hb (by omega) (by omega) | exact z_pwi_rg hb | exact z_stg_rg hb | exact z_soldN_rg hb | exact z_wd_rgl (by omega) | exact z_sumOf_1 hb) dL_pieces_27 (by decide) (fun h27 => ?_) (fun h27 => ?_)
        · exfalso; omega
        · refine z_iload dL_pieces_30 rfl ?_
          refine z_aloadn dL_pieces_32 rfl ?_
          refine z_iconst dL_pieces_33 ?_
          refine z_iload dL_pieces_34 rfl ?_
          refine z_imul dL_pieces_36 ?_
          refine z_iload dL_pieces_37 rfl ?_
          refine z_iadd dL_pieces_39 ?_
          refine z_lld (R := 40) (j := 426 + 12 * (i : Int) + (j : Int)) al_pa (Or.inl (by decide)) (congrFun hE _) (by omega) (by omega) (Nat.le_of_ble_eq_true rfl) (by omega) dL_pieces_40 ?_
          refine z_if_le (tgt := 48) (by first | exact y_rb _ | omega | exact z_owns_rg hb | exact z_plc_rg hb | exact z_wrote_rg hb (by omega) (by omega) | exact z_pwi_rg hb | exact z_stg_rg hb | exact z_soldN_rg hb | exact z_wd_rgl (by omega) | exact z_sumOf_1 hb) dL_pieces_41 (by decide) (fun h41 => ?_) (fun h41 => ?_)
          · refine z_iconst dL_pieces_48 ?_
            refine z_top (v' := if 0 < M g (426 + 12 * (i : Int) + (j : Int)) then 1 else 0) (by first | rw [if_pos (by omega)] | rw [if_neg (by omega)]) ?_
            refine z_iadd dL_pieces_49 ?_
            refine z_istore_8 dL_pieces_50 (Nat.le_of_ble_eq_true rfl) rfl ?_
            refine z_iload dL_pieces_52 rfl ?_
            refine z_iload dL_pieces_54 rfl ?_
            refine z_iload dL_pieces_56 rfl ?_
            refine z_aloadn dL_pieces_58 rfl ?_
            refine z_aloadn dL_pieces_59 rfl ?_
            refine z_aloadn dL_pieces_60 rfl ?_
            refine kL_28 (tL_quarrels hb h4 (by omega) (by omega) (by omega) (by omega) hE) rfl ⟨(Nat.le_of_ble_eq_true rfl), (Nat.le_of_ble_eq_true rfl)⟩ (Nat.le_of_ble_eq_true rfl) dL_pieces_61 ?_
            refine z_ifb_eq (tgt := 74) dL_pieces_64 (by decide) (fun h64 => ?_) (fun h64 => ?_)
            · refine z_iconst dL_pieces_74 ?_
              refine z_iadd dL_pieces_75 ?_
              refine z_top (v' := z_wd (M g) i (j + 1)) (by first | exact z_wd_1 h64 | exact z_wd_0 h64) ?_
              refine z_istore_9 dL_pieces_76 (Nat.le_of_ble_eq_true rfl) rfl ?_
              refine z_aloadn dL_pieces_78 rfl ?_
              refine z_iload dL_pieces_79 rfl ?_
              refine z_iload dL_pieces_81 rfl ?_
              refine z_iconst dL_pieces_83 ?_
              refine kL_32 (tX6_between hg hn hb (k := i) (p := j) (w := 0) (by omega) (by omega) (by omega) (by unfold z_c_between; rw [if_neg (by omega), if_neg (by omega)])) rfl ⟨(Nat.le_of_ble_eq_true rfl), (Nat.le_of_ble_eq_true rfl)⟩ (Nat.le_of_ble_eq_true rfl) dL_pieces_84 ?_
              refine z_top (v' := M g (426 + 12 * (i : Int) + (j : Int))) (rfl) ?_
              refine z_aloadn dL_pieces_87 rfl ?_
              refine z_iconst dL_pieces_88 ?_
              refine z_iload dL_pieces_89 rfl ?_
              refine z_imul dL_pieces_91 ?_
              refine z_iload dL_pieces_92 rfl ?_
              refine z_iadd dL_pieces_94 ?_
              refine z_lld (R := 40) (j := 426 + 12 * (i : Int) + (j : Int)) al_pa (Or.inl (by decide)) (congrFun hE _) (by omega) (by omega) (Nat.le_of_ble_eq_true rfl) (by omega) dL_pieces_95 ?_
              refine z_icmp_ne (tgt := 142) (by first | exact y_rb _ | omega | exact z_owns_rg hb | exact z_plc_rg hb | exact z_wrote_rg hb (by omega) (by omega) | exact z_pwi_rg hb | exact z_stg_rg hb | exact z_soldN_rg hb | exact z_wd_rgl (by omega) | exact z_sumOf_1 hb) (by first | exact y_rb _ | omega | exact z_owns_rg hb | exact z_plc_rg hb | exact z_wrote_rg hb (by omega) (by omega) | exact z_pwi_rg hb | exact z_stg_rg hb | exact z_soldN_rg hb | exact z_wd_rgl (by omega) | exact z_sumOf_1 hb) dL_pieces_96 (by decide) (fun h96 => ?_) (fun h96 => ?_)
              · exfalso; omega
              · refine z_aloadn dL_pieces_99 rfl ?_
                refine z_iload dL_pieces_100 rfl ?_
                refine z_iload dL_pieces_102 rfl ?_
                refine z_iconst dL_pieces_104 ?_
                refine kL_32 (tX6_between hg hn hb (k := i) (p := j) (w := 1) (by omega) (by omega) (by omega) (by unfold z_c_between; rw [if_neg (by omega), if_neg (by omega)])) rfl ⟨(Nat.le_of_ble_eq_true rfl), (Nat.le_of_ble_eq_true rfl)⟩ (Nat.le_of_ble_eq_true rfl) dL_pieces_105 ?_
                refine z_top (v' := M g (186 + 12 * (i : Int) + (j : Int))) (rfl) ?_
                refine z_aloadn dL_pieces_108 rfl ?_
                refine z_iconst dL_pieces_109 ?_
                refine z_iload dL_pieces_110 rfl ?_
                refine z_imul dL_pieces_112 ?_
                refine z_iload dL_pieces_113 rfl ?_
                refine z_iadd dL_pieces_115 ?_
                refine z_lld (R := 40) (j := 186 + 12 * (i : Int) + (j : Int)) al_dr (Or.inl (by decide)) (congrFun hE _) (by omega) (by omega) (Nat.le_of_ble_eq_true rfl) (by omega) dL_pieces_116 ?_
                refine z_icmp_ne (tgt := 142) (by first | exact y_rb _ | omega | exact z_owns_rg hb | exact z_plc_rg hb | exact z_wrote_rg hb (by omega) (by omega) | exact z_pwi_rg hb | exact z_stg_rg hb | exact z_soldN_rg hb | exact z_wd_rgl (by omega) | exact z_sumOf_1 hb) (by first | exact y_rb _ | omega | exact z_owns_rg hb | exact z_plc_rg hb | exact z_wrote_rg hb (by omega) (by omega) | exact z_pwi_rg hb | exact z_stg_rg hb | exact z_soldN_rg hb | exact z_wd_rgl (by omega) | exact z_sumOf_1 hb) dL_pieces_117 (by decide) (fun h117 => ?_) (fun h117 => ?_)
                · exfalso; omega
                · refine z_aloadn dL_pieces_120 rfl ?_
                  refine z_iload dL_pieces_121 rfl ?_
                  refine z_iload dL_pieces_123 rfl ?_
                  refine z_iconst dL_pieces_125 ?_
                  refine kL_32 (tX6_between hg hn hb (k := i) (p := j) (w := 2) (by omega) (by omega) (by omega) (by unfold z_c_between; rw [if_neg (by omega), if_neg (by omega)])) rfl ⟨(Nat.le_of_ble_eq_true rfl), (Nat.le_of_ble_eq_true rfl)⟩ (Nat.le_of_ble_eq_true rfl) dL_pieces_126 ?_
                  refine z_top (v' := M g (666 + 12 * (i : Int) + (j : Int))) (rfl) ?_
                  refine z_aload dL_pieces_129 rfl ?_
                  refine z_iconst dL_pieces_131 ?_
                  refine z_iload dL_pieces_132 rfl ?_
                  refine z_imul dL_pieces_134 ?_
                  refine z_iload dL_pieces_135 rfl ?_
                  refine z_iadd dL_pieces_137 ?_
                  refine z_lld (R := 40) (j := 666 + 12 * (i : Int) + (j : Int)) al_go (Or.inl (by decide)) (congrFun hE _) (by omega) (by omega) (Nat.le_of_ble_eq_true rfl) (by omega) dL_pieces_138 ?_
                  refine z_icmp_eq (tgt := 144) (by first | exact y_rb _ | omega | exact z_owns_rg hb | exact z_plc_rg hb | exact z_wrote_rg hb (by omega) (by omega) | exact z_pwi_rg hb | exact z_stg_rg hb | exact z_soldN_rg hb | exact z_wd_rgl (by omega) | exact z_sumOf_1 hb) (by first | exact y_rb _ | omega | exact z_owns_rg hb | exact z_plc_rg hb | exact z_wrote_rg hb (by omega) (by omega) | exact z_pwi_rg hb | exact z_stg_rg hb | exact z_soldN_rg hb | exact z_wd_rgl (by omega) | exact z_sumOf_1 hb) dL_pieces_139 (by decide) (fun h139 => ?_) (fun h139 => ?_)
                  · refine z_iinc_10 dL_pieces_144 (Nat.le_of_ble_eq_true rfl) rfl ?_
                    refine z_goto (tgt := 21) dL_pieces_147 (by decide) ?_
                    exact y_jh
                  · exfalso; omega
            · refine z_iconst dL_pieces_67 ?_
              refine z_iload dL_pieces_68 rfl ?_
              refine z_ishl (z_bshl (by omega) (by omega)) dL_pieces_70 ?_
              refine z_goto (tgt := 75) dL_pieces_71 (by decide) ?_
              refine z_iadd dL_pieces_75 ?_
              refine z_top (v' := z_wd (M g) i (j + 1)) (by first | exact z_wd_1 h64 | exact z_wd_0 h64) ?_
              refine z_istore_9 dL_pieces_76 (Nat.le_of_ble_eq_true rfl) rfl ?_
              refine z_aloadn dL_pieces_78 rfl ?_
              refine z_iload dL_pieces_79 rfl ?_
              refine z_iload dL_pieces_81 rfl ?_
              refine z_iconst dL_pieces_83 ?_
              refine kL_32 (tX6_between hg hn hb (k := i) (p := j) (w := 0) (by omega) (by omega) (by omega) (by unfold z_c_between; rw [if_neg (by omega), if_neg (by omega)])) rfl ⟨(Nat.le_of_ble_eq_true rfl), (Nat.le_of_ble_eq_true rfl)⟩ (Nat.le_of_ble_eq_true rfl) dL_pieces_84 ?_
              refine z_top (v' := M g (426 + 12 * (i : Int) + (j : Int))) (rfl) ?_
              refine z_aloadn dL_pieces_87 rfl ?_
              refine z_iconst dL_pieces_88 ?_
              refine z_iload dL_pieces_89 rfl ?_
              refine z_imul dL_pieces_91 ?_
              refine z_iload dL_pieces_92 rfl ?_
              refine z_iadd dL_pieces_94 ?_
              refine z_lld (R := 40) (j := 426 + 12 * (i : Int) + (j : Int)) al_pa (Or.inl (by decide)) (congrFun hE _) (by omega) (by omega) (Nat.le_of_ble_eq_true rfl) (by omega) dL_pieces_95 ?_
              refine z_icmp_ne (tgt := 142) (by first | exact y_rb _ | omega | exact z_owns_rg hb | exact z_plc_rg hb | exact z_wrote_rg hb (by omega) (by omega) | exact z_pwi_rg hb | exact z_stg_rg hb | exact z_soldN_rg hb | exact z_wd_rgl (by omega) | exact z_sumOf_1 hb) (by first | exact y_rb _ | omega | exact z_owns_rg hb | exact z_plc_rg hb | exact z_wrote_rg hb (by omega) (by omega) | exact z_pwi_rg hb | exact z_stg_rg hb | exact z_soldN_rg hb | exact z_wd_rgl (by omega) | exact z_sumOf_1 hb) dL_pieces_96 (by decide) (fun h96 => ?_) (fun h96 => ?_)
              · exfalso; omega
              · refine z_aloadn dL_pieces_99 rfl ?_
                refine z_iload dL_pieces_100 rfl ?_
                refine z_iload dL_pieces_102 rfl ?_
                refine z_iconst dL_pieces_104 ?_
                refine kL_32 (tX6_between hg hn hb (k := i) (p := j) (w := 1) (by omega) (by omega) (by omega) (by unfold z_c_between; rw [if_neg (by omega), if_neg (by omega)])) rfl ⟨(Nat.le_of_ble_eq_true rfl), (Nat.le_of_ble_eq_true rfl)⟩ (Nat.le_of_ble_eq_true rfl) dL_pieces_105 ?_
                refine z_top (v' := M g (186 + 12 * (i : Int) + (j : Int))) (rfl) ?_
                refine z_aloadn dL_pieces_108 rfl ?_
                refine z_iconst dL_pieces_109 ?_
                refine z_iload dL_pieces_110 rfl ?_
                refine z_imul dL_pieces_112 ?_
                refine z_iload dL_pieces_113 rfl ?_
                refine z_iadd dL_pieces_115 ?_
                refine z_lld (R := 40) (j := 186 + 12 * (i : Int) + (j : Int)) al_dr (Or.inl (by decide)) (congrFun hE _) (by omega) (by omega) (Nat.le_of_ble_eq_true rfl) (by omega) dL_pieces_116 ?_
                refine z_icmp_ne (tgt := 142) (by first | exact y_rb _ | omega | exact z_owns_rg hb | exact z_plc_rg hb | exact z_wrote_rg hb (by omega) (by omega) | exact z_pwi_rg hb | exact z_stg_rg hb | exact z_soldN_rg hb | exact z_wd_rgl (by omega) | exact z_sumOf_1 hb) (by first | exact y_rb _ | omega | exact z_owns_rg hb | exact z_plc_rg hb | exact z_wrote_rg hb (by omega) (by omega) | exact z_pwi_rg hb | exact z_stg_rg hb | exact z_soldN_rg hb | exact z_wd_rgl (by omega) | exact z_sumOf_1 hb) dL_pieces_117 (by decide) (fun h117 => ?_) (fun h117 => ?_)
                · exfalso; omega
                · refine z_aloadn dL_pieces_120 rfl ?_
                  refine z_iload dL_pieces_121 rfl ?_
                  refine z_iload dL_pieces_123 rfl ?_
                  refine z_iconst dL_pieces_125 ?_
                  refine kL_32 (tX6_between hg hn hb (k := i) (p := j) (w := 2) (by omega) (by omega) (by omega) (by unfold z_c_between; rw [if_neg (by omega), if_neg (by omega)])) rfl ⟨(Nat.le_of_ble_eq_true rfl), (Nat.le_of_ble_eq_true rfl)⟩ (Nat.le_of_ble_eq_true rfl) dL_pieces_126 ?_
                  refine z_top (v' := M g (666 + 12 * (i : Int) + (j : Int))) (rfl) ?_
                  refine z_aload dL_pieces_129 rfl ?_
                  refine z_iconst dL_pieces_131 ?_
                  refine z_iload dL_pieces_132 rfl ?_
                  refine z_imul dL_pieces_134 ?_
                  refine z_iload dL_pieces_135 rfl ?_
                  refine z_iadd dL_pieces_137 ?_
                  refine z_lld (R := 40) (j := 666 + 12 * (i : Int) + (j : Int)) al_go (Or.inl (by decide)) (congrFun hE _) (by omega) (by omega) (Nat.le_of_ble_eq_true rfl) (by omega) dL_pieces_138 ?_
                  refine z_icmp_eq (tgt := 144) (by first | exact y_rb _ | omega | exact z_owns_rg hb | exact z_plc_rg hb | exact z_wrote_rg hb (by omega) (by omega) | exact z_pwi_rg hb | exact z_stg_rg hb | exact z_soldN_rg hb | exact z_wd_rgl (by omega) | exact z_sumOf_1 hb) (by first | exact y_rb _ | omega | exact z_owns_rg hb | exact z_plc_rg hb | exact z_wrote_rg hb (by omega) (by omega) | exact z_pwi_rg hb | exact z_stg_rg hb | exact z_soldN_rg hb | exact z_wd_rgl (by omega) | exact z_sumOf_1 hb) dL_pieces_139 (by decide) (fun h139 => ?_) (fun h139 => ?_)
                  · refine z_iinc_10 dL_pieces_144 (Nat.le_of_ble_eq_true rfl) rfl ?_
                    refine z_goto (tgt := 21) dL_pieces_147 (by decide) ?_
                    exact y_jh
                  · exfalso; omega
          · refine z_iconst dL_pieces_44 ?_
            refine z_goto (tgt := 49) dL_pieces_45 (by decide) ?_
            refine z_top (v' := if 0 < M g (426 + 12 * (i : Int) + (j : Int)) then 1 else 0) (by first | rw [if_pos (by omega)] | rw [if_neg (by omega)]) ?_
            refine z_iadd dL_pieces_49 ?_
            refine z_istore_8 dL_pieces_50 (Nat.le_of_ble_eq_true rfl) rfl ?_
            refine z_iload dL_pieces_52 rfl ?_
            refine z_iload dL_pieces_54 rfl ?_
            refine z_iload dL_pieces_56 rfl ?_
            refine z_aloadn dL_pieces_58 rfl ?_
            refine z_aloadn dL_pieces_59 rfl ?_
            refine z_aloadn dL_pieces_60 rfl ?_
            refine kL_28 (tL_quarrels hb h4 (by omega) (by omega) (by omega) (by omega) hE) rfl ⟨(Nat.le_of_ble_eq_true rfl), (Nat.le_of_ble_eq_true rfl)⟩ (Nat.le_of_ble_eq_true rfl) dL_pieces_61 ?_
            refine z_ifb_eq (tgt := 74) dL_pieces_64 (by decide) (fun h64 => ?_) (fun h64 => ?_)
            · refine z_iconst dL_pieces_74 ?_
              refine z_iadd dL_pieces_75 ?_
              refine z_top (v' := z_wd (M g) i (j + 1)) (by first | exact z_wd_1 h64 | exact z_wd_0 h64) ?_
              refine z_istore_9 dL_pieces_76 (Nat.le_of_ble_eq_true rfl) rfl ?_
              refine z_aloadn dL_pieces_78 rfl ?_
              refine z_iload dL_pieces_79 rfl ?_
              refine z_iload dL_pieces_81 rfl ?_
              refine z_iconst dL_pieces_83 ?_
              refine kL_32 (tX6_between hg hn hb (k := i) (p := j) (w := 0) (by omega) (by omega) (by omega) (by unfold z_c_between; rw [if_neg (by omega), if_neg (by omega)])) rfl ⟨(Nat.le_of_ble_eq_true rfl), (Nat.le_of_ble_eq_true rfl)⟩ (Nat.le_of_ble_eq_true rfl) dL_pieces_84 ?_
              refine z_top (v' := M g (426 + 12 * (i : Int) + (j : Int))) (rfl) ?_
              refine z_aloadn dL_pieces_87 rfl ?_
              refine z_iconst dL_pieces_88 ?_
              refine z_iload dL_pieces_89 rfl ?_
              refine z_imul dL_pieces_91 ?_
              refine z_iload dL_pieces_92 rfl ?_
              refine z_iadd dL_pieces_94 ?_
              refine z_lld (R := 40) (j := 426 + 12 * (i : Int) + (j : Int)) al_pa (Or.inl (by decide)) (congrFun hE _) (by omega) (by omega) (Nat.le_of_ble_eq_true rfl) (by omega) dL_pieces_95 ?_
              refine z_icmp_ne (tgt := 142) (by first | exact y_rb _ | omega | exact z_owns_rg hb | exact z_plc_rg hb | exact z_wrote_rg hb (by omega) (by omega) | exact z_pwi_rg hb | exact z_stg_rg hb | exact z_soldN_rg hb | exact z_wd_rgl (by omega) | exact z_sumOf_1 hb) (by first | exact y_rb _ | omega | exact z_owns_rg hb | exact z_plc_rg hb | exact z_wrote_rg hb (by omega) (by omega) | exact z_pwi_rg hb | exact z_stg_rg hb | exact z_soldN_rg hb | exact z_wd_rgl (by omega) | exact z_sumOf_1 hb) dL_pieces_96 (by decide) (fun h96 => ?_) (fun h96 => ?_)
              · exfalso; omega
              · refine z_aloadn dL_pieces_99 rfl ?_
                refine z_iload dL_pieces_100 rfl ?_
                refine z_iload dL_pieces_102 rfl ?_
                refine z_iconst dL_pieces_104 ?_
                refine kL_32 (tX6_between hg hn hb (k := i) (p := j) (w := 1) (by omega) (by omega) (by omega) (by unfold z_c_between; rw [if_neg (by omega), if_neg (by omega)])) rfl ⟨(Nat.le_of_ble_eq_true rfl), (Nat.le_of_ble_eq_true rfl)⟩ (Nat.le_of_ble_eq_true rfl) dL_pieces_105 ?_
                refine z_top (v' := M g (186 + 12 * (i : Int) + (j : Int))) (rfl) ?_
                refine z_aloadn dL_pieces_108 rfl ?_
                refine z_iconst dL_pieces_109 ?_
                refine z_iload dL_pieces_110 rfl ?_
                refine z_imul dL_pieces_112 ?_
                refine z_iload dL_pieces_113 rfl ?_
                refine z_iadd dL_pieces_115 ?_
                refine z_lld (R := 40) (j := 186 + 12 * (i : Int) + (j : Int)) al_dr (Or.inl (by decide)) (congrFun hE _) (by omega) (by omega) (Nat.le_of_ble_eq_true rfl) (by omega) dL_pieces_116 ?_
                refine z_icmp_ne (tgt := 142) (by first | exact y_rb _ | omega | exact z_owns_rg hb | exact z_plc_rg hb | exact z_wrote_rg hb (by omega) (by omega) | exact z_pwi_rg hb | exact z_stg_rg hb | exact z_soldN_rg hb | exact z_wd_rgl (by omega) | exact z_sumOf_1 hb) (by first | exact y_rb _ | omega | exact z_owns_rg hb | exact z_plc_rg hb | exact z_wrote_rg hb (by omega) (by omega) | exact z_pwi_rg hb | exact z_stg_rg hb | exact z_soldN_rg hb | exact z_wd_rgl (by omega) | exact z_sumOf_1 hb) dL_pieces_117 (by decide) (fun h117 => ?_) (fun h117 => ?_)
                · exfalso; omega
                · refine z_aloadn dL_pieces_120 rfl ?_
                  refine z_iload dL_pieces_121 rfl ?_
                  refine z_iload dL_pieces_123 rfl ?_
                  refine z_iconst dL_pieces_125 ?_
                  refine kL_32 (tX6_between hg hn hb (k := i) (p := j) (w := 2) (by omega) (by omega) (by omega) (by unfold z_c_between; rw [if_neg (by omega), if_neg (by omega)])) rfl ⟨(Nat.le_of_ble_eq_true rfl), (Nat.le_of_ble_eq_true rfl)⟩ (Nat.le_of_ble_eq_true rfl) dL_pieces_126 ?_
                  refine z_top (v' := M g (666 + 12 * (i : Int) + (j : Int))) (rfl) ?_
                  refine z_aload dL_pieces_129 rfl ?_
                  refine z_iconst dL_pieces_131 ?_
                  refine z_iload dL_pieces_132 rfl ?_
                  refine z_imul dL_pieces_134 ?_
                  refine z_iload dL_pieces_135 rfl ?_
                  refine z_iadd dL_pieces_137 ?_
                  refine z_lld (R := 40) (j := 666 + 12 * (i : Int) + (j : Int)) al_go (Or.inl (by decide)) (congrFun hE _) (by omega) (by omega) (Nat.le_of_ble_eq_true rfl) (by omega) dL_pieces_138 ?_
                  refine z_icmp_eq (tgt := 144) (by first | exact y_rb _ | omega | exact z_owns_rg hb | exact z_plc_rg hb | exact z_wrote_rg hb (by omega) (by omega) | exact z_pwi_rg hb | exact z_stg_rg hb | exact z_soldN_rg hb | exact z_wd_rgl (by omega) | exact z_sumOf_1 hb) (by first | exact y_rb _ | omega | exact z_owns_rg hb | exact z_plc_rg hb | exact z_wrote_rg hb (by omega) (by omega) | exact z_pwi_rg hb | exact z_stg_rg hb | exact z_soldN_rg hb | exact z_wd_rgl (by omega) | exact z_sumOf_1 hb) dL_pieces_139 (by decide) (fun h139 => ?_) (fun h139 => ?_)
                  · refine z_iinc_10 dL_pieces_144 (Nat.le_of_ble_eq_true rfl) rfl ?_
                    refine z_goto (tgt := 21) dL_pieces_147 (by decide) ?_
                    exact y_jh
                  · exfalso; omega
            · refine z_iconst dL_pieces_67 ?_
              refine z_iload dL_pieces_68 rfl ?_
              refine z_ishl (z_bshl (by omega) (by omega)) dL_pieces_70 ?_
              refine z_goto (tgt := 75) dL_pieces_71 (by decide) ?_
              refine z_iadd dL_pieces_75 ?_
              refine z_top (v' := z_wd (M g) i (j + 1)) (by first | exact z_wd_1 h64 | exact z_wd_0 h64) ?_
              refine z_istore_9 dL_pieces_76 (Nat.le_of_ble_eq_true rfl) rfl ?_
              refine z_aloadn dL_pieces_78 rfl ?_
              refine z_iload dL_pieces_79 rfl ?_
              refine z_iload dL_pieces_81 rfl ?_
              refine z_iconst dL_pieces_83 ?_
              refine kL_32 (tX6_between hg hn hb (k := i) (p := j) (w := 0) (by omega) (by omega) (by omega) (by unfold z_c_between; rw [if_neg (by omega), if_neg (by omega)])) rfl ⟨(Nat.le_of_ble_eq_true rfl), (Nat.le_of_ble_eq_true rfl)⟩ (Nat.le_of_ble_eq_true rfl) dL_pieces_84 ?_
              refine z_top (v' := M g (426 + 12 * (i : Int) + (j : Int))) (rfl) ?_
              refine z_aloadn dL_pieces_87 rfl ?_
              refine z_iconst dL_pieces_88 ?_
              refine z_iload dL_pieces_89 rfl ?_
              refine z_imul dL_pieces_91 ?_
              refine z_iload dL_pieces_92 rfl ?_
              refine z_iadd dL_pieces_94 ?_
              refine z_lld (R := 40) (j := 426 + 12 * (i : Int) + (j : Int)) al_pa (Or.inl (by decide)) (congrFun hE _) (by omega) (by omega) (Nat.le_of_ble_eq_true rfl) (by omega) dL_pieces_95 ?_
              refine z_icmp_ne (tgt := 142) (by first | exact y_rb _ | omega | exact z_owns_rg hb | exact z_plc_rg hb | exact z_wrote_rg hb (by omega) (by omega) | exact z_pwi_rg hb | exact z_stg_rg hb | exact z_soldN_rg hb | exact z_wd_rgl (by omega) | exact z_sumOf_1 hb) (by first | exact y_rb _ | omega | exact z_owns_rg hb | exact z_plc_rg hb | exact z_wrote_rg hb (by omega) (by omega) | exact z_pwi_rg hb | exact z_stg_rg hb | exact z_soldN_rg hb | exact z_wd_rgl (by omega) | exact z_sumOf_1 hb) dL_pieces_96 (by decide) (fun h96 => ?_) (fun h96 => ?_)
              · exfalso; omega
              · refine z_aloadn dL_pieces_99 rfl ?_
                refine z_iload dL_pieces_100 rfl ?_
                refine z_iload dL_pieces_102 rfl ?_
                refine z_iconst dL_pieces_104 ?_
                refine kL_32 (tX6_between hg hn hb (k := i) (p := j) (w := 1) (by omega) (by omega) (by omega) (by unfold z_c_between; rw [if_neg (by omega), if_neg (by omega)])) rfl ⟨(Nat.le_of_ble_eq_true rfl), (Nat.le_of_ble_eq_true rfl)⟩ (Nat.le_of_ble_eq_true rfl) dL_pieces_105 ?_
                refine z_top (v' := M g (186 + 12 * (i : Int) + (j : Int))) (rfl) ?_
                refine z_aloadn dL_pieces_108 rfl ?_
                refine z_iconst dL_pieces_109 ?_
                refine z_iload dL_pieces_110 rfl ?_
                refine z_imul dL_pieces_112 ?_
                refine z_iload dL_pieces_113 rfl ?_
                refine z_iadd dL_pieces_115 ?_
                refine z_lld (R := 40) (j := 186 + 12 * (i : Int) + (j : Int)) al_dr (Or.inl (by decide)) (congrFun hE _) (by omega) (by omega) (Nat.le_of_ble_eq_true rfl) (by omega) dL_pieces_116 ?_
                refine z_icmp_ne (tgt := 142) (by first | exact y_rb _ | omega | exact z_owns_rg hb | exact z_plc_rg hb | exact z_wrote_rg hb (by omega) (by omega) | exact z_pwi_rg hb | exact z_stg_rg hb | exact z_soldN_rg hb | exact z_wd_rgl (by omega) | exact z_sumOf_1 hb) (by first | exact y_rb _ | omega | exact z_owns_rg hb | exact z_plc_rg hb | exact z_wrote_rg hb (by omega) (by omega) | exact z_pwi_rg hb | exact z_stg_rg hb | exact z_soldN_rg hb | exact z_wd_rgl (by omega) | exact z_sumOf_1 hb) dL_pieces_117 (by decide) (fun h117 => ?_) (fun h117 => ?_)
                · exfalso; omega
                · refine z_aloadn dL_pieces_120 rfl ?_
                  refine z_iload dL_pieces_121 rfl ?_
                  refine z_iload dL_pieces_123 rfl ?_
                  refine z_iconst dL_pieces_125 ?_
                  refine kL_32 (tX6_between hg hn hb (k := i) (p := j) (w := 2) (by omega) (by omega) (by omega) (by unfold z_c_between; rw [if_neg (by omega), if_neg (by omega)])) rfl ⟨(Nat.le_of_ble_eq_true rfl), (Nat.le_of_ble_eq_true rfl)⟩ (Nat.le_of_ble_eq_true rfl) dL_pieces_126 ?_
                  refine z_top (v' := M g (666 + 12 * (i : Int) + (j : Int))) (rfl) ?_
                  refine z_aload dL_pieces_129 rfl ?_
                  refine z_iconst dL_pieces_131 ?_
                  refine z_iload dL_pieces_132 rfl ?_
                  refine z_imul dL_pieces_134 ?_
                  refine z_iload dL_pieces_135 rfl ?_
                  refine z_iadd dL_pieces_137 ?_
                  refine z_lld (R := 40) (j := 666 + 12 * (i : Int) + (j : Int)) al_go (Or.inl (by decide)) (congrFun hE _) (by omega) (by omega) (Nat.le_of_ble_eq_true rfl) (by omega) dL_pieces_138 ?_
                  refine z_icmp_eq (tgt := 144) (by first | exact y_rb _ | omega | exact z_owns_rg hb | exact z_plc_rg hb | exact z_wrote_rg hb (by omega) (by omega) | exact z_pwi_rg hb | exact z_stg_rg hb | exact z_soldN_rg hb | exact z_wd_rgl (by omega) | exact z_sumOf_1 hb) (by first | exact y_rb _ | omega | exact z_owns_rg hb | exact z_plc_rg hb | exact z_wrote_rg hb (by omega) (by omega) | exact z_pwi_rg hb | exact z_stg_rg hb | exact z_soldN_rg hb | exact z_wd_rgl (by omega) | exact z_sumOf_1 hb) dL_pieces_139 (by decide) (fun h139 => ?_) (fun h139 => ?_)
                  · refine z_iinc_10 dL_pieces_144 (Nat.le_of_ble_eq_true rfl) rfl ?_
                    refine z_goto (tgt := 21) dL_pieces_147 (by decide) ?_
                    exact y_jh
                  · exfalso; omega
theorem tL_told {G : z_G} {M : z_M} {g : Nat} {N : Int} (hg : g < 7) (hn : M 7 2 = (g : Int)) (hb : z_BI (M g) N) (hE : M 40 = M g) (h4 : M g 0 ≤ 4) (h5 : M g 1 ≤ 4) : KL_told G [.ref (z_ad G 0 20), .ref (z_ad G 0 40), .ref (z_ad G 0 41), .ref (z_ad G 0 42), .ref (z_ad G 0 43), .ref (z_ad G 0 44), .ref (z_ad G 0 45), .ref (z_ad G 0 46)] M (.inl (some (z_I 1))) M := by
  refine z_con (ls := [some (.ref (z_ad G 0 20)), some (.ref (z_ad G 0 40)), some (.ref (z_ad G 0 41)), some (.ref (z_ad G 0 42)), some (.ref (z_ad G 0 43)), some (.ref (z_ad G 0 44)), some (.ref (z_ad G 0 45)), some (.ref (z_ad G 0 46)), none, none, none, none, none]) (by decide +kernel) (Nat.le_of_ble_eq_true rfl) rfl ?_
  intro Z htb
  refine z_rng fun hr => ?_
  have hh := z_BI_h hb
  have y_rb : ∀ i, z_rg (M g i) := fun i => hr g i (by omega)
  have y_s0 := z_sumOf_0 hb
  have y_res := z_BI_res hb
  have y_sp := z_spr_rg hb h4
  refine z_aloadn dL_told_0 rfl ?_
  refine z_aloadn dL_told_1 rfl ?_
  refine z_aloadn dL_told_2 rfl ?_
  refine z_aload dL_told_3 rfl ?_
  refine kL_43 (tL_pens hg hn hb hE h4 h5) rfl ⟨(Nat.le_of_ble_eq_true rfl), (Nat.le_of_ble_eq_true rfl)⟩ (Nat.le_of_ble_eq_true rfl) dL_told_5 ?_
  refine z_if_eq (tgt := 28) (by first | exact y_rb _ | omega | exact z_owns_rg hb | exact z_plc_rg hb | exact z_wrote_rg hb (by omega) (by omega) | exact z_pwi_rg hb | exact z_stg_rg hb | exact z_soldN_rg hb | exact z_wd_rgl (by omega) | exact z_sumOf_1 hb) dL_told_8 (by decide) (fun h8 => ?_) (fun h8 => ?_)
  · exact absurd h8 (by decide)
  · refine z_aloadn dL_told_11 rfl ?_
    refine z_aloadn dL_told_12 rfl ?_
    refine z_aloadn dL_told_13 rfl ?_
    refine z_aload dL_told_14 rfl ?_
    refine z_aload dL_told_16 rfl ?_
    refine z_aload dL_told_18 rfl ?_
    refine z_aload dL_told_20 rfl ?_
    refine kL_47 (tL_pieces hg hn hb hE h4 h5) rfl ⟨(Nat.le_of_ble_eq_true rfl), (Nat.le_of_ble_eq_true rfl)⟩ (Nat.le_of_ble_eq_true rfl) dL_told_22 ?_
    refine z_if_ne (tgt := 30) (by first | exact y_rb _ | omega | exact z_owns_rg hb | exact z_plc_rg hb | exact z_wrote_rg hb (by omega) (by omega) | exact z_pwi_rg hb | exact z_stg_rg hb | exact z_soldN_rg hb | exact z_wd_rgl (by omega) | exact z_sumOf_1 hb) dL_told_25 (by decide) (fun h25 => ?_) (fun h25 => ?_)
    · refine z_iconst dL_told_30 ?_
      refine z_istore_8 dL_told_31 (Nat.le_of_ble_eq_true rfl) rfl ?_
      refine z_iconst dL_told_33 ?_
      refine z_istore_9 dL_told_34 (Nat.le_of_ble_eq_true rfl) rfl ?_
      refine z_iconst dL_told_36 ?_
      refine z_istore_10 dL_told_37 (Nat.le_of_ble_eq_true rfl) rfl ?_
      refine z_iconst dL_told_39 ?_
      refine z_istore_11 dL_told_40 (Nat.le_of_ble_eq_true rfl) rfl ?_
      refine z_upn (P := fun i : Nat => z_J G Z _ _ 42 [some (.ref (z_ad G 0 20)), some (.ref (z_ad G 0 40)), some (.ref (z_ad G 0 41)), some (.ref (z_ad G 0 42)), some (.ref (z_ad G 0 43)), some (.ref (z_ad G 0 44)), some (.ref (z_ad G 0 45)), some (.ref (z_ad G 0 46)), some (z_I (z_sm i (fun q => if M g (86 + 5 * q + 2) = 3 then 1 else 0))), some (z_I (z_sm i (fun q => if M g (86 + 5 * q + 2) = 4 then 1 else 0))), some (z_I 0), some (z_I i), none] [] M 0 0) (M g 1).toNat ?_ ?_
      · refine z_rng fun hr => ?_
        refine z_iload dL_told_42 rfl ?_
        refine z_aload dL_told_44 rfl ?_
        refine z_iconst dL_told_46 ?_
        refine z_lld (R := 40) (j := 1) al_c (Or.inl (by decide)) (congrFun hE _) (by omega) (by omega) (Nat.le_of_ble_eq_true rfl) (by omega) dL_told_47 ?_
        refine z_icmp_ge (tgt := 101) (by first | exact y_rb _ | omega | exact z_owns_rg hb | exact z_plc_rg hb | exact z_wrote_rg hb (by omega) (by omega) | exact z_pwi_rg hb | exact z_stg_rg hb | exact z_soldN_rg hb | exact z_wd_rgl (by omega) | exact z_sumOf_1 hb) (by first | exact y_rb _ | omega | exact z_owns_rg hb | exact z_plc_rg hb | exact z_wrote_rg hb (by omega) (by omega) | exact z_pwi_rg hb | exact z_stg_rg hb | exact z_soldN_rg hb | exact z_wd_rgl (by omega) | exact z_sumOf_1 hb) dL_told_48 (by decide) (fun h48 => ?_) (fun h48 => ?_)
        · refine z_iconst dL_told_101 ?_
          refine z_istore_11 dL_told_102 (Nat.le_of_ble_eq_true rfl) rfl ?_
          refine z_upn (P := fun i : Nat => z_J G Z _ _ 104 [some (.ref (z_ad G 0 20)), some (.ref (z_ad G 0 40)), some (.ref (z_ad G 0 41)), some (.ref (z_ad G 0 42)), some (.ref (z_ad G 0 43)), some (.ref (z_ad G 0 44)), some (.ref (z_ad G 0 45)), some (.ref (z_ad G 0 46)), some (z_I (z_stg (M g) 3)), some (z_I (z_stg (M g) 4)), some (z_I (z_spr (M g) i)), some (z_I i), none] [] M 0 0) (M g 0).toNat ?_ ?_
          · refine z_rng fun hr => ?_
            refine z_iload dL_told_104 rfl ?_
            refine z_aload dL_told_106 rfl ?_
            refine z_iconst dL_told_108 ?_
            refine z_lld (R := 40) (j := 0) al_c (Or.inl (by decide)) (congrFun hE _) (by omega) (by omega) (Nat.le_of_ble_eq_true rfl) (by omega) dL_told_109 ?_
            refine z_icmp_ge (tgt := 190) (by first | exact y_rb _ | omega | exact z_owns_rg hb | exact z_plc_rg hb | exact z_wrote_rg hb (by omega) (by omega) | exact z_pwi_rg hb | exact z_stg_rg hb | exact z_soldN_rg hb | exact z_wd_rgl (by omega) | exact z_sumOf_1 hb) (by first | exact y_rb _ | omega | exact z_owns_rg hb | exact z_plc_rg hb | exact z_wrote_rg hb (by omega) (by omega) | exact z_pwi_rg hb | exact z_stg_rg hb | exact z_soldN_rg hb | exact z_wd_rgl (by omega) | exact z_sumOf_1 hb) dL_told_110 (by decide) (fun h110 => ?_) (fun h110 => ?_)
            · refine z_iconst dL_told_190 ?_
              refine z_istore_11 dL_told_191 (Nat.le_of_ble_eq_true rfl) rfl ?_
              refine z_fgt 12 ?_
              refine z_upn (P := fun i : Nat => z_J G Z _ _ 193 [some (.ref (z_ad G 0 20)), some (.ref (z_ad G 0 40)), some (.ref (z_ad G 0 41)), some (.ref (z_ad G 0 42)), some (.ref (z_ad G 0 43)), some (.ref (z_ad G 0 44)), some (.ref (z_ad G 0 45)), some (.ref (z_ad G 0 46)), some (z_I (z_stg (M g) 3)), some (z_I (z_stg (M g) 4)), some (z_I (z_spr (M g) (M g 0).toNat)), some (z_I i), none] [] M 0 0) 6 ?_ ?_
              · refine z_rng fun hr => ?_
                refine z_iload dL_told_193 rfl ?_
                refine z_bipush dL_told_195 (by decide) ?_
                refine z_icmp_ge (tgt := 222) (by first | exact y_rb _ | omega | exact z_owns_rg hb | exact z_plc_rg hb | exact z_wrote_rg hb (by omega) (by omega) | exact z_pwi_rg hb | exact z_stg_rg hb | exact z_soldN_rg hb | exact z_wd_rgl (by omega) | exact z_sumOf_1 hb) (by first | exact y_rb _ | omega | exact z_owns_rg hb | exact z_plc_rg hb | exact z_wrote_rg hb (by omega) (by omega) | exact z_pwi_rg hb | exact z_stg_rg hb | exact z_soldN_rg hb | exact z_wd_rgl (by omega) | exact z_sumOf_1 hb) dL_told_197 (by decide) (fun h197 => ?_) (fun h197 => ?_)
                · refine z_iconst dL_told_222 ?_
                  refine z_istore_11 dL_told_223 (Nat.le_of_ble_eq_true rfl) rfl ?_
                  refine z_upn (P := fun i : Nat => z_J G Z _ _ 225 [some (.ref (z_ad G 0 20)), some (.ref (z_ad G 0 40)), some (.ref (z_ad G 0 41)), some (.ref (z_ad G 0 42)), some (.ref (z_ad G 0 43)), some (.ref (z_ad G 0 44)), some (.ref (z_ad G 0 45)), some (.ref (z_ad G 0 46)), some (z_I (z_stg (M g) 3)), some (z_I (z_stg (M g) 4)), some (z_I (z_spr (M g) (M g 0).toNat)), some (z_I i), none] [] M 0 0) 5 ?_ ?_
                  · refine z_rng fun hr => ?_
                    refine z_iload dL_told_225 rfl ?_
                    refine z_iconst dL_told_227 ?_
                    refine z_icmp_ge (tgt := 253) (by first | exact y_rb _ | omega | exact z_owns_rg hb | exact z_plc_rg hb | exact z_wrote_rg hb (by omega) (by omega) | exact z_pwi_rg hb | exact z_stg_rg hb | exact z_soldN_rg hb | exact z_wd_rgl (by omega) | exact z_sumOf_1 hb) (by first | exact y_rb _ | omega | exact z_owns_rg hb | exact z_plc_rg hb | exact z_wrote_rg hb (by omega) (by omega) | exact z_pwi_rg hb | exact z_stg_rg hb | exact z_soldN_rg hb | exact z_wd_rgl (by omega) | exact z_sumOf_1 hb) dL_told_228 (by decide) (fun h228 => ?_) (fun h228 => ?_)
                    · refine z_aloadn dL_told_253 rfl ?_
                      refine z_iconst dL_told_254 ?_
                      refine kL_55 (tX6_count hg hn hb (w := 5) (by omega) (by unfold z_c_count; rw [if_pos (by omega)])) rfl ⟨(Nat.le_of_ble_eq_true rfl), (Nat.le_of_ble_eq_true rfl)⟩ (Nat.le_of_ble_eq_true rfl) dL_told_255 ?_
                      refine z_top (v' := z_sumOf (M g) 0) (rfl) ?_
                      refine z_iconst dL_told_258 ?_
                      refine z_aloadn dL_told_259 rfl ?_
                      refine z_aload dL_told_260 rfl ?_
                      refine kL_58 (tL_sum0 hb h4 hE) rfl ⟨(Nat.le_of_ble_eq_true rfl), (Nat.le_of_ble_eq_true rfl)⟩ (Nat.le_of_ble_eq_true rfl) dL_told_262 ?_
                      refine z_icmp_ne (tgt := 363) (by first | exact y_rb _ | omega | exact z_owns_rg hb | exact z_plc_rg hb | exact z_wrote_rg hb (by omega) (by omega) | exact z_pwi_rg hb | exact z_stg_rg hb | exact z_soldN_rg hb | exact z_wd_rgl (by omega) | exact z_sumOf_1 hb) (by first | exact y_rb _ | omega | exact z_owns_rg hb | exact z_plc_rg hb | exact z_wrote_rg hb (by omega) (by omega) | exact z_pwi_rg hb | exact z_stg_rg hb | exact z_soldN_rg hb | exact z_wd_rgl (by omega) | exact z_sumOf_1 hb) dL_told_265 (by decide) (fun h265 => ?_) (fun h265 => ?_)
                      · exfalso; omega
                      · refine z_aloadn dL_told_268 rfl ?_
                        refine z_bipush dL_told_269 (by decide) ?_
                        refine kL_55 (tX6_count hg hn hb (w := 6) (by omega) (by unfold z_c_count; rw [if_pos (by omega)])) rfl ⟨(Nat.le_of_ble_eq_true rfl), (Nat.le_of_ble_eq_true rfl)⟩ (Nat.le_of_ble_eq_true rfl) dL_told_271 ?_
                        refine z_top (v' := z_sumOf (M g) 1) (rfl) ?_
                        refine z_iconst dL_told_274 ?_
                        refine z_aloadn dL_told_275 rfl ?_
                        refine z_aload dL_told_276 rfl ?_
                        refine kL_58 (tL_sum1 hb h4 hE) rfl ⟨(Nat.le_of_ble_eq_true rfl), (Nat.le_of_ble_eq_true rfl)⟩ (Nat.le_of_ble_eq_true rfl) dL_told_278 ?_
                        refine z_icmp_ne (tgt := 363) (by first | exact y_rb _ | omega | exact z_owns_rg hb | exact z_plc_rg hb | exact z_wrote_rg hb (by omega) (by omega) | exact z_pwi_rg hb | exact z_stg_rg hb | exact z_soldN_rg hb | exact z_wd_rgl (by omega) | exact z_sumOf_1 hb) (by first | exact y_rb _ | omega | exact z_owns_rg hb | exact z_plc_rg hb | exact z_wrote_rg hb (by omega) (by omega) | exact z_pwi_rg hb | exact z_stg_rg hb | exact z_soldN_rg hb | exact z_wd_rgl (by omega) | exact z_sumOf_1 hb) dL_told_281 (by decide) (fun h281 => ?_) (fun h281 => ?_)
                        · exfalso; omega
                        · refine z_aloadn dL_told_284 rfl ?_
                          refine z_bipush dL_told_285 (by decide) ?_
                          refine kL_55 (tX6_count hg hn hb (w := 7) (by omega) (by unfold z_c_count; rw [if_pos (by omega)])) rfl ⟨(Nat.le_of_ble_eq_true rfl), (Nat.le_of_ble_eq_true rfl)⟩ (Nat.le_of_ble_eq_true rfl) dL_told_287 ?_
                          refine z_top (v' := M g 5) (rfl) ?_
                          refine z_aload dL_told_290 rfl ?_
                          refine z_iconst dL_told_292 ?_
                          refine z_lld (R := 40) (j := 5) al_c (Or.inl (by decide)) (congrFun hE _) (by omega) (by omega) (Nat.le_of_ble_eq_true rfl) (by omega) dL_told_293 ?_
                          refine z_icmp_ne (tgt := 363) (by first | exact y_rb _ | omega | exact z_owns_rg hb | exact z_plc_rg hb | exact z_wrote_rg hb (by omega) (by omega) | exact z_pwi_rg hb | exact z_stg_rg hb | exact z_soldN_rg hb | exact z_wd_rgl (by omega) | exact z_sumOf_1 hb) (by first | exact y_rb _ | omega | exact z_owns_rg hb | exact z_plc_rg hb | exact z_wrote_rg hb (by omega) (by omega) | exact z_pwi_rg hb | exact z_stg_rg hb | exact z_soldN_rg hb | exact z_wd_rgl (by omega) | exact z_sumOf_1 hb) dL_told_294 (by decide) (fun h294 => ?_) (fun h294 => ?_)
                          · exfalso; omega
                          · refine z_aloadn dL_told_297 rfl ?_
                            refine z_bipush dL_told_298 (by decide) ?_
                            refine kL_55 (tX6_count hg hn hb (w := 8) (by omega) (by unfold z_c_count; rw [if_pos (by omega)])) rfl ⟨(Nat.le_of_ble_eq_true rfl), (Nat.le_of_ble_eq_true rfl)⟩ (Nat.le_of_ble_eq_true rfl) dL_told_300 ?_
                            refine z_top (v' := z_stg (M g) 3) (rfl) ?_
                            refine z_iload dL_told_303 rfl ?_
                            refine z_top (v' := z_stg (M g) 3) (rfl) ?_
                            refine z_icmp_ne (tgt := 363) (by first | exact y_rb _ | omega | exact z_owns_rg hb | exact z_plc_rg hb | exact z_wrote_rg hb (by omega) (by omega) | exact z_pwi_rg hb | exact z_stg_rg hb | exact z_soldN_rg hb | exact z_wd_rgl (by omega) | exact z_sumOf_1 hb) (by first | exact y_rb _ | omega | exact z_owns_rg hb | exact z_plc_rg hb | exact z_wrote_rg hb (by omega) (by omega) | exact z_pwi_rg hb | exact z_stg_rg hb | exact z_soldN_rg hb | exact z_wd_rgl (by omega) | exact z_sumOf_1 hb) dL_told_305 (by decide) (fun h305 => ?_) (fun h305 => ?_)
                            · exfalso; omega
                            · refine z_aloadn dL_told_308 rfl ?_
                              refine z_bipush dL_told_309 (by decide) ?_
                              refine kL_55 (tX6_count hg hn hb (w := 9) (by omega) (by unfold z_c_count; rw [if_pos (by omega)])) rfl ⟨(Nat.le_of_ble_eq_true rfl), (Nat.le_of_ble_eq_true rfl)⟩ (Nat.le_of_ble_eq_true rfl) dL_told_311 ?_
                              refine z_top (v' := z_stg (M g) 4) (rfl) ?_
                              refine z_iload dL_told_314 rfl ?_
                              refine z_top (v' := z_stg (M g) 4) (rfl) ?_
                              refine z_icmp_ne (tgt := 363) (by first | exact y_rb _ | omega | exact z_owns_rg hb | exact z_plc_rg hb | exact z_wrote_rg hb (by omega) (by omega) | exact z_pwi_rg hb | exact z_stg_rg hb | exact z_soldN_rg hb | exact z_wd_rgl (by omega) | exact z_sumOf_1 hb) (by first | exact y_rb _ | omega | exact z_owns_rg hb | exact z_plc_rg hb | exact z_wrote_rg hb (by omega) (by omega) | exact z_pwi_rg hb | exact z_stg_rg hb | exact z_soldN_rg hb | exact z_wd_rgl (by omega) | exact z_sumOf_1 hb) dL_told_316 (by decide) (fun h316 => ?_) (fun h316 => ?_)
                              · exfalso; omega
                              · refine z_aloadn dL_told_319 rfl ?_
                                refine z_bipush dL_told_320 (by decide) ?_
                                refine kL_55 (tX6_count hg hn hb (w := 10) (by omega) (by unfold z_c_count; rw [if_pos (by omega)])) rfl ⟨(Nat.le_of_ble_eq_true rfl), (Nat.le_of_ble_eq_true rfl)⟩ (Nat.le_of_ble_eq_true rfl) dL_told_322 ?_
                                refine z_top (v' := M g 6) (rfl) ?_
                                refine z_aload dL_told_325 rfl ?_
                                refine z_bipush dL_told_327 (by decide) ?_
                                refine z_lld (R := 40) (j := 6) al_c (Or.inl (by decide)) (congrFun hE _) (by omega) (by omega) (Nat.le_of_ble_eq_true rfl) (by omega) dL_told_329 ?_
                                refine z_icmp_ne (tgt := 363) (by first | exact y_rb _ | omega | exact z_owns_rg hb | exact z_plc_rg hb | exact z_wrote_rg hb (by omega) (by omega) | exact z_pwi_rg hb | exact z_stg_rg hb | exact z_soldN_rg hb | exact z_wd_rgl (by omega) | exact z_sumOf_1 hb) (by first | exact y_rb _ | omega | exact z_owns_rg hb | exact z_plc_rg hb | exact z_wrote_rg hb (by omega) (by omega) | exact z_pwi_rg hb | exact z_stg_rg hb | exact z_soldN_rg hb | exact z_wd_rgl (by omega) | exact z_sumOf_1 hb) dL_told_330 (by decide) (fun h330 => ?_) (fun h330 => ?_)
                                · exfalso; omega
                                · refine z_aloadn dL_told_333 rfl ?_
                                  refine z_bipush dL_told_334 (by decide) ?_
                                  refine kL_55 (tX6_count hg hn hb (w := 11) (by omega) (by unfold z_c_count; rw [if_pos (by omega)])) rfl ⟨(Nat.le_of_ble_eq_true rfl), (Nat.le_of_ble_eq_true rfl)⟩ (Nat.le_of_ble_eq_true rfl) dL_told_336 ?_
                                  refine z_top (v' := z_soldN (M g)) (rfl) ?_
                                  refine z_iconst dL_told_339 ?_
                                  refine z_aloadn dL_told_340 rfl ?_
                                  refine z_aload dL_told_341 rfl ?_
                                  refine kL_58 (tL_sum3 hb h4 hE) rfl ⟨(Nat.le_of_ble_eq_true rfl), (Nat.le_of_ble_eq_true rfl)⟩ (Nat.le_of_ble_eq_true rfl) dL_told_343 ?_
                                  refine z_icmp_ne (tgt := 363) (by first | exact y_rb _ | omega | exact z_owns_rg hb | exact z_plc_rg hb | exact z_wrote_rg hb (by omega) (by omega) | exact z_pwi_rg hb | exact z_stg_rg hb | exact z_soldN_rg hb | exact z_wd_rgl (by omega) | exact z_sumOf_1 hb) (by first | exact y_rb _ | omega | exact z_owns_rg hb | exact z_plc_rg hb | exact z_wrote_rg hb (by omega) (by omega) | exact z_pwi_rg hb | exact z_stg_rg hb | exact z_soldN_rg hb | exact z_wd_rgl (by omega) | exact z_sumOf_1 hb) dL_told_346 (by decide) (fun h346 => ?_) (fun h346 => ?_)
                                  · exfalso; omega
                                  · refine z_aloadn dL_told_349 rfl ?_
                                    refine z_bipush dL_told_350 (by decide) ?_
                                    refine kL_55 (tX6_count hg hn hb (w := 12) (by omega) (by unfold z_c_count; rw [if_pos (by omega)])) rfl ⟨(Nat.le_of_ble_eq_true rfl), (Nat.le_of_ble_eq_true rfl)⟩ (Nat.le_of_ble_eq_true rfl) dL_told_352 ?_
                                    refine z_top (v' := M g 7) (rfl) ?_
                                    refine z_aload dL_told_355 rfl ?_
                                    refine z_bipush dL_told_357 (by decide) ?_
                                    refine z_lld (R := 40) (j := 7) al_c (Or.inl (by decide)) (congrFun hE _) (by omega) (by omega) (Nat.le_of_ble_eq_true rfl) (by omega) dL_told_359 ?_
                                    refine z_icmp_eq (tgt := 365) (by first | exact y_rb _ | omega | exact z_owns_rg hb | exact z_plc_rg hb | exact z_wrote_rg hb (by omega) (by omega) | exact z_pwi_rg hb | exact z_stg_rg hb | exact z_soldN_rg hb | exact z_wd_rgl (by omega) | exact z_sumOf_1 hb) (by first | exact y_rb _ | omega | exact z_owns_rg hb | exact z_plc_rg hb | exact z_wrote_rg hb (by omega) (by omega) | exact z_pwi_rg hb | exact z_stg_rg hb | exact z_soldN_rg hb | exact z_wd_rgl (by omega) | exact z_sumOf_1 hb) dL_told_360 (by decide) (fun h360 => ?_) (fun h360 => ?_)
                                    · refine z_aloadn dL_told_365 rfl ?_
                                      refine kL_61 (tX6_spread hg hn hb) rfl ⟨(Nat.le_of_ble_eq_true rfl), (Nat.le_of_ble_eq_true rfl)⟩ (Nat.le_of_ble_eq_true rfl) dL_told_366 ?_
                                      refine z_iconst dL_told_369 ?_
                                      refine z_aloadn dL_told_370 rfl ?_
                                      refine z_aload dL_told_371 rfl ?_
                                      refine kL_58 (tL_sum0 hb h4 hE) rfl ⟨(Nat.le_of_ble_eq_true rfl), (Nat.le_of_ble_eq_true rfl)⟩ (Nat.le_of_ble_eq_true rfl) dL_told_373 ?_
                                      refine z_if_ne (tgt := 383) (by first | exact y_rb _ | omega | exact z_owns_rg hb | exact z_plc_rg hb | exact z_wrote_rg hb (by omega) (by omega) | exact z_pwi_rg hb | exact z_stg_rg hb | exact z_soldN_rg hb | exact z_wd_rgl (by omega) | exact z_sumOf_1 hb) dL_told_376 (by decide) (fun h376 => ?_) (fun h376 => ?_)
                                      · have y_n : 0 < M g 0 := by
                                          rcases Int.lt_or_le 0 (M g 0) with h | h
                                          · exact h
                                          · exact absurd (show z_sumOf (M g) 0 = 0 by unfold z_sumOf; rw [show (M g 0).toNat = 0 by omega]; rfl) h376
                                        have y_mm := z_mb (show 0 ≤ M g 0 by omega) h4 y_s0.1 y_s0.2
                                        have y_mp : 0 < M g 0 * z_sumOf (M g) 0 := Int.mul_pos y_n (by omega)
                                        have y_m5 : 4 * M g 4 ≤ 240000000 := by omega
                                        refine z_dconst1 dL_told_383 ?_
                                        refine z_iload dL_told_384 rfl ?_
                                        refine z_i2d dL_told_386 ?_
                                        refine z_dmul (by rw [z_m1d y_sp.1 (by omega)]; exact z_fi2d _) dL_told_387 ?_
                                        refine z_topD (z_m1d y_sp.1 (by omega)) ?_
                                        refine z_aload dL_told_388 rfl ?_
                                        refine z_iconst dL_told_390 ?_
                                        refine z_lld (R := 40) (j := 0) al_c (Or.inl (by decide)) (congrFun hE _) (by omega) (by omega) (Nat.le_of_ble_eq_true rfl) (by omega) dL_told_391 ?_
                                        refine z_iconst dL_told_392 ?_
                                        refine z_aloadn dL_told_393 rfl ?_
                                        refine z_aload dL_told_394 rfl ?_
                                        refine kL_58 (tL_sum0 hb h4 hE) rfl ⟨(Nat.le_of_ble_eq_true rfl), (Nat.le_of_ble_eq_true rfl)⟩ (Nat.le_of_ble_eq_true rfl) dL_told_396 ?_
                                        refine z_imul dL_told_399 ?_
                                        refine z_i2d dL_told_400 ?_
                                        refine z_ddiv (z_fdiv y_mp (by omega)) dL_told_401 ?_
                                        refine z_dcmp (r := 0) (by first | (rw [show z_spd (M g) = FP.dconst0 from if_pos (by omega)]; decide +kernel) | (rw [show z_spd (M g) = _ from if_neg (by omega)]; exact z_fdiv_self y_mp (by omega))) dL_told_402 ?_
                                        refine z_if_ne (tgt := 410) (by first | exact y_rb _ | omega | exact z_owns_rg hb | exact z_plc_rg hb | exact z_wrote_rg hb (by omega) (by omega) | exact z_pwi_rg hb | exact z_stg_rg hb | exact z_soldN_rg hb | exact z_wd_rgl (by omega) | exact z_sumOf_1 hb) dL_told_403 (by decide) (fun h403 => ?_) (fun h403 => ?_)
                                        · exfalso; omega
                                        · refine z_iconst dL_told_406 ?_
                                          refine z_goto (tgt := 411) dL_told_407 (by decide) ?_
                                          exact z_zret dL_told_411 (by first | rfl | omega | (split <;> omega)) rfl (by first | decide | (split <;> simp))
                                      · refine z_dconst0 dL_told_379 ?_
                                        refine z_goto (tgt := 402) dL_told_380 (by decide) ?_
                                        refine z_dcmp (r := 0) (by first | (rw [show z_spd (M g) = FP.dconst0 from if_pos (by omega)]; decide +kernel) | (rw [show z_spd (M g) = _ from if_neg (by omega)]; exact z_fdiv_self y_mp (by omega))) dL_told_402 ?_
                                        refine z_if_ne (tgt := 410) (by first | exact y_rb _ | omega | exact z_owns_rg hb | exact z_plc_rg hb | exact z_wrote_rg hb (by omega) (by omega) | exact z_pwi_rg hb | exact z_stg_rg hb | exact z_soldN_rg hb | exact z_wd_rgl (by omega) | exact z_sumOf_1 hb) dL_told_403 (by decide) (fun h403 => ?_) (fun h403 => ?_)
                                        · exfalso; omega
                                        · refine z_iconst dL_told_406 ?_
                                          refine z_goto (tgt := 411) dL_told_407 (by decide) ?_
                                          exact z_zret dL_told_411 (by first | rfl | omega | (split <;> omega)) rfl (by first | decide | (split <;> simp))
                                    · exfalso; omega
                    · exfalso; omega
                  · intro i hi y_ih
                    refine z_rng fun hr => ?_
                    refine z_iload dL_told_225 rfl ?_
                    refine z_iconst dL_told_227 ?_
                    refine z_icmp_ge (tgt := 253) (by first | exact y_rb _ | omega | exact z_owns_rg hb | exact z_plc_rg hb | exact z_wrote_rg hb (by omega) (by omega) | exact z_pwi_rg hb | exact z_stg_rg hb | exact z_soldN_rg hb | exact z_wd_rgl (by omega) | exact z_sumOf_1 hb) (by first | exact y_rb _ | omega | exact z_owns_rg hb | exact z_plc_rg hb | exact z_wrote_rg hb (by omega) (by omega) | exact z_pwi_rg hb | exact z_stg_rg hb | exact z_soldN_rg hb | exact z_wd_rgl (by omega) | exact z_sumOf_1 hb) dL_told_228 (by decide) (fun h228 => ?_) (fun h228 => ?_)
                    · exfalso; omega
                    · refine z_aloadn dL_told_231 rfl ?_
                      refine z_iload dL_told_232 rfl ?_
                      refine kL_55 (tX6_count hg hn hb (w := i) (by omega) (by unfold z_c_count; rw [if_pos (by omega)])) rfl ⟨(Nat.le_of_ble_eq_true rfl), (Nat.le_of_ble_eq_true rfl)⟩ (Nat.le_of_ble_eq_true rfl) dL_told_234 ?_
                      refine z_top (v' := M g (i : Int)) (by unfold z_cv; rw [if_pos (by omega)]) ?_
                      refine z_aload dL_told_237 rfl ?_
                      refine z_iload dL_told_239 rfl ?_
                      refine z_lld (R := 40) (j := (i : Int)) al_c (Or.inl (by decide)) (congrFun hE _) (by omega) (by omega) (Nat.le_of_ble_eq_true rfl) (by omega) dL_told_241 ?_
                      refine z_icmp_eq (tgt := 247) (by first | exact y_rb _ | omega | exact z_owns_rg hb | exact z_plc_rg hb | exact z_wrote_rg hb (by omega) (by omega) | exact z_pwi_rg hb | exact z_stg_rg hb | exact z_soldN_rg hb | exact z_wd_rgl (by omega) | exact z_sumOf_1 hb) (by first | exact y_rb _ | omega | exact z_owns_rg hb | exact z_plc_rg hb | exact z_wrote_rg hb (by omega) (by omega) | exact z_pwi_rg hb | exact z_stg_rg hb | exact z_soldN_rg hb | exact z_wd_rgl (by omega) | exact z_sumOf_1 hb) dL_told_242 (by decide) (fun h242 => ?_) (fun h242 => ?_)
                      · refine z_iinc_11 dL_told_247 (Nat.le_of_ble_eq_true rfl) rfl ?_
                        refine z_goto (tgt := 225) dL_told_250 (by decide) ?_
                        exact y_ih
                      · exfalso; omega
                · exfalso; omega
              · intro i hi y_ih
                refine z_rng fun hr => ?_
                refine z_iload dL_told_193 rfl ?_
                refine z_bipush dL_told_195 (by decide) ?_
                refine z_icmp_ge (tgt := 222) (by first | exact y_rb _ | omega | exact z_owns_rg hb | exact z_plc_rg hb | exact z_wrote_rg hb (by omega) (by omega) | exact z_pwi_rg hb | exact z_stg_rg hb | exact z_soldN_rg hb | exact z_wd_rgl (by omega) | exact z_sumOf_1 hb) (by first | exact y_rb _ | omega | exact z_owns_rg hb | exact z_plc_rg hb | exact z_wrote_rg hb (by omega) (by omega) | exact z_pwi_rg hb | exact z_stg_rg hb | exact z_soldN_rg hb | exact z_wd_rgl (by omega) | exact z_sumOf_1 hb) dL_told_197 (by decide) (fun h197 => ?_) (fun h197 => ?_)
                · exfalso; omega
                · refine z_aloadn dL_told_200 rfl ?_
                  refine z_iload dL_told_201 rfl ?_
                  refine kL_51 (tX6_setting hg hn hb (w := i) (by omega) (by unfold z_c_setting; rw [if_pos (by omega)])) rfl ⟨(Nat.le_of_ble_eq_true rfl), (Nat.le_of_ble_eq_true rfl)⟩ (Nat.le_of_ble_eq_true rfl) dL_told_203 ?_
                  refine z_aload dL_told_206 rfl ?_
                  refine z_iload dL_told_208 rfl ?_
                  refine z_lld (R := 40) (j := 8 + (i : Int)) al_st (Or.inl (by decide)) (congrFun hE _) (by omega) (by omega) (Nat.le_of_ble_eq_true rfl) (by omega) dL_told_210 ?_
                  refine z_icmp_eq (tgt := 216) (by first | exact y_rb _ | omega | exact z_owns_rg hb | exact z_plc_rg hb | exact z_wrote_rg hb (by omega) (by omega) | exact z_pwi_rg hb | exact z_stg_rg hb | exact z_soldN_rg hb | exact z_wd_rgl (by omega) | exact z_sumOf_1 hb) (by first | exact y_rb _ | omega | exact z_owns_rg hb | exact z_plc_rg hb | exact z_wrote_rg hb (by omega) (by omega) | exact z_pwi_rg hb | exact z_stg_rg hb | exact z_soldN_rg hb | exact z_wd_rgl (by omega) | exact z_sumOf_1 hb) dL_told_211 (by decide) (fun h211 => ?_) (fun h211 => ?_)
                  · refine z_iinc_11 dL_told_216 (Nat.le_of_ble_eq_true rfl) rfl ?_
                    refine z_goto (tgt := 193) dL_told_219 (by decide) ?_
                    exact y_ih
                  · exfalso; omega
            · exfalso; omega
          · intro i hi y_ih
            refine z_rng fun hr => ?_
            refine z_iload dL_told_104 rfl ?_
            refine z_aload dL_told_106 rfl ?_
            refine z_iconst dL_told_108 ?_
            refine z_lld (R := 40) (j := 0) al_c (Or.inl (by decide)) (congrFun hE _) (by omega) (by omega) (Nat.le_of_ble_eq_true rfl) (by omega) dL_told_109 ?_
            refine z_icmp_ge (tgt := 190) (by first | exact y_rb _ | omega | exact z_owns_rg hb | exact z_plc_rg hb | exact z_wrote_rg hb (by omega) (by omega) | exact z_pwi_rg hb | exact z_stg_rg hb | exact z_soldN_rg hb | exact z_wd_rgl (by omega) | exact z_sumOf_1 hb) (by first | exact y_rb _ | omega | exact z_owns_rg hb | exact z_plc_rg hb | exact z_wrote_rg hb (by omega) (by omega) | exact z_pwi_rg hb | exact z_stg_rg hb | exact z_soldN_rg hb | exact z_wd_rgl (by omega) | exact z_sumOf_1 hb) dL_told_110 (by decide) (fun h110 => ?_) (fun h110 => ?_)
            · exfalso; omega
            · refine z_iconst dL_told_113 ?_
              refine z_istore_12 dL_told_114 (Nat.le_of_ble_eq_true rfl) rfl ?_
              refine z_lsE (ls' := [some (.ref (z_ad G 0 20)), some (.ref (z_ad G 0 40)), some (.ref (z_ad G 0 41)), some (.ref (z_ad G 0 42)), some (.ref (z_ad G 0 43)), some (.ref (z_ad G 0 44)), some (.ref (z_ad G 0 45)), some (.ref (z_ad G 0 46)), some (z_I (z_stg (M g) 3)), some (z_I (z_stg (M g) 4)), some (z_I (z_spr (M g) i + z_sm 0 (fun q => z_ab (M g (14 + 6 * (i : Int)) - M g (14 + 6 * q))))), some (z_I i), some (z_I 0)]) (congrArg (fun q : Int => ([some (.ref (z_ad G 0 20)), some (.ref (z_ad G 0 40)), some (.ref (z_ad G 0 41)), some (.ref (z_ad G 0 42)), some (.ref (z_ad G 0 43)), some (.ref (z_ad G 0 44)), some (.ref (z_ad G 0 45)), some (.ref (z_ad G 0 46)), some (z_I (z_stg (M g) 3)), some (z_I (z_stg (M g) 4)), some (z_I q), some (z_I i), some (z_I 0)] : List (Option Value))) (Int.add_zero _).symm) ?_
              refine z_upn (P := fun j : Nat => z_J G Z _ _ 116 [some (.ref (z_ad G 0 20)), some (.ref (z_ad G 0 40)), some (.ref (z_ad G 0 41)), some (.ref (z_ad G 0 42)), some (.ref (z_ad G 0 43)), some (.ref (z_ad G 0 44)), some (.ref (z_ad G 0 45)), some (.ref (z_ad G 0 46)), some (z_I (z_stg (M g) 3)), some (z_I (z_stg (M g) 4)), some (z_I (z_spr (M g) i + z_sm j (fun q => z_ab (M g (14 + 6 * (i : Int)) - M g (14 + 6 * q))))), some (z_I i), some (z_I j)] [] M 0 0) i ?_ ?_
              · refine z_rng fun hr => ?_
                refine z_iload dL_told_116 rfl ?_
                refine z_iload dL_told_118 rfl ?_
                refine z_icmp_ge (tgt := 184) (by first | exact y_rb _ | omega | exact z_owns_rg hb | exact z_plc_rg hb | exact z_wrote_rg hb (by omega) (by omega) | exact z_pwi_rg hb | exact z_stg_rg hb | exact z_soldN_rg hb | exact z_wd_rgl (by omega) | exact z_sumOf_1 hb) (by first | exact y_rb _ | omega | exact z_owns_rg hb | exact z_plc_rg hb | exact z_wrote_rg hb (by omega) (by omega) | exact z_pwi_rg hb | exact z_stg_rg hb | exact z_soldN_rg hb | exact z_wd_rgl (by omega) | exact z_sumOf_1 hb) dL_told_120 (by decide) (fun h120 => ?_) (fun h120 => ?_)
                · refine z_iinc_11 dL_told_184 (Nat.le_of_ble_eq_true rfl) rfl ?_
                  refine z_goto (tgt := 104) dL_told_187 (by decide) ?_
                  refine z_fgt 12 ?_
                  exact y_ih
                · exfalso; omega
              · intro j hj y_jh
                refine z_rng fun hr => ?_
                refine z_iload dL_told_116 rfl ?_
                refine z_iload dL_told_118 rfl ?_
                refine z_icmp_ge (tgt := 184) (by first | exact y_rb _ | omega | exact z_owns_rg hb | exact z_plc_rg hb | exact z_wrote_rg hb (by omega) (by omega) | exact z_pwi_rg hb | exact z_stg_rg hb | exact z_soldN_rg hb | exact z_wd_rgl (by omega) | exact z_sumOf_1 hb) (by first | exact y_rb _ | omega | exact z_owns_rg hb | exact z_plc_rg hb | exact z_wrote_rg hb (by omega) (by omega) | exact z_pwi_rg hb | exact z_stg_rg hb | exact z_soldN_rg hb | exact z_wd_rgl (by omega) | exact z_sumOf_1 hb) dL_told_120 (by decide) (fun h120 => ?_) (fun h120 => ?_)
                · exfalso; omega
                · refine z_iload dL_told_123 rfl ?_
                  refine z_aloadn dL_told_125 rfl ?_
                  refine z_bipush dL_told_126 (by decide) ?_
                  refine z_iload dL_told_128 rfl ?_
                  refine z_imul dL_told_130 ?_
                  refine z_lld (R := 40) (j := 14 + 6 * (i : Int)) al_pe (Or.inl (by decide)) (congrFun hE _) (by omega) (by omega) (Nat.le_of_ble_eq_true rfl) (by omega) dL_told_131 ?_
                  refine z_aloadn dL_told_132 rfl ?_
                  refine z_bipush dL_told_133 (by decide) ?_
                  refine z_iload dL_told_135 rfl ?_
                  refine z_imul dL_told_137 ?_
                  refine z_lld (R := 40) (j := 14 + 6 * (j : Int)) al_pe (Or.inl (by decide)) (congrFun hE _) (by omega) (by omega) (Nat.le_of_ble_eq_true rfl) (by omega) dL_told_138 ?_
                  refine z_icmp_le (tgt := 160) (by first | exact y_rb _ | omega | exact z_owns_rg hb | exact z_plc_rg hb | exact z_wrote_rg hb (by omega) (by omega) | exact z_pwi_rg hb | exact z_stg_rg hb | exact z_soldN_rg hb | exact z_wd_rgl (by omega) | exact z_sumOf_1 hb) (by first | exact y_rb _ | omega | exact z_owns_rg hb | exact z_plc_rg hb | exact z_wrote_rg hb (by omega) (by omega) | exact z_pwi_rg hb | exact z_stg_rg hb | exact z_soldN_rg hb | exact z_wd_rgl (by omega) | exact z_sumOf_1 hb) dL_told_139 (by decide) (fun h139 => ?_) (fun h139 => ?_)
                  · refine z_aloadn dL_told_160 rfl ?_
                    refine z_bipush dL_told_161 (by decide) ?_
                    refine z_iload dL_told_163 rfl ?_
                    refine z_imul dL_told_165 ?_
                    refine z_lld (R := 40) (j := 14 + 6 * (j : Int)) al_pe (Or.inl (by decide)) (congrFun hE _) (by omega) (by omega) (Nat.le_of_ble_eq_true rfl) (by omega) dL_told_166 ?_
                    refine z_aloadn dL_told_167 rfl ?_
                    refine z_bipush dL_told_168 (by decide) ?_
                    refine z_iload dL_told_170 rfl ?_
                    refine z_imul dL_told_172 ?_
                    refine z_lld (R := 40) (j := 14 + 6 * (i : Int)) al_pe (Or.inl (by decide)) (congrFun hE _) (by omega) (by omega) (Nat.le_of_ble_eq_true rfl) (by omega) dL_told_173 ?_
                    refine z_isub dL_told_174 ?_
                    refine z_top (v' := z_ab (M g (14 + 6 * (i : Int)) - M g (14 + 6 * (j : Int)))) (by unfold z_ab; split <;> omega) ?_
                    refine z_iadd dL_told_175 ?_
                    refine z_top (v' := z_spr (M g) i + z_sm (j + 1) (fun q => z_ab (M g (14 + 6 * (i : Int)) - M g (14 + 6 * q)))) (by rw [z_sm_s, Int.add_assoc]) ?_
                    refine z_istore_10 dL_told_176 (Nat.le_of_ble_eq_true rfl) rfl ?_
                    refine z_iinc_12 dL_told_178 (Nat.le_of_ble_eq_true rfl) rfl ?_
                    refine z_goto (tgt := 116) dL_told_181 (by decide) ?_
                    exact y_jh
                  · refine z_aloadn dL_told_142 rfl ?_
                    refine z_bipush dL_told_143 (by decide) ?_
                    refine z_iload dL_told_145 rfl ?_
                    refine z_imul dL_told_147 ?_
                    refine z_lld (R := 40) (j := 14 + 6 * (i : Int)) al_pe (Or.inl (by decide)) (congrFun hE _) (by omega) (by omega) (Nat.le_of_ble_eq_true rfl) (by omega) dL_told_148 ?_
                    refine z_aloadn dL_told_149 rfl ?_
                    refine z_bipush dL_told_150 (by decide) ?_
                    refine z_iload dL_told_152 rfl ?_
                    refine z_imul dL_told_154 ?_
                    refine z_lld (R := 40) (j := 14 + 6 * (j : Int)) al_pe (Or.inl (by decide)) (congrFun hE _) (by omega) (by omega) (Nat.le_of_ble_eq_true rfl) (by omega) dL_told_155 ?_
                    refine z_isub dL_told_156 ?_
                    refine z_goto (tgt := 175) dL_told_157 (by decide) ?_
                    refine z_top (v' := z_ab (M g (14 + 6 * (i : Int)) - M g (14 + 6 * (j : Int)))) (by unfold z_ab; split <;> omega) ?_
                    refine z_iadd dL_told_175 ?_
                    refine z_top (v' := z_spr (M g) i + z_sm (j + 1) (fun q => z_ab (M g (14 + 6 * (i : Int)) - M g (14 + 6 * q)))) (by rw [z_sm_s, Int.add_assoc]) ?_
                    refine z_istore_10 dL_told_176 (Nat.le_of_ble_eq_true rfl) rfl ?_
                    refine z_iinc_12 dL_told_178 (Nat.le_of_ble_eq_true rfl) rfl ?_
                    refine z_goto (tgt := 116) dL_told_181 (by decide) ?_
                    exact y_jh
        · exfalso; omega
      · intro i hi y_ih
        refine z_rng fun hr => ?_
        refine z_iload dL_told_42 rfl ?_
        refine z_aload dL_told_44 rfl ?_
        refine z_iconst dL_told_46 ?_
        refine z_lld (R := 40) (j := 1) al_c (Or.inl (by decide)) (congrFun hE _) (by omega) (by omega) (Nat.le_of_ble_eq_true rfl) (by omega) dL_told_47 ?_
        refine z_icmp_ge (tgt := 101) (by first | exact y_rb _ | omega | exact z_owns_rg hb | exact z_plc_rg hb | exact z_wrote_rg hb (by omega) (by omega) | exact z_pwi_rg hb | exact z_stg_rg hb | exact z_soldN_rg hb | exact z_wd_rgl (by omega) | exact z_sumOf_1 hb) (by first | exact y_rb _ | omega | exact z_owns_rg hb | exact z_plc_rg hb | exact z_wrote_rg hb (by omega) (by omega) | exact z_pwi_rg hb | exact z_stg_rg hb | exact z_soldN_rg hb | exact z_wd_rgl (by omega) | exact z_sumOf_1 hb) dL_told_48 (by decide) (fun h48 => ?_) (fun h48 => ?_)
        · exfalso; omega
        · refine z_iload dL_told_51 rfl ?_
          refine z_aloadn dL_told_53 rfl ?_
          refine z_iconst dL_told_54 ?_
          refine z_iload dL_told_55 rfl ?_
          refine z_imul dL_told_57 ?_
          refine z_iconst dL_told_58 ?_
          refine z_iadd dL_told_59 ?_
          refine z_lld (R := 40) (j := 86 + 5 * (i : Int) + 2) al_pi (Or.inl (by decide)) (congrFun hE _) (by omega) (by omega) (Nat.le_of_ble_eq_true rfl) (by omega) dL_told_60 ?_
          refine z_iconst dL_told_61 ?_
          refine z_icmp_ne (tgt := 69) (by first | exact y_rb _ | omega | exact z_owns_rg hb | exact z_plc_rg hb | exact z_wrote_rg hb (by omega) (by omega) | exact z_pwi_rg hb | exact z_stg_rg hb | exact z_soldN_rg hb | exact z_wd_rgl (by omega) | exact z_sumOf_1 hb) (by first | exact y_rb _ | omega | exact z_owns_rg hb | exact z_plc_rg hb | exact z_wrote_rg hb (by omega) (by omega) | exact z_pwi_rg hb | exact z_stg_rg hb | exact z_soldN_rg hb | exact z_wd_rgl (by omega) | exact z_sumOf_1 hb) dL_told_62 (by decide) (fun h62 => ?_) (fun h62 => ?_)
          · refine z_iconst dL_told_69 ?_
            refine z_top (v' := if M g (86 + 5 * (i : Int) + 2) = 3 then 1 else 0) (by first | rw [if_pos (by omega)] | rw [if_neg (by omega)]) ?_
            refine z_iadd dL_told_70 ?_
            refine z_istore_8 dL_told_71 (Nat.le_of_ble_eq_true rfl) rfl ?_
            refine z_iload dL_told_73 rfl ?_
            refine z_aloadn dL_told_75 rfl ?_
            refine z_iconst dL_told_76 ?_
            refine z_iload dL_told_77 rfl ?_
            refine z_imul dL_told_79 ?_
            refine z_iconst dL_told_80 ?_
            refine z_iadd dL_told_81 ?_
            refine z_lld (R := 40) (j := 86 + 5 * (i : Int) + 2) al_pi (Or.inl (by decide)) (congrFun hE _) (by omega) (by omega) (Nat.le_of_ble_eq_true rfl) (by omega) dL_told_82 ?_
            refine z_iconst dL_told_83 ?_
            refine z_icmp_ne (tgt := 91) (by first | exact y_rb _ | omega | exact z_owns_rg hb | exact z_plc_rg hb | exact z_wrote_rg hb (by omega) (by omega) | exact z_pwi_rg hb | exact z_stg_rg hb | exact z_soldN_rg hb | exact z_wd_rgl (by omega) | exact z_sumOf_1 hb) (by first | exact y_rb _ | omega | exact z_owns_rg hb | exact z_plc_rg hb | exact z_wrote_rg hb (by omega) (by omega) | exact z_pwi_rg hb | exact z_stg_rg hb | exact z_soldN_rg hb | exact z_wd_rgl (by omega) | exact z_sumOf_1 hb) dL_told_84 (by decide) (fun h84 => ?_) (fun h84 => ?_)
            · refine z_iconst dL_told_91 ?_
              refine z_top (v' := if M g (86 + 5 * (i : Int) + 2) = 4 then 1 else 0) (by first | rw [if_pos (by omega)] | rw [if_neg (by omega)]) ?_
              refine z_iadd dL_told_92 ?_
              refine z_istore_9 dL_told_93 (Nat.le_of_ble_eq_true rfl) rfl ?_
              refine z_iinc_11 dL_told_95 (Nat.le_of_ble_eq_true rfl) rfl ?_
              refine z_goto (tgt := 42) dL_told_98 (by decide) ?_
              exact y_ih
            · refine z_iconst dL_told_87 ?_
              refine z_goto (tgt := 92) dL_told_88 (by decide) ?_
              refine z_top (v' := if M g (86 + 5 * (i : Int) + 2) = 4 then 1 else 0) (by first | rw [if_pos (by omega)] | rw [if_neg (by omega)]) ?_
              refine z_iadd dL_told_92 ?_
              refine z_istore_9 dL_told_93 (Nat.le_of_ble_eq_true rfl) rfl ?_
              refine z_iinc_11 dL_told_95 (Nat.le_of_ble_eq_true rfl) rfl ?_
              refine z_goto (tgt := 42) dL_told_98 (by decide) ?_
              exact y_ih
          · refine z_iconst dL_told_65 ?_
            refine z_goto (tgt := 70) dL_told_66 (by decide) ?_
            refine z_top (v' := if M g (86 + 5 * (i : Int) + 2) = 3 then 1 else 0) (by first | rw [if_pos (by omega)] | rw [if_neg (by omega)]) ?_
            refine z_iadd dL_told_70 ?_
            refine z_istore_8 dL_told_71 (Nat.le_of_ble_eq_true rfl) rfl ?_
            refine z_iload dL_told_73 rfl ?_
            refine z_aloadn dL_told_75 rfl ?_
            refine z_iconst dL_told_76 ?_
            refine z_iload dL_told_77 rfl ?_
            refine z_imul dL_told_79 ?_
            refine z_iconst dL_told_80 ?_
            refine z_iadd dL_told_81 ?_
            refine z_lld (R := 40) (j := 86 + 5 * (i : Int) + 2) al_pi (Or.inl (by decide)) (congrFun hE _) (by omega) (by omega) (Nat.le_of_ble_eq_true rfl) (by omega) dL_told_82 ?_
            refine z_iconst dL_told_83 ?_
            refine z_icmp_ne (tgt := 91) (by first | exact y_rb _ | omega | exact z_owns_rg hb | exact z_plc_rg hb | exact z_wrote_rg hb (by omega) (by omega) | exact z_pwi_rg hb | exact z_stg_rg hb | exact z_soldN_rg hb | exact z_wd_rgl (by omega) | exact z_sumOf_1 hb) (by first | exact y_rb _ | omega | exact z_owns_rg hb | exact z_plc_rg hb | exact z_wrote_rg hb (by omega) (by omega) | exact z_pwi_rg hb | exact z_stg_rg hb | exact z_soldN_rg hb | exact z_wd_rgl (by omega) | exact z_sumOf_1 hb) dL_told_84 (by decide) (fun h84 => ?_) (fun h84 => ?_)
            · refine z_iconst dL_told_91 ?_
              refine z_top (v' := if M g (86 + 5 * (i : Int) + 2) = 4 then 1 else 0) (by first | rw [if_pos (by omega)] | rw [if_neg (by omega)]) ?_
              refine z_iadd dL_told_92 ?_
              refine z_istore_9 dL_told_93 (Nat.le_of_ble_eq_true rfl) rfl ?_
              refine z_iinc_11 dL_told_95 (Nat.le_of_ble_eq_true rfl) rfl ?_
              refine z_goto (tgt := 42) dL_told_98 (by decide) ?_
              exact y_ih
            · refine z_iconst dL_told_87 ?_
              refine z_goto (tgt := 92) dL_told_88 (by decide) ?_
              refine z_top (v' := if M g (86 + 5 * (i : Int) + 2) = 4 then 1 else 0) (by first | rw [if_pos (by omega)] | rw [if_neg (by omega)]) ?_
              refine z_iadd dL_told_92 ?_
              refine z_istore_9 dL_told_93 (Nat.le_of_ble_eq_true rfl) rfl ?_
              refine z_iinc_11 dL_told_95 (Nat.le_of_ble_eq_true rfl) rfl ?_
              refine z_goto (tgt := 42) dL_told_98 (by decide) ?_
              exact y_ih
    · exact absurd h25 (by decide)
