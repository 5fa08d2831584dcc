/-! ===== what is mixed ===== -/
/-! ===== how far the pens are apart ===== -/
def z_spr (b : Int → Int) (n : Nat) : Int := z_sm n (fun i => z_sm i.toNat (fun j => z_ab (b (14 + 6 * i) - b (14 + 6 * j))))
def z_spd (b : Int → Int) : UInt64 := if z_sumOf b 0 = 0 then FP.dconst0 else FP.ddiv (FP.i2d (Int32.ofInt (z_spr b (b 0).toNat))) (FP.i2d (Int32.ofInt (b 0 * z_sumOf b 0)))
theorem z_sm_mono {f : Int → Int} {n m : Nat} (h : ∀ i : Nat, i < m → 0 ≤ f i) (hn : n ≤ m) : z_sm n f ≤ z_sm m f := by
  induction m with
  | zero => rw [Nat.le_zero.mp hn]; exact Int.le_refl _
  | succ m ih =>
    by_cases e : n = m + 1
    · subst e; exact Int.le_refl _
    · have := ih (fun i hi => h i (by omega)) (by omega)
      have := h m (by omega)
      rw [z_sm_s]
      omega
theorem z_sumOf_0 {b : Int → Int} {N : Int} (hb : z_BI b N) : 0 ≤ z_sumOf b 0 ∧ z_sumOf b 0 ≤ b 4 := by
  have hh := z_BI_h hb
  have h1 : ∀ i : Nat, i < 12 → 0 ≤ b (14 + 6 * (i : Int) + 0) := fun i hi => by have := z_BI_bal hb (p := i) (by omega) (by omega); rw [Int.add_zero]; exact this.1
  have h2 := z_sm_mono (f := fun p => b (14 + 6 * p + 0)) (n := (b 0).toNat) h1 (by omega)
  have h3 := z_sm_nn (f := fun p => b (14 + 6 * p + 0)) (n := (b 0).toNat) (fun i hi => h1 i (by omega))
  have h4 := (z_BI_s hb).1
  have h5 := z_BI_res hb
  have e : z_sm 12 (fun p => b (14 + 6 * p + 0)) = z_sm 12 (fun p => b (14 + 6 * p)) := z_sm_eq (fun i _ => by show b _ = b _; rw [Int.add_zero])
  unfold z_sumOf
  omega
