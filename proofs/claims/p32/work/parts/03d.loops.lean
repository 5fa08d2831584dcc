/-- a loop that counts up to n -/
theorem z_upn {P : Nat → Prop} (n : Nat) (he : P n) (hs : ∀ i : Nat, i < n → P (i + 1) → P i) : P 0 := by
  have key : ∀ j i, i + j = n → P i := by
    intro j
    induction j with
    | zero => intro i h; rw [show i = n by omega]; exact he
    | succ j ih => intro i h; exact hs i (by omega) (ih (i + 1) (by omega))
  exact key n 0 (by omega)
