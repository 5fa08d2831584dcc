/-! ===== what the fairest parts depend on: not on what stood in the writers' row ===== -/
theorem z_ug_ind {f d d' : Int → Int} {D S : Int} {m : Nat} (h : ∀ j, 0 ≤ j → j < (m : Int) → d j = d' j) : ∀ n : Nat, n ≤ m → z_ug f d D S n = z_ug f d' D S n := by
  intro n
  induction n with
  | zero => intro _; rfl
  | succ n ih =>
    intro hn
    unfold z_ug
    rw [ih (by omega), h n (by omega) (by omega)]
abbrev z_w0 : Int → Int := fun _ => 0
/-! ===== the digest ===== -/
