theorem z_indR {P : Nat → Int → (Int → Int) → (Int → Int) → Prop} (h0 : ∀ k f r, P 0 k f r) (hs : ∀ m, (∀ k f r, P m k f r) → ∀ k f r, P (m + 1) k f r) : ∀ m k f r, P m k f r := by
  intro m
  induction m with
  | zero => exact h0
  | succ m ih => exact hs m ih
