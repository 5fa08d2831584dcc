/-! ===== money that comes in: what it depends on ===== -/
def z_cm (b : Int → Int) (k a y : Int) : (Int → Int) × Int := z_com2 b k a y (fun _ => 0) (fun _ => 0)
/-- what pen p would get if a was paid for piece k -/
def z_paid (b : Int → Int) (k a p : Int) : Int := (z_cm b k a 1).1 (14 + 6 * p) - b (14 + 6 * p)
def z_bst (b : Int → Int) (p t : Int) : Nat → Int × Int
  | 0 => (-1, -1)
  | n + 1 => if (z_bst b p t n).2 < (if b (86 + 5 * n + 2) = 3 then z_paid b n t p else -1) then ((n : Int), if b (86 + 5 * n + 2) = 3 then z_paid b n t p else -1) else z_bst b p t n
def z_bestN (b : Int → Int) (p t : Int) : Int := (z_bst b p t (b 1).toNat).1
def z_c_ifPaid (b : Int → Int) (k a p : Int) : Int := if ¬ (0 ≤ k ∧ k < b 1) ∨ ¬ (0 ≤ p ∧ p < b 0) then 1 else if ¬ (1 ≤ a ∧ a ≤ 100000) then 2 else if b (86 + 5 * k + 2) = 3 then 0 else 3
def z_c_bestPiece (b : Int → Int) (p t : Int) : Int := if ¬ (0 ≤ p ∧ p < b 0) then 1 else if ¬ (1 ≤ t ∧ t ≤ 100000) then 2 else 0
