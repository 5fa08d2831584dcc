def z_hl (a w : Int) : Int := if (a + 1) / 2 < w then (a + 1) / 2 else w
theorem z_hl_rg {a w : Int} (ha : 0 ≤ a) (hw : 0 ≤ w) : 0 ≤ z_hl a w ∧ z_hl a w ≤ w ∧ z_hl a w ≤ a := by
  unfold z_hl; split <;> omega
def z_inb (b : Int → Int) (p a : Int) : Int → Int := z_uf (z_uf (z_uf (z_uf b (14 + 6 * p + 1) (b (14 + 6 * p + 1) - z_hl a (b (14 + 6 * p + 1)))) (14 + 6 * p + 2) (b (14 + 6 * p + 2) + a)) (14 + 6 * p) (b (14 + 6 * p) + (a - z_hl a (b (14 + 6 * p + 1))))) 3 (b 3 + z_hl a (b (14 + 6 * p + 1)))
def z_ov (b : Int → Int) (k p a : Int) : Int := if 0 < b 10 ∧ (if b (666 + 12 * k + p) < b 10 then b 10 - b (666 + 12 * k + p) else 0) < a then a - (if b (666 + 12 * k + p) < b 10 then b 10 - b (666 + 12 * k + p) else 0) else 0
def z_cpb (b : Int → Int) (k p a : Int) : Int → Int := z_uf (z_uf (z_uf b 3 (b 3 + z_ov b k p a)) 7 (b 7 + z_ov b k p a)) (666 + 12 * k + p) (b (666 + 12 * k + p) + (a - z_ov b k p a))
theorem z_ov_rg {b : Int → Int} {k p a : Int} (ha : 0 ≤ a) : 0 ≤ z_ov b k p a ∧ z_ov b k p a ≤ a := by
  unfold z_ov; (repeat' split) <;> omega
/-- bounds of the money, while it comes in -/
def z_bd (b : Int → Int) (tr B : Int) : Prop := (∀ p, 0 ≤ p → p < 12 → 0 ≤ b (14 + 6 * p) ∧ b (14 + 6 * p) ≤ B ∧ 0 ≤ b (14 + 6 * p + 1) ∧ b (14 + 6 * p + 1) ≤ B ∧ 0 ≤ b (14 + 6 * p + 2) ∧ b (14 + 6 * p + 2) ≤ B) ∧ 0 ≤ b 3 ∧ b 3 ≤ B ∧ 0 ≤ b 7 ∧ b 7 ≤ B ∧ (∀ k p, 0 ≤ k → k < 20 → 0 ≤ p → p < 12 → 0 ≤ b (666 + 12 * k + p) ∧ b (666 + 12 * k + p) ≤ B) ∧ 0 ≤ tr ∧ tr ≤ B
