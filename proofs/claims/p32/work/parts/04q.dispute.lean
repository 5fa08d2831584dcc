def z_c_dispute (b : Int → Int) (k p : Int) : Int := if ¬ (0 ≤ k ∧ k < b 1) ∨ ¬ (0 ≤ p ∧ p < b 0) then 1 else if z_cd b k p then 0 else 2
/-- the parts by the drafts of the writers -/
def z_gp (b : Int → Int) (k : Int) (w : Int → Int) (m : Int) : Int → Int := fun p => if z_cw w m p ≠ 0 then b (186 + 12 * k + p) else 0
def z_c_append (l c : Int) : Int := if ¬ (33 ≤ c ∧ c ≤ 126) then 1 else if l = 60 then 2 else 0
