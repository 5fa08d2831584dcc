/-! ===== the reference's reader: f its numbers (5 state, 6 entries, 7 used, 8 number, 9 parts), r its parts ===== -/
abbrev z_us (f : Int → Int) (p : Int) : Prop := z_bit (f 7) p = 1
abbrev z_rbB (f : Int → Int) (c : Int) : Prop := (0 ≤ c - 48 ∧ c - 48 ≤ 9) ∧ (c - 48 = 1 ∨ ¬ z_us f (c - 48)) ∧ ¬ (c - 48 = 1 ∧ z_us f 1 ∧ z_us f 10 ∧ z_us f 11)
def z_rbf (f : Int → Int) (c : Int) : Int → Int := z_uf (z_uf (z_uf f 8 (c - 48)) 9 1) 5 (if c - 48 = 1 then 1 else 2)
abbrev z_ovr (f : Int → Int) : Prop := f 5 = 2 ∨ f 5 = 4 ∨ (f 5 = 1 ∧ ¬ z_us f 1)
def z_endf (f : Int → Int) : Int → Int := z_uf (z_uf f 7 (z_bor (f 7) (f 8))) 6 (f 6 + 1)
def z_endr (f r : Int → Int) : Int → Int := z_uf r (f 8) (f 9)
abbrev z_ten (f : Int → Int) (c : Int) : Prop := f 5 = 1 ∧ (c = 48 ∨ c = 49) ∧ ¬ z_us f (10 + c - 48)
abbrev z_str (f : Int → Int) (c : Int) : Prop := c = 42 ∧ f 5 < 3 ∧ z_ovr f
abbrev z_com (f : Int → Int) (c : Int) : Prop := c = 44 ∧ z_ovr f ∧ f 6 + 1 < 4
/-- takes: does it take c, and what the numbers and parts are then -/
abbrev z_tB (f : Int → Int) (c : Int) : Prop := (f 5 = 0 ∧ z_rbB f c) ∨ (f 5 = 3 ∧ 2 ≤ c - 48 ∧ c - 48 ≤ 9) ∨ (f 5 ≠ 0 ∧ f 5 ≠ 3 ∧ (z_ten f c ∨ z_str f c ∨ z_com f c))
def z_tf (f : Int → Int) (c : Int) : Int → Int :=
  if f 5 = 0 then (if z_rbB f c then z_rbf f c else f)
  else if f 5 = 3 then z_uf (z_uf f 9 (c - 48)) 5 4
  else if z_ten f c then z_uf (z_uf f 8 (10 + c - 48)) 5 2
  else if z_str f c then z_uf f 5 3
  else if z_com f c then z_uf (z_endf f) 5 0
  else f
def z_tr (f r : Int → Int) (c : Int) : Int → Int := if f 5 = 0 ∨ f 5 = 3 then r else if z_ten f c then r else if z_str f c then r else if z_com f c then z_endr f r else r
/-- the reading from place k on, m characters left: where it ends, numbers, parts -/
def z_rd (tx : Int → Int) : Nat → Int → (Int → Int) → (Int → Int) → Int × (Int → Int) × (Int → Int)
  | 0, k, f, r => (k, f, r)
  | m + 1, k, f, r => if z_tB f (tx k) then z_rd tx m (k + 1) (z_tf f (tx k)) (z_tr f r (tx k)) else (k, z_uf (z_tf f (tx k)) 5 0, z_tr f r (tx k))
def z_f0 (f : Int → Int) : Int → Int := z_uf (z_uf (z_uf f 5 0) 6 0) 7 0
def z_r0 (r : Int → Int) : Int → Int := z_cp r (fun _ => 0) 0 0 12
