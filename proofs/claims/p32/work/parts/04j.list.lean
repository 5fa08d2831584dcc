abbrev z_R0 (M : z_M) : Int × (Int → Int) × (Int → Int) := z_rd (M 25) (M 21 3).toNat 0 (z_f0 (M 21)) (z_r0 (M 26))
abbrev z_isL (M : z_M) : Prop := (z_R0 M).1 = M 21 3 ∧ z_ovr (z_R0 M).2.1
def z_Lr (M : z_M) : Int → Int := if z_isL M then z_endr (z_R0 M).2.1 (z_R0 M).2.2 else (z_R0 M).2.2
