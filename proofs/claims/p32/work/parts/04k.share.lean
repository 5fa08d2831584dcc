def z_o_share (b : Int → Int) (k : Int) (r : Int → Int) : Int → Int := z_uf (z_cp b r (426 + 12 * k) 0 12) (86 + 5 * k + 3) (b (86 + 5 * k + 3) + 1)
