theorem wk_L_7 : Cond.constant RL 7 (Int32.ofInt (1249150122)) ∈ z_W := z_wi 395 (by decide +kernel) (by decide +kernel)
theorem wk_X6_75 : Cond.constant RX6 75 (Int32.ofInt (100000)) ∈ z_W := z_wi 580 (by decide +kernel) (by decide +kernel)
theorem wk_L_89 : Cond.constant RL 89 (Int32.ofInt (100000)) ∈ z_W := z_wi 694 (by decide +kernel) (by decide +kernel)
theorem wk_L_156 : Cond.constant RL 156 (Int32.ofInt (2147483647)) ∈ z_W := z_wi 856 (by decide +kernel) (by decide +kernel)
