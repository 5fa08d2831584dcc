/-! ===== the reference: save, pens, orders ===== -/
theorem z_sR_sM (M : z_M) {a a' : Nat} (b : Int → Int) (i v : Int) (h : a ≠ a') : z_sR (z_sM M a' i v) a b = z_sM (z_sR M a b) a' i v := by
  rw [z_sM_R, z_sM_R, z_sR_ne _ _ (Ne.symm h), z_sR_comm _ _ _ h]
