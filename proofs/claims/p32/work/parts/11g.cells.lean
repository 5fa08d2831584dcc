/-! ===== all cells at first ===== -/
section ZW0
variable {G : z_G} {H H0 : Heap}
theorem z_h0s_0 {g : Nat} (hB : z_Bd G (z_b G) (z_all (z_b G)) H0 H) (hg : g < 7) : z_hold G z_M0 H g 0 := by
  have hx : z_ch G H (z_ad G g 0) (.inl (5, [.ref ((z_b G + 15 + 18 * g) + 1), .ref ((z_b G + 15 + 18 * g) + 8), .ref ((z_b G + 15 + 18 * g) + 17), z_I 0, z_I 0, z_I 0, z_I 0, z_I 0])) := hB.2.2 (15 + 18 * g + 0) _ (by rw [z_all_st _ hg (by decide)]; rfl)
  refine z_hO hx rfl rfl rfl fun j hj => ?_
  have hj2 : j < 8 := hj
  rcases (show j = 0 ∨ j = 1 ∨ j = 2 ∨ j = 3 ∨ j = 4 ∨ j = 5 ∨ j = 6 ∨ j = 7 by omega) with rfl | rfl | rfl | rfl | rfl | rfl | rfl | rfl
  · show Value.ref _ = Value.ref (z_ad G g 1)
    exact congrArg Value.ref (show (z_b G + 15 + 18 * g) + 1 = z_b G + (15 + 18 * g + 1) by omega)
  · show Value.ref _ = Value.ref (z_ad G g 8)
    exact congrArg Value.ref (show (z_b G + 15 + 18 * g) + 8 = z_b G + (15 + 18 * g + 8) by omega)
  · show Value.ref _ = Value.ref (z_ad G g 17)
    exact congrArg Value.ref (show (z_b G + 15 + 18 * g) + 17 = z_b G + (15 + 18 * g + 17) by omega)
  · show z_I 0 = z_I (z_M0 g 2)
    rw [z_M0_g hg, z_set0_0 (Or.inl (by decide))]
  · show z_I 0 = z_I (z_M0 g 3)
    rw [z_M0_g hg, z_set0_0 (Or.inl (by decide))]
  · show z_I 0 = z_I (z_M0 g 4)
    rw [z_M0_g hg, z_set0_0 (Or.inl (by decide))]
  · show z_I 0 = z_I (z_M0 g 7)
    rw [z_M0_g hg, z_set0_0 (Or.inl (by decide))]
  · show z_I 0 = z_I (z_M0 g 6)
    rw [z_M0_g hg, z_set0_0 (Or.inl (by decide))]
theorem z_h0s_1 {g : Nat} (hB : z_Bd G (z_b G) (z_all (z_b G)) H0 H) (hg : g < 7) : z_hold G z_M0 H g 1 := by
  have hx : z_ch G H (z_ad G g 1) (.inl (3, [z_I 0, .ref ((z_b G + 15 + 18 * g) + 2), .ref ((z_b G + 15 + 18 * g) + 3), .ref ((z_b G + 15 + 18 * g) + 4), .ref ((z_b G + 15 + 18 * g) + 5), .ref ((z_b G + 15 + 18 * g) + 6), .ref ((z_b G + 15 + 18 * g) + 7)])) := hB.2.2 (15 + 18 * g + 1) _ (by rw [z_all_st _ hg (by decide)]; rfl)
  refine z_hO hx rfl rfl rfl fun j hj => ?_
  have hj2 : j < 7 := hj
  rcases (show j = 0 ∨ j = 1 ∨ j = 2 ∨ j = 3 ∨ j = 4 ∨ j = 5 ∨ j = 6 by omega) with rfl | rfl | rfl | rfl | rfl | rfl | rfl
  · show z_I 0 = z_I (z_M0 g 0)
    rw [z_M0_g hg, z_set0_0 (Or.inl (by decide))]
  · show Value.ref _ = Value.ref (z_ad G g 2)
    exact congrArg Value.ref (show (z_b G + 15 + 18 * g) + 2 = z_b G + (15 + 18 * g + 2) by omega)
  · show Value.ref _ = Value.ref (z_ad G g 3)
    exact congrArg Value.ref (show (z_b G + 15 + 18 * g) + 3 = z_b G + (15 + 18 * g + 3) by omega)
  · show Value.ref _ = Value.ref (z_ad G g 4)
    exact congrArg Value.ref (show (z_b G + 15 + 18 * g) + 4 = z_b G + (15 + 18 * g + 4) by omega)
  · show Value.ref _ = Value.ref (z_ad G g 5)
    exact congrArg Value.ref (show (z_b G + 15 + 18 * g) + 5 = z_b G + (15 + 18 * g + 5) by omega)
  · show Value.ref _ = Value.ref (z_ad G g 6)
    exact congrArg Value.ref (show (z_b G + 15 + 18 * g) + 6 = z_b G + (15 + 18 * g + 6) by omega)
  · show Value.ref _ = Value.ref (z_ad G g 7)
    exact congrArg Value.ref (show (z_b G + 15 + 18 * g) + 7 = z_b G + (15 + 18 * g + 7) by omega)
theorem z_h0s_2 {g : Nat} (hB : z_Bd G (z_b G) (z_all (z_b G)) H0 H) (hg : g < 7) : z_hold G z_M0 H g 2 := by
  have hx : z_ch G H (z_ad G g 2) (.inr (0, 12, fun _ => z_I 0)) := hB.2.2 (15 + 18 * g + 2) _ (by rw [z_all_st _ hg (by decide)]; rfl)
  refine z_hA hx rfl rfl fun j hj => ?_
  show z_I 0 = z_I (z_M0 g (14 + 6 * (j : Int)))
  rw [z_M0_g hg, z_set0_0 (Or.inr (by omega))]
theorem z_h0s_3 {g : Nat} (hB : z_Bd G (z_b G) (z_all (z_b G)) H0 H) (hg : g < 7) : z_hold G z_M0 H g 3 := by
  have hx : z_ch G H (z_ad G g 3) (.inr (0, 12, fun _ => z_I 0)) := hB.2.2 (15 + 18 * g + 3) _ (by rw [z_all_st _ hg (by decide)]; rfl)
  refine z_hA hx rfl rfl fun j hj => ?_
  show z_I 0 = z_I (z_M0 g (14 + 6 * (j : Int) + 1))
  rw [z_M0_g hg, z_set0_0 (Or.inr (by omega))]
theorem z_h0s_4 {g : Nat} (hB : z_Bd G (z_b G) (z_all (z_b G)) H0 H) (hg : g < 7) : z_hold G z_M0 H g 4 := by
  have hx : z_ch G H (z_ad G g 4) (.inr (0, 12, fun _ => z_I 0)) := hB.2.2 (15 + 18 * g + 4) _ (by rw [z_all_st _ hg (by decide)]; rfl)
  refine z_hA hx rfl rfl fun j hj => ?_
  show z_I 0 = z_I (z_M0 g (14 + 6 * (j : Int) + 2))
  rw [z_M0_g hg, z_set0_0 (Or.inr (by omega))]
theorem z_h0s_5 {g : Nat} (hB : z_Bd G (z_b G) (z_all (z_b G)) H0 H) (hg : g < 7) : z_hold G z_M0 H g 5 := by
  have hx : z_ch G H (z_ad G g 5) (.inr (0, 12, fun _ => z_I 0)) := hB.2.2 (15 + 18 * g + 5) _ (by rw [z_all_st _ hg (by decide)]; rfl)
  refine z_hA hx rfl rfl fun j hj => ?_
  show z_I 0 = z_I (z_M0 g (14 + 6 * (j : Int) + 3))
  rw [z_M0_g hg, z_set0_0 (Or.inr (by omega))]
theorem z_h0s_6 {g : Nat} (hB : z_Bd G (z_b G) (z_all (z_b G)) H0 H) (hg : g < 7) : z_hold G z_M0 H g 6 := by
  have hx : z_ch G H (z_ad G g 6) (.inr (0, 12, fun _ => z_I 0)) := hB.2.2 (15 + 18 * g + 6) _ (by rw [z_all_st _ hg (by decide)]; rfl)
  refine z_hA hx rfl rfl fun j hj => ?_
  show z_I 0 = z_I (z_M0 g (14 + 6 * (j : Int) + 4))
  rw [z_M0_g hg, z_set0_0 (Or.inr (by omega))]
theorem z_h0s_7 {g : Nat} (hB : z_Bd G (z_b G) (z_all (z_b G)) H0 H) (hg : g < 7) : z_hold G z_M0 H g 7 := by
  have hx : z_ch G H (z_ad G g 7) (.inr (0, 12, fun _ => z_I 0)) := hB.2.2 (15 + 18 * g + 7) _ (by rw [z_all_st _ hg (by decide)]; rfl)
  refine z_hA hx rfl rfl fun j hj => ?_
  show z_I 0 = z_I (z_M0 g (14 + 6 * (j : Int) + 5))
  rw [z_M0_g hg, z_set0_0 (Or.inr (by omega))]
theorem z_h0s_8 {g : Nat} (hB : z_Bd G (z_b G) (z_all (z_b G)) H0 H) (hg : g < 7) : z_hold G z_M0 H g 8 := by
  have hx : z_ch G H (z_ad G g 8) (.inl (4, [z_I 0, .ref ((z_b G + 15 + 18 * g) + 9), .ref ((z_b G + 15 + 18 * g) + 10), .ref ((z_b G + 15 + 18 * g) + 11), .ref ((z_b G + 15 + 18 * g) + 12), .ref ((z_b G + 15 + 18 * g) + 13), .ref ((z_b G + 15 + 18 * g) + 14), .ref ((z_b G + 15 + 18 * g) + 15), .ref ((z_b G + 15 + 18 * g) + 16)])) := hB.2.2 (15 + 18 * g + 8) _ (by rw [z_all_st _ hg (by decide)]; rfl)
  refine z_hO hx rfl rfl rfl fun j hj => ?_
  have hj2 : j < 9 := hj
  rcases (show j = 0 ∨ j = 1 ∨ j = 2 ∨ j = 3 ∨ j = 4 ∨ j = 5 ∨ j = 6 ∨ j = 7 ∨ j = 8 by omega) with rfl | rfl | rfl | rfl | rfl | rfl | rfl | rfl | rfl
  · show z_I 0 = z_I (z_M0 g 1)
    rw [z_M0_g hg, z_set0_0 (Or.inl (by decide))]
  · show Value.ref _ = Value.ref (z_ad G g 9)
    exact congrArg Value.ref (show (z_b G + 15 + 18 * g) + 9 = z_b G + (15 + 18 * g + 9) by omega)
  · show Value.ref _ = Value.ref (z_ad G g 10)
    exact congrArg Value.ref (show (z_b G + 15 + 18 * g) + 10 = z_b G + (15 + 18 * g + 10) by omega)
  · show Value.ref _ = Value.ref (z_ad G g 11)
    exact congrArg Value.ref (show (z_b G + 15 + 18 * g) + 11 = z_b G + (15 + 18 * g + 11) by omega)
  · show Value.ref _ = Value.ref (z_ad G g 12)
    exact congrArg Value.ref (show (z_b G + 15 + 18 * g) + 12 = z_b G + (15 + 18 * g + 12) by omega)
  · show Value.ref _ = Value.ref (z_ad G g 13)
    exact congrArg Value.ref (show (z_b G + 15 + 18 * g) + 13 = z_b G + (15 + 18 * g + 13) by omega)
  · show Value.ref _ = Value.ref (z_ad G g 14)
    exact congrArg Value.ref (show (z_b G + 15 + 18 * g) + 14 = z_b G + (15 + 18 * g + 14) by omega)
  · show Value.ref _ = Value.ref (z_ad G g 15)
    exact congrArg Value.ref (show (z_b G + 15 + 18 * g) + 15 = z_b G + (15 + 18 * g + 15) by omega)
  · show Value.ref _ = Value.ref (z_ad G g 16)
    exact congrArg Value.ref (show (z_b G + 15 + 18 * g) + 16 = z_b G + (15 + 18 * g + 16) by omega)
theorem z_h0s_9 {g : Nat} (hB : z_Bd G (z_b G) (z_all (z_b G)) H0 H) (hg : g < 7) : z_hold G z_M0 H g 9 := by
  have hx : z_ch G H (z_ad G g 9) (.inr (0, 20, fun _ => z_I 0)) := hB.2.2 (15 + 18 * g + 9) _ (by rw [z_all_st _ hg (by decide)]; rfl)
  refine z_hA hx rfl rfl fun j hj => ?_
  show z_I 0 = z_I (z_M0 g (86 + 5 * (j : Int)))
  rw [z_M0_g hg, z_set0_0 (Or.inr (by omega))]
theorem z_h0s_10 {g : Nat} (hB : z_Bd G (z_b G) (z_all (z_b G)) H0 H) (hg : g < 7) : z_hold G z_M0 H g 10 := by
  have hx : z_ch G H (z_ad G g 10) (.inr (0, 20, fun _ => z_I 0)) := hB.2.2 (15 + 18 * g + 10) _ (by rw [z_all_st _ hg (by decide)]; rfl)
  refine z_hA hx rfl rfl fun j hj => ?_
  show z_I 0 = z_I (z_M0 g (86 + 5 * (j : Int) + 1))
  rw [z_M0_g hg, z_set0_0 (Or.inr (by omega))]
theorem z_h0s_11 {g : Nat} (hB : z_Bd G (z_b G) (z_all (z_b G)) H0 H) (hg : g < 7) : z_hold G z_M0 H g 11 := by
  have hx : z_ch G H (z_ad G g 11) (.inr (0, 20, fun _ => z_I 0)) := hB.2.2 (15 + 18 * g + 11) _ (by rw [z_all_st _ hg (by decide)]; rfl)
  refine z_hA hx rfl rfl fun j hj => ?_
  show z_I 0 = z_I (z_M0 g (86 + 5 * (j : Int) + 2))
  rw [z_M0_g hg, z_set0_0 (Or.inr (by omega))]
theorem z_h0s_12 {g : Nat} (hB : z_Bd G (z_b G) (z_all (z_b G)) H0 H) (hg : g < 7) : z_hold G z_M0 H g 12 := by
  have hx : z_ch G H (z_ad G g 12) (.inr (0, 20, fun _ => z_I 0)) := hB.2.2 (15 + 18 * g + 12) _ (by rw [z_all_st _ hg (by decide)]; rfl)
  refine z_hA hx rfl rfl fun j hj => ?_
  show z_I 0 = z_I (z_M0 g (86 + 5 * (j : Int) + 3))
  rw [z_M0_g hg, z_set0_0 (Or.inr (by omega))]
theorem z_h0s_13 {g : Nat} (hB : z_Bd G (z_b G) (z_all (z_b G)) H0 H) (hg : g < 7) : z_hold G z_M0 H g 13 := by
  have hx : z_ch G H (z_ad G g 13) (.inr (0, 20, fun _ => z_I 0)) := hB.2.2 (15 + 18 * g + 13) _ (by rw [z_all_st _ hg (by decide)]; rfl)
  refine z_hA hx rfl rfl fun j hj => ?_
  show z_I 0 = z_I (z_M0 g (86 + 5 * (j : Int) + 4))
  rw [z_M0_g hg, z_set0_0 (Or.inr (by omega))]
theorem z_h0s_14 {g : Nat} (hB : z_Bd G (z_b G) (z_all (z_b G)) H0 H) (hg : g < 7) : z_hold G z_M0 H g 14 := by
  have hx : z_ch G H (z_ad G g 14) (.inr (0, 240, fun _ => z_I 0)) := hB.2.2 (15 + 18 * g + 14) _ (by rw [z_all_st _ hg (by decide)]; rfl)
  refine z_hA hx rfl rfl fun j hj => ?_
  show z_I 0 = z_I (z_M0 g (426 + (j : Int)))
  rw [z_M0_g hg, z_set0_0 (Or.inr (by omega))]
theorem z_h0s_15 {g : Nat} (hB : z_Bd G (z_b G) (z_all (z_b G)) H0 H) (hg : g < 7) : z_hold G z_M0 H g 15 := by
  have hx : z_ch G H (z_ad G g 15) (.inr (0, 240, fun _ => z_I 0)) := hB.2.2 (15 + 18 * g + 15) _ (by rw [z_all_st _ hg (by decide)]; rfl)
  refine z_hA hx rfl rfl fun j hj => ?_
  show z_I 0 = z_I (z_M0 g (186 + (j : Int)))
  rw [z_M0_g hg, z_set0_0 (Or.inr (by omega))]
theorem z_h0s_16 {g : Nat} (hB : z_Bd G (z_b G) (z_all (z_b G)) H0 H) (hg : g < 7) : z_hold G z_M0 H g 16 := by
  have hx : z_ch G H (z_ad G g 16) (.inr (0, 240, fun _ => z_I 0)) := hB.2.2 (15 + 18 * g + 16) _ (by rw [z_all_st _ hg (by decide)]; rfl)
  refine z_hA hx rfl rfl fun j hj => ?_
  show z_I 0 = z_I (z_M0 g (666 + (j : Int)))
  rw [z_M0_g hg, z_set0_0 (Or.inr (by omega))]
theorem z_h0s_17 {g : Nat} (hB : z_Bd G (z_b G) (z_all (z_b G)) H0 H) (hg : g < 7) : z_hold G z_M0 H g 17 := by
  have hx : z_ch G H (z_ad G g 17) (.inr (0, 6, fun j => z_I (z_first j))) := hB.2.2 (15 + 18 * g + 17) _ (by rw [z_all_st _ hg (by decide)]; rfl)
  refine z_hA hx rfl rfl fun j hj => ?_
  show z_I (z_first j) = z_I (z_M0 g (8 + (j : Int)))
  rw [z_M0_g hg]
  unfold z_set0
  rw [if_pos (by omega), show (8 + (j : Int) - 8).toNat = j by omega]
theorem z_h0c_20 (hB : z_Bd G (z_b G) (z_all (z_b G)) H0 H) : z_hold G z_M0 H 0 20 := by
  have hx : z_ch G H (z_ad G 0 20) (.inl (6, [.ref (z_b G + 1), z_I 0, z_I 0, .ref (z_b G + 15), .ref (z_b G + 2), .ref (z_b G + 5), .ref (z_b G + 8), .ref (z_b G + 13), .ref (z_b G + 14)])) := hB.2.2 0 _ (by rw [z_all_lo _ (by decide)]; rfl)
  refine z_hO hx rfl rfl rfl fun j hj => ?_
  have hj2 : j < 9 := hj
  rcases (show j = 0 ∨ j = 1 ∨ j = 2 ∨ j = 3 ∨ j = 4 ∨ j = 5 ∨ j = 6 ∨ j = 7 ∨ j = 8 by omega) with rfl | rfl | rfl | rfl | rfl | rfl | rfl | rfl | rfl
  · rfl
  · rfl
  · rfl
  · rfl
  · rfl
  · rfl
  · rfl
  · rfl
  · rfl
theorem z_h0c_21 (hB : z_Bd G (z_b G) (z_all (z_b G)) H0 H) : z_hold G z_M0 H 0 21 := by
  have hx : z_ch G H (z_ad G 0 21) (.inr (4, 7, z_rF (z_b G) 7)) := hB.2.2 1 _ (by rw [z_all_lo _ (by decide)]; rfl)
  refine z_hA hx rfl rfl fun j hj => ?_
  show z_rF (z_b G) 7 j = Value.ref (z_ad G j 0)
  unfold z_rF
  rw [if_pos hj]
  exact congrArg Value.ref (show z_b G + 15 + 18 * j = z_b G + (15 + 18 * j + 0) by omega)
theorem z_h0c_22 (hB : z_Bd G (z_b G) (z_all (z_b G)) H0 H) : z_hold G z_M0 H 0 22 := by
  have hx : z_ch G H (z_ad G 0 22) (.inl (2, [.ref (z_b G + 3), z_I 0, .ref (z_b G + 4), z_I 0, z_I 0, z_I 0, z_I 0])) := hB.2.2 2 _ (by rw [z_all_lo _ (by decide)]; rfl)
  refine z_hO hx rfl rfl rfl fun j hj => ?_
  have hj2 : j < 7 := hj
  rcases (show j = 0 ∨ j = 1 ∨ j = 2 ∨ j = 3 ∨ j = 4 ∨ j = 5 ∨ j = 6 by omega) with rfl | rfl | rfl | rfl | rfl | rfl | rfl
  · rfl
  · rfl
  · rfl
  · rfl
  · rfl
  · rfl
  · rfl
theorem z_h0c_23 (hB : z_Bd G (z_b G) (z_all (z_b G)) H0 H) : z_hold G z_M0 H 0 23 := by
  have hx : z_ch G H (z_ad G 0 23) (.inr (0, 60, fun _ => z_I 0)) := hB.2.2 3 _ (by rw [z_all_lo _ (by decide)]; rfl)
  refine z_hA hx rfl rfl fun j hj => ?_
  show z_I 0 = z_I (z_M0 8 (j : Int))
  rw [z_M0_n (by decide)]
theorem z_h0c_24 (hB : z_Bd G (z_b G) (z_all (z_b G)) H0 H) : z_hold G z_M0 H 0 24 := by
  have hx : z_ch G H (z_ad G 0 24) (.inr (0, 12, fun _ => z_I 0)) := hB.2.2 4 _ (by rw [z_all_lo _ (by decide)]; rfl)
  refine z_hA hx rfl rfl fun j hj => ?_
  show z_I 0 = z_I (z_M0 9 (j : Int))
  rw [z_M0_n (by decide)]
theorem z_h0c_25 (hB : z_Bd G (z_b G) (z_all (z_b G)) H0 H) : z_hold G z_M0 H 0 25 := by
  have hx : z_ch G H (z_ad G 0 25) (.inl (0, [z_I 0, z_I 0, z_I 0, z_I 0, .ref (z_b G + 6), .ref (z_b G + 7)])) := hB.2.2 5 _ (by rw [z_all_lo _ (by decide)]; rfl)
  refine z_hO hx rfl rfl rfl fun j hj => ?_
  have hj2 : j < 6 := hj
  rcases (show j = 0 ∨ j = 1 ∨ j = 2 ∨ j = 3 ∨ j = 4 ∨ j = 5 by omega) with rfl | rfl | rfl | rfl | rfl | rfl
  · rfl
  · rfl
  · rfl
  · rfl
  · rfl
  · rfl
theorem z_h0c_26 (hB : z_Bd G (z_b G) (z_all (z_b G)) H0 H) : z_hold G z_M0 H 0 26 := by
  have hx : z_ch G H (z_ad G 0 26) (.inr (0, 12, fun _ => z_I 0)) := hB.2.2 6 _ (by rw [z_all_lo _ (by decide)]; rfl)
  refine z_hA hx rfl rfl fun j hj => ?_
  show z_I 0 = z_I (z_M0 10 (j : Int))
  rw [z_M0_n (by decide)]
theorem z_h0c_27 (hB : z_Bd G (z_b G) (z_all (z_b G)) H0 H) : z_hold G z_M0 H 0 27 := by
  have hx : z_ch G H (z_ad G 0 27) (.inr (0, 12, fun _ => z_I 0)) := hB.2.2 7 _ (by rw [z_all_lo _ (by decide)]; rfl)
  refine z_hA hx rfl rfl fun j hj => ?_
  show z_I 0 = z_I (z_M0 11 (j : Int))
  rw [z_M0_n (by decide)]
theorem z_h0c_28 (hB : z_Bd G (z_b G) (z_all (z_b G)) H0 H) : z_hold G z_M0 H 0 28 := by
  have hx : z_ch G H (z_ad G 0 28) (.inl (1, [.ref (z_b G + 9), .ref (z_b G + 10), .ref (z_b G + 11), .ref (z_b G + 12), z_I 0, z_I 0])) := hB.2.2 8 _ (by rw [z_all_lo _ (by decide)]; rfl)
  refine z_hO hx rfl rfl rfl fun j hj => ?_
  have hj2 : j < 6 := hj
  rcases (show j = 0 ∨ j = 1 ∨ j = 2 ∨ j = 3 ∨ j = 4 ∨ j = 5 by omega) with rfl | rfl | rfl | rfl | rfl | rfl
  · rfl
  · rfl
  · rfl
  · rfl
  · rfl
  · rfl
theorem z_h0c_29 (hB : z_Bd G (z_b G) (z_all (z_b G)) H0 H) : z_hold G z_M0 H 0 29 := by
  have hx : z_ch G H (z_ad G 0 29) (.inr (0, 12, fun _ => z_I 0)) := hB.2.2 9 _ (by rw [z_all_lo _ (by decide)]; rfl)
  refine z_hA hx rfl rfl fun j hj => ?_
  show z_I 0 = z_I (z_M0 12 (j : Int))
  rw [z_M0_n (by decide)]
theorem z_h0c_30 (hB : z_Bd G (z_b G) (z_all (z_b G)) H0 H) : z_hold G z_M0 H 0 30 := by
  have hx : z_ch G H (z_ad G 0 30) (.inr (0, 4, fun _ => z_I 0)) := hB.2.2 10 _ (by rw [z_all_lo _ (by decide)]; rfl)
  refine z_hA hx rfl rfl fun j hj => ?_
  show z_I 0 = z_I (z_M0 13 (j : Int))
  rw [z_M0_n (by decide)]
theorem z_h0c_31 (hB : z_Bd G (z_b G) (z_all (z_b G)) H0 H) : z_hold G z_M0 H 0 31 := by
  have hx : z_ch G H (z_ad G 0 31) (.inr (0, 4, fun _ => z_I 0)) := hB.2.2 11 _ (by rw [z_all_lo _ (by decide)]; rfl)
  refine z_hA hx rfl rfl fun j hj => ?_
  show z_I 0 = z_I (z_M0 14 (j : Int))
  rw [z_M0_n (by decide)]
theorem z_h0c_32 (hB : z_Bd G (z_b G) (z_all (z_b G)) H0 H) : z_hold G z_M0 H 0 32 := by
  have hx : z_ch G H (z_ad G 0 32) (.inr (0, 4, fun _ => z_I 0)) := hB.2.2 12 _ (by rw [z_all_lo _ (by decide)]; rfl)
  refine z_hA hx rfl rfl fun j hj => ?_
  show z_I 0 = z_I (z_M0 15 (j : Int))
  rw [z_M0_n (by decide)]
theorem z_h0c_33 (hB : z_Bd G (z_b G) (z_all (z_b G)) H0 H) : z_hold G z_M0 H 0 33 := by
  have hx : z_ch G H (z_ad G 0 33) (.inr (0, 12, fun _ => z_I 0)) := hB.2.2 13 _ (by rw [z_all_lo _ (by decide)]; rfl)
  refine z_hA hx rfl rfl fun j hj => ?_
  show z_I 0 = z_I (z_M0 16 (j : Int))
  rw [z_M0_n (by decide)]
theorem z_h0c_34 (hB : z_Bd G (z_b G) (z_all (z_b G)) H0 H) : z_hold G z_M0 H 0 34 := by
  have hx : z_ch G H (z_ad G 0 34) (.inr (0, 12, fun _ => z_I 0)) := hB.2.2 14 _ (by rw [z_all_lo _ (by decide)]; rfl)
  refine z_hA hx rfl rfl fun j hj => ?_
  show z_I 0 = z_I (z_M0 17 (j : Int))
  rw [z_M0_n (by decide)]
theorem z_h0c_40 (hB : z_Bd G (z_b G) (z_all (z_b G)) H0 H) : z_hold G z_M0 H 0 40 := by
  have hx : z_ch G H (z_ad G 0 40) (.inr (0, 24, fun _ => z_I 0)) := hB.2.2 141 _ (by rw [z_all_hi _ (by decide)]; rfl)
  refine z_hA hx rfl rfl fun j hj => ?_
  show z_I 0 = z_I (z_M0 40 (14 + (j : Int)))
  rw [z_M0_n (by decide)]
theorem z_h0c_41 (hB : z_Bd G (z_b G) (z_all (z_b G)) H0 H) : z_hold G z_M0 H 0 41 := by
  have hx : z_ch G H (z_ad G 0 41) (.inr (0, 20, fun _ => z_I 0)) := hB.2.2 142 _ (by rw [z_all_hi _ (by decide)]; rfl)
  refine z_hA hx rfl rfl fun j hj => ?_
  show z_I 0 = z_I (z_M0 40 (86 + (j : Int)))
  rw [z_M0_n (by decide)]
theorem z_h0c_42 (hB : z_Bd G (z_b G) (z_all (z_b G)) H0 H) : z_hold G z_M0 H 0 42 := by
  have hx : z_ch G H (z_ad G 0 42) (.inr (0, 16, fun _ => z_I 0)) := hB.2.2 143 _ (by rw [z_all_hi _ (by decide)]; rfl)
  refine z_hA hx rfl rfl fun j hj => ?_
  show z_I 0 = z_I (z_M0 40 (186 + 12 * ((j : Int) / 4) + (j : Int) % 4))
  rw [z_M0_n (by decide)]
theorem z_h0c_43 (hB : z_Bd G (z_b G) (z_all (z_b G)) H0 H) : z_hold G z_M0 H 0 43 := by
  have hx : z_ch G H (z_ad G 0 43) (.inr (0, 16, fun _ => z_I 0)) := hB.2.2 144 _ (by rw [z_all_hi _ (by decide)]; rfl)
  refine z_hA hx rfl rfl fun j hj => ?_
  show z_I 0 = z_I (z_M0 40 (426 + 12 * ((j : Int) / 4) + (j : Int) % 4))
  rw [z_M0_n (by decide)]
theorem z_h0c_44 (hB : z_Bd G (z_b G) (z_all (z_b G)) H0 H) : z_hold G z_M0 H 0 44 := by
  have hx : z_ch G H (z_ad G 0 44) (.inr (0, 16, fun _ => z_I 0)) := hB.2.2 145 _ (by rw [z_all_hi _ (by decide)]; rfl)
  refine z_hA hx rfl rfl fun j hj => ?_
  show z_I 0 = z_I (z_M0 40 (666 + 12 * ((j : Int) / 4) + (j : Int) % 4))
  rw [z_M0_n (by decide)]
theorem z_h0c_45 (hB : z_Bd G (z_b G) (z_all (z_b G)) H0 H) : z_hold G z_M0 H 0 45 := by
  have hx : z_ch G H (z_ad G 0 45) (.inr (0, 6, fun _ => z_I 0)) := hB.2.2 146 _ (by rw [z_all_hi _ (by decide)]; rfl)
  refine z_hA hx rfl rfl fun j hj => ?_
  show z_I 0 = z_I (z_M0 40 (8 + (j : Int)))
  rw [z_M0_n (by decide)]
theorem z_h0c_46 (hB : z_Bd G (z_b G) (z_all (z_b G)) H0 H) : z_hold G z_M0 H 0 46 := by
  have hx : z_ch G H (z_ad G 0 46) (.inr (0, 8, fun _ => z_I 0)) := hB.2.2 147 _ (by rw [z_all_hi _ (by decide)]; rfl)
  refine z_hA hx rfl rfl fun j hj => ?_
  show z_I 0 = z_I (z_M0 40 ((j : Int)))
  rw [z_M0_n (by decide)]
theorem z_wd0 (hB : z_Bd G (z_b G) (z_all (z_b G)) H0 H) (hx : z_x G = 0) : z_Wd G z_M0 H := by
  refine ⟨⟨by rw [hB.1, z_all_len]; exact Nat.le_refl _, fun ho => absurd ho (by unfold z_on; omega)⟩, fun a i _ => z_M0_rg a i, fun g k hd => ?_⟩
  rcases hd with hd | ⟨ho, -⟩
  · unfold z_dmb at hd
    rcases hd with ⟨hk, hg⟩ | ⟨rfl, hk⟩
    · rcases (show k = 0 ∨ k = 1 ∨ k = 2 ∨ k = 3 ∨ k = 4 ∨ k = 5 ∨ k = 6 ∨ k = 7 ∨ k = 8 ∨ k = 9 ∨ k = 10 ∨ k = 11 ∨ k = 12 ∨ k = 13 ∨ k = 14 ∨ k = 15 ∨ k = 16 ∨ k = 17 by omega) with rfl | rfl | rfl | rfl | rfl | rfl | rfl | rfl | rfl | rfl | rfl | rfl | rfl | rfl | rfl | rfl | rfl | rfl
      · exact z_h0s_0 hB hg
      · exact z_h0s_1 hB hg
      · exact z_h0s_2 hB hg
      · exact z_h0s_3 hB hg
      · exact z_h0s_4 hB hg
      · exact z_h0s_5 hB hg
      · exact z_h0s_6 hB hg
      · exact z_h0s_7 hB hg
      · exact z_h0s_8 hB hg
      · exact z_h0s_9 hB hg
      · exact z_h0s_10 hB hg
      · exact z_h0s_11 hB hg
      · exact z_h0s_12 hB hg
      · exact z_h0s_13 hB hg
      · exact z_h0s_14 hB hg
      · exact z_h0s_15 hB hg
      · exact z_h0s_16 hB hg
      · exact z_h0s_17 hB hg
    · rcases (show k = 20 ∨ k = 21 ∨ k = 22 ∨ k = 23 ∨ k = 24 ∨ k = 25 ∨ k = 26 ∨ k = 27 ∨ k = 28 ∨ k = 29 ∨ k = 30 ∨ k = 31 ∨ k = 32 ∨ k = 33 ∨ k = 34 ∨ k = 40 ∨ k = 41 ∨ k = 42 ∨ k = 43 ∨ k = 44 ∨ k = 45 ∨ k = 46 by omega) with rfl | rfl | rfl | rfl | rfl | rfl | rfl | rfl | rfl | rfl | rfl | rfl | rfl | rfl | rfl | rfl | rfl | rfl | rfl | rfl | rfl | rfl
      · exact z_h0c_20 hB
      · exact z_h0c_21 hB
      · exact z_h0c_22 hB
      · exact z_h0c_23 hB
      · exact z_h0c_24 hB
      · exact z_h0c_25 hB
      · exact z_h0c_26 hB
      · exact z_h0c_27 hB
      · exact z_h0c_28 hB
      · exact z_h0c_29 hB
      · exact z_h0c_30 hB
      · exact z_h0c_31 hB
      · exact z_h0c_32 hB
      · exact z_h0c_33 hB
      · exact z_h0c_34 hB
      · exact z_h0c_40 hB
      · exact z_h0c_41 hB
      · exact z_h0c_42 hB
      · exact z_h0c_43 hB
      · exact z_h0c_44 hB
      · exact z_h0c_45 hB
      · exact z_h0c_46 hB
  · exact absurd ho (by unfold z_on; omega)
end ZW0
