/-! ===== the law's body: rules ===== -/
def z_y (xs : Nat → Int32) (i : Int) : Int := (xs i.toNat).toInt
/-- the law's script -/
def z_Sc (G : z_G) (Z : z_Z) (b L : Nat) (xs : Nat → Int32) : Prop := va_X b L xs (z_s Z) (z_s Z).heap ∧ b < (z_s Z).heap.size ∧ b < z_b G ∧ L ≤ 2048
theorem z_y_rg (xs : Nat → Int32) (i : Int) : z_rg (z_y xs i) := ⟨Int32.le_toInt _, by have := Int32.toInt_lt (xs i.toNat); unfold z_y; omega⟩
theorem z_lsame (x : Int) : lg_cmp (Int64.ofInt x) (Int64.ofInt x) = Int32.ofInt 0 := by unfold lg_cmp; simp
theorem z_and31 (x : Int) : ∃ o : Int, (0 ≤ o ∧ o < 32) ∧ (Int32.ofInt x) &&& (Int32.ofInt 31) = Int32.ofInt o := by
  refine ⟨(((Int32.ofInt x).toBitVec &&& (Int32.ofInt 31).toBitVec).toNat : Nat), ⟨by omega, ?_⟩, ?_⟩
  · rw [BitVec.toNat_and]
    have h : ((Int32.ofInt x).toBitVec.toNat &&& (Int32.ofInt 31).toBitVec.toNat) ≤ (Int32.ofInt 31).toBitVec.toNat := Nat.and_le_right
    have h2 : (Int32.ofInt 31).toBitVec.toNat = 31 := by decide
    omega
  · apply Int32.toBitVec_inj.mp
    rw [Int32.toBitVec_and]
    show _ = BitVec.ofInt 32 _
    rw [BitVec.ofInt_natCast, BitVec.ofNat_toNat, BitVec.setWidth_eq]
section ZLW
variable {G : z_G} {Z : z_Z} {d : z_Md} {Q : State → Prop} {pc : Nat} {ls : List (Option Value)} {st : List Value} {M : z_M} {k n : Nat}
theorem z_icmp_same {a : Int} {off : Int} {tgt : Nat} (hd : decode (z_cc d) pc = .ok (.if_icmp .eq off, 3)) (ht : (pc : Int) + off = (tgt : Int)) (kk : z_J G Z d Q tgt ls st M k n) : z_J G Z d Q pc ls (z_I a :: z_I a :: st) M k n := by
  rw [z_iw_I a]
  exact z_icmp_eq (z_iw_rg a) (z_iw_rg a) hd ht (fun _ => kk) (fun h => absurd rfl h)
theorem z_unl5 {a0 a1 a2 a3 a4 a5 a6 a7 a8 : Option Value} (kk : z_J G Z d Q pc [a0, a1, a2, a3, a4, none, none, none, none] st M k n) : z_J G Z d Q pc [a0, a1, a2, a3, a4, a5, a6, a7, a8] st M k n := fun hO H locs la hW hS hL =>
  kk hO H locs la hW hS ⟨hL.1, hL.2.1, fun i v hi => hL.2.2 i v (by
    match i, hi with
    | 0, hi => exact hi
    | 1, hi => exact hi
    | 2, hi => exact hi
    | 3, hi => exact hi
    | 4, hi => exact hi
    | 5, hi => cases hi
    | 6, hi => cases hi
    | 7, hi => cases hi
    | 8, hi => cases hi
    | j + 9, hi => cases hi)⟩
theorem z_slen {b L : Nat} {xs : Nat → Int32} (sc : z_Sc G Z b L xs) (hd : decode (z_cc d) pc = .ok (.arraylength, 1)) (kk : z_J G Z d Q (pc + 1) ls (z_I (L : Int) :: st) M k n) : z_J G Z d Q pc ls (.ref b :: st) M k n := fun hO H locs la hW hS hL =>
  va_slen hO.1 hO.2.1 sc.1 sc.2.1 (fun q => absurd sc.2.2.1 (Nat.not_lt.mpr q)) hS hd (kk hO H locs la hW hS hL)
theorem z_sld {b L : Nat} {xs : Nat → Int32} {i : Int} (sc : z_Sc G Z b L xs) (h0 : 0 ≤ i) (h1 : i < (L : Int)) (hd : decode (z_cc d) pc = .ok (.iaload, 1)) (kk : z_J G Z d Q (pc + 1) ls (z_I (z_y xs i) :: st) M k n) : z_J G Z d Q pc ls (z_I i :: .ref b :: st) M k n := fun hO H locs la hW hS hL => by
  have hL2 := sc.2.2.2
  refine va_sld hO.1 hO.2.1 sc.1 sc.2.1 (fun q => absurd sc.2.2.1 (Nat.not_lt.mpr q)) hS (z_vp h0 h1 (by omega)) hd ?_
  have e : Value.int (xs (Int32.ofInt i).toNatClampNeg) = z_I (z_y xs i) := by
    rw [z_clamp h0 (by omega)]
    unfold z_I z_y
    rw [Int32.ofInt_toInt]
  rw [e]
  exact kk hO H locs la hW hS hL
theorem z_dcmp_any {x : UInt64} {op : CmpOp} (hd : decode (z_cc d) pc = .ok (.dcmp op, 1)) (kk : z_J G Z d Q (pc + 1) ls (z_I (Op.cmpValue (FP.dcmp x x) op).toInt :: st) M k n) : z_J G Z d Q pc ls (.double x :: .double x :: st) M k n := z_dcmp (Int32.ofInt_toInt _).symm hd kk
end ZLW
abbrev z_dL : z_Md := (cL_law, 9, RL, room_1, ret)
abbrev z_lsL (G : z_G) (b : Nat) (i : Int) : List (Option Value) := [some (.ref b), some (.ref (z_ad G 0 20)), some (.ref (z_ad G 0 40)), some (.ref (z_ad G 0 60)), some (z_I i), none, none, none, none]
section ZLQ
variable {G : z_G} {Z : z_Z} {d : z_Md} {Q : State → Prop} {pc : Nat} {ls : List (Option Value)} {rest : List Value} {M M1 : z_M} {k n : Nat}
theorem qL_100 {r : Int} (hC : KX7_addPen G [.ref (z_ad G 0 40)] M (.inl (some (z_I r))) M1) (ho : z_own d = RL) (hfit : z_fit d 1 21 1) (hk : k ≤ (z_R d).cells ∧ n ≤ (z_R d).slots) (hcat : (rest.map fun v => v.category).sum ≤ 8) (hd : decode (z_cc d) pc = .ok (.invokevirtual 100, 3)) (kk : z_J G Z d Q (pc + 3) ls (z_I r :: rest) M1 k n) : z_J G Z d Q pc ls (.ref (z_ad G 0 40) :: rest) M k n :=
  z_callV hC (by rw [ho]; exact wmL_100) wi_X7_addPen ws_X7_addPen wc_X7_addPen wn_X7 n_X7_addPen (by decide) rfl rfl rfl rfl hfit hk hcat hd kk
theorem qL_101 {r : Int} (hC : KX7_thrown G [.ref (z_ad G 0 40)] M (.inl (some (z_I r))) M1) (ho : z_own d = RL) (hfit : z_fit d 0 0 1) (hk : k ≤ (z_R d).cells ∧ n ≤ (z_R d).slots) (hcat : (rest.map fun v => v.category).sum ≤ 8) (hd : decode (z_cc d) pc = .ok (.invokevirtual 101, 3)) (kk : z_J G Z d Q (pc + 3) ls (z_I r :: rest) M1 k n) : z_J G Z d Q pc ls (.ref (z_ad G 0 40) :: rest) M k n :=
  z_callV hC (by rw [ho]; exact wmL_101) wi_X7_thrown ws_X7_thrown wc_X7_thrown wn_X7 n_X7_thrown (by decide) rfl rfl rfl rfl hfit hk hcat hd kk
theorem qL_107 {a1 a2 a3 : Value} {r : Int} (hC : KX7_sell G [.ref (z_ad G 0 40), a1, a2, a3] M (.inl (some (z_I r))) M1) (ho : z_own d = RL) (hfit : z_fit d 2 46 4) (hk : k ≤ (z_R d).cells ∧ n ≤ (z_R d).slots) (hcat : (rest.map fun v => v.category).sum ≤ 8) (hd : decode (z_cc d) pc = .ok (.invokevirtual 107, 3)) (kk : z_J G Z d Q (pc + 3) ls (z_I r :: rest) M1 k n) : z_J G Z d Q pc ls (a3 :: a2 :: a1 :: .ref (z_ad G 0 40) :: rest) M k n :=
  z_callV hC (by rw [ho]; exact wmL_107) wi_X7_sell ws_X7_sell wc_X7_sell wn_X7 n_X7_sell (by decide) rfl rfl rfl rfl hfit hk hcat hd kk
theorem qL_111 {a1 : Value} {r : Int} (hC : KX7_buyBack G [.ref (z_ad G 0 40), a1] M (.inl (some (z_I r))) M1) (ho : z_own d = RL) (hfit : z_fit d 2 46 3) (hk : k ≤ (z_R d).cells ∧ n ≤ (z_R d).slots) (hcat : (rest.map fun v => v.category).sum ≤ 8) (hd : decode (z_cc d) pc = .ok (.invokevirtual 111, 3)) (kk : z_J G Z d Q (pc + 3) ls (z_I r :: rest) M1 k n) : z_J G Z d Q pc ls (a1 :: .ref (z_ad G 0 40) :: rest) M k n :=
  z_callV hC (by rw [ho]; exact wmL_111) wi_X7_buyBack ws_X7_buyBack wc_X7_buyBack wn_X7 n_X7_buyBack (by decide) rfl rfl rfl rfl hfit hk hcat hd kk
theorem qL_115 {a1 a2 : Value} {r : Int} (hC : KX7_advance G [.ref (z_ad G 0 40), a1, a2] M (.inl (some (z_I r))) M1) (ho : z_own d = RL) (hfit : z_fit d 2 43 3) (hk : k ≤ (z_R d).cells ∧ n ≤ (z_R d).slots) (hcat : (rest.map fun v => v.category).sum ≤ 8) (hd : decode (z_cc d) pc = .ok (.invokevirtual 115, 3)) (kk : z_J G Z d Q (pc + 3) ls (z_I r :: rest) M1 k n) : z_J G Z d Q pc ls (a2 :: a1 :: .ref (z_ad G 0 40) :: rest) M k n :=
  z_callV hC (by rw [ho]; exact wmL_115) wi_X7_advance ws_X7_advance wc_X7_advance wn_X7 n_X7_advance (by decide) rfl rfl rfl rfl hfit hk hcat hd kk
theorem qL_118 {a1 a2 : Value} {r : Int} (hC : KX7_withdraw G [.ref (z_ad G 0 40), a1, a2] M (.inl (some (z_I r))) M1) (ho : z_own d = RL) (hfit : z_fit d 2 43 3) (hk : k ≤ (z_R d).cells ∧ n ≤ (z_R d).slots) (hcat : (rest.map fun v => v.category).sum ≤ 8) (hd : decode (z_cc d) pc = .ok (.invokevirtual 118, 3)) (kk : z_J G Z d Q (pc + 3) ls (z_I r :: rest) M1 k n) : z_J G Z d Q pc ls (a2 :: a1 :: .ref (z_ad G 0 40) :: rest) M k n :=
  z_callV hC (by rw [ho]; exact wmL_118) wi_X7_withdraw ws_X7_withdraw wc_X7_withdraw wn_X7 n_X7_withdraw (by decide) rfl rfl rfl rfl hfit hk hcat hd kk
theorem qL_121 {a1 a2 : Value} {r : Int} (hC : KX7_set G [.ref (z_ad G 0 40), a1, a2] M (.inl (some (z_I r))) M1) (ho : z_own d = RL) (hfit : z_fit d 1 22 4) (hk : k ≤ (z_R d).cells ∧ n ≤ (z_R d).slots) (hcat : (rest.map fun v => v.category).sum ≤ 8) (hd : decode (z_cc d) pc = .ok (.invokevirtual 121, 3)) (kk : z_J G Z d Q (pc + 3) ls (z_I r :: rest) M1 k n) : z_J G Z d Q pc ls (a2 :: a1 :: .ref (z_ad G 0 40) :: rest) M k n :=
  z_callV hC (by rw [ho]; exact wmL_121) wi_X7_set ws_X7_set wc_X7_set wn_X7 n_X7_set (by decide) rfl rfl rfl rfl hfit hk hcat hd kk
theorem qL_122 {r : Int} (hC : KX6_nextYear G [.ref (z_ad G 0 20)] M (.inl (some (z_I r))) M1) (ho : z_own d = RL) (hfit : z_fit d 5 124 1) (hk : k ≤ (z_R d).cells ∧ n ≤ (z_R d).slots) (hcat : (rest.map fun v => v.category).sum ≤ 8) (hd : decode (z_cc d) pc = .ok (.invokevirtual 122, 3)) (kk : z_J G Z d Q (pc + 3) ls (z_I r :: rest) M1 k n) : z_J G Z d Q pc ls (.ref (z_ad G 0 20) :: rest) M k n :=
  z_callV hC (by rw [ho]; exact wmL_122) wi_X6_nextYear ws_X6_nextYear wc_X6_nextYear wn_X6 n_X6_nextYear (by decide) rfl rfl rfl rfl hfit hk hcat hd kk
theorem qL_125 {r : Int} (hC : KX7_nextYear G [.ref (z_ad G 0 40)] M (.inl (some (z_I r))) M1) (ho : z_own d = RL) (hfit : z_fit d 1 21 2) (hk : k ≤ (z_R d).cells ∧ n ≤ (z_R d).slots) (hcat : (rest.map fun v => v.category).sum ≤ 8) (hd : decode (z_cc d) pc = .ok (.invokevirtual 125, 3)) (kk : z_J G Z d Q (pc + 3) ls (z_I r :: rest) M1 k n) : z_J G Z d Q pc ls (.ref (z_ad G 0 40) :: rest) M k n :=
  z_callV hC (by rw [ho]; exact wmL_125) wi_X7_nextYear ws_X7_nextYear wc_X7_nextYear wn_X7 n_X7_nextYear (by decide) rfl rfl rfl rfl hfit hk hcat hd kk
theorem qL_128 {a1 a2 : Value} {r : Int} (hC : KX7_order G [.ref (z_ad G 0 40), a1, a2] M (.inl (some (z_I r))) M1) (ho : z_own d = RL) (hfit : z_fit d 2 43 4) (hk : k ≤ (z_R d).cells ∧ n ≤ (z_R d).slots) (hcat : (rest.map fun v => v.category).sum ≤ 8) (hd : decode (z_cc d) pc = .ok (.invokevirtual 128, 3)) (kk : z_J G Z d Q (pc + 3) ls (z_I r :: rest) M1 k n) : z_J G Z d Q pc ls (a2 :: a1 :: .ref (z_ad G 0 40) :: rest) M k n :=
  z_callV hC (by rw [ho]; exact wmL_128) wi_X7_order ws_X7_order wc_X7_order wn_X7 n_X7_order (by decide) rfl rfl rfl rfl hfit hk hcat hd kk
theorem qL_131 {a1 a2 : Value} {r : Int} (hC : KX7_draft G [.ref (z_ad G 0 40), a1, a2] M (.inl (some (z_I r))) M1) (ho : z_own d = RL) (hfit : z_fit d 2 44 4) (hk : k ≤ (z_R d).cells ∧ n ≤ (z_R d).slots) (hcat : (rest.map fun v => v.category).sum ≤ 8) (hd : decode (z_cc d) pc = .ok (.invokevirtual 131, 3)) (kk : z_J G Z d Q (pc + 3) ls (z_I r :: rest) M1 k n) : z_J G Z d Q pc ls (a2 :: a1 :: .ref (z_ad G 0 40) :: rest) M k n :=
  z_callV hC (by rw [ho]; exact wmL_131) wi_X7_draft ws_X7_draft wc_X7_draft wn_X7 n_X7_draft (by decide) rfl rfl rfl rfl hfit hk hcat hd kk
theorem qL_134 {a1 a2 : Value} {r : Int} (hC : KX7_revise G [.ref (z_ad G 0 40), a1, a2] M (.inl (some (z_I r))) M1) (ho : z_own d = RL) (hfit : z_fit d 2 43 4) (hk : k ≤ (z_R d).cells ∧ n ≤ (z_R d).slots) (hcat : (rest.map fun v => v.category).sum ≤ 8) (hd : decode (z_cc d) pc = .ok (.invokevirtual 134, 3)) (kk : z_J G Z d Q (pc + 3) ls (z_I r :: rest) M1 k n) : z_J G Z d Q pc ls (a2 :: a1 :: .ref (z_ad G 0 40) :: rest) M k n :=
  z_callV hC (by rw [ho]; exact wmL_134) wi_X7_revise ws_X7_revise wc_X7_revise wn_X7 n_X7_revise (by decide) rfl rfl rfl rfl hfit hk hcat hd kk
theorem qL_137 {a1 : Value} {r : Int} (hC : KX7_share G [.ref (z_ad G 0 40), a1] M (.inl (some (z_I r))) M1) (ho : z_own d = RL) (hfit : z_fit d 6 127 3) (hk : k ≤ (z_R d).cells ∧ n ≤ (z_R d).slots) (hcat : (rest.map fun v => v.category).sum ≤ 8) (hd : decode (z_cc d) pc = .ok (.invokevirtual 137, 3)) (kk : z_J G Z d Q (pc + 3) ls (z_I r :: rest) M1 k n) : z_J G Z d Q pc ls (a1 :: .ref (z_ad G 0 40) :: rest) M k n :=
  z_callV hC (by rw [ho]; exact wmL_137) wi_X7_share ws_X7_share wc_X7_share wn_X7 n_X7_share (by decide) rfl rfl rfl rfl hfit hk hcat hd kk
theorem qL_140 {a1 : Value} {r : Int} (hC : KX7_accept G [.ref (z_ad G 0 40), a1] M (.inl (some (z_I r))) M1) (ho : z_own d = RL) (hfit : z_fit d 4 97 2) (hk : k ≤ (z_R d).cells ∧ n ≤ (z_R d).slots) (hcat : (rest.map fun v => v.category).sum ≤ 8) (hd : decode (z_cc d) pc = .ok (.invokevirtual 140, 3)) (kk : z_J G Z d Q (pc + 3) ls (z_I r :: rest) M1 k n) : z_J G Z d Q pc ls (a1 :: .ref (z_ad G 0 40) :: rest) M k n :=
  z_callV hC (by rw [ho]; exact wmL_140) wi_X7_accept ws_X7_accept wc_X7_accept wn_X7 n_X7_accept (by decide) rfl rfl rfl rfl hfit hk hcat hd kk
theorem qL_143 {a1 : Value} {r : Int} (hC : KX7_kill G [.ref (z_ad G 0 40), a1] M (.inl (some (z_I r))) M1) (ho : z_own d = RL) (hfit : z_fit d 4 97 3) (hk : k ≤ (z_R d).cells ∧ n ≤ (z_R d).slots) (hcat : (rest.map fun v => v.category).sum ≤ 8) (hd : decode (z_cc d) pc = .ok (.invokevirtual 143, 3)) (kk : z_J G Z d Q (pc + 3) ls (z_I r :: rest) M1 k n) : z_J G Z d Q pc ls (a1 :: .ref (z_ad G 0 40) :: rest) M k n :=
  z_callV hC (by rw [ho]; exact wmL_143) wi_X7_kill ws_X7_kill wc_X7_kill wn_X7 n_X7_kill (by decide) rfl rfl rfl rfl hfit hk hcat hd kk
theorem qL_146 {a1 a2 : Value} {r : Int} (hC : KX7_royalty G [.ref (z_ad G 0 40), a1, a2] M (.inl (some (z_I r))) M1) (ho : z_own d = RL) (hfit : z_fit d 4 97 3) (hk : k ≤ (z_R d).cells ∧ n ≤ (z_R d).slots) (hcat : (rest.map fun v => v.category).sum ≤ 8) (hd : decode (z_cc d) pc = .ok (.invokevirtual 146, 3)) (kk : z_J G Z d Q (pc + 3) ls (z_I r :: rest) M1 k n) : z_J G Z d Q pc ls (a2 :: a1 :: .ref (z_ad G 0 40) :: rest) M k n :=
  z_callV hC (by rw [ho]; exact wmL_146) wi_X7_royalty ws_X7_royalty wc_X7_royalty wn_X7 n_X7_royalty (by decide) rfl rfl rfl rfl hfit hk hcat hd kk
theorem qL_149 {a1 a2 : Value} {r : Int} (hC : KX7_dispute G [.ref (z_ad G 0 40), a1, a2] M (.inl (some (z_I r))) M1) (ho : z_own d = RL) (hfit : z_fit d 3 66 4) (hk : k ≤ (z_R d).cells ∧ n ≤ (z_R d).slots) (hcat : (rest.map fun v => v.category).sum ≤ 8) (hd : decode (z_cc d) pc = .ok (.invokevirtual 149, 3)) (kk : z_J G Z d Q (pc + 3) ls (z_I r :: rest) M1 k n) : z_J G Z d Q pc ls (a2 :: a1 :: .ref (z_ad G 0 40) :: rest) M k n :=
  z_callV hC (by rw [ho]; exact wmL_149) wi_X7_dispute ws_X7_dispute wc_X7_dispute wn_X7 n_X7_dispute (by decide) rfl rfl rfl rfl hfit hk hcat hd kk
theorem qL_152 {a1 : Value} {r : Int} (hC : KX7_append G [.ref (z_ad G 0 40), a1] M (.inl (some (z_I r))) M1) (ho : z_own d = RL) (hfit : z_fit d 1 22 2) (hk : k ≤ (z_R d).cells ∧ n ≤ (z_R d).slots) (hcat : (rest.map fun v => v.category).sum ≤ 8) (hd : decode (z_cc d) pc = .ok (.invokevirtual 152, 3)) (kk : z_J G Z d Q (pc + 3) ls (z_I r :: rest) M1 k n) : z_J G Z d Q pc ls (a1 :: .ref (z_ad G 0 40) :: rest) M k n :=
  z_callV hC (by rw [ho]; exact wmL_152) wi_X7_append ws_X7_append wc_X7_append wn_X7 n_X7_append (by decide) rfl rfl rfl rfl hfit hk hcat hd kk
theorem qL_153 {r : Int} (hC : KX6_clearBuffer G [.ref (z_ad G 0 20)] M (.inl (some (z_I r))) M1) (ho : z_own d = RL) (hfit : z_fit d 0 0 2) (hk : k ≤ (z_R d).cells ∧ n ≤ (z_R d).slots) (hcat : (rest.map fun v => v.category).sum ≤ 8) (hd : decode (z_cc d) pc = .ok (.invokevirtual 153, 3)) (kk : z_J G Z d Q (pc + 3) ls (z_I r :: rest) M1 k n) : z_J G Z d Q pc ls (.ref (z_ad G 0 20) :: rest) M k n :=
  z_callV hC (by rw [ho]; exact wmL_153) wi_X6_clearBuffer ws_X6_clearBuffer wc_X6_clearBuffer wn_X6 n_X6_clearBuffer (by decide) rfl rfl rfl rfl hfit hk hcat hd kk
theorem qL_156 {r : Int} (hC : KX7_clearBuffer G [.ref (z_ad G 0 40)] M (.inl (some (z_I r))) M1) (ho : z_own d = RL) (hfit : z_fit d 0 0 2) (hk : k ≤ (z_R d).cells ∧ n ≤ (z_R d).slots) (hcat : (rest.map fun v => v.category).sum ≤ 8) (hd : decode (z_cc d) pc = .ok (.invokevirtual 156, 3)) (kk : z_J G Z d Q (pc + 3) ls (z_I r :: rest) M1 k n) : z_J G Z d Q pc ls (.ref (z_ad G 0 40) :: rest) M k n :=
  z_callV hC (by rw [ho]; exact wmL_156) wi_X7_clearBuffer ws_X7_clearBuffer wc_X7_clearBuffer wn_X7 n_X7_clearBuffer (by decide) rfl rfl rfl rfl hfit hk hcat hd kk
theorem qL_157 {r : Int} (hC : KX6_firstError G [.ref (z_ad G 0 20)] M (.inl (some (z_I r))) M1) (ho : z_own d = RL) (hfit : z_fit d 5 104 1) (hk : k ≤ (z_R d).cells ∧ n ≤ (z_R d).slots) (hcat : (rest.map fun v => v.category).sum ≤ 8) (hd : decode (z_cc d) pc = .ok (.invokevirtual 157, 3)) (kk : z_J G Z d Q (pc + 3) ls (z_I r :: rest) M1 k n) : z_J G Z d Q pc ls (.ref (z_ad G 0 20) :: rest) M k n :=
  z_callV hC (by rw [ho]; exact wmL_157) wi_X6_firstError ws_X6_firstError wc_X6_firstError wn_X6 n_X6_firstError (by decide) rfl rfl rfl rfl hfit hk hcat hd kk
theorem qL_160 {r : Int} (hC : KX7_firstError G [.ref (z_ad G 0 40)] M (.inl (some (z_I r))) M1) (ho : z_own d = RL) (hfit : z_fit d 5 106 1) (hk : k ≤ (z_R d).cells ∧ n ≤ (z_R d).slots) (hcat : (rest.map fun v => v.category).sum ≤ 8) (hd : decode (z_cc d) pc = .ok (.invokevirtual 160, 3)) (kk : z_J G Z d Q (pc + 3) ls (z_I r :: rest) M1 k n) : z_J G Z d Q pc ls (.ref (z_ad G 0 40) :: rest) M k n :=
  z_callV hC (by rw [ho]; exact wmL_160) wi_X7_firstError ws_X7_firstError wc_X7_firstError wn_X7 n_X7_firstError (by decide) rfl rfl rfl rfl hfit hk hcat hd kk
theorem qL_163 {r : Int} (hC : KX7_undo G [.ref (z_ad G 0 40)] M (.inl (some (z_I r))) M1) (ho : z_own d = RL) (hfit : z_fit d 1 21 2) (hk : k ≤ (z_R d).cells ∧ n ≤ (z_R d).slots) (hcat : (rest.map fun v => v.category).sum ≤ 8) (hd : decode (z_cc d) pc = .ok (.invokevirtual 163, 3)) (kk : z_J G Z d Q (pc + 3) ls (z_I r :: rest) M1 k n) : z_J G Z d Q pc ls (.ref (z_ad G 0 40) :: rest) M k n :=
  z_callV hC (by rw [ho]; exact wmL_163) wi_X7_undo ws_X7_undo wc_X7_undo wn_X7 n_X7_undo (by decide) rfl rfl rfl rfl hfit hk hcat hd kk
theorem qL_166 {a1 a2 : Value} {r : Int} (hC : KX7_pen G [.ref (z_ad G 0 40), a1, a2] M (.inl (some (z_I r))) M1) (ho : z_own d = RL) (hfit : z_fit d 3 67 3) (hk : k ≤ (z_R d).cells ∧ n ≤ (z_R d).slots) (hcat : (rest.map fun v => v.category).sum ≤ 8) (hd : decode (z_cc d) pc = .ok (.invokevirtual 166, 3)) (kk : z_J G Z d Q (pc + 3) ls (z_I r :: rest) M1 k n) : z_J G Z d Q pc ls (a2 :: a1 :: .ref (z_ad G 0 40) :: rest) M k n :=
  z_callV hC (by rw [ho]; exact wmL_166) wi_X7_pen ws_X7_pen wc_X7_pen wn_X7 n_X7_pen (by decide) rfl rfl rfl rfl hfit hk hcat hd kk
theorem qL_169 {a1 a2 : Value} {r : Int} (hC : KX7_piece G [.ref (z_ad G 0 40), a1, a2] M (.inl (some (z_I r))) M1) (ho : z_own d = RL) (hfit : z_fit d 5 111 3) (hk : k ≤ (z_R d).cells ∧ n ≤ (z_R d).slots) (hcat : (rest.map fun v => v.category).sum ≤ 8) (hd : decode (z_cc d) pc = .ok (.invokevirtual 169, 3)) (kk : z_J G Z d Q (pc + 3) ls (z_I r :: rest) M1 k n) : z_J G Z d Q pc ls (a2 :: a1 :: .ref (z_ad G 0 40) :: rest) M k n :=
  z_callV hC (by rw [ho]; exact wmL_169) wi_X7_piece ws_X7_piece wc_X7_piece wn_X7 n_X7_piece (by decide) rfl rfl rfl rfl hfit hk hcat hd kk
theorem qL_172 {a1 a2 a3 : Value} {r : Int} (hC : KX7_between G [.ref (z_ad G 0 40), a1, a2, a3] M (.inl (some (z_I r))) M1) (ho : z_own d = RL) (hfit : z_fit d 2 45 4) (hk : k ≤ (z_R d).cells ∧ n ≤ (z_R d).slots) (hcat : (rest.map fun v => v.category).sum ≤ 8) (hd : decode (z_cc d) pc = .ok (.invokevirtual 172, 3)) (kk : z_J G Z d Q (pc + 3) ls (z_I r :: rest) M1 k n) : z_J G Z d Q pc ls (a3 :: a2 :: a1 :: .ref (z_ad G 0 40) :: rest) M k n :=
  z_callV hC (by rw [ho]; exact wmL_172) wi_X7_between ws_X7_between wc_X7_between wn_X7 n_X7_between (by decide) rfl rfl rfl rfl hfit hk hcat hd kk
theorem qL_175 {a1 : Value} {r : Int} (hC : KX7_count G [.ref (z_ad G 0 40), a1] M (.inl (some (z_I r))) M1) (ho : z_own d = RL) (hfit : z_fit d 3 66 2) (hk : k ≤ (z_R d).cells ∧ n ≤ (z_R d).slots) (hcat : (rest.map fun v => v.category).sum ≤ 8) (hd : decode (z_cc d) pc = .ok (.invokevirtual 175, 3)) (kk : z_J G Z d Q (pc + 3) ls (z_I r :: rest) M1 k n) : z_J G Z d Q pc ls (a1 :: .ref (z_ad G 0 40) :: rest) M k n :=
  z_callV hC (by rw [ho]; exact wmL_175) wi_X7_count ws_X7_count wc_X7_count wn_X7 n_X7_count (by decide) rfl rfl rfl rfl hfit hk hcat hd kk
theorem qL_178 {a1 : Value} {r : Int} (hC : KX7_setting G [.ref (z_ad G 0 40), a1] M (.inl (some (z_I r))) M1) (ho : z_own d = RL) (hfit : z_fit d 1 22 2) (hk : k ≤ (z_R d).cells ∧ n ≤ (z_R d).slots) (hcat : (rest.map fun v => v.category).sum ≤ 8) (hd : decode (z_cc d) pc = .ok (.invokevirtual 178, 3)) (kk : z_J G Z d Q (pc + 3) ls (z_I r :: rest) M1 k n) : z_J G Z d Q pc ls (a1 :: .ref (z_ad G 0 40) :: rest) M k n :=
  z_callV hC (by rw [ho]; exact wmL_178) wi_X7_setting ws_X7_setting wc_X7_setting wn_X7 n_X7_setting (by decide) rfl rfl rfl rfl hfit hk hcat hd kk
theorem qL_181 {a1 a2 a3 : Value} {r : Int} (hC : KX7_ifPaid G [.ref (z_ad G 0 40), a1, a2, a3] M (.inl (some (z_I r))) M1) (ho : z_own d = RL) (hfit : z_fit d 5 121 4) (hk : k ≤ (z_R d).cells ∧ n ≤ (z_R d).slots) (hcat : (rest.map fun v => v.category).sum ≤ 8) (hd : decode (z_cc d) pc = .ok (.invokevirtual 181, 3)) (kk : z_J G Z d Q (pc + 3) ls (z_I r :: rest) M1 k n) : z_J G Z d Q pc ls (a3 :: a2 :: a1 :: .ref (z_ad G 0 40) :: rest) M k n :=
  z_callV hC (by rw [ho]; exact wmL_181) wi_X7_ifPaid ws_X7_ifPaid wc_X7_ifPaid wn_X7 n_X7_ifPaid (by decide) rfl rfl rfl rfl hfit hk hcat hd kk
theorem qL_184 {a1 a2 : Value} {r : Int} (hC : KX7_fairest G [.ref (z_ad G 0 40), a1, a2] M (.inl (some (z_I r))) M1) (ho : z_own d = RL) (hfit : z_fit d 3 78 3) (hk : k ≤ (z_R d).cells ∧ n ≤ (z_R d).slots) (hcat : (rest.map fun v => v.category).sum ≤ 8) (hd : decode (z_cc d) pc = .ok (.invokevirtual 184, 3)) (kk : z_J G Z d Q (pc + 3) ls (z_I r :: rest) M1 k n) : z_J G Z d Q pc ls (a2 :: a1 :: .ref (z_ad G 0 40) :: rest) M k n :=
  z_callV hC (by rw [ho]; exact wmL_184) wi_X7_fairest ws_X7_fairest wc_X7_fairest wn_X7 n_X7_fairest (by decide) rfl rfl rfl rfl hfit hk hcat hd kk
theorem qL_187 {a1 a2 : Value} {r : Int} (hC : KX7_bestPiece G [.ref (z_ad G 0 40), a1, a2] M (.inl (some (z_I r))) M1) (ho : z_own d = RL) (hfit : z_fit d 6 147 3) (hk : k ≤ (z_R d).cells ∧ n ≤ (z_R d).slots) (hcat : (rest.map fun v => v.category).sum ≤ 8) (hd : decode (z_cc d) pc = .ok (.invokevirtual 187, 3)) (kk : z_J G Z d Q (pc + 3) ls (z_I r :: rest) M1 k n) : z_J G Z d Q pc ls (a2 :: a1 :: .ref (z_ad G 0 40) :: rest) M k n :=
  z_callV hC (by rw [ho]; exact wmL_187) wi_X7_bestPiece ws_X7_bestPiece wc_X7_bestPiece wn_X7 n_X7_bestPiece (by decide) rfl rfl rfl rfl hfit hk hcat hd kk
theorem qL_188 {r : UInt64} (hC : KX6_spread G [.ref (z_ad G 0 20)] M (.inl (some (.double r))) M1) (ho : z_own d = RL) (hfit : z_fit d 2 43 2) (hk : k ≤ (z_R d).cells ∧ n ≤ (z_R d).slots) (hcat : (rest.map fun v => v.category).sum ≤ 8) (hd : decode (z_cc d) pc = .ok (.invokevirtual 188, 3)) (kk : z_J G Z d Q (pc + 3) ls (.double r :: rest) M1 k n) : z_J G Z d Q pc ls (.ref (z_ad G 0 20) :: rest) M k n :=
  z_callV hC (by rw [ho]; exact wmL_188) wi_X6_spread ws_X6_spread wc_X6_spread wn_X6 n_X6_spread (by decide) rfl rfl rfl rfl hfit hk hcat hd kk
theorem qL_192 {r : UInt64} (hC : KX7_spread G [.ref (z_ad G 0 40)] M (.inl (some (.double r))) M1) (ho : z_own d = RL) (hfit : z_fit d 3 69 1) (hk : k ≤ (z_R d).cells ∧ n ≤ (z_R d).slots) (hcat : (rest.map fun v => v.category).sum ≤ 8) (hd : decode (z_cc d) pc = .ok (.invokevirtual 192, 3)) (kk : z_J G Z d Q (pc + 3) ls (.double r :: rest) M1 k n) : z_J G Z d Q pc ls (.ref (z_ad G 0 40) :: rest) M k n :=
  z_callV hC (by rw [ho]; exact wmL_192) wi_X7_spread ws_X7_spread wc_X7_spread wn_X7 n_X7_spread (by decide) rfl rfl rfl rfl hfit hk hcat hd kk
theorem qL_193 {r : Int} (hC : KX6_digest G [.ref (z_ad G 0 20)] M (.inl (some (z_L r))) M1) (ho : z_own d = RL) (hfit : z_fit d 9 162 4) (hk : k ≤ (z_R d).cells ∧ n ≤ (z_R d).slots) (hcat : (rest.map fun v => v.category).sum ≤ 8) (hd : decode (z_cc d) pc = .ok (.invokevirtual 193, 3)) (kk : z_J G Z d Q (pc + 3) ls (z_L r :: rest) M1 k n) : z_J G Z d Q pc ls (.ref (z_ad G 0 20) :: rest) M k n :=
  z_callV hC (by rw [ho]; exact wmL_193) wi_X6_digest ws_X6_digest wc_X6_digest wn_X6 n_X6_digest (by decide) rfl rfl rfl rfl hfit hk hcat hd kk
theorem qL_197 {r : Int} (hC : KX7_digest G [.ref (z_ad G 0 40)] M (.inl (some (z_L r))) M1) (ho : z_own d = RL) (hfit : z_fit d 6 147 3) (hk : k ≤ (z_R d).cells ∧ n ≤ (z_R d).slots) (hcat : (rest.map fun v => v.category).sum ≤ 8) (hd : decode (z_cc d) pc = .ok (.invokevirtual 197, 3)) (kk : z_J G Z d Q (pc + 3) ls (z_L r :: rest) M1 k n) : z_J G Z d Q pc ls (.ref (z_ad G 0 40) :: rest) M k n :=
  z_callV hC (by rw [ho]; exact wmL_197) wi_X7_digest ws_X7_digest wc_X7_digest wn_X7 n_X7_digest (by decide) rfl rfl rfl rfl hfit hk hcat hd kk
end ZLQ
