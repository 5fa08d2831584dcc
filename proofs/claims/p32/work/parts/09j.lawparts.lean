theorem tL_parts {G : z_G} {M : z_M} {g : Nat} {N k x y : Int} (h : z_LR M g N) (hN : N + 1 ≤ 600) (b0 : 0 < M g 0) (k0 : 0 ≤ k) (k1 : k < M g 1) (hs : M g (86 + 5 * k + 2) ≠ 4) : z_ConP G yL_parts cL_parts 13 (some .boolean) 8 145 0 0 [.ref (z_ad G 0 20), z_I k, z_I x, z_I y, .ref (z_ad G 0 41), .ref (z_ad G 0 43), .ref (z_ad G 0 46)] M (some (z_I 1)) (z_PS M N) := by
  refine z_conP (ls := [some (.ref (z_ad G 0 20)), some (z_I k), some (z_I x), some (z_I y), some (.ref (z_ad G 0 41)), some (.ref (z_ad G 0 43)), some (.ref (z_ad G 0 46)), none, none, none, none, none, none]) (by decide +kernel) (Nat.le_of_ble_eq_true rfl) rfl ?_
  intro Z
  refine z_rng fun hr => ?_
  have h0 := h
  obtain ⟨⟨hg, hn, hn0, s0, s1, ho, hb⟩, hE, h4, h5⟩ := h0
  have hh := z_BI_h hb
  have y_rb : ∀ i, z_rg (M g i) := fun i => hr g i (by omega)
  have hq7 := z_sg_lt g
  have y_K := z_BI_K hb k k0 (by omega)
  unfold z_KI at y_K
  refine z_iconst dL_parts_0 ?_
  refine z_iloadn dL_parts_1 rfl ?_
  refine z_iconst dL_parts_2 ?_
  refine z_aload dL_parts_3 rfl ?_
  refine z_iconst dL_parts_5 ?_
  refine z_lld (R := 40) (j := 0) al_c (Or.inl (by decide)) (congrFun hE _) (by omega) (by omega) (Nat.le_of_ble_eq_true rfl) (by omega) dL_parts_6 ?_
  refine z_ishl (z_bshl (by omega) (by omega)) dL_parts_7 ?_
  have y_p2 : 2 ≤ ((2 ^ (M g 0).toNat : Nat) : Int) ∧ ((2 ^ (M g 0).toNat : Nat) : Int) ≤ 16 := by
    rcases (show M g 0 = 1 ∨ M g 0 = 2 ∨ M g 0 = 3 ∨ M g 0 = 4 by omega) with e | e | e | e <;> rw [e] <;> decide
  refine z_iconst dL_parts_8 ?_
  refine z_isub dL_parts_9 ?_
  refine kL_65 (tL_at (by omega) (by omega)) rfl ⟨(Nat.le_of_ble_eq_true rfl), (Nat.le_of_ble_eq_true rfl)⟩ (Nat.le_of_ble_eq_true rfl) dL_parts_10 ?_
  refine z_iadd dL_parts_13 ?_
  obtain ⟨S, y_S⟩ : ∃ S, (1 + z_atv x (((2 ^ (M g 0).toNat : Nat) : Int) - 1)) = S := ⟨_, rfl⟩
  have y_at := z_atv_rg (x := x) (n := ((2 ^ (M g 0).toNat : Nat) : Int) - 1) (by omega)
  have y_Sb : 1 ≤ S ∧ S < ((2 ^ (M g 0).toNat : Nat) : Int) := by omega
  have y_S4 : S < 16 ∧ (M g 0 = 1 → S < 2) ∧ (M g 0 = 2 → S < 4) ∧ (M g 0 = 3 → S < 8) := by
    rcases (show M g 0 = 1 ∨ M g 0 = 2 ∨ M g 0 = 3 ∨ M g 0 = 4 by omega) with e | e | e | e
    · rw [e] at y_Sb ⊢
      change 1 ≤ S ∧ S < 2 at y_Sb
      omega
    · rw [e] at y_Sb ⊢
      change 1 ≤ S ∧ S < 4 at y_Sb
      omega
    · rw [e] at y_Sb ⊢
      change 1 ≤ S ∧ S < 8 at y_Sb
      omega
    · rw [e] at y_Sb ⊢
      change 1 ≤ S ∧ S < 16 at y_Sb
      omega
  obtain ⟨n, y_n⟩ : ∃ n : Int → Int, ∀ q, n q = if S / 2 ^ q.toNat % 2 = 0 then 0 else 1 + z_atv (z_iv (Int32.ofInt y >>> (Int32.ofInt (4 * q) &&& 31))) 9 := ⟨fun q => if S / 2 ^ q.toNat % 2 = 0 then 0 else 1 + z_atv (z_iv (Int32.ofInt y >>> (Int32.ofInt (4 * q) &&& 31))) 9, fun _ => rfl⟩
  have y_nr : ∀ q, 0 ≤ n q ∧ n q ≤ 9 := fun q => by
    have e := z_atv_rg (x := z_iv (Int32.ofInt y >>> (Int32.ofInt (4 * q) &&& 31))) (n := 9) (by decide)
    rw [y_n q]
    split <;> omega
  have n0 : n 0 = 0 ↔ S % 2 = 0 := by
    have e := z_atv_rg (x := z_iv (Int32.ofInt y >>> (Int32.ofInt (4 * 0) &&& 31))) (n := 9) (by decide)
    rw [y_n 0]
    change (if S / 1 % 2 = 0 then (0 : Int) else _) = 0 ↔ _
    rw [Int.ediv_one]
    split <;> omega
  have n1 : n 1 = 0 ↔ S / 2 % 2 = 0 := by
    have e := z_atv_rg (x := z_iv (Int32.ofInt y >>> (Int32.ofInt (4 * 1) &&& 31))) (n := 9) (by decide)
    rw [y_n 1]
    change (if S / 2 % 2 = 0 then (0 : Int) else _) = 0 ↔ _
    split <;> omega
  have n2 : n 2 = 0 ↔ S / 4 % 2 = 0 := by
    have e := z_atv_rg (x := z_iv (Int32.ofInt y >>> (Int32.ofInt (4 * 2) &&& 31))) (n := 9) (by decide)
    rw [y_n 2]
    change (if S / 4 % 2 = 0 then (0 : Int) else _) = 0 ↔ _
    split <;> omega
  have n3 : n 3 = 0 ↔ S / 8 % 2 = 0 := by
    have e := z_atv_rg (x := z_iv (Int32.ofInt y >>> (Int32.ofInt (4 * 3) &&& 31))) (n := 9) (by decide)
    rw [y_n 3]
    change (if S / 8 % 2 = 0 then (0 : Int) else _) = 0 ↔ _
    split <;> omega
  have y_nz : ∀ q, M g 0 ≤ q → q ≤ 3 → n q = 0 := fun q q0 q1 => by
    rcases (show q = 1 ∨ q = 2 ∨ q = 3 by omega) with rfl | rfl | rfl
    · exact n1.mpr (by omega)
    · exact n2.mpr (by omega)
    · exact n3.mpr (by omega)
  have y_ne : ∃ q, 0 ≤ q ∧ q ≤ 3 ∧ n q ≠ 0 := by
    by_cases c0 : n 0 = 0
    · by_cases c1 : n 1 = 0
      · by_cases c2 : n 2 = 0
        · refine ⟨3, by decide, by decide, fun c3 => ?_⟩
          have := n0.mp c0
          have := n1.mp c1
          have := n2.mp c2
          have := n3.mp c3
          omega
        · exact ⟨2, by decide, by decide, c2⟩
      · exact ⟨1, by decide, by decide, c1⟩
    · exact ⟨0, by decide, by decide, c0⟩
  clear n0 n1 n2 n3
  refine z_top (v' := S) y_S ?_
  refine z_istore_7 dL_parts_14 (Nat.le_of_ble_eq_true rfl) rfl ?_
  refine z_iconst dL_parts_16 ?_
  refine z_istore_8 dL_parts_17 (Nat.le_of_ble_eq_true rfl) rfl ?_
  refine z_iconst dL_parts_19 ?_
  refine z_istore_9 dL_parts_20 (Nat.le_of_ble_eq_true rfl) rfl ?_
  refine z_iconst dL_parts_22 ?_
  refine z_istore_10 dL_parts_23 (Nat.le_of_ble_eq_true rfl) rfl ?_
  refine z_aloadn dL_parts_25 rfl ?_
  refine kL_102 tX6_clearBuffer rfl ⟨(Nat.le_of_ble_eq_true rfl), (Nat.le_of_ble_eq_true rfl)⟩ (Nat.le_of_ble_eq_true rfl) dL_parts_26 ?_
  refine z_rng fun hr => ?_
  refine z_pop dL_parts_29 rfl ?_
  refine z_iconst dL_parts_30 ?_
  refine z_top (v' := 3 - ((0 : Nat) : Int)) (by omega) ?_
  refine z_istore_11 dL_parts_31 (Nat.le_of_ble_eq_true rfl) rfl ?_
  refine z_mem (M' := z_mt M (M 8) 0 (z_pai (M g) n k ((0 : Nat) : Int))) (z_mt_0 _ _ (hE.trans (z_pai_0 _ _ _).symm)) ?_
  refine (z_upn (P := fun i : Nat => ∀ (t : Int → Int) (l c : Int), z_TI n i t l c → z_J G Z _ _ 33 [some (.ref (z_ad G 0 20)), some (z_I k), some (z_I x), some (z_I y), some (.ref (z_ad G 0 41)), some (.ref (z_ad G 0 43)), some (.ref (z_ad G 0 46)), some (z_I S), some (z_I (z_sm i (fun j => n (3 - j)))), some (z_I 1), some (z_I c), some (z_I (3 - (i : Int))), none] [] (z_mt M t l (z_pai (M g) n k i)) 0 0) 4 ?_ ?_) (M 8) 0 0 (Or.inl ⟨rfl, rfl, fun q a b => by omega⟩)
  · intro t l c y_TI
    refine z_rng fun hr => ?_
    refine z_iload dL_parts_33 rfl ?_
    refine z_if_lt (tgt := 167) (by first | exact y_rb _ | omega | (exact hr _ _ (by decide))) dL_parts_35 (by decide) (fun h35 => ?_) (fun h35 => ?_)
    · refine z_aload dL_parts_167 rfl ?_
      refine z_iconst dL_parts_169 ?_
      refine z_iloadn dL_parts_170 rfl ?_
      refine z_imul dL_parts_171 ?_
      refine z_iconst dL_parts_172 ?_
      refine z_iadd dL_parts_173 ?_
      refine z_dup2 dL_parts_174 rfl rfl ?_
      refine z_lld (R := 40) (j := 86 + 5 * k + 3) al_pi (Or.inl (by decide)) ((congrFun (z_mt_40 _ _ _ _) _).trans (show z_pai (M g) n k ((4 : Nat) : Int) (86 + 5 * k + 3) = M g (86 + 5 * k + 3) from if_neg (by omega))) (by omega) (by omega) (Nat.le_of_ble_eq_true rfl) (by omega) dL_parts_175 ?_
      refine z_iconst dL_parts_176 ?_
      refine z_iadd dL_parts_177 ?_
      refine z_lst (R := 40) (j := 86 + 5 * k + 3) al_pi (Or.inl (by decide)) (by omega) (by omega) (Nat.le_of_ble_eq_true rfl) (by omega) (by first | exact y_rb _ | omega | (exact hr _ _ (by decide))) dL_parts_178 ?_
      refine z_rng fun hr => ?_
      refine z_mem (M' := z_mt M t l (z_o_share (M g) k (z_n4 n))) (by rw [z_mt_st]; exact congrArg (z_mt M t l) (z_pai_4 k0 (z_paz hb h4 k0 (by omega)))) ?_
      have y_lc : z_LC (z_mt M t l (z_o_share (M g) k (z_n4 n))) g N := z_mt_LC h.1
      have y_g : z_mt M t l (z_o_share (M g) k (z_n4 n)) g = M g := z_mt_r _ _ _ _ (by omega)
      have y_40 : z_mt M t l (z_o_share (M g) k (z_n4 n)) 40 = (z_o_share (M g) k (z_n4 n)) := z_mt_40 _ _ _ _
      have y_73 : z_mt M t l (z_o_share (M g) k (z_n4 n)) 7 3 = l := z_mt_73 _ _ _ _
      have y_8 : z_mt M t l (z_o_share (M g) k (z_n4 n)) 8 = t := z_mt_8 _ _ _ _
      refine z_rng fun hr => ?_
      generalize z_mt M t l (z_o_share (M g) k (z_n4 n)) = M2 at *
      obtain ⟨-, hn', hn0', s0', s1', ho', hb'⟩ := id y_lc
      obtain ⟨y_LB, y_LR, y_ck, l0, l1⟩ := z_TI_read (M := M2) y_73 y_ne (by rw [y_8]; exact y_TI)
      obtain ⟨y_k, y_sum⟩ := z_k_share hb hN k0 k1 (fun q _ _ => y_nr q) y_nz y_ne
      have y_eo : z_o_share (M2 g) k (z_kLR M2) = (z_o_share (M g) k (z_n4 n)) := by rw [y_g]; exact z_o_share_eq y_LR
      have y_gt : z_gtp (z_kLR M2) 12 < M2 g 0 := (z_gtp_iff (by rw [y_g]; omega) (fun p p0 p1 => (z_kLR_rg p p0 p1).1) 12 (by decide)).mpr (z_sm_z fun q hq => by
        show (if M2 g 0 ≤ (q : Int) ∧ z_kLR M2 q ≠ 0 then (1 : Int) else 0) = 0
        rw [if_neg]
        rintro ⟨a, b⟩
        rw [y_LR q (by omega) (by omega)] at b
        rw [y_g] at a
        unfold z_n4 at b
        split at b
        · exact b (y_nz q a (by omega))
        · exact b rfl)
      have y_hc : z_c_shareC M2 g k = 0 := by
        unfold z_c_shareC
        rw [y_g] at y_gt ⊢
        rw [if_neg (by omega), if_neg (fun q => q ⟨y_LB, y_gt⟩), if_neg hs]
      have y_r0 := y_nr 0
      have y_r1 := y_nr 1
      have y_r2 := y_nr 2
      have y_r3 := y_nr 3
      have y_o0 : (z_o_share (M g) k (z_n4 n)) 0 = M g 0 ∧ (z_o_share (M g) k (z_n4 n)) 1 = M g 1 := by
        unfold z_o_share z_uf z_cp
        constructor
        · rw [if_neg (by omega), if_neg (by omega)]
        · rw [if_neg (by omega), if_neg (by omega)]
      refine z_iload dL_parts_179 rfl ?_
      refine z_if_eq (tgt := 198) (by first | exact y_rb _ | omega | (exact hr _ _ (by decide))) dL_parts_181 (by decide) (fun h181 => ?_) (fun h181 => ?_)
      · exact absurd h181 (by decide)
      · refine z_aloadn dL_parts_184 rfl ?_
        refine z_iloadn dL_parts_185 rfl ?_
        refine kL_109 (tX6_share hg hn' hn0' s0' s1' ho' hb' (by omega) (by omega) (by rw [y_8, y_73]; rw [y_8] at y_ck; exact y_ck) (k := k) (by omega) y_hc) rfl ⟨(Nat.le_of_ble_eq_true rfl), (Nat.le_of_ble_eq_true rfl)⟩ (Nat.le_of_ble_eq_true rfl) dL_parts_186 ?_
        refine z_rng fun hr => ?_
        refine z_top (v' := n 3 + n 2 + n 1 + n 0) (by rw [y_eo]; exact y_sum) ?_
        refine z_iload dL_parts_189 rfl ?_
        refine z_top (v' := n 3 + n 2 + n 1 + n 0) (by show 0 + n 3 + n 2 + n 1 + n 0 = _; omega) ?_
        refine z_icmp_ne (tgt := 198) (by first | exact y_rb _ | omega | (exact hr _ _ (by decide))) (by first | exact y_rb _ | omega | (exact hr _ _ (by decide))) dL_parts_191 (by decide) (fun h191 => ?_) (fun h191 => ?_)
        · exfalso; omega
        · refine z_iconst dL_parts_194 ?_
          refine z_goto (tgt := 199) dL_parts_195 (by decide) ?_
          exact z_zretP dL_parts_199 rfl (by rw [y_eo]; exact z_PS_share y_lc y_40 y_k (by omega) (by omega))
    · exfalso; omega
  · intro i hi y_ih t l c y_TI
    refine z_rng fun hr => ?_
    obtain ⟨p, y_p⟩ : ∃ p : Int, 3 - (i : Int) = p := ⟨_, rfl⟩
    have y_p0 : 0 ≤ p ∧ p ≤ 3 := by omega
    have y_p1 : 3 - ((i + 1 : Nat) : Int) = p + -1 := by omega
    have y_np := y_nr p
    have y_l : 0 ≤ l ∧ l ≤ 4 * i ∧ (c = 0 ∨ c = 1) := by
      rcases y_TI with ⟨a, b, -⟩ | ⟨a, b, d, -⟩ <;> omega
    rw [y_p]
    simp only [y_p1] at y_ih
    refine z_iload dL_parts_33 rfl ?_
    refine z_if_lt (tgt := 167) (by first | exact y_rb _ | omega | (exact hr _ _ (by decide))) dL_parts_35 (by decide) (fun h35 => ?_) (fun h35 => ?_)
    · exfalso; omega
    · refine z_iload dL_parts_38 rfl ?_
      refine z_iload dL_parts_40 rfl ?_
      refine z_ishr (z_bshr (by omega) (by omega) (by omega) (by omega)) dL_parts_42 ?_
      refine z_iconst dL_parts_43 ?_
      refine z_iand (z_band1 (Int.ediv_nonneg (by omega) (Int.le_of_lt (Int.pow_pos (by decide))))) dL_parts_44 ?_
      refine z_if_ne (tgt := 52) (by first | exact y_rb _ | omega | (exact hr _ _ (by decide))) dL_parts_45 (by decide) (fun h45 => ?_) (fun h45 => ?_)
      · refine z_iconst dL_parts_52 ?_
        refine z_iloadn dL_parts_53 rfl ?_
        refine z_iconst dL_parts_54 ?_
        refine z_iload dL_parts_55 rfl ?_
        refine z_imul dL_parts_57 ?_
        refine z_ishr (z_ivE _) dL_parts_58 ?_
        refine z_bipush dL_parts_59 (by decide) ?_
        refine kL_65 (tL_at (by decide) (by decide)) rfl ⟨(Nat.le_of_ble_eq_true rfl), (Nat.le_of_ble_eq_true rfl)⟩ (Nat.le_of_ble_eq_true rfl) dL_parts_61 ?_
        refine z_iadd dL_parts_64 ?_
        refine z_top (v' := n p) (by rw [y_n]; first | rw [if_pos (by omega)] | rw [if_neg (by omega)]) ?_
        refine z_istore_12 dL_parts_65 (Nat.le_of_ble_eq_true rfl) rfl ?_
        refine z_aload dL_parts_67 rfl ?_
        refine z_iconst dL_parts_69 ?_
        refine z_iloadn dL_parts_70 rfl ?_
        refine z_imul dL_parts_71 ?_
        refine z_iload dL_parts_72 rfl ?_
        refine z_iadd dL_parts_74 ?_
        refine z_iload dL_parts_75 rfl ?_
        refine z_lst (R := 40) (j := 426 + 12 * k + p) al_pa (Or.inl (by decide)) (by omega) (by omega) (Nat.le_of_ble_eq_true rfl) (by omega) (by first | exact y_rb _ | omega | (exact hr _ _ (by decide))) dL_parts_77 ?_
        refine z_rng fun hr => ?_
        refine z_mem (by rw [z_mt_st, z_pai_s (i := (i : Int)) _ _ _ y_p.symm (by omega)]) ?_
        refine z_rng fun hr => ?_
        refine z_iload dL_parts_78 rfl ?_
        refine z_iload dL_parts_80 rfl ?_
        refine z_iadd dL_parts_82 ?_
        refine z_top (v' := z_sm (i + 1) (fun j => n (3 - j))) (by rw [z_sm_s]; show _ = z_sm i (fun j => n (3 - j)) + n (3 - (i : Int)); rw [y_p]) ?_
        refine z_istore_8 dL_parts_83 (Nat.le_of_ble_eq_true rfl) rfl ?_
        refine z_iload dL_parts_85 rfl ?_
        refine z_if_ne (tgt := 93) (by first | exact y_rb _ | omega | (exact hr _ _ (by decide))) dL_parts_87 (by decide) (fun h87 => ?_) (fun h87 => ?_)
        · refine z_iload dL_parts_93 rfl ?_
          refine z_if_eq (tgt := 155) (by first | exact y_rb _ | omega | (exact hr _ _ (by decide))) dL_parts_95 (by decide) (fun h95 => ?_) (fun h95 => ?_)
          · exact absurd h95 (by decide)
          · refine z_iload dL_parts_98 rfl ?_
            refine z_if_eq (tgt := 112) (by first | exact y_rb _ | omega | (exact hr _ _ (by decide))) dL_parts_100 (by decide) (fun h100 => ?_) (fun h100 => ?_)
            · refine z_aloadn dL_parts_112 rfl ?_
              refine z_bipush dL_parts_113 (by decide) ?_
              refine z_iload dL_parts_115 rfl ?_
              refine z_iadd dL_parts_117 ?_
              refine kL_106 (tX6_append (z_mt_73 _ _ _ _) (by omega) (by omega) (by omega) (by unfold z_c_append; rw [if_neg (by omega), if_neg (by omega)])) rfl ⟨(Nat.le_of_ble_eq_true rfl), (Nat.le_of_ble_eq_true rfl)⟩ (Nat.le_of_ble_eq_true rfl) dL_parts_118 ?_
              refine z_rng fun hr => ?_
              refine z_mem (z_mt_app _ _ _ _ _) ?_
              refine z_if_le (tgt := 155) (by first | exact y_rb _ | omega | (exact hr _ _ (by decide))) dL_parts_121 (by decide) (fun h121 => ?_) (fun h121 => ?_)
              · exfalso; omega
              · refine z_iload dL_parts_124 rfl ?_
                refine z_iconst dL_parts_126 ?_
                refine z_icmp_eq (tgt := 151) (by first | exact y_rb _ | omega | (exact hr _ _ (by decide))) (by first | exact y_rb _ | omega | (exact hr _ _ (by decide))) dL_parts_127 (by decide) (fun h127 => ?_) (fun h127 => ?_)
                · refine z_iconst dL_parts_151 ?_
                  refine z_goto (tgt := 156) dL_parts_152 (by decide) ?_
                  refine z_istore_9 dL_parts_156 (Nat.le_of_ble_eq_true rfl) rfl ?_
                  refine z_iconst dL_parts_158 ?_
                  refine z_istore_10 dL_parts_159 (Nat.le_of_ble_eq_true rfl) rfl ?_
                  refine z_iinc_11 dL_parts_161 (Nat.le_of_ble_eq_true rfl) rfl ?_
                  refine z_goto (tgt := 33) dL_parts_164 (by decide) ?_
                  refine z_fgt 12 ?_
                  refine y_ih _ _ _ ?_
                  first
                    | exact z_TI_n hi (by rw [y_p]; omega) y_TI
                    | exact z_TI_1 hi y_p.symm (by omega) (z_TN_0 (by omega) (by rwa [show c = 0 by omega] at y_TI))
                    | exact z_TI_s hi y_p.symm (by omega) (by omega) (z_TN_0 (by omega) (by rwa [show c = 0 by omega] at y_TI))
                    | exact z_TI_1 hi y_p.symm (by omega) (z_TN_c hi (by rwa [show c = 1 by omega] at y_TI))
                    | exact z_TI_s hi y_p.symm (by omega) (by omega) (z_TN_c hi (by rwa [show c = 1 by omega] at y_TI))
                · refine z_aloadn dL_parts_130 rfl ?_
                  refine z_bipush dL_parts_131 (by decide) ?_
                  refine kL_106 (tX6_append (z_mt_73 _ _ _ _) (by omega) (by omega) (by omega) (by unfold z_c_append; rw [if_neg (by omega), if_neg (by omega)])) rfl ⟨(Nat.le_of_ble_eq_true rfl), (Nat.le_of_ble_eq_true rfl)⟩ (Nat.le_of_ble_eq_true rfl) dL_parts_133 ?_
                  refine z_rng fun hr => ?_
                  refine z_mem (z_mt_app _ _ _ _ _) ?_
                  refine z_if_le (tgt := 155) (by first | exact y_rb _ | omega | (exact hr _ _ (by decide))) dL_parts_136 (by decide) (fun h136 => ?_) (fun h136 => ?_)
                  · exfalso; omega
                  · refine z_aloadn dL_parts_139 rfl ?_
                    refine z_bipush dL_parts_140 (by decide) ?_
                    refine z_iload dL_parts_142 rfl ?_
                    refine z_iadd dL_parts_144 ?_
                    refine kL_106 (tX6_append (z_mt_73 _ _ _ _) (by omega) (by omega) (by omega) (by unfold z_c_append; rw [if_neg (by omega), if_neg (by omega)])) rfl ⟨(Nat.le_of_ble_eq_true rfl), (Nat.le_of_ble_eq_true rfl)⟩ (Nat.le_of_ble_eq_true rfl) dL_parts_145 ?_
                    refine z_rng fun hr => ?_
                    refine z_mem (z_mt_app _ _ _ _ _) ?_
                    refine z_if_le (tgt := 155) (by first | exact y_rb _ | omega | (exact hr _ _ (by decide))) dL_parts_148 (by decide) (fun h148 => ?_) (fun h148 => ?_)
                    · exfalso; omega
                    · refine z_iconst dL_parts_151 ?_
                      refine z_goto (tgt := 156) dL_parts_152 (by decide) ?_
                      refine z_istore_9 dL_parts_156 (Nat.le_of_ble_eq_true rfl) rfl ?_
                      refine z_iconst dL_parts_158 ?_
                      refine z_istore_10 dL_parts_159 (Nat.le_of_ble_eq_true rfl) rfl ?_
                      refine z_iinc_11 dL_parts_161 (Nat.le_of_ble_eq_true rfl) rfl ?_
                      refine z_goto (tgt := 33) dL_parts_164 (by decide) ?_
                      refine z_fgt 12 ?_
                      refine y_ih _ _ _ ?_
                      first
                        | exact z_TI_n hi (by rw [y_p]; omega) y_TI
                        | exact z_TI_1 hi y_p.symm (by omega) (z_TN_0 (by omega) (by rwa [show c = 0 by omega] at y_TI))
                        | exact z_TI_s hi y_p.symm (by omega) (by omega) (z_TN_0 (by omega) (by rwa [show c = 0 by omega] at y_TI))
                        | exact z_TI_1 hi y_p.symm (by omega) (z_TN_c hi (by rwa [show c = 1 by omega] at y_TI))
                        | exact z_TI_s hi y_p.symm (by omega) (by omega) (z_TN_c hi (by rwa [show c = 1 by omega] at y_TI))
            · refine z_aloadn dL_parts_103 rfl ?_
              refine z_bipush dL_parts_104 (by decide) ?_
              refine kL_106 (tX6_append (z_mt_73 _ _ _ _) (by omega) (by omega) (by omega) (by unfold z_c_append; rw [if_neg (by omega), if_neg (by omega)])) rfl ⟨(Nat.le_of_ble_eq_true rfl), (Nat.le_of_ble_eq_true rfl)⟩ (Nat.le_of_ble_eq_true rfl) dL_parts_106 ?_
              refine z_rng fun hr => ?_
              refine z_mem (z_mt_app _ _ _ _ _) ?_
              refine z_if_le (tgt := 155) (by first | exact y_rb _ | omega | (exact hr _ _ (by decide))) dL_parts_109 (by decide) (fun h109 => ?_) (fun h109 => ?_)
              · exfalso; omega
              · refine z_aloadn dL_parts_112 rfl ?_
                refine z_bipush dL_parts_113 (by decide) ?_
                refine z_iload dL_parts_115 rfl ?_
                refine z_iadd dL_parts_117 ?_
                refine kL_106 (tX6_append (z_mt_73 _ _ _ _) (by omega) (by omega) (by omega) (by unfold z_c_append; rw [if_neg (by omega), if_neg (by omega)])) rfl ⟨(Nat.le_of_ble_eq_true rfl), (Nat.le_of_ble_eq_true rfl)⟩ (Nat.le_of_ble_eq_true rfl) dL_parts_118 ?_
                refine z_rng fun hr => ?_
                refine z_mem (z_mt_app _ _ _ _ _) ?_
                refine z_if_le (tgt := 155) (by first | exact y_rb _ | omega | (exact hr _ _ (by decide))) dL_parts_121 (by decide) (fun h121 => ?_) (fun h121 => ?_)
                · exfalso; omega
                · refine z_iload dL_parts_124 rfl ?_
                  refine z_iconst dL_parts_126 ?_
                  refine z_icmp_eq (tgt := 151) (by first | exact y_rb _ | omega | (exact hr _ _ (by decide))) (by first | exact y_rb _ | omega | (exact hr _ _ (by decide))) dL_parts_127 (by decide) (fun h127 => ?_) (fun h127 => ?_)
                  · refine z_iconst dL_parts_151 ?_
                    refine z_goto (tgt := 156) dL_parts_152 (by decide) ?_
                    refine z_istore_9 dL_parts_156 (Nat.le_of_ble_eq_true rfl) rfl ?_
                    refine z_iconst dL_parts_158 ?_
                    refine z_istore_10 dL_parts_159 (Nat.le_of_ble_eq_true rfl) rfl ?_
                    refine z_iinc_11 dL_parts_161 (Nat.le_of_ble_eq_true rfl) rfl ?_
                    refine z_goto (tgt := 33) dL_parts_164 (by decide) ?_
                    refine z_fgt 12 ?_
                    refine y_ih _ _ _ ?_
                    first
                      | exact z_TI_n hi (by rw [y_p]; omega) y_TI
                      | exact z_TI_1 hi y_p.symm (by omega) (z_TN_0 (by omega) (by rwa [show c = 0 by omega] at y_TI))
                      | exact z_TI_s hi y_p.symm (by omega) (by omega) (z_TN_0 (by omega) (by rwa [show c = 0 by omega] at y_TI))
                      | exact z_TI_1 hi y_p.symm (by omega) (z_TN_c hi (by rwa [show c = 1 by omega] at y_TI))
                      | exact z_TI_s hi y_p.symm (by omega) (by omega) (z_TN_c hi (by rwa [show c = 1 by omega] at y_TI))
                  · refine z_aloadn dL_parts_130 rfl ?_
                    refine z_bipush dL_parts_131 (by decide) ?_
                    refine kL_106 (tX6_append (z_mt_73 _ _ _ _) (by omega) (by omega) (by omega) (by unfold z_c_append; rw [if_neg (by omega), if_neg (by omega)])) rfl ⟨(Nat.le_of_ble_eq_true rfl), (Nat.le_of_ble_eq_true rfl)⟩ (Nat.le_of_ble_eq_true rfl) dL_parts_133 ?_
                    refine z_rng fun hr => ?_
                    refine z_mem (z_mt_app _ _ _ _ _) ?_
                    refine z_if_le (tgt := 155) (by first | exact y_rb _ | omega | (exact hr _ _ (by decide))) dL_parts_136 (by decide) (fun h136 => ?_) (fun h136 => ?_)
                    · exfalso; omega
                    · refine z_aloadn dL_parts_139 rfl ?_
                      refine z_bipush dL_parts_140 (by decide) ?_
                      refine z_iload dL_parts_142 rfl ?_
                      refine z_iadd dL_parts_144 ?_
                      refine kL_106 (tX6_append (z_mt_73 _ _ _ _) (by omega) (by omega) (by omega) (by unfold z_c_append; rw [if_neg (by omega), if_neg (by omega)])) rfl ⟨(Nat.le_of_ble_eq_true rfl), (Nat.le_of_ble_eq_true rfl)⟩ (Nat.le_of_ble_eq_true rfl) dL_parts_145 ?_
                      refine z_rng fun hr => ?_
                      refine z_mem (z_mt_app _ _ _ _ _) ?_
                      refine z_if_le (tgt := 155) (by first | exact y_rb _ | omega | (exact hr _ _ (by decide))) dL_parts_148 (by decide) (fun h148 => ?_) (fun h148 => ?_)
                      · exfalso; omega
                      · refine z_iconst dL_parts_151 ?_
                        refine z_goto (tgt := 156) dL_parts_152 (by decide) ?_
                        refine z_istore_9 dL_parts_156 (Nat.le_of_ble_eq_true rfl) rfl ?_
                        refine z_iconst dL_parts_158 ?_
                        refine z_istore_10 dL_parts_159 (Nat.le_of_ble_eq_true rfl) rfl ?_
                        refine z_iinc_11 dL_parts_161 (Nat.le_of_ble_eq_true rfl) rfl ?_
                        refine z_goto (tgt := 33) dL_parts_164 (by decide) ?_
                        refine z_fgt 12 ?_
                        refine y_ih _ _ _ ?_
                        first
                          | exact z_TI_n hi (by rw [y_p]; omega) y_TI
                          | exact z_TI_1 hi y_p.symm (by omega) (z_TN_0 (by omega) (by rwa [show c = 0 by omega] at y_TI))
                          | exact z_TI_s hi y_p.symm (by omega) (by omega) (z_TN_0 (by omega) (by rwa [show c = 0 by omega] at y_TI))
                          | exact z_TI_1 hi y_p.symm (by omega) (z_TN_c hi (by rwa [show c = 1 by omega] at y_TI))
                          | exact z_TI_s hi y_p.symm (by omega) (by omega) (z_TN_c hi (by rwa [show c = 1 by omega] at y_TI))
        · refine z_goto (tgt := 161) dL_parts_90 (by decide) ?_
          refine z_iinc_11 dL_parts_161 (Nat.le_of_ble_eq_true rfl) rfl ?_
          refine z_goto (tgt := 33) dL_parts_164 (by decide) ?_
          refine z_fgt 12 ?_
          refine y_ih _ _ _ ?_
          first
            | exact z_TI_n hi (by rw [y_p]; omega) y_TI
            | exact z_TI_1 hi y_p.symm (by omega) (z_TN_0 (by omega) (by rwa [show c = 0 by omega] at y_TI))
            | exact z_TI_s hi y_p.symm (by omega) (by omega) (z_TN_0 (by omega) (by rwa [show c = 0 by omega] at y_TI))
            | exact z_TI_1 hi y_p.symm (by omega) (z_TN_c hi (by rwa [show c = 1 by omega] at y_TI))
            | exact z_TI_s hi y_p.symm (by omega) (by omega) (z_TN_c hi (by rwa [show c = 1 by omega] at y_TI))
      · refine z_iconst dL_parts_48 ?_
        refine z_goto (tgt := 65) dL_parts_49 (by decide) ?_
        refine z_top (v' := n p) (by rw [y_n]; first | rw [if_pos (by omega)] | rw [if_neg (by omega)]) ?_
        refine z_istore_12 dL_parts_65 (Nat.le_of_ble_eq_true rfl) rfl ?_
        refine z_aload dL_parts_67 rfl ?_
        refine z_iconst dL_parts_69 ?_
        refine z_iloadn dL_parts_70 rfl ?_
        refine z_imul dL_parts_71 ?_
        refine z_iload dL_parts_72 rfl ?_
        refine z_iadd dL_parts_74 ?_
        refine z_iload dL_parts_75 rfl ?_
        refine z_lst (R := 40) (j := 426 + 12 * k + p) al_pa (Or.inl (by decide)) (by omega) (by omega) (Nat.le_of_ble_eq_true rfl) (by omega) (by first | exact y_rb _ | omega | (exact hr _ _ (by decide))) dL_parts_77 ?_
        refine z_rng fun hr => ?_
        refine z_mem (by rw [z_mt_st, z_pai_s (i := (i : Int)) _ _ _ y_p.symm (by omega)]) ?_
        refine z_rng fun hr => ?_
        refine z_iload dL_parts_78 rfl ?_
        refine z_iload dL_parts_80 rfl ?_
        refine z_iadd dL_parts_82 ?_
        refine z_top (v' := z_sm (i + 1) (fun j => n (3 - j))) (by rw [z_sm_s]; show _ = z_sm i (fun j => n (3 - j)) + n (3 - (i : Int)); rw [y_p]) ?_
        refine z_istore_8 dL_parts_83 (Nat.le_of_ble_eq_true rfl) rfl ?_
        refine z_iload dL_parts_85 rfl ?_
        refine z_if_ne (tgt := 93) (by first | exact y_rb _ | omega | (exact hr _ _ (by decide))) dL_parts_87 (by decide) (fun h87 => ?_) (fun h87 => ?_)
        · refine z_iload dL_parts_93 rfl ?_
          refine z_if_eq (tgt := 155) (by first | exact y_rb _ | omega | (exact hr _ _ (by decide))) dL_parts_95 (by decide) (fun h95 => ?_) (fun h95 => ?_)
          · exact absurd h95 (by decide)
          · refine z_iload dL_parts_98 rfl ?_
            refine z_if_eq (tgt := 112) (by first | exact y_rb _ | omega | (exact hr _ _ (by decide))) dL_parts_100 (by decide) (fun h100 => ?_) (fun h100 => ?_)
            · refine z_aloadn dL_parts_112 rfl ?_
              refine z_bipush dL_parts_113 (by decide) ?_
              refine z_iload dL_parts_115 rfl ?_
              refine z_iadd dL_parts_117 ?_
              refine kL_106 (tX6_append (z_mt_73 _ _ _ _) (by omega) (by omega) (by omega) (by unfold z_c_append; rw [if_neg (by omega), if_neg (by omega)])) rfl ⟨(Nat.le_of_ble_eq_true rfl), (Nat.le_of_ble_eq_true rfl)⟩ (Nat.le_of_ble_eq_true rfl) dL_parts_118 ?_
              refine z_rng fun hr => ?_
              refine z_mem (z_mt_app _ _ _ _ _) ?_
              refine z_if_le (tgt := 155) (by first | exact y_rb _ | omega | (exact hr _ _ (by decide))) dL_parts_121 (by decide) (fun h121 => ?_) (fun h121 => ?_)
              · exfalso; omega
              · refine z_iload dL_parts_124 rfl ?_
                refine z_iconst dL_parts_126 ?_
                refine z_icmp_eq (tgt := 151) (by first | exact y_rb _ | omega | (exact hr _ _ (by decide))) (by first | exact y_rb _ | omega | (exact hr _ _ (by decide))) dL_parts_127 (by decide) (fun h127 => ?_) (fun h127 => ?_)
                · refine z_iconst dL_parts_151 ?_
                  refine z_goto (tgt := 156) dL_parts_152 (by decide) ?_
                  refine z_istore_9 dL_parts_156 (Nat.le_of_ble_eq_true rfl) rfl ?_
                  refine z_iconst dL_parts_158 ?_
                  refine z_istore_10 dL_parts_159 (Nat.le_of_ble_eq_true rfl) rfl ?_
                  refine z_iinc_11 dL_parts_161 (Nat.le_of_ble_eq_true rfl) rfl ?_
                  refine z_goto (tgt := 33) dL_parts_164 (by decide) ?_
                  refine z_fgt 12 ?_
                  refine y_ih _ _ _ ?_
                  first
                    | exact z_TI_n hi (by rw [y_p]; omega) y_TI
                    | exact z_TI_1 hi y_p.symm (by omega) (z_TN_0 (by omega) (by rwa [show c = 0 by omega] at y_TI))
                    | exact z_TI_s hi y_p.symm (by omega) (by omega) (z_TN_0 (by omega) (by rwa [show c = 0 by omega] at y_TI))
                    | exact z_TI_1 hi y_p.symm (by omega) (z_TN_c hi (by rwa [show c = 1 by omega] at y_TI))
                    | exact z_TI_s hi y_p.symm (by omega) (by omega) (z_TN_c hi (by rwa [show c = 1 by omega] at y_TI))
                · refine z_aloadn dL_parts_130 rfl ?_
                  refine z_bipush dL_parts_131 (by decide) ?_
                  refine kL_106 (tX6_append (z_mt_73 _ _ _ _) (by omega) (by omega) (by omega) (by unfold z_c_append; rw [if_neg (by omega), if_neg (by omega)])) rfl ⟨(Nat.le_of_ble_eq_true rfl), (Nat.le_of_ble_eq_true rfl)⟩ (Nat.le_of_ble_eq_true rfl) dL_parts_133 ?_
                  refine z_rng fun hr => ?_
                  refine z_mem (z_mt_app _ _ _ _ _) ?_
                  refine z_if_le (tgt := 155) (by first | exact y_rb _ | omega | (exact hr _ _ (by decide))) dL_parts_136 (by decide) (fun h136 => ?_) (fun h136 => ?_)
                  · exfalso; omega
                  · refine z_aloadn dL_parts_139 rfl ?_
                    refine z_bipush dL_parts_140 (by decide) ?_
                    refine z_iload dL_parts_142 rfl ?_
                    refine z_iadd dL_parts_144 ?_
                    refine kL_106 (tX6_append (z_mt_73 _ _ _ _) (by omega) (by omega) (by omega) (by unfold z_c_append; rw [if_neg (by omega), if_neg (by omega)])) rfl ⟨(Nat.le_of_ble_eq_true rfl), (Nat.le_of_ble_eq_true rfl)⟩ (Nat.le_of_ble_eq_true rfl) dL_parts_145 ?_
                    refine z_rng fun hr => ?_
                    refine z_mem (z_mt_app _ _ _ _ _) ?_
                    refine z_if_le (tgt := 155) (by first | exact y_rb _ | omega | (exact hr _ _ (by decide))) dL_parts_148 (by decide) (fun h148 => ?_) (fun h148 => ?_)
                    · exfalso; omega
                    · refine z_iconst dL_parts_151 ?_
                      refine z_goto (tgt := 156) dL_parts_152 (by decide) ?_
                      refine z_istore_9 dL_parts_156 (Nat.le_of_ble_eq_true rfl) rfl ?_
                      refine z_iconst dL_parts_158 ?_
                      refine z_istore_10 dL_parts_159 (Nat.le_of_ble_eq_true rfl) rfl ?_
                      refine z_iinc_11 dL_parts_161 (Nat.le_of_ble_eq_true rfl) rfl ?_
                      refine z_goto (tgt := 33) dL_parts_164 (by decide) ?_
                      refine z_fgt 12 ?_
                      refine y_ih _ _ _ ?_
                      first
                        | exact z_TI_n hi (by rw [y_p]; omega) y_TI
                        | exact z_TI_1 hi y_p.symm (by omega) (z_TN_0 (by omega) (by rwa [show c = 0 by omega] at y_TI))
                        | exact z_TI_s hi y_p.symm (by omega) (by omega) (z_TN_0 (by omega) (by rwa [show c = 0 by omega] at y_TI))
                        | exact z_TI_1 hi y_p.symm (by omega) (z_TN_c hi (by rwa [show c = 1 by omega] at y_TI))
                        | exact z_TI_s hi y_p.symm (by omega) (by omega) (z_TN_c hi (by rwa [show c = 1 by omega] at y_TI))
            · refine z_aloadn dL_parts_103 rfl ?_
              refine z_bipush dL_parts_104 (by decide) ?_
              refine kL_106 (tX6_append (z_mt_73 _ _ _ _) (by omega) (by omega) (by omega) (by unfold z_c_append; rw [if_neg (by omega), if_neg (by omega)])) rfl ⟨(Nat.le_of_ble_eq_true rfl), (Nat.le_of_ble_eq_true rfl)⟩ (Nat.le_of_ble_eq_true rfl) dL_parts_106 ?_
              refine z_rng fun hr => ?_
              refine z_mem (z_mt_app _ _ _ _ _) ?_
              refine z_if_le (tgt := 155) (by first | exact y_rb _ | omega | (exact hr _ _ (by decide))) dL_parts_109 (by decide) (fun h109 => ?_) (fun h109 => ?_)
              · exfalso; omega
              · refine z_aloadn dL_parts_112 rfl ?_
                refine z_bipush dL_parts_113 (by decide) ?_
                refine z_iload dL_parts_115 rfl ?_
                refine z_iadd dL_parts_117 ?_
                refine kL_106 (tX6_append (z_mt_73 _ _ _ _) (by omega) (by omega) (by omega) (by unfold z_c_append; rw [if_neg (by omega), if_neg (by omega)])) rfl ⟨(Nat.le_of_ble_eq_true rfl), (Nat.le_of_ble_eq_true rfl)⟩ (Nat.le_of_ble_eq_true rfl) dL_parts_118 ?_
                refine z_rng fun hr => ?_
                refine z_mem (z_mt_app _ _ _ _ _) ?_
                refine z_if_le (tgt := 155) (by first | exact y_rb _ | omega | (exact hr _ _ (by decide))) dL_parts_121 (by decide) (fun h121 => ?_) (fun h121 => ?_)
                · exfalso; omega
                · refine z_iload dL_parts_124 rfl ?_
                  refine z_iconst dL_parts_126 ?_
                  refine z_icmp_eq (tgt := 151) (by first | exact y_rb _ | omega | (exact hr _ _ (by decide))) (by first | exact y_rb _ | omega | (exact hr _ _ (by decide))) dL_parts_127 (by decide) (fun h127 => ?_) (fun h127 => ?_)
                  · refine z_iconst dL_parts_151 ?_
                    refine z_goto (tgt := 156) dL_parts_152 (by decide) ?_
                    refine z_istore_9 dL_parts_156 (Nat.le_of_ble_eq_true rfl) rfl ?_
                    refine z_iconst dL_parts_158 ?_
                    refine z_istore_10 dL_parts_159 (Nat.le_of_ble_eq_true rfl) rfl ?_
                    refine z_iinc_11 dL_parts_161 (Nat.le_of_ble_eq_true rfl) rfl ?_
                    refine z_goto (tgt := 33) dL_parts_164 (by decide) ?_
                    refine z_fgt 12 ?_
                    refine y_ih _ _ _ ?_
                    first
                      | exact z_TI_n hi (by rw [y_p]; omega) y_TI
                      | exact z_TI_1 hi y_p.symm (by omega) (z_TN_0 (by omega) (by rwa [show c = 0 by omega] at y_TI))
                      | exact z_TI_s hi y_p.symm (by omega) (by omega) (z_TN_0 (by omega) (by rwa [show c = 0 by omega] at y_TI))
                      | exact z_TI_1 hi y_p.symm (by omega) (z_TN_c hi (by rwa [show c = 1 by omega] at y_TI))
                      | exact z_TI_s hi y_p.symm (by omega) (by omega) (z_TN_c hi (by rwa [show c = 1 by omega] at y_TI))
                  · refine z_aloadn dL_parts_130 rfl ?_
                    refine z_bipush dL_parts_131 (by decide) ?_
                    refine kL_106 (tX6_append (z_mt_73 _ _ _ _) (by omega) (by omega) (by omega) (by unfold z_c_append; rw [if_neg (by omega), if_neg (by omega)])) rfl ⟨(Nat.le_of_ble_eq_true rfl), (Nat.le_of_ble_eq_true rfl)⟩ (Nat.le_of_ble_eq_true rfl) dL_parts_133 ?_
                    refine z_rng fun hr => ?_
                    refine z_mem (z_mt_app _ _ _ _ _) ?_
                    refine z_if_le (tgt := 155) (by first | exact y_rb _ | omega | (exact hr _ _ (by decide))) dL_parts_136 (by decide) (fun h136 => ?_) (fun h136 => ?_)
                    · exfalso; omega
                    · refine z_aloadn dL_parts_139 rfl ?_
                      refine z_bipush dL_parts_140 (by decide) ?_
                      refine z_iload dL_parts_142 rfl ?_
                      refine z_iadd dL_parts_144 ?_
                      refine kL_106 (tX6_append (z_mt_73 _ _ _ _) (by omega) (by omega) (by omega) (by unfold z_c_append; rw [if_neg (by omega), if_neg (by omega)])) rfl ⟨(Nat.le_of_ble_eq_true rfl), (Nat.le_of_ble_eq_true rfl)⟩ (Nat.le_of_ble_eq_true rfl) dL_parts_145 ?_
                      refine z_rng fun hr => ?_
                      refine z_mem (z_mt_app _ _ _ _ _) ?_
                      refine z_if_le (tgt := 155) (by first | exact y_rb _ | omega | (exact hr _ _ (by decide))) dL_parts_148 (by decide) (fun h148 => ?_) (fun h148 => ?_)
                      · exfalso; omega
                      · refine z_iconst dL_parts_151 ?_
                        refine z_goto (tgt := 156) dL_parts_152 (by decide) ?_
                        refine z_istore_9 dL_parts_156 (Nat.le_of_ble_eq_true rfl) rfl ?_
                        refine z_iconst dL_parts_158 ?_
                        refine z_istore_10 dL_parts_159 (Nat.le_of_ble_eq_true rfl) rfl ?_
                        refine z_iinc_11 dL_parts_161 (Nat.le_of_ble_eq_true rfl) rfl ?_
                        refine z_goto (tgt := 33) dL_parts_164 (by decide) ?_
                        refine z_fgt 12 ?_
                        refine y_ih _ _ _ ?_
                        first
                          | exact z_TI_n hi (by rw [y_p]; omega) y_TI
                          | exact z_TI_1 hi y_p.symm (by omega) (z_TN_0 (by omega) (by rwa [show c = 0 by omega] at y_TI))
                          | exact z_TI_s hi y_p.symm (by omega) (by omega) (z_TN_0 (by omega) (by rwa [show c = 0 by omega] at y_TI))
                          | exact z_TI_1 hi y_p.symm (by omega) (z_TN_c hi (by rwa [show c = 1 by omega] at y_TI))
                          | exact z_TI_s hi y_p.symm (by omega) (by omega) (z_TN_c hi (by rwa [show c = 1 by omega] at y_TI))
        · refine z_goto (tgt := 161) dL_parts_90 (by decide) ?_
          refine z_iinc_11 dL_parts_161 (Nat.le_of_ble_eq_true rfl) rfl ?_
          refine z_goto (tgt := 33) dL_parts_164 (by decide) ?_
          refine z_fgt 12 ?_
          refine y_ih _ _ _ ?_
          first
            | exact z_TI_n hi (by rw [y_p]; omega) y_TI
            | exact z_TI_1 hi y_p.symm (by omega) (z_TN_0 (by omega) (by rwa [show c = 0 by omega] at y_TI))
            | exact z_TI_s hi y_p.symm (by omega) (by omega) (z_TN_0 (by omega) (by rwa [show c = 0 by omega] at y_TI))
            | exact z_TI_1 hi y_p.symm (by omega) (z_TN_c hi (by rwa [show c = 1 by omega] at y_TI))
            | exact z_TI_s hi y_p.symm (by omega) (by omega) (z_TN_c hi (by rwa [show c = 1 by omega] at y_TI))
