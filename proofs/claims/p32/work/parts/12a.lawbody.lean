/-! ===== the law's body ===== -/
abbrev z_dL : z_Md := (cL_law, 13, RL, room_1, ret)
def z_M1 : z_M := z_sM (z_sM (z_sM (z_sM (z_sM z_M0 40 8 10) 40 9 5) 40 11 10) 40 12 25) 40 13 50
theorem z_M1_n {r : Nat} (h : r ≠ 40) : z_M1 r = z_M0 r := by
  funext i
  unfold z_M1 z_sM
  rw [if_neg (fun c => h c.1), if_neg (fun c => h c.1), if_neg (fun c => h c.1), if_neg (fun c => h c.1), if_neg (fun c => h c.1)]
theorem z_M1_40 : z_M1 40 = z_set0 := by
  funext i
  have q : ∀ j : Int, z_M0 40 j = 0 := fun j => z_M0_n (by decide)
  have e2 : z_set0 10 = 0 := rfl
  by_cases c : 8 ≤ i ∧ i < 14
  · rcases (show i = 8 ∨ i = 9 ∨ i = 10 ∨ i = 11 ∨ i = 12 ∨ i = 13 by omega) with rfl | rfl | rfl | rfl | rfl | rfl <;> rfl
  · rw [z_set0_0 (by omega)]
    unfold z_M1 z_sM
    rw [if_neg (by omega), if_neg (by omega), if_neg (by omega), if_neg (by omega), if_neg (by omega), q]
theorem z_LR_0 : z_LR z_M1 0 0 := by
  have e7 : ∀ i, z_M1 7 i = 0 := fun i => by rw [z_M1_n (by decide)]; exact z_M0_n (by omega)
  have e0 : z_M1 0 = z_set0 := by rw [z_M1_n (by decide)]; exact z_M0_g (by decide)
  refine ⟨⟨by decide, e7 2, e7 0, by rw [e7]; decide, by rw [e7]; decide, fun a ha i hi => ?_, ?_⟩, ?_, ?_, ?_⟩
  · rw [z_M1_n (by omega), z_M0_g ha]; exact z_set0_0 (by omega)
  · rw [e0]; exact z_BI_0
  · rw [z_M1_40, e0]
  · rw [e0, z_set0_0 (by decide)]; decide
  · rw [e0, z_set0_0 (by decide)]; decide
theorem z_law_turns {G : z_G} {Z : z_Z} {Q : State → Prop} (hx : z_x G = 0) (hE : ∀ (M : z_M) (k n : Nat) (ls : List (Option Value)), k ≤ 600130 → n ≤ 7301080 → z_J G Z z_dL Q 304 ls [z_I 1] M k n) {M : z_M} (h : z_LR M 0 0) (h0 : M 0 0 = 0) : z_J G Z z_dL Q 101 [some (.ref (z_scp G).1), some (.ref (z_ad G 0 20)), some (.ref (z_ad G 0 40)), some (.ref (z_ad G 0 41)), some (.ref (z_ad G 0 42)), some (.ref (z_ad G 0 43)), some (.ref (z_ad G 0 44)), some (.ref (z_ad G 0 45)), some (.ref (z_ad G 0 46)), some (z_I 0), none, none, none] [] M 148 6739 := by
  refine (z_upn (P := fun i : Nat => ∀ (X : z_M) (g k n : Nat), z_LR X g i → (i = 0 → X g 0 = 0) → (1 ≤ i → 1 ≤ X 7 1) → k ≤ 148 + 4 * i → n ≤ 6739 + 68 * i → z_J G Z z_dL Q 101 [some (.ref (z_scp G).1), some (.ref (z_ad G 0 20)), some (.ref (z_ad G 0 40)), some (.ref (z_ad G 0 41)), some (.ref (z_ad G 0 42)), some (.ref (z_ad G 0 43)), some (.ref (z_ad G 0 44)), some (.ref (z_ad G 0 45)), some (.ref (z_ad G 0 46)), some (z_I (i : Int)), none, none, none] [] X k n) 32 ?_ ?_) M 0 148 6739 h (fun _ => h0) (fun h => absurd h (by decide)) (by decide) (by decide)
  · intro X g k n h h0 h1 y_k1 y_n1
    have y_hk : k ≤ (z_R z_dL).cells ∧ n ≤ (z_R z_dL).slots := ⟨by show k ≤ 600130; omega, by show n ≤ 7301080; omega⟩
    obtain ⟨⟨hg, hn, -, s0, s1, -, hb⟩, y_E, h4, h5⟩ := id h
    refine z_rng fun hr => ?_
    have y_s1 := h1 (by decide)
    refine z_iload dL_law_101 rfl ?_
    refine z_bipush dL_law_103 (by decide) ?_
    refine z_icmp_ge (tgt := 290) (by first | omega | exact hr _ _ (by decide)) (by first | omega | exact hr _ _ (by decide)) dL_law_105 (by decide) (fun h105 => ?_) (fun h105 => ?_)
    · refine z_aloadn dL_law_290 rfl ?_
      refine z_bipush dL_law_291 (by decide) ?_
      refine jL_55 (tX6_count hg hn hb (w := 13) (by omega) (by decide)) rfl ⟨(Nat.le_of_ble_eq_true rfl), (Nat.le_of_ble_eq_true rfl)⟩ y_hk (Nat.le_of_ble_eq_true rfl) dL_law_293 ?_
      refine z_top (v' := X 7 1) rfl ?_
      refine z_if_le (tgt := 303) (by first | omega | exact hr _ _ (by decide)) dL_law_296 (by decide) (fun h296 => ?_) (fun h296 => ?_)
      · exfalso; omega
      · refine z_iconst dL_law_299 ?_
        refine z_goto (tgt := 304) dL_law_300 (by decide) ?_
        exact hE _ _ _ _ y_hk.1 y_hk.2
    · exfalso; omega
  · intro i hi y_ih X g k n h h0 h1 y_k1 y_n1
    have y_hk : k ≤ (z_R z_dL).cells ∧ n ≤ (z_R z_dL).slots := ⟨by show k ≤ 600130; omega, by show n ≤ 7301080; omega⟩
    obtain ⟨⟨hg, hn, -, s0, s1, -, hb⟩, y_E, h4, h5⟩ := id h
    refine z_rng fun hr => ?_
    refine z_iload dL_law_101 rfl ?_
    refine z_bipush dL_law_103 (by decide) ?_
    refine z_icmp_ge (tgt := 290) (by first | omega | exact hr _ _ (by decide)) (by first | omega | exact hr _ _ (by decide)) dL_law_105 (by decide) (fun h105 => ?_) (fun h105 => ?_)
    · exfalso; omega
    · refine z_aloadn dL_law_108 rfl ?_
      refine z_iconst dL_law_109 ?_
      refine z_iload dL_law_110 rfl ?_
      refine z_imul dL_law_112 ?_
      refine jL_153 (tL_cell (by omega) (by omega)) rfl ⟨(Nat.le_of_ble_eq_true rfl), (Nat.le_of_ble_eq_true rfl)⟩ y_hk (Nat.le_of_ble_eq_true rfl) dL_law_113 ?_
      refine z_ldc (i := 2147483647) wk_L_156 dL_law_116 ?_
      refine z_iand (z_ivE _) dL_law_118 ?_
      obtain ⟨x, y_x⟩ : ∃ x, z_iv (Int32.ofInt (z_cell G (2 * (i : Int))) &&& Int32.ofInt 2147483647) = x := ⟨_, rfl⟩
      refine z_top (v' := x) y_x ?_
      refine z_istore_10 dL_law_119 (Nat.le_of_ble_eq_true rfl) rfl ?_
      refine z_aloadn dL_law_121 rfl ?_
      refine z_iconst dL_law_122 ?_
      refine z_iload dL_law_123 rfl ?_
      refine z_imul dL_law_125 ?_
      refine z_iconst dL_law_126 ?_
      refine z_iadd dL_law_127 ?_
      refine jL_153 (tL_cell (by omega) (by omega)) rfl ⟨(Nat.le_of_ble_eq_true rfl), (Nat.le_of_ble_eq_true rfl)⟩ y_hk (Nat.le_of_ble_eq_true rfl) dL_law_128 ?_
      refine z_ldc (i := 2147483647) wk_L_156 dL_law_131 ?_
      refine z_iand (z_ivE _) dL_law_133 ?_
      obtain ⟨y, y_y⟩ : ∃ y, z_iv (Int32.ofInt (z_cell G (2 * (i : Int) + 1)) &&& Int32.ofInt 2147483647) = y := ⟨_, rfl⟩
      refine z_top (v' := y) y_y ?_
      refine z_istore_11 dL_law_134 (Nat.le_of_ble_eq_true rfl) rfl ?_
      have y_k : ∀ a : Int, 0 ≤ a → a ≤ 24 → ((i : Int) = 0 → a = 0) → z_J G Z z_dL Q 203 [some (.ref (z_scp G).1), some (.ref (z_ad G 0 20)), some (.ref (z_ad G 0 40)), some (.ref (z_ad G 0 41)), some (.ref (z_ad G 0 42)), some (.ref (z_ad G 0 43)), some (.ref (z_ad G 0 44)), some (.ref (z_ad G 0 45)), some (.ref (z_ad G 0 46)), some (z_I (i : Int)), some (z_I x), some (z_I y), none] [z_I a] X k n := by
        intro a a0 a1 a2
        refine z_istore_12 dL_law_203 (Nat.le_of_ble_eq_true rfl) rfl ?_
        refine z_aloadn dL_law_205 rfl ?_
        refine z_iload dL_law_206 rfl ?_
        refine z_iload dL_law_208 rfl ?_
        refine z_iload dL_law_210 rfl ?_
        refine z_aloadn dL_law_212 rfl ?_
        refine z_aloadn dL_law_213 rfl ?_
        refine z_aload dL_law_214 rfl ?_
        refine z_aload dL_law_216 rfl ?_
        refine z_aload dL_law_218 rfl ?_
        refine z_aload dL_law_220 rfl ?_
        refine z_aload dL_law_222 rfl ?_
        refine z_callSP (idx := 157) (tL_act h (by omega) a0 a1) (by exact wmL_157) wt_L_act wc_L_act wn_L n_L_act rfl rfl ⟨(Nat.le_of_ble_eq_true rfl), (Nat.le_of_ble_eq_true rfl)⟩ y_hk (Nat.le_of_ble_eq_true rfl) dL_law_224 (fun M1 hM1 => ?_)
        refine z_if_eq (tgt := 249) (by first | omega | exact hr _ _ (by decide)) dL_law_227 (by decide) (fun h227 => ?_) (fun h227 => ?_)
        · exact absurd h227 (by decide)
        · obtain ⟨⟨⟨g1, y_l⟩, y_m⟩, y_a⟩ := hM1
          obtain ⟨⟨hg1, hn1, -, s10, s11, -, hb1⟩, y_E1, h41, h51⟩ := id y_l
          have y_s : 1 ≤ M1 7 1 := by
            by_cases c : (i : Int) = 0
            · exact y_a (a2 c) (by rw [h0 (by omega)]; decide)
            · have := h1 (by omega); omega
          refine z_aloadn dL_law_230 rfl ?_
          refine z_aloadn dL_law_231 rfl ?_
          refine z_aloadn dL_law_232 rfl ?_
          refine z_aload dL_law_233 rfl ?_
          refine z_aload dL_law_235 rfl ?_
          refine z_aload dL_law_237 rfl ?_
          refine z_aload dL_law_239 rfl ?_
          refine z_aload dL_law_241 rfl ?_
          refine jL_149 (tL_told hg1 hn1 hb1 y_E1 h41 h51) rfl ⟨(Nat.le_of_ble_eq_true rfl), (Nat.le_of_ble_eq_true rfl)⟩ y_hk (Nat.le_of_ble_eq_true rfl) dL_law_243 ?_
          refine z_if_ne (tgt := 251) (by first | omega | exact hr _ _ (by decide)) dL_law_246 (by decide) (fun h246 => ?_) (fun h246 => ?_)
          · refine z_iload dL_law_251 rfl ?_
            refine z_iconst dL_law_253 ?_
            refine z_irem (by omega) (by omega) (by omega) (by omega) dL_law_254 ?_
            refine z_iconst dL_law_255 ?_
            refine z_icmp_ne (tgt := 284) (by first | omega | exact hr _ _ (by decide)) (by first | omega | exact hr _ _ (by decide)) dL_law_256 (by decide) (fun h256 => ?_) (fun h256 => ?_)
            · refine z_iinc_9 dL_law_284 (Nat.le_of_ble_eq_true rfl) rfl ?_
              refine z_goto (tgt := 101) dL_law_287 (by decide) ?_
              refine z_fgt 10 ?_
              refine z_fgt 11 ?_
              refine z_fgt 12 ?_
              first
                | exact y_ih _ _ _ _ y_l (fun h => absurd h (by omega)) (fun _ => y_s) (by omega) (by omega)
                | (obtain ⟨⟨g2, y_l2⟩, y_m2⟩ := hM1
                   exact y_ih _ _ _ _ y_l2 (fun h => absurd h (by omega)) (fun _ => by rw [y_m2]; exact y_s) (by omega) (by omega))
            · refine z_aloadn dL_law_259 rfl ?_
              refine z_iload dL_law_260 rfl ?_
              refine z_iconst dL_law_262 ?_
              refine z_ishr (z_ivE _) dL_law_263 ?_
              refine z_aloadn dL_law_264 rfl ?_
              refine z_aloadn dL_law_265 rfl ?_
              refine z_aload dL_law_266 rfl ?_
              refine z_aload dL_law_268 rfl ?_
              refine z_aload dL_law_270 rfl ?_
              refine z_aload dL_law_272 rfl ?_
              refine z_aload dL_law_274 rfl ?_
              refine z_callSP (idx := 161) (tL_ahead y_l hx) (by exact wmL_161) wt_L_ahead wc_L_ahead wn_L n_L_ahead rfl rfl ⟨(Nat.le_of_ble_eq_true rfl), (Nat.le_of_ble_eq_true rfl)⟩ ⟨by show k + 4 ≤ 600130; omega, by show n + 68 ≤ 7301080; omega⟩ (Nat.le_of_ble_eq_true rfl) dL_law_276 (fun M1 hM1 => ?_)
              refine z_if_ne (tgt := 284) (by first | omega | exact hr _ _ (by decide)) dL_law_279 (by decide) (fun h279 => ?_) (fun h279 => ?_)
              · refine z_iinc_9 dL_law_284 (Nat.le_of_ble_eq_true rfl) rfl ?_
                refine z_goto (tgt := 101) dL_law_287 (by decide) ?_
                refine z_fgt 10 ?_
                refine z_fgt 11 ?_
                refine z_fgt 12 ?_
                first
                  | exact y_ih _ _ _ _ y_l (fun h => absurd h (by omega)) (fun _ => y_s) (by omega) (by omega)
                  | (obtain ⟨⟨g2, y_l2⟩, y_m2⟩ := hM1
                     exact y_ih _ _ _ _ y_l2 (fun h => absurd h (by omega)) (fun _ => by rw [y_m2]; exact y_s) (by omega) (by omega))
              · exact absurd h279 (by decide)
          · exact absurd h246 (by decide)
      refine z_iload dL_law_136 rfl ?_
      refine z_iconst dL_law_138 ?_
      refine z_icmp_ge (tgt := 146) (by first | omega | exact hr _ _ (by decide)) (by first | omega | exact hr _ _ (by decide)) dL_law_139 (by decide) (fun h139 => ?_) (fun h139 => ?_)
      · refine z_iload dL_law_146 rfl ?_
        refine z_iconst dL_law_148 ?_
        refine z_icmp_ne (tgt := 157) (by first | omega | exact hr _ _ (by decide)) (by first | omega | exact hr _ _ (by decide)) dL_law_149 (by decide) (fun h149 => ?_) (fun h149 => ?_)
        · refine z_iload dL_law_157 rfl ?_
          refine z_bipush dL_law_159 (by decide) ?_
          refine z_icmp_ge (tgt := 169) (by first | omega | exact hr _ _ (by decide)) (by first | omega | exact hr _ _ (by decide)) dL_law_161 (by decide) (fun h161 => ?_) (fun h161 => ?_)
          · refine z_iload dL_law_169 rfl ?_
            refine z_bipush dL_law_171 (by decide) ?_
            refine z_icmp_ne (tgt := 181) (by first | omega | exact hr _ _ (by decide)) (by first | omega | exact hr _ _ (by decide)) dL_law_173 (by decide) (fun h173 => ?_) (fun h173 => ?_)
            · refine z_iload dL_law_181 rfl ?_
              refine z_bipush dL_law_183 (by decide) ?_
              refine z_icmp_ne (tgt := 193) (by first | omega | exact hr _ _ (by decide)) (by first | omega | exact hr _ _ (by decide)) dL_law_185 (by decide) (fun h185 => ?_) (fun h185 => ?_)
              · refine z_iload dL_law_193 rfl ?_
                refine z_bipush dL_law_195 (by decide) ?_
                refine z_ishr (z_ivE _) dL_law_197 ?_
                refine z_bipush dL_law_198 (by decide) ?_
                refine jL_65 (tL_at (by decide) (by decide)) rfl ⟨(Nat.le_of_ble_eq_true rfl), (Nat.le_of_ble_eq_true rfl)⟩ y_hk (Nat.le_of_ble_eq_true rfl) dL_law_200 ?_
                first
                  | exact y_k _ (by omega) (by omega) (by omega)
                  | exact y_k _ (z_atv_rg (by decide)).1 (Int.lt_add_one_iff.mp (z_atv_rg (by decide)).2) (by omega)
              · refine z_bipush dL_law_188 (by decide) ?_
                refine z_goto (tgt := 203) dL_law_190 (by decide) ?_
                first
                  | exact y_k _ (by omega) (by omega) (by omega)
                  | exact y_k _ (z_atv_rg (by decide)).1 (Int.lt_add_one_iff.mp (z_atv_rg (by decide)).2) (by omega)
            · refine z_bipush dL_law_176 (by decide) ?_
              refine z_goto (tgt := 203) dL_law_178 (by decide) ?_
              first
                | exact y_k _ (by omega) (by omega) (by omega)
                | exact y_k _ (z_atv_rg (by decide)).1 (Int.lt_add_one_iff.mp (z_atv_rg (by decide)).2) (by omega)
          · refine z_bipush dL_law_164 (by decide) ?_
            refine z_goto (tgt := 203) dL_law_166 (by decide) ?_
            first
              | exact y_k _ (by omega) (by omega) (by omega)
              | exact y_k _ (z_atv_rg (by decide)).1 (Int.lt_add_one_iff.mp (z_atv_rg (by decide)).2) (by omega)
        · refine z_bipush dL_law_152 (by decide) ?_
          refine z_goto (tgt := 203) dL_law_154 (by decide) ?_
          first
            | exact y_k _ (by omega) (by omega) (by omega)
            | exact y_k _ (z_atv_rg (by decide)).1 (Int.lt_add_one_iff.mp (z_atv_rg (by decide)).2) (by omega)
      · refine z_iconst dL_law_142 ?_
        refine z_goto (tgt := 203) dL_law_143 (by decide) ?_
        first
          | exact y_k _ (by omega) (by omega) (by omega)
          | exact y_k _ (z_atv_rg (by decide)).1 (Int.lt_add_one_iff.mp (z_atv_rg (by decide)).2) (by omega)
theorem z_law_start {G : z_G} {Z : z_Z} {Q : State → Prop} (hx : z_x G = 0) (hE : ∀ (M : z_M) (k n : Nat) (ls : List (Option Value)), k ≤ 600130 → n ≤ 7301080 → z_J G Z z_dL Q 304 ls [z_I 1] M k n) : z_J G Z z_dL Q 48 [some (.ref (z_scp G).1), some (.ref (z_ad G 0 20)), some (.ref (z_ad G 0 40)), some (.ref (z_ad G 0 41)), some (.ref (z_ad G 0 42)), some (.ref (z_ad G 0 43)), some (.ref (z_ad G 0 44)), some (.ref (z_ad G 0 45)), some (.ref (z_ad G 0 46)), none, none, none, none] [] z_M0 148 6739 := by
  have y_hk : 148 ≤ (z_R z_dL).cells ∧ 6739 ≤ (z_R z_dL).slots := ⟨(Nat.le_of_ble_eq_true rfl), (Nat.le_of_ble_eq_true rfl)⟩
  obtain ⟨⟨hg, hn, -, s0, s1, -, hb⟩, y_E, h4, h5⟩ := id z_LR_0
  refine z_aload dL_law_48 rfl ?_
  refine z_iconst dL_law_50 ?_
  refine z_bipush dL_law_51 (by decide) ?_
  refine z_lst (R := 40) (j := 8) al_st (Or.inl (by decide)) (by omega) (by omega) (Nat.le_of_ble_eq_true rfl) (by omega) (by first | omega | exact hr _ _ (by decide)) dL_law_53 ?_
  refine z_rng fun hr => ?_
  refine z_aload dL_law_54 rfl ?_
  refine z_iconst dL_law_56 ?_
  refine z_iconst dL_law_57 ?_
  refine z_lst (R := 40) (j := 9) al_st (Or.inl (by decide)) (by omega) (by omega) (Nat.le_of_ble_eq_true rfl) (by omega) (by first | omega | exact hr _ _ (by decide)) dL_law_58 ?_
  refine z_rng fun hr => ?_
  refine z_aload dL_law_59 rfl ?_
  refine z_iconst dL_law_61 ?_
  refine z_bipush dL_law_62 (by decide) ?_
  refine z_lst (R := 40) (j := 11) al_st (Or.inl (by decide)) (by omega) (by omega) (Nat.le_of_ble_eq_true rfl) (by omega) (by first | omega | exact hr _ _ (by decide)) dL_law_64 ?_
  refine z_rng fun hr => ?_
  refine z_aload dL_law_65 rfl ?_
  refine z_iconst dL_law_67 ?_
  refine z_bipush dL_law_68 (by decide) ?_
  refine z_lst (R := 40) (j := 12) al_st (Or.inl (by decide)) (by omega) (by omega) (Nat.le_of_ble_eq_true rfl) (by omega) (by first | omega | exact hr _ _ (by decide)) dL_law_70 ?_
  refine z_rng fun hr => ?_
  refine z_aload dL_law_71 rfl ?_
  refine z_iconst dL_law_73 ?_
  refine z_bipush dL_law_74 (by decide) ?_
  refine z_lst (R := 40) (j := 13) al_st (Or.inl (by decide)) (by omega) (by omega) (Nat.le_of_ble_eq_true rfl) (by omega) (by first | omega | exact hr _ _ (by decide)) dL_law_76 ?_
  refine z_rng fun hr => ?_
  refine z_mem (M' := z_M1) rfl ?_
  refine z_aloadn dL_law_77 rfl ?_
  refine z_aloadn dL_law_78 rfl ?_
  refine z_aloadn dL_law_79 rfl ?_
  refine z_aload dL_law_80 rfl ?_
  refine z_aload dL_law_82 rfl ?_
  refine z_aload dL_law_84 rfl ?_
  refine z_aload dL_law_86 rfl ?_
  refine z_aload dL_law_88 rfl ?_
  refine jL_149 (tL_told hg hn hb y_E h4 h5) rfl ⟨(Nat.le_of_ble_eq_true rfl), (Nat.le_of_ble_eq_true rfl)⟩ y_hk (Nat.le_of_ble_eq_true rfl) dL_law_90 ?_
  refine z_if_ne (tgt := 98) (by first | omega | exact hr _ _ (by decide)) dL_law_93 (by decide) (fun h93 => ?_) (fun h93 => ?_)
  · refine z_iconst dL_law_98 ?_
    refine z_istore_9 dL_law_99 (Nat.le_of_ble_eq_true rfl) rfl ?_
    exact z_law_turns hx hE z_LR_0 (by rw [z_M1_n (by decide), z_M0_g (by decide)]; rfl)
  · exact absurd h93 (by decide)
