/-! ===== the JDK's: min, max, abs, fill ===== -/
def z_mn (a b : Int) : Int := if b < a then b else a
def z_mx (a b : Int) : Int := if a < b then b else a
section ZJ9
variable {G : z_G} {Z : z_Z} {d : z_Md} {Q : State → Prop} {pc : Nat} {ls : List (Option Value)} {rest : List Value} {M : z_M}
theorem z_mmax {a b : Int} {O : String} {idx : Nat} (ra : z_rg a) (rb : z_rg b) (ho : z_own d = O) (hl : Cond.methodLink O idx yJ9_max_7cf53 ∈ z_W) (hfr : 1 ≤ (z_R d).frames) (hlo : (rest.map fun v => v.category).sum + 13 ≤ (z_R d).locals) (hd : decode (z_cc d) pc = .ok (.invokestatic idx, 3))
    (kk : z_J G Z d Q (pc + 3) ls (z_I (z_mx a b) :: rest) M 0 0) : z_J G Z d Q pc ls (z_I b :: z_I a :: rest) M 0 0 := fun hO H locs la hW hS hL => by
  refine va_mmax hO.1 hO.2.1 (by rw [hL.1]; exact hO.2.2.1) hO.2.2.2.1 (by rw [ho]; exact z_tw hO hl _) (z_tw hO wt_J9_max_7cf53 _) (z_tw hO wn_J9 _) (z_tw hO wc_J9_max_7cf53 _) hfr hlo (Nat.zero_le _) (Nat.zero_le _) hd ?_
  have e : (if Int32.ofInt a < Int32.ofInt b then Int32.ofInt b else Int32.ofInt a) = Int32.ofInt (z_mx a b) := by
    unfold z_mx
    by_cases h : a < b
    · rw [if_pos h, if_pos ((z_lt32 ra rb).mpr h)]
    · rw [if_neg h, if_neg (fun q => h ((z_lt32 ra rb).mp q))]
  rw [e]
  exact kk hO H locs la hW hS hL
theorem z_mmin {a b : Int} {O : String} {idx : Nat} (ra : z_rg a) (rb : z_rg b) (ho : z_own d = O) (hl : Cond.methodLink O idx yJ9_min_7cf53 ∈ z_W) (hfr : 1 ≤ (z_R d).frames) (hlo : (rest.map fun v => v.category).sum + 13 ≤ (z_R d).locals) (hd : decode (z_cc d) pc = .ok (.invokestatic idx, 3))
    (kk : z_J G Z d Q (pc + 3) ls (z_I (z_mn a b) :: rest) M 0 0) : z_J G Z d Q pc ls (z_I b :: z_I a :: rest) M 0 0 := fun hO H locs la hW hS hL => by
  refine va_mmin hO.1 hO.2.1 (by rw [hL.1]; exact hO.2.2.1) hO.2.2.2.1 (by rw [ho]; exact z_tw hO hl _) (z_tw hO wt_J9_min_7cf53 _) (z_tw hO wn_J9 _) (z_tw hO wc_J9_min_7cf53 _) hfr hlo (Nat.zero_le _) (Nat.zero_le _) hd ?_
  have e : (if Int32.ofInt b < Int32.ofInt a then Int32.ofInt b else Int32.ofInt a) = Int32.ofInt (z_mn a b) := by
    unfold z_mn
    by_cases h : b < a
    · rw [if_pos h, if_pos ((z_lt32 rb ra).mpr h)]
    · rw [if_neg h, if_neg (fun q => h ((z_lt32 rb ra).mp q))]
  rw [e]
  exact kk hO H locs la hW hS hL
theorem z_mabs {a : Int} {O : String} {idx : Nat} (ra : z_rg a) (ho : z_own d = O) (hl : Cond.methodLink O idx yJ9_abs_0f7a4 ∈ z_W) (hfr : 1 ≤ (z_R d).frames) (hlo : (rest.map fun v => v.category).sum + 13 ≤ (z_R d).locals) (hd : decode (z_cc d) pc = .ok (.invokestatic idx, 3))
    (kk : z_J G Z d Q (pc + 3) ls (z_I (z_ab a) :: rest) M 0 0) : z_J G Z d Q pc ls (z_I a :: rest) M 0 0 := fun hO H locs la hW hS hL => by
  refine va_mabs hO.1 hO.2.1 (by rw [hL.1]; exact hO.2.2.1) hO.2.2.2.1 (by rw [ho]; exact z_tw hO hl _) (z_tw hO wt_J9_abs_0f7a4 _) (z_tw hO wn_J9 _) (z_tw hO wc_J9_abs_0f7a4 _) hfr hlo (Nat.zero_le _) (Nat.zero_le _) hd ?_
  have e : (if 0 ≤ Int32.ofInt a then Int32.ofInt a else 0 - Int32.ofInt a) = Int32.ofInt (z_ab a) := by
    unfold z_ab
    have h0 : (0 : Int32) = Int32.ofInt 0 := rfl
    by_cases h : a < 0
    · rw [if_pos h, if_neg (fun q => by rw [h0] at q; have := (z_le32 ⟨by omega, by omega⟩ ra).mp q; omega), h0, ← Int32.ofInt_sub, Int.zero_sub]
    · rw [if_neg h, if_pos (by rw [h0]; exact (z_le32 ⟨by omega, by omega⟩ ra).mpr (by omega))]
  rw [e]
  exact kk hO H locs la hW hS hL
end ZJ9
def z_fl (ix : Int → Int) (r : Int → Int) (v : Int) : Nat → Int → Int
  | 0 => r
  | n + 1 => z_uf (z_fl ix r v n) (ix n) v
theorem z_fl_cp (r : Int → Int) (v o : Int) (n : Nat) : z_fl (fun p => o + p) r v n = z_cp r (fun _ => v) o 0 n := by
  induction n with
  | zero => rw [show ((0 : Nat) : Int) = 0 from rfl, z_cp_0]; rfl
  | succ n ih => exact (congrArg (fun q => z_uf q (o + n) v) ih).trans (z_cp_s _ _ _ _ n rfl rfl)
theorem z_fl_cp0 (r : Int → Int) (v : Int) (n : Nat) : z_fl (fun p => p) r v n = z_cp r (fun _ => v) 0 0 n := by
  induction n with
  | zero => rw [show ((0 : Nat) : Int) = 0 from rfl, z_cp_0]; rfl
  | succ n ih => exact (congrArg (fun q => z_uf q n v) ih).trans (z_cp_s _ _ _ _ n (Int.zero_add _).symm rfl)
/-! ===== a state's copy ===== -/
def z_kP (s R : Int → Int) : Int → Int := z_kc 7 s (z_kc 6 s (z_kc 5 s (z_kc 4 s (z_kc 3 s (z_kc 2 s (z_uf R 0 (s 0)))))))
def z_kQ (s R : Int → Int) : Int → Int := z_kc 16 s (z_kc 15 s (z_kc 14 s (z_kc 13 s (z_kc 12 s (z_kc 11 s (z_kc 10 s (z_kc 9 s (z_uf R 1 (s 1)))))))))
def z_kS (s R : Int → Int) : Int → Int := z_uf (z_uf (z_uf (z_uf (z_uf (z_kc 17 s (z_kQ s (z_kP s R))) 2 (s 2)) 3 (s 3)) 4 (s 4)) 7 (s 7)) 6 (s 6)
theorem z_kc_i2 (s r : Int → Int) {i : Int} (h : 14 ≤ i ∧ i < 86 ∧ (i - 14) % 6 = 0) : z_kc 2 s r i = s i := by
  unfold z_kc z_isb
  exact if_pos (decide_eq_true (by omega))
theorem z_kc_o2 (s r : Int → Int) {i : Int} (h : ¬ (14 ≤ i ∧ i < 86 ∧ (i - 14) % 6 = 0)) : z_kc 2 s r i = r i := by
  unfold z_kc z_isb
  exact if_neg (fun q => by have := of_decide_eq_true q; omega)
theorem z_kc_i3 (s r : Int → Int) {i : Int} (h : 14 ≤ i ∧ i < 86 ∧ (i - 14) % 6 = 1) : z_kc 3 s r i = s i := by
  unfold z_kc z_isb
  exact if_pos (decide_eq_true (by omega))
theorem z_kc_o3 (s r : Int → Int) {i : Int} (h : ¬ (14 ≤ i ∧ i < 86 ∧ (i - 14) % 6 = 1)) : z_kc 3 s r i = r i := by
  unfold z_kc z_isb
  exact if_neg (fun q => by have := of_decide_eq_true q; omega)
theorem z_kc_i4 (s r : Int → Int) {i : Int} (h : 14 ≤ i ∧ i < 86 ∧ (i - 14) % 6 = 2) : z_kc 4 s r i = s i := by
  unfold z_kc z_isb
  exact if_pos (decide_eq_true (by omega))
theorem z_kc_o4 (s r : Int → Int) {i : Int} (h : ¬ (14 ≤ i ∧ i < 86 ∧ (i - 14) % 6 = 2)) : z_kc 4 s r i = r i := by
  unfold z_kc z_isb
  exact if_neg (fun q => by have := of_decide_eq_true q; omega)
theorem z_kc_i5 (s r : Int → Int) {i : Int} (h : 14 ≤ i ∧ i < 86 ∧ (i - 14) % 6 = 3) : z_kc 5 s r i = s i := by
  unfold z_kc z_isb
  exact if_pos (decide_eq_true (by omega))
theorem z_kc_o5 (s r : Int → Int) {i : Int} (h : ¬ (14 ≤ i ∧ i < 86 ∧ (i - 14) % 6 = 3)) : z_kc 5 s r i = r i := by
  unfold z_kc z_isb
  exact if_neg (fun q => by have := of_decide_eq_true q; omega)
theorem z_kc_i6 (s r : Int → Int) {i : Int} (h : 14 ≤ i ∧ i < 86 ∧ (i - 14) % 6 = 4) : z_kc 6 s r i = s i := by
  unfold z_kc z_isb
  exact if_pos (decide_eq_true (by omega))
theorem z_kc_o6 (s r : Int → Int) {i : Int} (h : ¬ (14 ≤ i ∧ i < 86 ∧ (i - 14) % 6 = 4)) : z_kc 6 s r i = r i := by
  unfold z_kc z_isb
  exact if_neg (fun q => by have := of_decide_eq_true q; omega)
theorem z_kc_i7 (s r : Int → Int) {i : Int} (h : 14 ≤ i ∧ i < 86 ∧ (i - 14) % 6 = 5) : z_kc 7 s r i = s i := by
  unfold z_kc z_isb
  exact if_pos (decide_eq_true (by omega))
theorem z_kc_o7 (s r : Int → Int) {i : Int} (h : ¬ (14 ≤ i ∧ i < 86 ∧ (i - 14) % 6 = 5)) : z_kc 7 s r i = r i := by
  unfold z_kc z_isb
  exact if_neg (fun q => by have := of_decide_eq_true q; omega)
theorem z_kc_i9 (s r : Int → Int) {i : Int} (h : 86 ≤ i ∧ i < 186 ∧ (i - 86) % 5 = 0) : z_kc 9 s r i = s i := by
  unfold z_kc z_isb
  exact if_pos (decide_eq_true (by omega))
theorem z_kc_o9 (s r : Int → Int) {i : Int} (h : ¬ (86 ≤ i ∧ i < 186 ∧ (i - 86) % 5 = 0)) : z_kc 9 s r i = r i := by
  unfold z_kc z_isb
  exact if_neg (fun q => by have := of_decide_eq_true q; omega)
theorem z_kc_i10 (s r : Int → Int) {i : Int} (h : 86 ≤ i ∧ i < 186 ∧ (i - 86) % 5 = 1) : z_kc 10 s r i = s i := by
  unfold z_kc z_isb
  exact if_pos (decide_eq_true (by omega))
theorem z_kc_o10 (s r : Int → Int) {i : Int} (h : ¬ (86 ≤ i ∧ i < 186 ∧ (i - 86) % 5 = 1)) : z_kc 10 s r i = r i := by
  unfold z_kc z_isb
  exact if_neg (fun q => by have := of_decide_eq_true q; omega)
theorem z_kc_i11 (s r : Int → Int) {i : Int} (h : 86 ≤ i ∧ i < 186 ∧ (i - 86) % 5 = 2) : z_kc 11 s r i = s i := by
  unfold z_kc z_isb
  exact if_pos (decide_eq_true (by omega))
theorem z_kc_o11 (s r : Int → Int) {i : Int} (h : ¬ (86 ≤ i ∧ i < 186 ∧ (i - 86) % 5 = 2)) : z_kc 11 s r i = r i := by
  unfold z_kc z_isb
  exact if_neg (fun q => by have := of_decide_eq_true q; omega)
theorem z_kc_i12 (s r : Int → Int) {i : Int} (h : 86 ≤ i ∧ i < 186 ∧ (i - 86) % 5 = 3) : z_kc 12 s r i = s i := by
  unfold z_kc z_isb
  exact if_pos (decide_eq_true (by omega))
theorem z_kc_o12 (s r : Int → Int) {i : Int} (h : ¬ (86 ≤ i ∧ i < 186 ∧ (i - 86) % 5 = 3)) : z_kc 12 s r i = r i := by
  unfold z_kc z_isb
  exact if_neg (fun q => by have := of_decide_eq_true q; omega)
theorem z_kc_i13 (s r : Int → Int) {i : Int} (h : 86 ≤ i ∧ i < 186 ∧ (i - 86) % 5 = 4) : z_kc 13 s r i = s i := by
  unfold z_kc z_isb
  exact if_pos (decide_eq_true (by omega))
theorem z_kc_o13 (s r : Int → Int) {i : Int} (h : ¬ (86 ≤ i ∧ i < 186 ∧ (i - 86) % 5 = 4)) : z_kc 13 s r i = r i := by
  unfold z_kc z_isb
  exact if_neg (fun q => by have := of_decide_eq_true q; omega)
theorem z_kc_i14 (s r : Int → Int) {i : Int} (h : 426 ≤ i ∧ i < 666) : z_kc 14 s r i = s i := by
  unfold z_kc z_isb
  exact if_pos (decide_eq_true (by omega))
theorem z_kc_o14 (s r : Int → Int) {i : Int} (h : ¬ (426 ≤ i ∧ i < 666)) : z_kc 14 s r i = r i := by
  unfold z_kc z_isb
  exact if_neg (fun q => by have := of_decide_eq_true q; omega)
theorem z_kc_i15 (s r : Int → Int) {i : Int} (h : 186 ≤ i ∧ i < 426) : z_kc 15 s r i = s i := by
  unfold z_kc z_isb
  exact if_pos (decide_eq_true (by omega))
theorem z_kc_o15 (s r : Int → Int) {i : Int} (h : ¬ (186 ≤ i ∧ i < 426)) : z_kc 15 s r i = r i := by
  unfold z_kc z_isb
  exact if_neg (fun q => by have := of_decide_eq_true q; omega)
theorem z_kc_i16 (s r : Int → Int) {i : Int} (h : 666 ≤ i ∧ i < 906) : z_kc 16 s r i = s i := by
  unfold z_kc z_isb
  exact if_pos (decide_eq_true (by omega))
theorem z_kc_o16 (s r : Int → Int) {i : Int} (h : ¬ (666 ≤ i ∧ i < 906)) : z_kc 16 s r i = r i := by
  unfold z_kc z_isb
  exact if_neg (fun q => by have := of_decide_eq_true q; omega)
theorem z_kc_i17 (s r : Int → Int) {i : Int} (h : 8 ≤ i ∧ i < 14) : z_kc 17 s r i = s i := by
  unfold z_kc z_isb
  exact if_pos (decide_eq_true (by omega))
theorem z_kc_o17 (s r : Int → Int) {i : Int} (h : ¬ (8 ≤ i ∧ i < 14)) : z_kc 17 s r i = r i := by
  unfold z_kc z_isb
  exact if_neg (fun q => by have := of_decide_eq_true q; omega)
theorem z_kS_cp (s R : Int → Int) : z_uf (z_kS s R) 5 (s 5) = z_cp R s 0 0 906 := by
  funext j
  unfold z_cp
  by_cases h : 0 ≤ j ∧ j < 0 + 906
  · rw [if_pos h, show j - 0 + 0 = j by omega]
    unfold z_kS z_kQ z_kP
    by_cases h8 : j < 8
    · rcases (by omega : j = 0 ∨ j = 1 ∨ j = 2 ∨ j = 3 ∨ j = 4 ∨ j = 5 ∨ j = 6 ∨ j = 7) with e | e | e | e | e | e | e | e
      · subst e; rw [z_uf_ne _ _ (by omega), z_uf_ne _ _ (by omega), z_uf_ne _ _ (by omega), z_uf_ne _ _ (by omega), z_uf_ne _ _ (by omega), z_uf_ne _ _ (by omega), z_kc_o17 _ _ (by omega), z_kc_o16 _ _ (by omega), z_kc_o15 _ _ (by omega), z_kc_o14 _ _ (by omega), z_kc_o13 _ _ (by omega), z_kc_o12 _ _ (by omega), z_kc_o11 _ _ (by omega), z_kc_o10 _ _ (by omega), z_kc_o9 _ _ (by omega), z_uf_ne _ _ (by omega), z_kc_o7 _ _ (by omega), z_kc_o6 _ _ (by omega), z_kc_o5 _ _ (by omega), z_kc_o4 _ _ (by omega), z_kc_o3 _ _ (by omega), z_kc_o2 _ _ (by omega), z_uf_self]
      · subst e; rw [z_uf_ne _ _ (by omega), z_uf_ne _ _ (by omega), z_uf_ne _ _ (by omega), z_uf_ne _ _ (by omega), z_uf_ne _ _ (by omega), z_uf_ne _ _ (by omega), z_kc_o17 _ _ (by omega), z_kc_o16 _ _ (by omega), z_kc_o15 _ _ (by omega), z_kc_o14 _ _ (by omega), z_kc_o13 _ _ (by omega), z_kc_o12 _ _ (by omega), z_kc_o11 _ _ (by omega), z_kc_o10 _ _ (by omega), z_kc_o9 _ _ (by omega), z_uf_self]
      · subst e; rw [z_uf_ne _ _ (by omega), z_uf_ne _ _ (by omega), z_uf_ne _ _ (by omega), z_uf_ne _ _ (by omega), z_uf_ne _ _ (by omega), z_uf_self]
      · subst e; rw [z_uf_ne _ _ (by omega), z_uf_ne _ _ (by omega), z_uf_ne _ _ (by omega), z_uf_ne _ _ (by omega), z_uf_self]
      · subst e; rw [z_uf_ne _ _ (by omega), z_uf_ne _ _ (by omega), z_uf_ne _ _ (by omega), z_uf_self]
      · subst e; rw [z_uf_self]
      · subst e; rw [z_uf_ne _ _ (by omega), z_uf_self]
      · subst e; rw [z_uf_ne _ _ (by omega), z_uf_ne _ _ (by omega), z_uf_self]
    · by_cases h14 : j < 14
      · rw [z_uf_ne _ _ (by omega), z_uf_ne _ _ (by omega), z_uf_ne _ _ (by omega), z_uf_ne _ _ (by omega), z_uf_ne _ _ (by omega), z_uf_ne _ _ (by omega), z_kc_i17 _ _ (by omega)]
      · by_cases h86 : j < 86
        · rcases (by omega : (j - 14) % 6 = 0 ∨ (j - 14) % 6 = 1 ∨ (j - 14) % 6 = 2 ∨ (j - 14) % 6 = 3 ∨ (j - 14) % 6 = 4 ∨ (j - 14) % 6 = 5) with e | e | e | e | e | e
          · rw [z_uf_ne _ _ (by omega), z_uf_ne _ _ (by omega), z_uf_ne _ _ (by omega), z_uf_ne _ _ (by omega), z_uf_ne _ _ (by omega), z_uf_ne _ _ (by omega), z_kc_o17 _ _ (by omega), z_kc_o16 _ _ (by omega), z_kc_o15 _ _ (by omega), z_kc_o14 _ _ (by omega), z_kc_o13 _ _ (by omega), z_kc_o12 _ _ (by omega), z_kc_o11 _ _ (by omega), z_kc_o10 _ _ (by omega), z_kc_o9 _ _ (by omega), z_uf_ne _ _ (by omega), z_kc_o7 _ _ (by omega), z_kc_o6 _ _ (by omega), z_kc_o5 _ _ (by omega), z_kc_o4 _ _ (by omega), z_kc_o3 _ _ (by omega), z_kc_i2 _ _ (by omega)]
          · rw [z_uf_ne _ _ (by omega), z_uf_ne _ _ (by omega), z_uf_ne _ _ (by omega), z_uf_ne _ _ (by omega), z_uf_ne _ _ (by omega), z_uf_ne _ _ (by omega), z_kc_o17 _ _ (by omega), z_kc_o16 _ _ (by omega), z_kc_o15 _ _ (by omega), z_kc_o14 _ _ (by omega), z_kc_o13 _ _ (by omega), z_kc_o12 _ _ (by omega), z_kc_o11 _ _ (by omega), z_kc_o10 _ _ (by omega), z_kc_o9 _ _ (by omega), z_uf_ne _ _ (by omega), z_kc_o7 _ _ (by omega), z_kc_o6 _ _ (by omega), z_kc_o5 _ _ (by omega), z_kc_o4 _ _ (by omega), z_kc_i3 _ _ (by omega)]
          · rw [z_uf_ne _ _ (by omega), z_uf_ne _ _ (by omega), z_uf_ne _ _ (by omega), z_uf_ne _ _ (by omega), z_uf_ne _ _ (by omega), z_uf_ne _ _ (by omega), z_kc_o17 _ _ (by omega), z_kc_o16 _ _ (by omega), z_kc_o15 _ _ (by omega), z_kc_o14 _ _ (by omega), z_kc_o13 _ _ (by omega), z_kc_o12 _ _ (by omega), z_kc_o11 _ _ (by omega), z_kc_o10 _ _ (by omega), z_kc_o9 _ _ (by omega), z_uf_ne _ _ (by omega), z_kc_o7 _ _ (by omega), z_kc_o6 _ _ (by omega), z_kc_o5 _ _ (by omega), z_kc_i4 _ _ (by omega)]
          · rw [z_uf_ne _ _ (by omega), z_uf_ne _ _ (by omega), z_uf_ne _ _ (by omega), z_uf_ne _ _ (by omega), z_uf_ne _ _ (by omega), z_uf_ne _ _ (by omega), z_kc_o17 _ _ (by omega), z_kc_o16 _ _ (by omega), z_kc_o15 _ _ (by omega), z_kc_o14 _ _ (by omega), z_kc_o13 _ _ (by omega), z_kc_o12 _ _ (by omega), z_kc_o11 _ _ (by omega), z_kc_o10 _ _ (by omega), z_kc_o9 _ _ (by omega), z_uf_ne _ _ (by omega), z_kc_o7 _ _ (by omega), z_kc_o6 _ _ (by omega), z_kc_i5 _ _ (by omega)]
          · rw [z_uf_ne _ _ (by omega), z_uf_ne _ _ (by omega), z_uf_ne _ _ (by omega), z_uf_ne _ _ (by omega), z_uf_ne _ _ (by omega), z_uf_ne _ _ (by omega), z_kc_o17 _ _ (by omega), z_kc_o16 _ _ (by omega), z_kc_o15 _ _ (by omega), z_kc_o14 _ _ (by omega), z_kc_o13 _ _ (by omega), z_kc_o12 _ _ (by omega), z_kc_o11 _ _ (by omega), z_kc_o10 _ _ (by omega), z_kc_o9 _ _ (by omega), z_uf_ne _ _ (by omega), z_kc_o7 _ _ (by omega), z_kc_i6 _ _ (by omega)]
          · rw [z_uf_ne _ _ (by omega), z_uf_ne _ _ (by omega), z_uf_ne _ _ (by omega), z_uf_ne _ _ (by omega), z_uf_ne _ _ (by omega), z_uf_ne _ _ (by omega), z_kc_o17 _ _ (by omega), z_kc_o16 _ _ (by omega), z_kc_o15 _ _ (by omega), z_kc_o14 _ _ (by omega), z_kc_o13 _ _ (by omega), z_kc_o12 _ _ (by omega), z_kc_o11 _ _ (by omega), z_kc_o10 _ _ (by omega), z_kc_o9 _ _ (by omega), z_uf_ne _ _ (by omega), z_kc_i7 _ _ (by omega)]
        · by_cases h186 : j < 186
          · rcases (by omega : (j - 86) % 5 = 0 ∨ (j - 86) % 5 = 1 ∨ (j - 86) % 5 = 2 ∨ (j - 86) % 5 = 3 ∨ (j - 86) % 5 = 4) with e | e | e | e | e
            · rw [z_uf_ne _ _ (by omega), z_uf_ne _ _ (by omega), z_uf_ne _ _ (by omega), z_uf_ne _ _ (by omega), z_uf_ne _ _ (by omega), z_uf_ne _ _ (by omega), z_kc_o17 _ _ (by omega), z_kc_o16 _ _ (by omega), z_kc_o15 _ _ (by omega), z_kc_o14 _ _ (by omega), z_kc_o13 _ _ (by omega), z_kc_o12 _ _ (by omega), z_kc_o11 _ _ (by omega), z_kc_o10 _ _ (by omega), z_kc_i9 _ _ (by omega)]
            · rw [z_uf_ne _ _ (by omega), z_uf_ne _ _ (by omega), z_uf_ne _ _ (by omega), z_uf_ne _ _ (by omega), z_uf_ne _ _ (by omega), z_uf_ne _ _ (by omega), z_kc_o17 _ _ (by omega), z_kc_o16 _ _ (by omega), z_kc_o15 _ _ (by omega), z_kc_o14 _ _ (by omega), z_kc_o13 _ _ (by omega), z_kc_o12 _ _ (by omega), z_kc_o11 _ _ (by omega), z_kc_i10 _ _ (by omega)]
            · rw [z_uf_ne _ _ (by omega), z_uf_ne _ _ (by omega), z_uf_ne _ _ (by omega), z_uf_ne _ _ (by omega), z_uf_ne _ _ (by omega), z_uf_ne _ _ (by omega), z_kc_o17 _ _ (by omega), z_kc_o16 _ _ (by omega), z_kc_o15 _ _ (by omega), z_kc_o14 _ _ (by omega), z_kc_o13 _ _ (by omega), z_kc_o12 _ _ (by omega), z_kc_i11 _ _ (by omega)]
            · rw [z_uf_ne _ _ (by omega), z_uf_ne _ _ (by omega), z_uf_ne _ _ (by omega), z_uf_ne _ _ (by omega), z_uf_ne _ _ (by omega), z_uf_ne _ _ (by omega), z_kc_o17 _ _ (by omega), z_kc_o16 _ _ (by omega), z_kc_o15 _ _ (by omega), z_kc_o14 _ _ (by omega), z_kc_o13 _ _ (by omega), z_kc_i12 _ _ (by omega)]
            · rw [z_uf_ne _ _ (by omega), z_uf_ne _ _ (by omega), z_uf_ne _ _ (by omega), z_uf_ne _ _ (by omega), z_uf_ne _ _ (by omega), z_uf_ne _ _ (by omega), z_kc_o17 _ _ (by omega), z_kc_o16 _ _ (by omega), z_kc_o15 _ _ (by omega), z_kc_o14 _ _ (by omega), z_kc_i13 _ _ (by omega)]
          · by_cases h426 : j < 426
            · rw [z_uf_ne _ _ (by omega), z_uf_ne _ _ (by omega), z_uf_ne _ _ (by omega), z_uf_ne _ _ (by omega), z_uf_ne _ _ (by omega), z_uf_ne _ _ (by omega), z_kc_o17 _ _ (by omega), z_kc_o16 _ _ (by omega), z_kc_i15 _ _ (by omega)]
            · by_cases h666 : j < 666
              · rw [z_uf_ne _ _ (by omega), z_uf_ne _ _ (by omega), z_uf_ne _ _ (by omega), z_uf_ne _ _ (by omega), z_uf_ne _ _ (by omega), z_uf_ne _ _ (by omega), z_kc_o17 _ _ (by omega), z_kc_o16 _ _ (by omega), z_kc_o15 _ _ (by omega), z_kc_i14 _ _ (by omega)]
              · rw [z_uf_ne _ _ (by omega), z_uf_ne _ _ (by omega), z_uf_ne _ _ (by omega), z_uf_ne _ _ (by omega), z_uf_ne _ _ (by omega), z_uf_ne _ _ (by omega), z_kc_o17 _ _ (by omega), z_kc_i16 _ _ (by omega)]
  · rw [if_neg h]
    unfold z_kS z_kQ z_kP
    rw [z_uf_ne _ _ (by omega), z_uf_ne _ _ (by omega), z_uf_ne _ _ (by omega), z_uf_ne _ _ (by omega), z_uf_ne _ _ (by omega), z_uf_ne _ _ (by omega), z_kc_o17 _ _ (by omega), z_kc_o16 _ _ (by omega), z_kc_o15 _ _ (by omega), z_kc_o14 _ _ (by omega), z_kc_o13 _ _ (by omega), z_kc_o12 _ _ (by omega), z_kc_o11 _ _ (by omega), z_kc_o10 _ _ (by omega), z_kc_o9 _ _ (by omega), z_uf_ne _ _ (by omega), z_kc_o7 _ _ (by omega), z_kc_o6 _ _ (by omega), z_kc_o5 _ _ (by omega), z_kc_o4 _ _ (by omega), z_kc_o3 _ _ (by omega), z_kc_o2 _ _ (by omega), z_uf_ne _ _ (by omega)]
theorem tJ7_fill_53178 {G : z_G} {M : z_M} {g c a n : Nat} {ix : Int → Int} {v : Int} (hal : z_al g c = some (0, a, n, ix)) (hdm : z_dm G g c) (hm : n ≤ 6000) (rv : z_rg v) : KJ7_fill_53178 G [.ref (z_ad G g c), z_I v] M (.inl none) (z_sR M a (z_fl ix (M a) v n)) := by
  refine z_con (ls := [some (.ref (z_ad G g c)), some (z_I v), none, none]) (by decide +kernel) (Nat.le_of_ble_eq_true rfl) rfl ?_
  intro Z htb
  refine z_rng fun hr => ?_
  refine z_iconst dJ7_fill_53178_0 ?_
  refine z_istoren_2 dJ7_fill_53178_1 (Nat.le_of_ble_eq_true rfl) rfl ?_
  refine z_aloadn dJ7_fill_53178_2 rfl ?_
  refine z_alen hal hdm dJ7_fill_53178_3 ?_
  refine z_istoren_3 dJ7_fill_53178_4 (Nat.le_of_ble_eq_true rfl) rfl ?_
  refine z_mem (M' := z_sR M a (z_fl ix (M a) v 0)) (z_sR_id _ _).symm ?_
  refine z_upn (P := fun i : Nat => z_J G Z _ _ 5 [some (.ref (z_ad G g c)), some (z_I v), some (z_I i), some (z_I n)] [] (z_sR M a (z_fl ix (M a) v i)) 0 0) n ?_ ?_
  · refine z_rng fun hr => ?_
    refine z_iloadn dJ7_fill_53178_5 rfl ?_
    refine z_iloadn dJ7_fill_53178_6 rfl ?_
    refine z_icmp_ge (tgt := 20) (by first | (exact hr _ _ (by decide)) | omega) (by first | (exact hr _ _ (by decide)) | omega) dJ7_fill_53178_7 (by decide) (fun h7 => ?_) (fun h7 => ?_)
    · exact z_vret dJ7_fill_53178_20 rfl
    · exfalso; omega
  · intro i hi y_ih
    refine z_rng fun hr => ?_
    refine z_iloadn dJ7_fill_53178_5 rfl ?_
    refine z_iloadn dJ7_fill_53178_6 rfl ?_
    refine z_icmp_ge (tgt := 20) (by first | (exact hr _ _ (by decide)) | omega) (by first | (exact hr _ _ (by decide)) | omega) dJ7_fill_53178_7 (by decide) (fun h7 => ?_) (fun h7 => ?_)
    · exfalso; omega
    · refine z_aloadn dJ7_fill_53178_10 rfl ?_
      refine z_iloadn dJ7_fill_53178_11 rfl ?_
      refine z_iloadn dJ7_fill_53178_12 rfl ?_
      refine z_iast hal hdm (by omega) (by omega) hm (by first | (exact hr _ _ (by decide)) | omega) dJ7_fill_53178_13 ?_
      refine z_rng fun hr => ?_
      refine z_iinc_2 dJ7_fill_53178_14 (Nat.le_of_ble_eq_true rfl) rfl ?_
      refine z_goto (tgt := 5) dJ7_fill_53178_17 (by decide) ?_
      refine z_mem ?_ y_ih
      rw [z_sM_sR]
      rfl
theorem tX6_copyRow {G : z_G} {M : z_M} {g g' c n : Nat} {ix : Int → Int} (hal : z_al g c = some (0, g, n, ix)) (hal' : z_al g' c = some (0, g', n, ix)) (hc : c < 18) (hg : g < 7) (hg' : g' < 7) (hne : g ≠ g') (hm : n ≤ 6000) : KX6_copyRow G [.ref (z_ad G g c), .ref (z_ad G g' c)] M (.inl none) (z_sR M g' (z_kc c (M g) (M g'))) := by
  refine z_con (ls := [some (.ref (z_ad G g c)), some (.ref (z_ad G g' c))]) (by decide +kernel) (Nat.le_of_ble_eq_true rfl) rfl ?_
  intro Z htb
  refine z_aloadn dX6_copyRow_0 rfl ?_
  refine z_iconst dX6_copyRow_1 ?_
  refine z_aloadn dX6_copyRow_2 rfl ?_
  refine z_iconst dX6_copyRow_3 ?_
  refine z_aloadn dX6_copyRow_4 rfl ?_
  refine z_alen hal (Or.inl (Or.inl ⟨hc, hg⟩)) dX6_copyRow_5 ?_
  refine z_aloadn dX6_copyRow_6 rfl ?_
  refine z_alen hal' (Or.inl (Or.inl ⟨hc, hg'⟩)) dX6_copyRow_7 ?_
  refine z_mmin (by omega) (by omega) rfl wmX6_348 (Nat.le_of_ble_eq_true rfl) (Nat.le_of_ble_eq_true rfl) dX6_copyRow_8 ?_
  refine z_top (v' := (n : Int)) (by unfold z_mn; split <;> rfl) ?_
  refine z_acopy hal hal' hc hg hg' hne hm rfl (Nat.le_of_ble_eq_true rfl) (Nat.le_of_ble_eq_true rfl) dX6_copyRow_11 ?_
  exact z_vret dX6_copyRow_14 rfl
theorem tX6_copyRowR {G : z_G} {M : z_M} {R : Int → Int} {g g' c n : Nat} {ix : Int → Int} (hal : z_al g c = some (0, g, n, ix)) (hal' : z_al g' c = some (0, g', n, ix)) (hc : c < 18) (hg : g < 7) (hg' : g' < 7) (hne : g ≠ g') (hm : n ≤ 6000) : KX6_copyRow G [.ref (z_ad G g c), .ref (z_ad G g' c)] (z_sR M g' R) (.inl none) (z_sR M g' (z_kc c (M g) R)) := by
  have h := tX6_copyRow (G := G) (M := z_sR M g' R) hal hal' hc hg hg' hne hm
  rwa [z_sR_R, z_sR_self, z_sR_ne _ _ hne] at h
theorem tX3_copyFrom {G : z_G} {M : z_M} {R : Int → Int} {g h : Nat} (hg : g < 7) (hg2 : h < 7) (hne : h ≠ g) : KX3_copyFrom G [.ref (z_ad G g 1), .ref (z_ad G h 1)] (z_sR M g R) (.inl none) (z_sR M g (z_kP (M h) R)) := by
  refine z_con (ls := [some (.ref (z_ad G g 1)), some (.ref (z_ad G h 1))]) (by decide +kernel) (Nat.le_of_ble_eq_true rfl) rfl ?_
  intro Z htb
  refine z_rng fun hr => ?_
  have hr2 : ∀ i, z_rg (M h i) := fun i => by have y5 := hr h i (by omega); rwa [z_sR_ne _ _ hne] at y5
  refine z_aloadn dX3_copyFrom_0 rfl ?_
  refine z_aloadn dX3_copyFrom_1 rfl ?_
  refine gX3_30 (by first | exact hg | exact hg2) rfl dX3_copyFrom_2 ?_
  refine z_top (v' := M h 0) (by rw [z_sR_ne _ _ hne]) ?_
  refine pX3_30 (by first | exact hg | exact hg2) (hr2 _) rfl dX3_copyFrom_5 ?_
  refine z_rng fun hr => ?_
  rw [z_sM_sR]
  refine z_aloadn dX3_copyFrom_8 rfl ?_
  refine gX3_9 (by first | exact hg | exact hg2) rfl dX3_copyFrom_9 ?_
  refine z_aloadn dX3_copyFrom_12 rfl ?_
  refine gX3_9 (by first | exact hg | exact hg2) rfl dX3_copyFrom_13 ?_
  refine kX3_34 (tX6_copyRowR (by rfl) (by rfl) (by decide) hg2 hg hne (by decide)) rfl ⟨(Nat.le_of_ble_eq_true rfl), (Nat.le_of_ble_eq_true rfl)⟩ (Nat.le_of_ble_eq_true rfl) dX3_copyFrom_16 ?_
  refine z_aloadn dX3_copyFrom_19 rfl ?_
  refine gX3_15 (by first | exact hg | exact hg2) rfl dX3_copyFrom_20 ?_
  refine z_aloadn dX3_copyFrom_23 rfl ?_
  refine gX3_15 (by first | exact hg | exact hg2) rfl dX3_copyFrom_24 ?_
  refine kX3_34 (tX6_copyRowR (by rfl) (by rfl) (by decide) hg2 hg hne (by decide)) rfl ⟨(Nat.le_of_ble_eq_true rfl), (Nat.le_of_ble_eq_true rfl)⟩ (Nat.le_of_ble_eq_true rfl) dX3_copyFrom_27 ?_
  refine z_aloadn dX3_copyFrom_30 rfl ?_
  refine gX3_18 (by first | exact hg | exact hg2) rfl dX3_copyFrom_31 ?_
  refine z_aloadn dX3_copyFrom_34 rfl ?_
  refine gX3_18 (by first | exact hg | exact hg2) rfl dX3_copyFrom_35 ?_
  refine kX3_34 (tX6_copyRowR (by rfl) (by rfl) (by decide) hg2 hg hne (by decide)) rfl ⟨(Nat.le_of_ble_eq_true rfl), (Nat.le_of_ble_eq_true rfl)⟩ (Nat.le_of_ble_eq_true rfl) dX3_copyFrom_38 ?_
  refine z_aloadn dX3_copyFrom_41 rfl ?_
  refine gX3_21 (by first | exact hg | exact hg2) rfl dX3_copyFrom_42 ?_
  refine z_aloadn dX3_copyFrom_45 rfl ?_
  refine gX3_21 (by first | exact hg | exact hg2) rfl dX3_copyFrom_46 ?_
  refine kX3_34 (tX6_copyRowR (by rfl) (by rfl) (by decide) hg2 hg hne (by decide)) rfl ⟨(Nat.le_of_ble_eq_true rfl), (Nat.le_of_ble_eq_true rfl)⟩ (Nat.le_of_ble_eq_true rfl) dX3_copyFrom_49 ?_
  refine z_aloadn dX3_copyFrom_52 rfl ?_
  refine gX3_24 (by first | exact hg | exact hg2) rfl dX3_copyFrom_53 ?_
  refine z_aloadn dX3_copyFrom_56 rfl ?_
  refine gX3_24 (by first | exact hg | exact hg2) rfl dX3_copyFrom_57 ?_
  refine kX3_34 (tX6_copyRowR (by rfl) (by rfl) (by decide) hg2 hg hne (by decide)) rfl ⟨(Nat.le_of_ble_eq_true rfl), (Nat.le_of_ble_eq_true rfl)⟩ (Nat.le_of_ble_eq_true rfl) dX3_copyFrom_60 ?_
  refine z_aloadn dX3_copyFrom_63 rfl ?_
  refine gX3_27 (by first | exact hg | exact hg2) rfl dX3_copyFrom_64 ?_
  refine z_aloadn dX3_copyFrom_67 rfl ?_
  refine gX3_27 (by first | exact hg | exact hg2) rfl dX3_copyFrom_68 ?_
  refine kX3_34 (tX6_copyRowR (by rfl) (by rfl) (by decide) hg2 hg hne (by decide)) rfl ⟨(Nat.le_of_ble_eq_true rfl), (Nat.le_of_ble_eq_true rfl)⟩ (Nat.le_of_ble_eq_true rfl) dX3_copyFrom_71 ?_
  exact z_vret dX3_copyFrom_74 rfl
theorem tX4_copyFrom {G : z_G} {M : z_M} {R : Int → Int} {g h : Nat} (hg : g < 7) (hg2 : h < 7) (hne : h ≠ g) : KX4_copyFrom G [.ref (z_ad G g 8), .ref (z_ad G h 8)] (z_sR M g R) (.inl none) (z_sR M g (z_kQ (M h) R)) := by
  refine z_con (ls := [some (.ref (z_ad G g 8)), some (.ref (z_ad G h 8))]) (by decide +kernel) (Nat.le_of_ble_eq_true rfl) rfl ?_
  intro Z htb
  refine z_rng fun hr => ?_
  have hr2 : ∀ i, z_rg (M h i) := fun i => by have y5 := hr h i (by omega); rwa [z_sR_ne _ _ hne] at y5
  refine z_aloadn dX4_copyFrom_0 rfl ?_
  refine z_aloadn dX4_copyFrom_1 rfl ?_
  refine gX4_36 (by first | exact hg | exact hg2) rfl dX4_copyFrom_2 ?_
  refine z_top (v' := M h 1) (by rw [z_sR_ne _ _ hne]) ?_
  refine pX4_36 (by first | exact hg | exact hg2) (hr2 _) rfl dX4_copyFrom_5 ?_
  refine z_rng fun hr => ?_
  rw [z_sM_sR]
  refine z_aloadn dX4_copyFrom_8 rfl ?_
  refine gX4_9 (by first | exact hg | exact hg2) rfl dX4_copyFrom_9 ?_
  refine z_aloadn dX4_copyFrom_12 rfl ?_
  refine gX4_9 (by first | exact hg | exact hg2) rfl dX4_copyFrom_13 ?_
  refine kX4_40 (tX6_copyRowR (by rfl) (by rfl) (by decide) hg2 hg hne (by decide)) rfl ⟨(Nat.le_of_ble_eq_true rfl), (Nat.le_of_ble_eq_true rfl)⟩ (Nat.le_of_ble_eq_true rfl) dX4_copyFrom_16 ?_
  refine z_aloadn dX4_copyFrom_19 rfl ?_
  refine gX4_15 (by first | exact hg | exact hg2) rfl dX4_copyFrom_20 ?_
  refine z_aloadn dX4_copyFrom_23 rfl ?_
  refine gX4_15 (by first | exact hg | exact hg2) rfl dX4_copyFrom_24 ?_
  refine kX4_40 (tX6_copyRowR (by rfl) (by rfl) (by decide) hg2 hg hne (by decide)) rfl ⟨(Nat.le_of_ble_eq_true rfl), (Nat.le_of_ble_eq_true rfl)⟩ (Nat.le_of_ble_eq_true rfl) dX4_copyFrom_27 ?_
  refine z_aloadn dX4_copyFrom_30 rfl ?_
  refine gX4_18 (by first | exact hg | exact hg2) rfl dX4_copyFrom_31 ?_
  refine z_aloadn dX4_copyFrom_34 rfl ?_
  refine gX4_18 (by first | exact hg | exact hg2) rfl dX4_copyFrom_35 ?_
  refine kX4_40 (tX6_copyRowR (by rfl) (by rfl) (by decide) hg2 hg hne (by decide)) rfl ⟨(Nat.le_of_ble_eq_true rfl), (Nat.le_of_ble_eq_true rfl)⟩ (Nat.le_of_ble_eq_true rfl) dX4_copyFrom_38 ?_
  refine z_aloadn dX4_copyFrom_41 rfl ?_
  refine gX4_21 (by first | exact hg | exact hg2) rfl dX4_copyFrom_42 ?_
  refine z_aloadn dX4_copyFrom_45 rfl ?_
  refine gX4_21 (by first | exact hg | exact hg2) rfl dX4_copyFrom_46 ?_
  refine kX4_40 (tX6_copyRowR (by rfl) (by rfl) (by decide) hg2 hg hne (by decide)) rfl ⟨(Nat.le_of_ble_eq_true rfl), (Nat.le_of_ble_eq_true rfl)⟩ (Nat.le_of_ble_eq_true rfl) dX4_copyFrom_49 ?_
  refine z_aloadn dX4_copyFrom_52 rfl ?_
  refine gX4_24 (by first | exact hg | exact hg2) rfl dX4_copyFrom_53 ?_
  refine z_aloadn dX4_copyFrom_56 rfl ?_
  refine gX4_24 (by first | exact hg | exact hg2) rfl dX4_copyFrom_57 ?_
  refine kX4_40 (tX6_copyRowR (by rfl) (by rfl) (by decide) hg2 hg hne (by decide)) rfl ⟨(Nat.le_of_ble_eq_true rfl), (Nat.le_of_ble_eq_true rfl)⟩ (Nat.le_of_ble_eq_true rfl) dX4_copyFrom_60 ?_
  refine z_aloadn dX4_copyFrom_63 rfl ?_
  refine gX4_27 (by first | exact hg | exact hg2) rfl dX4_copyFrom_64 ?_
  refine z_aloadn dX4_copyFrom_67 rfl ?_
  refine gX4_27 (by first | exact hg | exact hg2) rfl dX4_copyFrom_68 ?_
  refine kX4_40 (tX6_copyRowR (by rfl) (by rfl) (by decide) hg2 hg hne (by decide)) rfl ⟨(Nat.le_of_ble_eq_true rfl), (Nat.le_of_ble_eq_true rfl)⟩ (Nat.le_of_ble_eq_true rfl) dX4_copyFrom_71 ?_
  refine z_aloadn dX4_copyFrom_74 rfl ?_
  refine gX4_30 (by first | exact hg | exact hg2) rfl dX4_copyFrom_75 ?_
  refine z_aloadn dX4_copyFrom_78 rfl ?_
  refine gX4_30 (by first | exact hg | exact hg2) rfl dX4_copyFrom_79 ?_
  refine kX4_40 (tX6_copyRowR (by rfl) (by rfl) (by decide) hg2 hg hne (by decide)) rfl ⟨(Nat.le_of_ble_eq_true rfl), (Nat.le_of_ble_eq_true rfl)⟩ (Nat.le_of_ble_eq_true rfl) dX4_copyFrom_82 ?_
  refine z_aloadn dX4_copyFrom_85 rfl ?_
  refine gX4_33 (by first | exact hg | exact hg2) rfl dX4_copyFrom_86 ?_
  refine z_aloadn dX4_copyFrom_89 rfl ?_
  refine gX4_33 (by first | exact hg | exact hg2) rfl dX4_copyFrom_90 ?_
  refine kX4_40 (tX6_copyRowR (by rfl) (by rfl) (by decide) hg2 hg hne (by decide)) rfl ⟨(Nat.le_of_ble_eq_true rfl), (Nat.le_of_ble_eq_true rfl)⟩ (Nat.le_of_ble_eq_true rfl) dX4_copyFrom_93 ?_
  exact z_vret dX4_copyFrom_96 rfl
theorem tX5_copyFrom {G : z_G} {M : z_M} {R : Int → Int} {g h : Nat} (hg : g < 7) (hg2 : h < 7) (hne : h ≠ g) : KX5_copyFrom G [.ref (z_ad G g 0), .ref (z_ad G h 0)] (z_sR M g R) (.inl none) (z_sR M g (z_cp R (M h) 0 0 906)) := by
  refine z_con (ls := [some (.ref (z_ad G g 0)), some (.ref (z_ad G h 0))]) (by decide +kernel) (Nat.le_of_ble_eq_true rfl) rfl ?_
  intro Z htb
  refine z_rng fun hr => ?_
  have hr2 : ∀ i, z_rg (M h i) := fun i => by have y5 := hr h i (by omega); rwa [z_sR_ne _ _ hne] at y5
  refine z_aloadn dX5_copyFrom_0 rfl ?_
  refine gX5_12 (by first | exact hg | exact hg2) rfl dX5_copyFrom_1 ?_
  refine z_aloadn dX5_copyFrom_4 rfl ?_
  refine gX5_12 (by first | exact hg | exact hg2) rfl dX5_copyFrom_5 ?_
  refine kX5_37 (by first | exact hg | exact hg2) (tX3_copyFrom hg hg2 hne) rfl ⟨(Nat.le_of_ble_eq_true rfl), (Nat.le_of_ble_eq_true rfl)⟩ (Nat.le_of_ble_eq_true rfl) dX5_copyFrom_8 ?_
  refine z_aloadn dX5_copyFrom_11 rfl ?_
  refine gX5_21 (by first | exact hg | exact hg2) rfl dX5_copyFrom_12 ?_
  refine z_aloadn dX5_copyFrom_15 rfl ?_
  refine gX5_21 (by first | exact hg | exact hg2) rfl dX5_copyFrom_16 ?_
  refine kX5_41 (by first | exact hg | exact hg2) (tX4_copyFrom hg hg2 hne) rfl ⟨(Nat.le_of_ble_eq_true rfl), (Nat.le_of_ble_eq_true rfl)⟩ (Nat.le_of_ble_eq_true rfl) dX5_copyFrom_19 ?_
  refine z_aloadn dX5_copyFrom_22 rfl ?_
  refine gX5_34 (by first | exact hg | exact hg2) rfl dX5_copyFrom_23 ?_
  refine z_aloadn dX5_copyFrom_26 rfl ?_
  refine gX5_34 (by first | exact hg | exact hg2) rfl dX5_copyFrom_27 ?_
  refine kX5_44 (tX6_copyRowR (by rfl) (by rfl) (by decide) hg2 hg hne (by decide)) rfl ⟨(Nat.le_of_ble_eq_true rfl), (Nat.le_of_ble_eq_true rfl)⟩ (Nat.le_of_ble_eq_true rfl) dX5_copyFrom_30 ?_
  refine z_aloadn dX5_copyFrom_33 rfl ?_
  refine z_aloadn dX5_copyFrom_34 rfl ?_
  refine gX5_48 (by first | exact hg | exact hg2) rfl dX5_copyFrom_35 ?_
  refine z_top (v' := M h 2) (by rw [z_sR_ne _ _ hne]) ?_
  refine pX5_48 (by first | exact hg | exact hg2) (hr2 _) rfl dX5_copyFrom_38 ?_
  refine z_rng fun hr => ?_
  rw [z_sM_sR]
  refine z_aloadn dX5_copyFrom_41 rfl ?_
  refine z_aloadn dX5_copyFrom_42 rfl ?_
  refine gX5_52 (by first | exact hg | exact hg2) rfl dX5_copyFrom_43 ?_
  refine z_top (v' := M h 3) (by rw [z_sR_ne _ _ hne]) ?_
  refine pX5_52 (by first | exact hg | exact hg2) (hr2 _) rfl dX5_copyFrom_46 ?_
  refine z_rng fun hr => ?_
  rw [z_sM_sR]
  refine z_aloadn dX5_copyFrom_49 rfl ?_
  refine z_aloadn dX5_copyFrom_50 rfl ?_
  refine gX5_55 (by first | exact hg | exact hg2) rfl dX5_copyFrom_51 ?_
  refine z_top (v' := M h 4) (by rw [z_sR_ne _ _ hne]) ?_
  refine pX5_55 (by first | exact hg | exact hg2) (hr2 _) rfl dX5_copyFrom_54 ?_
  refine z_rng fun hr => ?_
  rw [z_sM_sR]
  refine z_aloadn dX5_copyFrom_57 rfl ?_
  refine z_aloadn dX5_copyFrom_58 rfl ?_
  refine gX5_58 (by first | exact hg | exact hg2) rfl dX5_copyFrom_59 ?_
  refine z_top (v' := M h 7) (by rw [z_sR_ne _ _ hne]) ?_
  refine pX5_58 (by first | exact hg | exact hg2) (hr2 _) rfl dX5_copyFrom_62 ?_
  refine z_rng fun hr => ?_
  rw [z_sM_sR]
  refine z_aloadn dX5_copyFrom_65 rfl ?_
  refine z_aloadn dX5_copyFrom_66 rfl ?_
  refine gX5_61 (by first | exact hg | exact hg2) rfl dX5_copyFrom_67 ?_
  refine z_top (v' := M h 6) (by rw [z_sR_ne _ _ hne]) ?_
  refine pX5_61 (by first | exact hg | exact hg2) (hr2 _) rfl dX5_copyFrom_70 ?_
  refine z_rng fun hr => ?_
  refine z_ghost hg (w := M h 5) (hr2 _) ?_
  rw [z_sM_sR, z_sM_sR]
  exact z_vret dX5_copyFrom_73 (by rw [← z_kS_cp]; rfl)
