/-! ===== what the fairest parts depend on: not on what stood in the writers' row ===== -/
theorem z_cw_eq {w w' : Int → Int} {m : Int} (h : ∀ j, 0 ≤ j → j < m → w j = w' j) : z_cw w m = z_cw w' m := by
  funext p
  unfold z_cw
  exact z_sm_eq (fun i hi => by show (if w i = p then (1 : Int) else 0) = _; rw [h i (by omega) (by omega)])
theorem z_wst_ind (f : Int → Int) (n : Nat) (w w' : Int → Int) : ∀ i : Nat, (z_wst f n i (w, 0)).2 = (z_wst f n i (w', 0)).2 ∧ ∀ j, 0 ≤ j → j < (z_wst f n i (w, 0)).2 → (z_wst f n i (w, 0)).1 j = (z_wst f n i (w', 0)).1 j := by
  intro i
  induction i with
  | zero => exact ⟨rfl, fun j j0 j1 => by change j < 0 at j1; omega⟩
  | succ i ih =>
    obtain ⟨e, h⟩ := ih
    have m0 := (z_wst_m f n w i).1
    have ec := z_cw_eq h
    unfold z_wst
    rw [← e, ← ec]
    split
    · exact ⟨e, h⟩
    · refine ⟨rfl, fun j j0 j1 => ?_⟩
      show z_uf _ _ _ j = z_uf _ _ _ j
      change j < (z_wst f n i (w, 0)).2 + 1 at j1
      unfold z_uf
      split
      · rfl
      · exact h j j0 (by omega)
theorem z_sw_ind {w w' : Int → Int} {m i : Int} (i0 : 0 ≤ i) (h : ∀ j, 0 ≤ j → j < m → w j = w' j) : ∀ j, 0 ≤ j → j < m → z_sw w m i j = z_sw w' m i j := by
  intro j j0 j1
  unfold z_sw
  by_cases e : i + 1 < m
  · rw [h i i0 (by omega), h (i + 1) (by omega) e]
    split
    · unfold z_uf
      split
      · rfl
      · split
        · rfl
        · exact h j j0 j1
    · exact h j j0 j1
  · rw [if_neg (fun q => e q.1), if_neg (fun q => e q.1)]
    exact h j j0 j1
theorem z_bb_ind {m : Int} (m0 : 0 < m) : ∀ (k : Nat) (w w' : Int → Int), (∀ j, 0 ≤ j → j < m → w j = w' j) → ∀ j, 0 ≤ j → j < m → z_bb m k w j = z_bb m k w' j := by
  intro k
  induction k with
  | zero => intro w w' h; exact h
  | succ k ih => intro w w' h; exact z_sw_ind (Int.emod_nonneg _ (by omega)) (ih w w' h)
theorem z_WR_ind (b : Int → Int) (k : Int) (w w' : Int → Int) : (z_WR b k w).2 = (z_WR b k w').2 := (z_wst_ind _ _ w w' 4).1
theorem z_WS_ind (b : Int → Int) (k : Int) (w w' : Int → Int) : ∀ j, 0 ≤ j → j < (z_WR b k w).2 → z_WS b k w j = z_WS b k w' j := by
  intro j j0 j1
  unfold z_WS
  rw [← z_WR_ind b k w w']
  exact z_bb_ind (m := (z_WR b k w).2) (by omega) _ _ _ (z_wst_ind _ _ w w' 4).2 j j0 j1
theorem z_ug_ind {f d d' : Int → Int} {D S : Int} {m : Nat} (h : ∀ j, 0 ≤ j → j < (m : Int) → d j = d' j) : ∀ n : Nat, n ≤ m → z_ug f d D S n = z_ug f d' D S n := by
  intro n
  induction n with
  | zero => intro _; rfl
  | succ n ih =>
    intro hn
    unfold z_ug
    rw [ih (by omega), h n (by omega) (by omega)]
theorem z_fss_ind {m : Nat} {d d' : Int → Int} {D : Int} (h : ∀ j, 0 ≤ j → j < (m : Int) → d j = d' j) : ∀ n : Nat, z_fss m d D n = z_fss m d' D n := by
  intro n
  induction n with
  | zero => rfl
  | succ n ih =>
    unfold z_fss
    rw [ih, z_ug_ind h m (Nat.le_refl m)]
theorem z_fo_ind {w w' f : Int → Int} {p : Int} : ∀ n : Nat, (∀ j, 0 ≤ j → j < (n : Int) → w j = w' j) → z_fo w f p n = z_fo w' f p n := by
  intro n
  induction n with
  | zero => intro _; rfl
  | succ n ih =>
    intro h
    unfold z_fo
    rw [ih (fun j j0 j1 => h j j0 (by omega)), h n (by omega) (by omega)]
theorem z_fX_ind (b : Int → Int) (k : Int) (w w' : Int → Int) (p : Int) : z_fX b k w p = z_fX b k w' p := by
  have e : z_fm b k w = z_fm b k w' := by unfold z_fm; rw [z_WR_ind b k w w']
  have hm : ((z_fm b k w : Nat) : Int) = (z_WR b k w).2 := Int.toNat_of_nonneg (z_wst_m (z_dr b k) (b 0).toNat w 4).1
  have hW : ∀ j, 0 ≤ j → j < ((z_fm b k w : Nat) : Int) → z_WS b k w j = z_WS b k w' j := fun j j0 j1 => z_WS_ind b k w w' j j0 (by omega)
  have hd : ∀ j, 0 ≤ j → j < ((z_fm b k w : Nat) : Int) → z_fd b k w j = z_fd b k w' j := fun j j0 j1 => by unfold z_fd; rw [hW j j0 j1]
  have ec : z_fc b k w = z_fc b k w' := by
    unfold z_fc
    rw [← e, z_sm_eq (fun i hi => hd i (by omega) (by omega)), z_fss_ind hd]
  unfold z_fX
  rw [← e, ← ec]
  exact z_fo_ind _ hW
abbrev z_w0 : Int → Int := fun _ => 0
theorem z_hq_ind (b : Int → Int) (k : Int) (w w' : Int → Int) (h : Int) (n : Nat) : z_hq b k w h n = z_hq b k w' h n := by
  induction n with
  | zero => rfl
  | succ n ih => unfold z_hq; rw [ih, z_fX_ind b k w w' n]
theorem z_hP_ind (b : Int → Int) (k : Int) (w w' : Int → Int) (h : Int) : z_hP b k w h = z_hP b k w' h := z_hq_ind b k w w' _ _
/-! ===== the digest ===== -/
def z_hps (b : Int → Int) (h : Int) : Nat → Int
  | 0 => h
  | p + 1 => z_hpn b p (z_hps b h p)
def z_hks (b : Int → Int) (h : Int) : Nat → Int
  | 0 => h
  | k + 1 => z_hP b k z_w0 (z_hks b h k)
theorem z_dpM_20 (M : z_M) (n : Nat) : z_dpM M n 20 0 = z_hps (M 22) (M 20 0) n := by
  induction n with
  | zero => rfl
  | succ n ih =>
    show z_dnM (z_dpM M n) n 20 0 = z_hpn (M 22) n (z_hps (M 22) (M 20 0) n)
    unfold z_dnM
    rw [z_sM_self, ih, z_dpM_row M (by decide)]
theorem z_dkM_20 (M : z_M) (n : Nat) : z_dkM M n 20 0 = z_hks (M 22) (M 20 0) n := by
  induction n with
  | zero => rfl
  | succ n ih =>
    show z_mpM (z_dkM M n) n 20 0 = z_hP (M 22) n z_w0 (z_hks (M 22) (M 20 0) n)
    unfold z_mpM
    rw [z_sM_self, ih, z_dkM_row M (by decide), z_hP_ind _ _ _ z_w0]
/-- counts and settings -/
def z_hcs (b : Int → Int) (sv : Int) : Int := z_hm (fun w => z_iw (b (8 + w))) (z_hm (fun w => z_iw (z_cv b sv w)) 2281 14) 6
def z_hall (b : Int → Int) (sv : Int) : Int := 31 * z_hks b (z_hps b (z_hcs b sv) (b 0).toNat) (b 1).toNat + (z_spd b).toInt64.toInt
def z_dig (b : Int → Int) (sv : Int) (l : Int) (t : Int → Int) : Int := z_hm (fun i => z_iw (t i)) (31 * z_hall b sv + z_iw l) l.toNat
def z_d1M (M : z_M) : z_M := z_sM (z_sM M 21 4 0) 20 0 (z_hcs (M 22) (M 21 2))
def z_d2M (M : z_M) : z_M := z_dkM (z_dpM (z_d1M M) (M 22 0).toNat) (M 22 1).toNat
def z_dgM (M : z_M) : z_M := z_sM (z_d2M M) 20 0 (z_dig (M 22) (M 21 2) (M 21 3) (M 25))
theorem z_d1M_row (M : z_M) {r : Nat} (h : r ≠ 20 ∧ r ≠ 21) : z_d1M M r = M r := by unfold z_d1M; rw [z_sM_row _ _ _ h.1, z_sM_row _ _ _ h.2]
theorem z_d1M_21 (M : z_M) {i : Int} (h : i ≠ 4) : z_d1M M 21 i = M 21 i := by unfold z_d1M; rw [z_sM_row _ _ _ (by decide), z_sM_ne _ _ _ h]
theorem z_d2M_row (M : z_M) {r : Nat} (h : r < 20 ∨ r = 22 ∨ r = 24 ∨ r = 25 ∨ 32 ≤ r) : z_d2M M r = M r := by
  unfold z_d2M
  rw [z_dkM_row _ (by omega), z_dpM_row _ (by omega), z_d1M_row _ (by omega)]
theorem z_d2M_21 (M : z_M) {i : Int} (h : i = 2 ∨ i = 3) : z_d2M M 21 i = M 21 i := by
  unfold z_d2M
  rw [z_dkM_21 _ (by omega), z_dpM_21 _ (by omega), z_d1M_21 _ (by omega)]
theorem z_d2M_20 (M : z_M) : z_d2M M 20 0 = z_hks (M 22) (z_hps (M 22) (z_hcs (M 22) (M 21 2)) (M 22 0).toNat) (M 22 1).toNat := by
  unfold z_d2M
  rw [z_dkM_20, z_dpM_20, z_dpM_row _ (by decide), z_d1M_row _ (by decide)]
  rfl
theorem z_dgM_row (M : z_M) {r : Nat} (h : r < 20 ∨ r = 22 ∨ r = 24 ∨ r = 25 ∨ 32 ≤ r) : z_dgM M r = M r := by
  unfold z_dgM
  rw [z_sM_row _ _ _ (by omega), z_d2M_row _ h]
theorem z_dgM_21 (M : z_M) {i : Int} (h : i = 2 ∨ i = 3) : z_dgM M 21 i = M 21 i := by
  unfold z_dgM
  rw [z_sM_row _ _ _ (by decide), z_d2M_21 _ h]
