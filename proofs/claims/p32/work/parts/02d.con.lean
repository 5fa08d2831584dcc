/-! ===== fields, contracts, calls, ends, throws ===== -/
section ZC
variable {G : z_G} {Z : z_Z} {d : z_Md} {Q : State → Prop} {pc : Nat} {ls : List (Option Value)} {st : List Value} {M : z_M} {k n : Nat}
theorem z_fdat {fs : List z_F} {j : Nat} {f : z_F} (hf : fs[j]? = some f) : fs.getD j (0, 0, 0) = f := by
  rw [List.getD_eq_getElem?_getD, hf]; rfl
theorem z_getf {C : String} {T : u_T} {N ci idx kf g c : Nat} {fs : List z_F} {f : z_F} (hC : vwCl[ci]? = some (C, T, N)) (hin : ∀ w ∈ u_ws C T N, w ∈ z_W) (hlink : Cond.fieldLink (z_own d) idx C (T kf).2.1 (T kf).2.2.1 ∈ z_W)
    (hself : (T kf).1 = C) (hob : z_ob g c = some (ci, fs)) (hkN : kf < N) (hN : fs.length = N) (hf : fs[kf]? = some f) (hdm : z_dm G g c) (hd : decode (z_cc d) pc = .ok (.getfield idx, 3))
    (kk : z_J G Z d Q (pc + 3) ls (z_fv G M f :: st) M k n) : z_J G Z d Q pc ls (.ref (z_ad G g c) :: st) M k n := fun hO H locs la hW hS hL => by
  obtain ⟨cell, q1, q2, q3, q4⟩ := (hW.2.2 g c hdm).1 ci fs hob
  obtain ⟨hS0, hfc, kC, hkC, hkind⟩ := hO.2.2.2.2.2.2.2.2.1.1 ci _ hC
  obtain ⟨cf, kf', fi, fd, hi, hsl⟩ := hS0 kf hkN
  have hi' : (z_s Z).fieldFound? C (T kf).2.1 (T kf).2.2.1 = some (cf, kf', fi, fd) := by rw [← hi]; dsimp only; rw [hself]
  have hts : ∀ w ∈ u_ws C T N, w.before (z_a Z) (z_s Z) = true := fun w hw => z_tw hO (hin w hw) _
  refine W.getf hO.1 hO.2.1 hO.2.2.2.1 (z_tw hO hlink _) hi' (u_facts hfc hkC (u_lays hts (fun _ h => h) hkN) hi).1 q1 (by rw [q3]; exact fun h => by cases h) (v := z_fv G M f) ?_ rfl rfl hd (kk hO H locs la hW hS hL)
  rw [hsl, q4 kf (by rw [hN]; exact hkN)]
  dsimp only
  rw [z_fdat hf]
/-- the value that a slot takes: an int, a long, or the number of a state -/
def z_pv (G : z_G) (t : Nat) (v : Int) : Value := if t = 0 then z_I v else if t = 3 then z_L v else .ref (z_ad G v.toNat 0)
theorem z_putf {C : String} {T : u_T} {N ci idx kf g c t a : Nat} {i v : Int} {fs : List z_F} (hC : vwCl[ci]? = some (C, T, N)) (hin : ∀ w ∈ u_ws C T N, w ∈ z_W) (ty0 : Nat → FieldType) (hty : ∀ k, k < N → parseFieldDescriptor (T k).2.2.1 = some (ty0 k)) (hnm : ∀ a, a < N → ∀ b, b < N → a ≠ b → (T a).2.1 ≠ (T b).2.1)
    (hlink : Cond.fieldLink (z_own d) idx C (T kf).2.1 (T kf).2.2.1 ∈ z_W) (hself : (T kf).1 = C) (hfin : (T kf).2.2.2 = false) (hob : z_ob g c = some (ci, fs)) (hkN : kf < N) (hN : fs.length = N) (hf : fs[kf]? = some (t, a, i)) (ht1 : t = 0 ∨ t = 2 ∨ t = 3)
    (hnar : narrow (ty0 kf) (z_pv G t v) = z_pv G t v) (hfit : fits (ty0 kf) (z_pv G t v) = true) (hdm : z_dm G g c) (hv : a ≠ 20 → z_rg v) (hd : decode (z_cc d) pc = .ok (.putfield idx, 3))
    (kk : z_J G Z d Q (pc + 3) ls st (z_sM M a i v) k n) : z_J G Z d Q pc ls (z_pv G t v :: .ref (z_ad G g c) :: st) M k n := fun hO H locs la hW hS hL => by
  obtain ⟨cell, q1, q2, q3, q4⟩ := (hW.2.2 g c hdm).1 ci fs hob
  have hK := hO.2.2.2.2.2.2.2.2.1
  obtain ⟨hS0, hfc, kC, hkC, hkind⟩ := hK.1 ci _ hC
  obtain ⟨cf, kf', fi, fd, hi, hsl⟩ := hS0 kf hkN
  have hi' : (z_s Z).fieldFound? C (T kf).2.1 (T kf).2.2.1 = some (cf, kf', fi, fd) := by rw [← hi]; dsimp only; rw [hself]
  have hts : ∀ w ∈ u_ws C T N, w.before (z_a Z) (z_s Z) = true := fun w hw => z_tw hO (hin w hw) _
  have hap := va_apart (own := C) (args := z_a Z) hts (fun _ h => h) ty0 hty hnm hK hC
  have hlay := hts _ (u_in_lay hkN)
  unfold u_lay at hlay
  rw [if_neg (by rw [hfin]; decide)] at hlay
  have hst := (u_facts hfc hkC (u_lays hts (fun _ h => h) hkN) hi).1
  have h6 := u_store hfc hkC hkind hlay hi (hty kf hkN) hnar hfit
  have hkl : kf < fs.length := by rw [hN]; exact hkN
  refine W.putK hO.1 hO.2.1 (f := fd) ⟨hO.2.2.2.1, z_tw hO hlink _, ⟨_, _, _, hi'⟩, hst⟩ (by rw [q2]; exact h6) q1 q3 (by rw [hsl]; exact k2_hasslot (q4 kf hkl)) rfl rfl hd fun H' e1 e2 e3 => ?_
  rw [hsl] at e1 ⊢
  refine kk hO H' _ la (z_Wd_put hW hdm e2 e3 hv (z_owO hdm hob kf hf (by omega)) ?_) (hS.put e2 e3 (z_in hdm)) hL
  refine ⟨fun ci' fs' ho => ?_, fun t' a' m' ix' ha' => ?_⟩
  · rw [hob] at ho
    cases ho
    have h7 := t_set (V := fun j => z_fv G M (fs.getD j (0, 0, 0))) (v := z_pv G t v) (N := fs.length) q4 (fun x y hx hy => hap x y (by rw [← hN]; exact hx) (by rw [← hN]; exact hy)) hkl
    refine t_OB.to ⟨_, e1, q2, q3, h7⟩ fun j hj => ?_
    unfold updV
    by_cases hjk : j = kf
    · subst hjk
      rw [if_pos rfl, z_fdat hf]
      rcases ht1 with rfl | rfl | rfl
      · show z_I v = z_I (z_sM M a i v a i)
        unfold z_sM; rw [if_pos ⟨rfl, rfl⟩]
      · show Value.ref (z_ad G v.toNat 0) = Value.ref (z_ad G (z_sM M a i v a i).toNat 0)
        unfold z_sM; rw [if_pos ⟨rfl, rfl⟩]
      · show z_L v = z_L (z_sM M a i v a i)
        unfold z_sM; rw [if_pos ⟨rfl, rfl⟩]
    · rw [if_neg hjk]
      have e : fs[j]? = some fs[j] := List.getElem?_eq_getElem hj
      show z_fv G M (fs.getD j (0, 0, 0)) = z_fv G (z_sM M a i v) (fs.getD j (0, 0, 0))
      rw [z_fdat e]
      rcases hfj : fs[j] with ⟨t', a', i'⟩
      refine z_fv_eq fun ht' => ?_
      unfold z_sM
      rw [if_neg]
      rintro ⟨rfl, rfl⟩
      exact hjk (z_okl_use (z_ob_inj hdm hob) (by rw [e, hfj]) hf ht' (by omega))
  · have h := z_obal hob
    rw [h] at ha'
    cases ha'
theorem z_aald {i : Int} (h0 : 0 ≤ i) (h1 : i < 7) (hd : decode (z_cc d) pc = .ok (.aaload, 1)) (kk : z_J G Z d Q (pc + 1) ls (.ref (z_ad G i.toNat 0) :: st) M k n) : z_J G Z d Q pc ls (z_I i :: .ref (z_ad G 0 21) :: st) M k n :=
  fun hO H locs la hW hS hL => by
    have hc := (hW.2.2 0 21 (Or.inl (by decide))).2 4 99 7 _ rfl
    have hK := hO.2.2.2.2.2.2.2.2.1.2
    have e : (Int32.ofInt i).toNatClampNeg = i.toNat := z_clamp h0 (by omega)
    refine W.aald (v := .ref (z_ad G i.toNat 0)) (ty := .object "PenGuild$State") hO.1 hO.2.1 hc ((hK 2 _ rfl).1 7 _) rfl (fun q => by cases q) (by rw [arrV_size]; exact z_vp h0 h1 (by omega)) ?_ rfl rfl hd (kk hO H locs la hW hS hL)
    rw [e, arrV_read _ _ (by omega)]
    rfl
/-- the most of a setting -/
theorem z_greatest {i : Int} {x : Nat} (h0 : 0 ≤ i) (h1 : i < 6) (hlink : Cond.fieldLink (z_own d) x "PenGuild" "GREATEST_SETTINGS" "[I" ∈ z_W) (hd : decode (z_cc d) pc = .ok (.getstatic x, 3)) (kk : z_J G Z d Q (pc + 3) ls (.ref (z_gs G) :: st) M k n) : z_J G Z d Q pc ls st M k n :=
  fun hO H locs la hW hS hL => va_gets hO.1 hO.2.1 hO.2.2.2.2.2.2.2.2.2.2.2.2.1.1 hS hO.2.2.2.1 (z_tw hO hlink _) (fun _ h => h) hd (kk hO H locs la hW hS hL)
theorem z_greatest_ld {i : Int} (h0 : 0 ≤ i) (h1 : i < 6) (hd : decode (z_cc d) pc = .ok (.iaload, 1)) (kk : z_J G Z d Q (pc + 1) ls (z_I (z_most i.toNat) :: st) M k n) : z_J G Z d Q pc ls (z_I i :: .ref (z_gs G) :: st) M k n :=
  fun hO H locs la hW hS hL => by
    obtain ⟨cell, t1, t2, t3, t4, t5, t6, t7⟩ := va_T.kept hO.2.2.2.2.2.2.2.2.2.2.2.2.1.2 (fun a ha hA => hS.2.1 a ha hA)
    have e : (Int32.ofInt i).toNatClampNeg = i.toNat := z_clamp h0 (by omega)
    refine W.iald (v := z_I (z_most i.toNat)) hO.1 hO.2.1 t1 t2 t3 ?_ ?_ rfl rfl hd (kk hO H locs la hW hS hL)
    · rintro (h | h)
      · exact z_vp (n := 6) h0 h1 (by omega) (Or.inl h)
      · rw [e] at h; omega
    · rw [e]; exact t6 _ (by omega)
end ZC
