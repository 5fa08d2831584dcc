/-! ===== what the questions answer ===== -/
def z_owns (b : Int → Int) (p : Int) : Int := z_sm (b 0).toNat (fun i => if b (14 + 6 * i + 3) = p then 1 else 0)
def z_wrote (b : Int → Int) (p : Int) : Int := z_sm (b 1).toNat (fun k => b (186 + 12 * k + p))
def z_plc (b : Int → Int) (p : Int) : Int := z_sm (b 0).toNat (fun i => if b (14 + 6 * p) < b (14 + 6 * i) ∨ (b (14 + 6 * i) = b (14 + 6 * p) ∧ i < p) then 1 else 0)
def z_pnv (b : Int → Int) (p w : Int) : Int := if w ≤ 4 then b (14 + 6 * p + w) else if w = 5 then z_owns b p else if w = 6 then b (14 + 6 * p + 5) else if w = 7 then z_wrote b p else z_plc b p
def z_c_pen (b : Int → Int) (p w : Int) : Int := if ¬ (0 ≤ p ∧ p < b 0) then 1 else if ¬ (0 ≤ w ∧ w ≤ 8) then 2 else 0
def z_pwi (b : Int → Int) (k : Int) : Int := z_sm (b 0).toNat (fun p => if 0 < b (426 + 12 * k + p) then 1 else 0)
def z_wd (b : Int → Int) (k : Int) : Nat → Int
  | 0 => 0
  | n + 1 => if z_cd b k n then z_bor (z_wd b k n) n else z_wd b k n
def z_kv (b : Int → Int) (k w : Int) : Int := if w ≤ 3 then b (86 + 5 * k + w) else if w = 4 then z_aD b k else if w = 5 then z_pwi b k else if w = 6 then z_aP b k else if w = 7 then b (86 + 5 * k + 4) else if w = 8 then z_kf b k else z_wd b k (b 0).toNat
def z_c_piece (b : Int → Int) (k w : Int) : Int := if ¬ (0 ≤ k ∧ k < b 1) then 1 else if ¬ (0 ≤ w ∧ w ≤ 9) then 2 else 0
def z_bv (b : Int → Int) (k p w : Int) : Int := if w = 0 then b (426 + 12 * k + p) else if w = 1 then b (186 + 12 * k + p) else b (666 + 12 * k + p)
def z_c_between (b : Int → Int) (k p w : Int) : Int := if ¬ (0 ≤ k ∧ k < b 1) ∨ ¬ (0 ≤ p ∧ p < b 0) then 1 else if ¬ (0 ≤ w ∧ w ≤ 2) then 2 else 0
def z_sumOf (b : Int → Int) (w : Int) : Int := z_sm (b 0).toNat (fun p => b (14 + 6 * p + w))
def z_stg (b : Int → Int) (s : Int) : Int := z_sm (b 1).toNat (fun k => if b (86 + 5 * k + 2) = s then 1 else 0)
def z_soldN (b : Int → Int) : Int := z_sm (b 0).toNat (fun p => if b (14 + 6 * p + 3) = p then 0 else 1)
def z_cv (b : Int → Int) (sv w : Int) : Int := if w ≤ 4 then b w else if w = 5 then z_sumOf b 0 else if w = 6 then z_sumOf b 1 else if w = 7 then b 5 else if w = 8 then z_stg b 3 else if w = 9 then z_stg b 4 else if w = 10 then b 6 else if w = 11 then z_soldN b else if w = 12 then b 7 else sv
def z_c_count (w : Int) : Int := if 0 ≤ w ∧ w ≤ 13 then 0 else 1
def z_c_setting (w : Int) : Int := if 0 ≤ w ∧ w ≤ 5 then 0 else 1
