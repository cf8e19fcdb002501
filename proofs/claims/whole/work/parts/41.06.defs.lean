abbrev sd_Pmk (x : sd_M) (i : Nat) : Prop := sd_mk x (i : Int)
def sd_mks (x : sd_M) : Int := sd_set (sd_Pmk x) (x 2).toNat
theorem sd_mks_rng {x : sd_M} (h1 : sd_I1 x) : 0 ≤ sd_mks x ∧ sd_mks x < 16777216 := by
  have := h1.2.2.1
  exact sd_set_rng _ _ (by omega)
def sp_pass (x : sd_M) (h n : Int) : Int × sd_M := if ¬ (0 ≤ n ∧ n ≤ 9) ∨ ¬ sd_isH x h then sd_Fd x 0 else if ¬ sd_isA x h 2 then sd_Fd x 2 else if sd_brs x (sd_clx x 1 h) then sd_Fd x 4 else if ¬ (x (178 + h.toNat) + n ≤ x (34 + h.toNat) ∧ x (154 + h.toNat) + n ≤ 99) then sd_Fd x 6 else (x (154 + h.toNat) + n, sd_up (sd_up x (178 + h.toNat) (x (178 + h.toNat) + n)) (154 + h.toNat) (x (154 + h.toNat) + n))
def sp_take (x : sd_M) (g : Int) : Int × sd_M := if ¬ sd_isH x g then sd_Fd x 0 else if ¬ sd_isA x g 3 then sd_Fd x 2 else if x (202 + g.toNat) = 1 ∨ sd_brs x (sd_clx x 2 (x (34 + g.toNat))) then sd_Fd x 4 else if sd_frc x g.toNat = 0 ∨ sd_frc x g.toNat < x (226 + g.toNat) then sd_Fd x 3 else (sd_frc x g.toNat, sd_up (sd_up x (202 + g.toNat) 1) (226 + g.toNat) 0)
def sp_barred (x : sd_M) (w h : Int) : Int × sd_M := if ¬ (0 ≤ w ∧ w ≤ 3) ∨ ¬ sd_isH x h then sd_Fd x 0 else if ¬ sd_isA x h 1 then sd_Fd x 2 else (sd_b (sd_brs x (sd_clx x w h)), x)
def sp_why (x : sd_M) (w h : Int) : Int × sd_M := if ¬ (0 ≤ w ∧ w ≤ 3) ∨ ¬ sd_isH x h then sd_Fd x 0 else if ¬ sd_isA x h 1 then sd_Fd x 2 else if sd_clx x w h = -1 then sd_Fd x 3 else (10 * (sd_clx x w h / 5) + sd_clx x w h % 5, x)
def sp_of (x : sd_M) (h w : Int) : Int × sd_M := if ¬ (0 ≤ w ∧ w ≤ 12) ∨ ¬ sd_isH x h then sd_Fd x 0 else if ¬ sd_isA x h (sd_kth.getD w.toNat 0) then sd_Fd x 2 else (if w = 6 then sd_b (sd_mk x h) else sd_num x h.toNat w, x)
def sp_count (x : sd_M) (w : Int) : Int × sd_M := if w = 0 then (x 2, x) else if w = 1 then (x 6004, x) else if w = 2 then (x 3, x) else if w = 3 then (sd_inS x (-1), x) else if w = 4 then (x 4, x) else if w = 5 then (x 8, x) else if w = 6 then (x 5, x) else if w = 7 then (sd_cF x, x) else if w = 8 then (x 6, x) else if w = 9 then (x 0, x) else if w = 10 then (sd_hgt x, x) else if w = 11 then (sd_ones (sd_mks x), x) else if w = 12 then (x 4100, x) else if w = 13 then (x 7, x) else sd_Fd x 0
