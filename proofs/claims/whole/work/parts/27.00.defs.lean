abbrev sd_gbad (w v n : Int) : Prop := ¬ ((1 ≤ w ∧ w ≤ 99) ∧ 1 ≤ v ∧ v ≤ 99) ∨ ¬ (1 ≤ n ∧ n ≤ 5)
def sp_play (x : sd_M) (w v n : Int) : Int × sd_M := if sd_gbad w v n then sd_Fd x 0 else (sd_gv x (2 * n.toNat) false w v, x)
def sd_bst (x : sd_M) (l : Nat) (w v : Int) : Int := if sd_bh x (sd_gv x l true) 0 w v = sd_gv x (l + 1) false w v then 0 else if sd_bh x (sd_gv x l true) 1 w v = sd_gv x (l + 1) false w v then 1 else 2
def sp_best (x : sd_M) (w v n : Int) : Int × sd_M := if sd_gbad w v n then sd_Fd x 0 else (sd_bst x (2 * n.toNat - 1) w v, x)
theorem sd_gv_max (x : sd_M) (l : Nat) (w v : Int) : sd_gv x (l + 1) false w v = max (sd_bh x (sd_gv x l true) 0 w v) (max (sd_bh x (sd_gv x l true) 1 w v) (sd_bh x (sd_gv x l true) 2 w v)) := by
  simp only [sd_gv]
  rw [if_neg (by decide)]
