def sp_as (x : sd_M) (h k : Int) : Int × sd_M := if ¬ (0 ≤ k ∧ k ≤ 6) ∨ ¬ sd_isH x h then sd_Fd x 0 else if ¬ sd_isA x h k then sd_Fd x 2 else (h, x)
def sp_outside (x : sd_M) (v : Int) : Int × sd_M := if ¬ (0 ≤ v ∧ v ≤ 9) then sd_Fd x 0 else (x 1, sd_up x 1 v)
def sp_reach (x : sd_M) (h : Int) : Int × sd_M := if ¬ sd_isH x h then sd_Fd x 0 else if ¬ sd_isA x h 1 then sd_Fd x 2 else (sd_rch x (sd_shl 1 h) 8, x)
def sp_whistle (x : sd_M) (h g : Int) : Int × sd_M := if ¬ (0 ≤ g ∧ g ≤ 9) ∨ ¬ sd_isH x h then sd_Fd x 0 else if ¬ sd_isA x h 1 then sd_Fd x 2 else (sd_inS x (sd_rch x (sd_shl 1 h) g.toNat), x)
def sp_force (x : sd_M) (g : Int) : Int × sd_M := if ¬ sd_isH x g then sd_Fd x 0 else if ¬ sd_isA x g 3 then sd_Fd x 2 else (sd_frc x g.toNat, x)
def sp_part (x : sd_M) (p : Int) : Int × sd_M := if ¬ (0 ≤ p ∧ p ≤ 5) then sd_Fd x 0 else (x (386 + p.toNat), x)
def sp_wipe (x : sd_M) : Int × sd_M := (x 4100, sd_up x 4100 0)
def sp_squads (x : sd_M) (n : Int) : Int × sd_M := if ¬ (0 ≤ n ∧ n ≤ 9) then sd_Fd x 0 else (x 7, sd_up x 7 n)
def sp_food (x : sd_M) (h : Int) : Int × sd_M := if ¬ sd_isH x h then sd_Fd x 0 else if ¬ sd_isA x h 1 then sd_Fd x 2 else if sd_inS x (sd_rch x (sd_shl 1 h) 8) = 0 then sd_Fd x 3 else ((sd_mls x (sd_rch x (sd_shl 1 h) 8)).tdiv (sd_inS x (sd_rch x (sd_shl 1 h) 8)), x)
theorem sd_inS_le {x : sd_M} (h1 : sd_I1 x) (s : Int) : 0 ≤ sd_inS x s ∧ sd_inS x s ≤ 16 := by
  have a := sd_cnt_le (sd_Pin x s) (x 3).toNat
  have b := h1.2.2.2.1
  unfold sd_inS
  omega
theorem sd_mls_le {x : sd_M} (h1 : sd_I1 x) (h2 : sd_I2 x) (s : Int) : 0 ≤ sd_mls x s ∧ sd_mls x s ≤ 2376 := by
  have b := h1.2.2.1
  have a := sd_sum_le (f := sd_fml x s) (n := (x 2).toNat) (B := 99) (fun i hi => sd_fml_le h2 s i (by omega))
  unfold sd_mls
  omega
theorem sd_tdiv_R {a b : Int} (h : 0 ≤ a ∧ a ≤ 100000) (hb : 0 ≤ b) : sd_R (a.tdiv b) := by
  have h1 : 0 ≤ a.tdiv b := Int.tdiv_nonneg h.1 hb
  have h2 : a.tdiv b ≤ a := by
    rw [Int.tdiv_eq_ediv_of_nonneg h.1]
    exact Int.ediv_le_self _ h.1
  exact ⟨by omega, by omega⟩
