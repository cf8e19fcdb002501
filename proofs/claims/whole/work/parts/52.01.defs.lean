def sd_weS (y : sd_M) (i : Nat) : sd_M := if sd_isA y (i : Int) 1 then (if sd_wth y (i : Int) (y (82 + i)) ≤ 1 ∧ sd_pip (sd_up y (82 + i) (sd_wth y (i : Int) (y (82 + i)))) (i : Int) 1 then sd_up (sd_up y (82 + i) (sd_wth y (i : Int) (y (82 + i)))) (106 + i) 1 else sd_up y (82 + i) (sd_wth y (i : Int) (y (82 + i)))) else y
def sd_wea (x : sd_M) : Nat → sd_M
  | 0 => x
  | n + 1 => sd_weS (sd_wea x n) n
theorem sd_weS_J {y : sd_M} (h : sd_J y) {i : Nat} (hi : i < 24) : sd_J (sd_weS y i) := by
  have r := sd_wth_rng h.1 (i : Int) (w := y (82 + i)) (h.2.1 i hi).2.2.2.1
  unfold sd_weS
  split
  · split
    · exact (h.warm hi r).flood hi ⟨by omega, by omega⟩
    · exact h.warm hi r
  · exact h
theorem sd_weS_2 (y : sd_M) (i : Nat) (hi : i < 24) : sd_weS y i 2 = y 2 ∧ sd_weS y i 3 = y 3 ∧ sd_weS y i 0 = y 0 ∧ sd_weS y i 1 = y 1 := by
  unfold sd_weS
  split
  · split
    · refine ⟨?_, ?_, ?_, ?_⟩ <;> rw [sd_up_ne (by omega), sd_up_ne (by omega)]
    · refine ⟨?_, ?_, ?_, ?_⟩ <;> rw [sd_up_ne (by omega)]
  · exact ⟨rfl, rfl, rfl, rfl⟩
theorem sd_wea_J {x : sd_M} (h : sd_J x) (n : Nat) (hn : n ≤ 24) : sd_J (sd_wea x n) ∧ sd_wea x n 2 = x 2 ∧ sd_wea x n 3 = x 3 ∧ sd_wea x n 0 = x 0 ∧ sd_wea x n 1 = x 1 := by
  induction n with
  | zero => exact ⟨h, rfl, rfl, rfl, rfl⟩
  | succ n ih =>
    obtain ⟨a, b, c, d, e⟩ := ih (by omega)
    have z := sd_weS_2 (sd_wea x n) n (by omega)
    refine ⟨sd_weS_J a (by omega), ?_, ?_, ?_, ?_⟩
    · exact z.1.trans b
    · exact z.2.1.trans c
    · exact z.2.2.1.trans d
    · exact z.2.2.2.trans e
