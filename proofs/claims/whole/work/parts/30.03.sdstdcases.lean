theorem sd_std_cases (w o : Int) : (w ≤ 0 ∧ sd_std w o = -1) ∨ (0 < w ∧ o ≤ 0 ∧ sd_std w o = 1) ∨ (0 < w ∧ 0 < o ∧ sd_std w o = 0) := by
  unfold sd_std
  by_cases h1 : w ≤ 0
  · rw [if_pos h1]; omega
  · by_cases h2 : o ≤ 0
    · rw [if_neg h1, if_pos h2]; omega
    · rw [if_neg h1, if_neg h2]; omega
