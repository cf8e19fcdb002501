theorem cC_bitCount (s : Int) (m : sd_M) (hs : 0 ≤ s ∧ s < 16777216) : sd_Cp sd_SC 0 sYJ6_bitCount_0f7a4 [.inl s] m (.inl (sd_ones s)) := by
  obtain ⟨n, rfl⟩ := Int.eq_ofNat_of_zero_le hs.1
  have e : n = 65536 * (n / 65536) + 256 * (n / 256 % 256) + n % 256 := by omega
  have h := cC_bitCountN (n % 256) (n / 256 % 256) (n / 65536) (by omega) (by omega) (by omega) m
  rw [← e] at h
  exact h
theorem sd_ones_rng (s : Int) : 0 ≤ sd_ones s ∧ sd_ones s ≤ 30 := by
  have := sd_cnt_le (sd_Pbt s) 30
  unfold sd_ones
  omega
