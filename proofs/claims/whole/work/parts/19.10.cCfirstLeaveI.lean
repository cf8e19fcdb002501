theorem cC_firstLeaveI (j : Int) (x m : sd_M) (hx : sd_ns x m) (h1 : sd_I1 x) (h2 : sd_I2 x) (h4 : sd_I4 x) (hj : 0 ≤ j ∧ j < 16) (hs : 0 ≤ x (322 + j.toNat)) : sd_Cp sd_SC 2 sY6_firstLeave [.inr 53, .inl j] m (.inl (sd_fv x j.toNat)) := by
  obtain ⟨i, rfl⟩ := Int.eq_ofNat_of_zero_le hj.1
  exact cC_firstLeave i x m hx h1 h2 h4 (by omega) hs
