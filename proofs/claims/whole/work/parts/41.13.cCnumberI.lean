theorem cC_numberI (h w : Int) (x m : sd_M) (hx : sd_ns x m) (h1 : sd_I1 x) (hh : 0 ≤ h ∧ h < 24) : sd_Cp sd_SC 0 sY1_number [.inr 13, .inl h, .inl w] m (.inl (sd_num x h.toNat w)) := by
  obtain ⟨i, rfl⟩ := Int.eq_ofNat_of_zero_le hh.1
  exact cC_number i w x m hx h1 (by omega)
