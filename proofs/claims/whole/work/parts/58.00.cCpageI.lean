theorem cC_pageI (d : Int) (hd : 0 ≤ d ∧ d < 40) (S : Int) (hS : 0 ≤ S ∧ S < 16777216) (x m : sd_M) (hx : sd_ns x m) (hJ0 : sd_J x) : sd_Ct sd_SC 2 sY6_writePage [.inr 53, .inl d, .inl S] m (fun r m' => r = none ∧ sd_ns (sd_pag x d.toNat (sd_ones S)) m') := by
  obtain ⟨i, rfl⟩ := Int.eq_ofNat_of_zero_le hd.1
  exact cC_page i (by omega) S hS x m hx hJ0
theorem cM_pageI (d pl : Int) (hd : 0 ≤ d ∧ d < 40) (hpl : pl = 1314 + 6 * d) (c : Int) (x m : sd_M) (hx : sd_ns x m) (hJ0 : sd_J x) : sd_Ct sd_SM 2 sY11_writes [.inr 15, .inl pl, .inl c] m (fun r m' => r = none ∧ sd_ns (sd_pag x d.toNat c) m') := by
  obtain ⟨i, rfl⟩ := Int.eq_ofNat_of_zero_le hd.1
  rw [show pl = ((1314 + (i * 6) : Nat) : Int) from by omega]
  exact cM_page i (by omega) c x m hx hJ0
