theorem cC_hoursI (w : Int) (k : Nat → Int) (x m : sd_M) (hx : sd_ns x m) (h1 : sd_I1 x) (h5 : sd_I5 x) (hk : sd_kr k) (hmd : ∀ p, p < 6 → m (5010 + p) = k p) (hw : 0 ≤ w ∧ w < x 4) : sd_Ct sd_SC 2 sY9_hoursTillItStands [.inr 23, .inl w, .inr 52] m (fun q m' => q = some (.inl (sd_fh x k w.toNat)) ∧ sd_ns x m' ∧ (¬ sd_fh x k w.toNat = -1 → m' (5020 + w.toNat) = sd_lkA x k w.toNat (sd_fh x k w.toNat).toNat)) := by
  obtain ⟨i, rfl⟩ := Int.eq_ofNat_of_zero_le hw.1
  exact cC_hours i k x m hx h1 h5 hk hmd hw.2
