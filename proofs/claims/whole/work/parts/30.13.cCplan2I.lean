theorem cC_plan2I (w v n : Int) (x m : sd_M) (hx : sd_ns x m) (h9 : sd_L9 x) (hw : 1 ≤ w ∧ w ≤ 99) (hv : 1 ≤ v ∧ v ≤ 99) (hn : 1 ≤ n ∧ n ≤ 5) (hk : ∀ q, q < n.toNat → 0 ≤ sd_pl8 x 2 q ∧ sd_pl8 x 2 q ≤ 2) : sd_Ct sd_SC 16 sY0_playAsPlanned [.inr 49, .inr 112, .inl n, .inl w, .inl v] m (fun r m' => r = some (.inl (sd_pv x (sd_pl8 x 2) n.toNat n.toNat w v)) ∧ sd_ns x m') := by
  obtain ⟨i, rfl⟩ := Int.eq_ofNat_of_zero_le (show 0 ≤ n by omega)
  exact cC_plan2 w v i x m hx h9 hw hv (by omega) hk
