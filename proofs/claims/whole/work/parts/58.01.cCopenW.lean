set_option maxRecDepth 100000 in
set_option maxHeartbeats 4000000 in
theorem cC_openW (x m : sd_M) (hx : sd_ns x m) : sd_Ct sd_SC 1 sY1_openWindows [.inr 13] m (fun r m' => r = none ∧ sd_ns (sd_fil x 178 24 0) m') := by
  refine sd_ct rfl (Nat.le_of_ble_eq_true rfl) (fun hok hm => ?_)
  show sd_Wp sd_SC 1 sY1_openWindows 0 [some (.inr 13)] [] m _
  refine sd_aload_n sD1_openWindows_0 rfl ?_
  refine sd_getfr sD1_openWindows_1 sF1_40 sGC13_9 ?_
  refine sd_iconst sD1_openWindows_4 (by decide) ?_
  refine sd_callN (as := [.inr 7, .inl 0]) (st := []) sD1_openWindows_5 sM1_92 rfl rfl (by decide) (Nat.le_of_ble_eq_true rfl) (cC_fill sAC7 (by decide) 0 m) (fun r m hq ho5 hm => ?_)
  obtain ⟨rfl, hfil5⟩ := hq
  have hx : sd_ns (sd_fil x 178 24 0) m := by rw [hfil5]; exact hx.fil _ _ _
  show sd_Wp sd_SC 1 sY1_openWindows 8 [some (.inr 13)] [] m _
  refine sd_vreturn sD1_openWindows_8 rfl (fun hm => ?_)
  exact ⟨rfl, hx⟩
