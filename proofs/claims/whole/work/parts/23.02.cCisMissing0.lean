set_option maxRecDepth 100000 in
set_option maxHeartbeats 4000000 in
theorem cC_isMissing0 (x m : sd_M) (hx : sd_ns x m)  : sd_Cp sd_SC 0 sY5_isMissing [.inr 109] m (.inl (sd_b (x 4250 = 0))) := by
  refine sd_ct rfl (Nat.le_of_ble_eq_true rfl) (fun hok hm => ?_)
  show sd_Wp sd_SC 0 sY5_isMissing 0 [some (.inr 109)] [] m _
  refine sd_aload_n sD5_isMissing_0 rfl ?_
  refine sd_getfx (v := x 4250) hx sD5_isMissing_1 sF5_9 sGC109_0 (by decide) rfl ?_
  refine sd_if_ne (tgt := 11) sD5_isMissing_4 (by decide) (fun zc4 => ?_) (fun zc4 => ?_)
  ·
    refine sd_iconst sD5_isMissing_11 (by decide) ?_
    refine sd_zretp sD5_isMissing_12 rfl (by decide) ?_
    exact (sd_b0 (by omega)).symm
  ·
    refine sd_iconst sD5_isMissing_7 (by decide) ?_
    refine sd_goto (tgt := 12) sD5_isMissing_8 (by decide) ?_
    refine sd_zretp sD5_isMissing_12 rfl (by decide) ?_
    exact (sd_b1 (by omega)).symm
