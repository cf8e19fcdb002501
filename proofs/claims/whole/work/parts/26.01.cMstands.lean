set_option maxRecDepth 100000 in
set_option maxHeartbeats 4000000 in
theorem cM_stands (w : Int) (v : Int) (x m : sd_M) (hx : sd_ns x m)  : sd_Cp sd_SM 0 sY11_stands [.inl w, .inl v] m (.inl (sd_std w v)) := by
  refine sd_ct rfl (Nat.le_of_ble_eq_true rfl) (fun hok hm => ?_)
  have r_w : sd_R w := hok (.inl w) (by simp)
  have r_v : sd_R v := hok (.inl v) (by simp)
  show sd_Wp sd_SM 0 sY11_stands 0 [some (.inl w), some (.inl v)] [] m _
  refine sd_iload_n sD11_stands_0 rfl ?_
  refine sd_if_gt (tgt := 8) sD11_stands_1 (by decide) (fun zc1 => ?_) (fun zc1 => ?_)
  ·
    refine sd_iload_n sD11_stands_8 rfl ?_
    refine sd_if_gt (tgt := 16) sD11_stands_9 (by decide) (fun zc9 => ?_) (fun zc9 => ?_)
    ·
      refine sd_iconst sD11_stands_16 (by decide) ?_
      refine sd_iretp sD11_stands_17 rfl ?_
      (unfold sd_std; repeat (first | rw [if_pos (by omega)] | rw [if_neg (by omega)]))
    ·
      refine sd_iconst sD11_stands_12 (by decide) ?_
      refine sd_goto (tgt := 17) sD11_stands_13 (by decide) ?_
      refine sd_iretp sD11_stands_17 rfl ?_
      (unfold sd_std; repeat (first | rw [if_pos (by omega)] | rw [if_neg (by omega)]))
  ·
    refine sd_iconst sD11_stands_4 (by decide) ?_
    refine sd_goto (tgt := 17) sD11_stands_5 (by decide) ?_
    refine sd_iretp sD11_stands_17 rfl ?_
    (unfold sd_std; repeat (first | rw [if_pos (by omega)] | rw [if_neg (by omega)]))
