set_option maxRecDepth 100000 in
set_option maxHeartbeats 4000000 in
theorem cC_hasNumbers3 (f : Int) (n : Int) (x m : sd_M) (hx : sd_ns x m)  (hz : 0 ≤ x 8103 ∧ x 8103 ≤ 12) : sd_Cp sd_SC 0 sY5_hasNumbers [.inr 115, .inl f, .inl n] m (.inl (sd_b (0 ≤ f ∧ 0 ≤ n ∧ f ≤ x 8103 ∧ n ≤ x 8103 - f))) := by
  refine sd_ct rfl (Nat.le_of_ble_eq_true rfl) (fun hok hm => ?_)
  have r_f : sd_R f := hok (.inl f) (by simp)
  have r_n : sd_R n := hok (.inl n) (by simp)
  show sd_Wp sd_SC 0 sY5_hasNumbers 0 [some (.inr 115), some (.inl f), some (.inl n)] [] m _
  refine sd_iload_n sD5_hasNumbers_0 rfl ?_
  refine sd_if_lt (tgt := 30) sD5_hasNumbers_1 (by decide) (fun zc1 => ?_) (fun zc1 => ?_)
  ·
    refine sd_iconst sD5_hasNumbers_30 (by decide) ?_
    refine sd_zretp sD5_hasNumbers_31 rfl (by decide) ?_
    exact (sd_b0 (by omega)).symm
  ·
    refine sd_iload_n sD5_hasNumbers_4 rfl ?_
    refine sd_if_lt (tgt := 30) sD5_hasNumbers_5 (by decide) (fun zc5 => ?_) (fun zc5 => ?_)
    ·
      refine sd_iconst sD5_hasNumbers_30 (by decide) ?_
      refine sd_zretp sD5_hasNumbers_31 rfl (by decide) ?_
      exact (sd_b0 (by omega)).symm
    ·
      refine sd_iload_n sD5_hasNumbers_8 rfl ?_
      refine sd_aload_n sD5_hasNumbers_9 rfl ?_
      refine sd_getfx (v := x 8103) hx sD5_hasNumbers_10 sF5_15 sGC115_1 (by decide) rfl ?_
      refine sd_icmp_gt (tgt := 30) sD5_hasNumbers_13 (by decide) (fun zc13 => ?_) (fun zc13 => ?_)
      ·
        refine sd_iconst sD5_hasNumbers_30 (by decide) ?_
        refine sd_zretp sD5_hasNumbers_31 rfl (by decide) ?_
        exact (sd_b0 (by omega)).symm
      ·
        refine sd_iload_n sD5_hasNumbers_16 rfl ?_
        refine sd_aload_n sD5_hasNumbers_17 rfl ?_
        refine sd_getfx (v := x 8103) hx sD5_hasNumbers_18 sF5_15 sGC115_1 (by decide) rfl ?_
        refine sd_iload_n sD5_hasNumbers_21 rfl ?_
        refine sd_isub (z := (x 8103 - f)) sD5_hasNumbers_22 (by omega) (by omega) ?_
        refine sd_icmp_gt (tgt := 30) sD5_hasNumbers_23 (by decide) (fun zc23 => ?_) (fun zc23 => ?_)
        ·
          refine sd_iconst sD5_hasNumbers_30 (by decide) ?_
          refine sd_zretp sD5_hasNumbers_31 rfl (by decide) ?_
          exact (sd_b0 (by omega)).symm
        ·
          refine sd_iconst sD5_hasNumbers_26 (by decide) ?_
          refine sd_goto (tgt := 31) sD5_hasNumbers_27 (by decide) ?_
          refine sd_zretp sD5_hasNumbers_31 rfl (by decide) ?_
          exact (sd_b1 (by omega)).symm
