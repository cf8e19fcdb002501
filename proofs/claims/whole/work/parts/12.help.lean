set_option maxRecDepth 100000 in
set_option maxHeartbeats 4000000 in
theorem cC_isWithin (v lo hi : Int) (m : sd_M) : sd_Cp sd_SC 0 sY10_isWithin [.inl v, .inl lo, .inl hi] m (.inl (sd_b (lo ≤ v ∧ v ≤ hi))) := by
  refine sd_ct rfl (Nat.le_of_ble_eq_true rfl) (fun hok hm => ?_)
  show sd_Wp sd_SC 0 sY10_isWithin 0 [some (.inl v), some (.inl lo), some (.inl hi)] [] m _
  refine sd_iload_n sD10_isWithin_0 rfl ?_
  refine sd_iload_n sD10_isWithin_1 rfl ?_
  refine sd_icmp_lt (tgt := 14) sD10_isWithin_2 (by decide) (fun zc2 => ?_) (fun zc2 => ?_)
  ·
    refine sd_iconst sD10_isWithin_14 (by decide) ?_
    refine sd_zretp sD10_isWithin_15 rfl (by decide) ?_
    first | exact (sd_b1 (by omega)).symm | exact (sd_b0 (by omega)).symm
  ·
    refine sd_iload_n sD10_isWithin_5 rfl ?_
    refine sd_iload_n sD10_isWithin_6 rfl ?_
    refine sd_icmp_gt (tgt := 14) sD10_isWithin_7 (by decide) (fun zc7 => ?_) (fun zc7 => ?_)
    ·
      refine sd_iconst sD10_isWithin_14 (by decide) ?_
      refine sd_zretp sD10_isWithin_15 rfl (by decide) ?_
      first | exact (sd_b1 (by omega)).symm | exact (sd_b0 (by omega)).symm
    ·
      refine sd_iconst sD10_isWithin_10 (by decide) ?_
      refine sd_goto (tgt := 15) sD10_isWithin_11 (by decide) ?_
      refine sd_zretp sD10_isWithin_15 rfl (by decide) ?_
      first | exact (sd_b1 (by omega)).symm | exact (sd_b0 (by omega)).symm

set_option maxRecDepth 100000 in
set_option maxHeartbeats 4000000 in
theorem cM_in (v lo hi : Int) (m : sd_M) : sd_Cp sd_SM 0 sY11_in [.inl v, .inl lo, .inl hi] m (.inl (sd_b (lo ≤ v ∧ v ≤ hi))) := by
  refine sd_ct rfl (Nat.le_of_ble_eq_true rfl) (fun hok hm => ?_)
  show sd_Wp sd_SM 0 sY11_in 0 [some (.inl v), some (.inl lo), some (.inl hi)] [] m _
  refine sd_iload_n sD11_in_0 rfl ?_
  refine sd_iload_n sD11_in_1 rfl ?_
  refine sd_icmp_lt (tgt := 14) sD11_in_2 (by decide) (fun zc2 => ?_) (fun zc2 => ?_)
  ·
    refine sd_iconst sD11_in_14 (by decide) ?_
    refine sd_zretp sD11_in_15 rfl (by decide) ?_
    first | exact (sd_b1 (by omega)).symm | exact (sd_b0 (by omega)).symm
  ·
    refine sd_iload_n sD11_in_5 rfl ?_
    refine sd_iload_n sD11_in_6 rfl ?_
    refine sd_icmp_gt (tgt := 14) sD11_in_7 (by decide) (fun zc7 => ?_) (fun zc7 => ?_)
    ·
      refine sd_iconst sD11_in_14 (by decide) ?_
      refine sd_zretp sD11_in_15 rfl (by decide) ?_
      first | exact (sd_b1 (by omega)).symm | exact (sd_b0 (by omega)).symm
    ·
      refine sd_iconst sD11_in_10 (by decide) ?_
      refine sd_goto (tgt := 15) sD11_in_11 (by decide) ?_
      refine sd_zretp sD11_in_15 rfl (by decide) ?_
      first | exact (sd_b1 (by omega)).symm | exact (sd_b0 (by omega)).symm

set_option maxRecDepth 100000 in
set_option maxHeartbeats 4000000 in
theorem cC_asNumber (P : Prop) [Decidable P] (m : sd_M) : sd_Cp sd_SC 0 sY10_asNumber [.inl (sd_b P)] m (.inl (sd_b P)) := by
  refine sd_ct rfl (Nat.le_of_ble_eq_true rfl) (fun hok hm => ?_)
  show sd_Wp sd_SC 0 sY10_asNumber 0 [some (.inl (sd_b P))] [] m _
  refine sd_iload_n sD10_asNumber_0 rfl ?_
  refine sd_bif_eq (tgt := 8) sD10_asNumber_1 (by decide) (fun zc1 => ?_) (fun zc1 => ?_)
  ·
    refine sd_iconst sD10_asNumber_8 (by decide) ?_
    refine sd_iretp sD10_asNumber_9 rfl ?_
    first | exact (sd_b1 (by assumption)).symm | exact (sd_b0 (by assumption)).symm
  ·
    refine sd_iconst sD10_asNumber_4 (by decide) ?_
    refine sd_goto (tgt := 9) sD10_asNumber_5 (by decide) ?_
    refine sd_iretp sD10_asNumber_9 rfl ?_
    first | exact (sd_b1 (by assumption)).symm | exact (sd_b0 (by assumption)).symm

set_option maxRecDepth 100000 in
set_option maxHeartbeats 4000000 in
theorem cC_isIn (a b : Int) (m : sd_M) : sd_Cp sd_SC 0 sY10_isIn [.inl a, .inl b] m (.inl (sd_b (sd_and (sd_shr a b) 1 = 1))) := by
  refine sd_ct rfl (Nat.le_of_ble_eq_true rfl) (fun hok hm => ?_)
  show sd_Wp sd_SC 0 sY10_isIn 0 [some (.inl a), some (.inl b)] [] m _
  refine sd_iload_n sD10_isIn_0 rfl ?_
  refine sd_iload_n sD10_isIn_1 rfl ?_
  refine sd_ishr sD10_isIn_2 ?_
  refine sd_iconst sD10_isIn_3 (by decide) ?_
  refine sd_iand sD10_isIn_4 ?_
  refine sd_iconst sD10_isIn_5 (by decide) ?_
  refine sd_icmp_ne (tgt := 13) sD10_isIn_6 (by decide) (fun zc6 => ?_) (fun zc6 => ?_)
  ·
    refine sd_iconst sD10_isIn_13 (by decide) ?_
    refine sd_zretp sD10_isIn_14 rfl (by decide) ?_
    first | exact (sd_b1 (by assumption)).symm | exact (sd_b0 (by assumption)).symm
  ·
    refine sd_iconst sD10_isIn_9 (by decide) ?_
    refine sd_goto (tgt := 14) sD10_isIn_10 (by decide) ?_
    refine sd_zretp sD10_isIn_14 rfl (by decide) ?_
    first | exact (sd_b1 (by assumption)).symm | exact (sd_b0 (by assumption)).symm
