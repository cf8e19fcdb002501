set_option maxRecDepth 100000 in
set_option maxHeartbeats 4000000 in
theorem cC_letsIn (k : Int) (n : Int) (x m : sd_M) (hx : sd_ns x m) (h2 : sd_I2 x) (hk : 0 ≤ k ∧ k < 24) (hn : 0 ≤ n ∧ n ≤ 9) : sd_Cp sd_SC 0 sY1_letsIn [.inr 13, .inl k, .inl n] m (.inl (sd_b (x (178 + k.toNat) + n ≤ x (34 + k.toNat) ∧ x (154 + k.toNat) + n ≤ 99))) := by
  refine sd_ct rfl (Nat.le_of_ble_eq_true rfl) (fun hok hm => ?_)
  have r_k : sd_R k := hok (.inl k) (by simp)
  have r_n : sd_R n := hok (.inl n) (by simp)
  have e2 := h2 k.toNat (by omega)
  show sd_Wp sd_SC 0 sY1_letsIn 0 [some (.inr 13), some (.inl k), some (.inl n)] [] m _
  refine sd_aload_n sD1_letsIn_0 rfl ?_
  refine sd_getfr sD1_letsIn_1 sF1_40 sGC13_9 ?_
  refine sd_iload_n sD1_letsIn_4 rfl ?_
  refine sd_ialdx (a := (178 + k.toNat)) (v := x (178 + k.toNat)) hx sD1_letsIn_5 sAC7 (by omega) rfl ?_
  refine sd_iload_n sD1_letsIn_6 rfl ?_
  refine sd_iadd (z := (x (178 + k.toNat) + n)) sD1_letsIn_7 (by omega) (by omega) ?_
  refine sd_aload_n sD1_letsIn_8 rfl ?_
  refine sd_getfr sD1_letsIn_9 sF1_22 sGC13_3 ?_
  refine sd_iload_n sD1_letsIn_12 rfl ?_
  refine sd_ialdx (a := (34 + k.toNat)) (v := x (34 + k.toNat)) hx sD1_letsIn_13 sAC1 (by omega) rfl ?_
  refine sd_icmp_gt (tgt := 34) sD1_letsIn_14 (by decide) (fun zc14 => ?_) (fun zc14 => ?_)
  ·
    refine sd_iconst sD1_letsIn_34 (by decide) ?_
    refine sd_zretp sD1_letsIn_35 rfl (by decide) ?_
    exact (sd_b0 (by omega)).symm
  ·
    refine sd_aload_n sD1_letsIn_17 rfl ?_
    refine sd_getfr sD1_letsIn_18 sF1_37 sGC13_8 ?_
    refine sd_iload_n sD1_letsIn_21 rfl ?_
    refine sd_ialdx (a := (154 + k.toNat)) (v := x (154 + k.toNat)) hx sD1_letsIn_22 sAC6 (by omega) rfl ?_
    refine sd_iload_n sD1_letsIn_23 rfl ?_
    refine sd_iadd (z := (x (154 + k.toNat) + n)) sD1_letsIn_24 (by omega) (by omega) ?_
    refine sd_bipush sD1_letsIn_25 rfl (by decide) ?_
    refine sd_icmp_gt (tgt := 34) sD1_letsIn_27 (by decide) (fun zc27 => ?_) (fun zc27 => ?_)
    ·
      refine sd_iconst sD1_letsIn_34 (by decide) ?_
      refine sd_zretp sD1_letsIn_35 rfl (by decide) ?_
      exact (sd_b0 (by omega)).symm
    ·
      refine sd_iconst sD1_letsIn_30 (by decide) ?_
      refine sd_goto (tgt := 35) sD1_letsIn_31 (by decide) ?_
      refine sd_zretp sD1_letsIn_35 rfl (by decide) ?_
      exact (sd_b1 (by omega)).symm
