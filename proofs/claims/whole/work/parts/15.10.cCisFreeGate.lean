set_option maxRecDepth 100000 in
set_option maxHeartbeats 4000000 in
theorem cC_isFreeGate (h : Int) (x m : sd_M) (hx : sd_ns x m)  (hh : 0 ≤ h ∧ h < 24) : sd_Cp sd_SC 0 sY1_isFreeGate [.inr 13, .inl h] m (.inl (sd_b (x (10 + h.toNat) = 3 ∧ x (202 + h.toNat) = 0))) := by
  refine sd_ct rfl (Nat.le_of_ble_eq_true rfl) (fun hok hm => ?_)
  have r_h : sd_R h := hok (.inl h) (by simp)
  show sd_Wp sd_SC 0 sY1_isFreeGate 0 [some (.inr 13), some (.inl h)] [] m _
  refine sd_aload_n sD1_isFreeGate_0 rfl ?_
  refine sd_getfr sD1_isFreeGate_1 sF1_18 sGC13_2 ?_
  refine sd_iload_n sD1_isFreeGate_4 rfl ?_
  refine sd_ialdx (a := (10 + h.toNat)) (v := x (10 + h.toNat)) hx sD1_isFreeGate_5 sAC0 (by omega) rfl ?_
  refine sd_iconst sD1_isFreeGate_6 (by decide) ?_
  refine sd_icmp_ne (tgt := 23) sD1_isFreeGate_7 (by decide) (fun zc7 => ?_) (fun zc7 => ?_)
  ·
    refine sd_iconst sD1_isFreeGate_23 (by decide) ?_
    refine sd_zretp sD1_isFreeGate_24 rfl (by decide) ?_
    exact (sd_b0 (by omega)).symm
  ·
    refine sd_aload_n sD1_isFreeGate_10 rfl ?_
    refine sd_getfr sD1_isFreeGate_11 sF1_43 sGC13_10 ?_
    refine sd_iload_n sD1_isFreeGate_14 rfl ?_
    refine sd_ialdx (a := (202 + h.toNat)) (v := x (202 + h.toNat)) hx sD1_isFreeGate_15 sAC8 (by omega) rfl ?_
    refine sd_if_ne (tgt := 23) sD1_isFreeGate_16 (by decide) (fun zc16 => ?_) (fun zc16 => ?_)
    ·
      refine sd_iconst sD1_isFreeGate_23 (by decide) ?_
      refine sd_zretp sD1_isFreeGate_24 rfl (by decide) ?_
      exact (sd_b0 (by omega)).symm
    ·
      refine sd_iconst sD1_isFreeGate_19 (by decide) ?_
      refine sd_goto (tgt := 24) sD1_isFreeGate_20 (by decide) ?_
      refine sd_zretp sD1_isFreeGate_24 rfl (by decide) ?_
      exact (sd_b1 (by omega)).symm
