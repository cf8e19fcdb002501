set_option maxRecDepth 100000 in
set_option maxHeartbeats 4000000 in
theorem cC_isInForce (t : Int) (h : Int) (x m : sd_M) (hx : sd_ns x m) (h6 : sd_I6 x) (ht : 0 ≤ t ∧ t < 8) (hh : h = x 0) : sd_Cp sd_SC 0 sY8_isInForce [.inr 36, .inl t, .inl h] m (.inl (sd_b (sd_inF x t.toNat h))) := by
  refine sd_ct rfl (Nat.le_of_ble_eq_true rfl) (fun hok hm => ?_)
  have r_t : sd_R t := hok (.inl t) (by simp)
  have r_h : sd_R h := hok (.inl h) (by simp)
  have e6 := (h6.1 t.toNat (by omega)).1
  have e7 := h6.2 (x (428 + t.toNat)).toNat (by omega)
  show sd_Wp sd_SC 0 sY8_isInForce 0 [some (.inr 36), some (.inl t), some (.inl h)] [] m _
  refine sd_aload_n sD8_isInForce_0 rfl ?_
  refine sd_getfr sD8_isInForce_1 sF8_49 sGC36_12 ?_
  refine sd_aload_n sD8_isInForce_4 rfl ?_
  refine sd_getfr sD8_isInForce_5 sF8_15 sGC36_1 ?_
  refine sd_iload_n sD8_isInForce_8 rfl ?_
  refine sd_ialdx (a := (428 + t.toNat)) (v := x (428 + t.toNat)) hx sD8_isInForce_9 sAC24 (by omega) rfl ?_
  refine sd_ialdx (a := (1268 + ((x (428 + t.toNat)).toNat))) (v := x (1268 + ((x (428 + t.toNat)).toNat))) hx sD8_isInForce_10 sAC35 (by omega) rfl ?_
  refine sd_iconst sD8_isInForce_11 (by decide) ?_
  refine sd_icmp_ne (tgt := 39) sD8_isInForce_12 (by decide) (fun zc12 => ?_) (fun zc12 => ?_)
  ·
    refine sd_iconst sD8_isInForce_39 (by decide) ?_
    refine sd_zretp sD8_isInForce_40 rfl (by decide) ?_
    exact (sd_b0 (by omega)).symm
  ·
    refine sd_aload_n sD8_isInForce_15 rfl ?_
    refine sd_getfr sD8_isInForce_16 sF8_19 sGC36_2 ?_
    refine sd_iload_n sD8_isInForce_19 rfl ?_
    refine sd_ialdx (a := (436 + t.toNat)) (v := x (436 + t.toNat)) hx sD8_isInForce_20 sAC25 (by omega) rfl ?_
    refine sd_iload_n sD8_isInForce_21 rfl ?_
    refine sd_icmp_gt (tgt := 39) sD8_isInForce_22 (by decide) (fun zc22 => ?_) (fun zc22 => ?_)
    ·
      refine sd_iconst sD8_isInForce_39 (by decide) ?_
      refine sd_zretp sD8_isInForce_40 rfl (by decide) ?_
      exact (sd_b0 (by omega)).symm
    ·
      refine sd_iload_n sD8_isInForce_25 rfl ?_
      refine sd_aload_n sD8_isInForce_26 rfl ?_
      refine sd_getfr sD8_isInForce_27 sF8_22 sGC36_3 ?_
      refine sd_iload_n sD8_isInForce_30 rfl ?_
      refine sd_ialdx (a := (444 + t.toNat)) (v := x (444 + t.toNat)) hx sD8_isInForce_31 sAC26 (by omega) rfl ?_
      refine sd_icmp_gt (tgt := 39) sD8_isInForce_32 (by decide) (fun zc32 => ?_) (fun zc32 => ?_)
      ·
        refine sd_iconst sD8_isInForce_39 (by decide) ?_
        refine sd_zretp sD8_isInForce_40 rfl (by decide) ?_
        exact (sd_b0 (by omega)).symm
      ·
        refine sd_iconst sD8_isInForce_35 (by decide) ?_
        refine sd_goto (tgt := 40) sD8_isInForce_36 (by decide) ?_
        refine sd_zretp sD8_isInForce_40 rfl (by decide) ?_
        exact (sd_b1 (by omega)).symm
