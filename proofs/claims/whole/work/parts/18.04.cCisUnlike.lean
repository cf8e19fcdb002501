set_option maxRecDepth 100000 in
set_option maxHeartbeats 4000000 in
theorem cC_isUnlike (h : Int) (x m : sd_M) (hx : sd_ns x m)  (hh : 0 ≤ h ∧ h < 24) : sd_Cp sd_SC 0 sY1_isUnlike [.inr 13, .inl h] m (.inl (sd_b ((¬ x (274 + h.toNat) = x (34 + h.toNat)) ∨ ¬ x (298 + h.toNat) = x (58 + h.toNat)))) := by
  refine sd_ct rfl (Nat.le_of_ble_eq_true rfl) (fun hok hm => ?_)
  have r_h : sd_R h := hok (.inl h) (by simp)
  show sd_Wp sd_SC 0 sY1_isUnlike 0 [some (.inr 13), some (.inl h)] [] m _
  refine sd_aload_n sD1_isUnlike_0 rfl ?_
  refine sd_getfr sD1_isUnlike_1 sF1_52 sGC13_13 ?_
  refine sd_iload_n sD1_isUnlike_4 rfl ?_
  refine sd_ialdx (a := (274 + h.toNat)) (v := x (274 + h.toNat)) hx sD1_isUnlike_5 sAC11 (by omega) rfl ?_
  refine sd_aload_n sD1_isUnlike_6 rfl ?_
  refine sd_getfr sD1_isUnlike_7 sF1_22 sGC13_3 ?_
  refine sd_iload_n sD1_isUnlike_10 rfl ?_
  refine sd_ialdx (a := (34 + h.toNat)) (v := x (34 + h.toNat)) hx sD1_isUnlike_11 sAC1 (by omega) rfl ?_
  refine sd_icmp_ne (tgt := 30) sD1_isUnlike_12 (by decide) (fun zc12 => ?_) (fun zc12 => ?_)
  ·
    refine sd_iconst sD1_isUnlike_30 (by decide) ?_
    refine sd_goto (tgt := 35) sD1_isUnlike_31 (by decide) ?_
    refine sd_zretp sD1_isUnlike_35 rfl (by decide) ?_
    exact (sd_b1 (by omega)).symm
  ·
    refine sd_aload_n sD1_isUnlike_15 rfl ?_
    refine sd_getfr sD1_isUnlike_16 sF1_55 sGC13_14 ?_
    refine sd_iload_n sD1_isUnlike_19 rfl ?_
    refine sd_ialdx (a := (298 + h.toNat)) (v := x (298 + h.toNat)) hx sD1_isUnlike_20 sAC12 (by omega) rfl ?_
    refine sd_aload_n sD1_isUnlike_21 rfl ?_
    refine sd_getfr sD1_isUnlike_22 sF1_25 sGC13_4 ?_
    refine sd_iload_n sD1_isUnlike_25 rfl ?_
    refine sd_ialdx (a := (58 + h.toNat)) (v := x (58 + h.toNat)) hx sD1_isUnlike_26 sAC2 (by omega) rfl ?_
    refine sd_icmp_eq (tgt := 34) sD1_isUnlike_27 (by decide) (fun zc27 => ?_) (fun zc27 => ?_)
    ·
      refine sd_iconst sD1_isUnlike_34 (by decide) ?_
      refine sd_zretp sD1_isUnlike_35 rfl (by decide) ?_
      exact (sd_b0 (by omega)).symm
    ·
      refine sd_iconst sD1_isUnlike_30 (by decide) ?_
      refine sd_goto (tgt := 35) sD1_isUnlike_31 (by decide) ?_
      refine sd_zretp sD1_isUnlike_35 rfl (by decide) ?_
      exact (sd_b1 (by omega)).symm
