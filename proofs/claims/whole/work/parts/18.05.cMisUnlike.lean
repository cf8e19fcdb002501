set_option maxRecDepth 100000 in
set_option maxHeartbeats 4000000 in
theorem cM_isUnlike (h : Int) (x m : sd_M) (hx : sd_ns x m)  (hh : 0 ≤ h ∧ h < 24) : sd_Cp sd_SM 0 sY11_isUnlike [.inr 15, .inl h] m (.inl (sd_b ((¬ x (274 + h.toNat) = x (34 + h.toNat)) ∨ ¬ x (298 + h.toNat) = x (58 + h.toNat)))) := by
  refine sd_ct rfl (Nat.le_of_ble_eq_true rfl) (fun hok hm => ?_)
  have r_h : sd_R h := hok (.inl h) (by simp)
  show sd_Wp sd_SM 0 sY11_isUnlike 0 [some (.inr 15), some (.inl h)] [] m _
  refine sd_aload_n sD11_isUnlike_0 rfl ?_
  refine sd_getfr sD11_isUnlike_1 sF11_7 sGM15_0 ?_
  refine sd_sipush sD11_isUnlike_4 rfl (by decide) ?_
  refine sd_iload_n sD11_isUnlike_7 rfl ?_
  refine sd_iadd (z := (274 + h)) sD11_isUnlike_8 (by omega) (by omega) ?_
  refine sd_ialdx (a := (274 + h.toNat)) (v := x (274 + h.toNat)) hx sD11_isUnlike_9 sAM0 (by omega) rfl ?_
  refine sd_aload_n sD11_isUnlike_10 rfl ?_
  refine sd_getfr sD11_isUnlike_11 sF11_7 sGM15_0 ?_
  refine sd_bipush sD11_isUnlike_14 rfl (by decide) ?_
  refine sd_iload_n sD11_isUnlike_16 rfl ?_
  refine sd_iadd (z := (34 + h)) sD11_isUnlike_17 (by omega) (by omega) ?_
  refine sd_ialdx (a := (34 + h.toNat)) (v := x (34 + h.toNat)) hx sD11_isUnlike_18 sAM0 (by omega) rfl ?_
  refine sd_icmp_ne (tgt := 44) sD11_isUnlike_19 (by decide) (fun zc19 => ?_) (fun zc19 => ?_)
  ·
    refine sd_iconst sD11_isUnlike_44 (by decide) ?_
    refine sd_goto (tgt := 49) sD11_isUnlike_45 (by decide) ?_
    refine sd_zretp sD11_isUnlike_49 rfl (by decide) ?_
    exact (sd_b1 (by omega)).symm
  ·
    refine sd_aload_n sD11_isUnlike_22 rfl ?_
    refine sd_getfr sD11_isUnlike_23 sF11_7 sGM15_0 ?_
    refine sd_sipush sD11_isUnlike_26 rfl (by decide) ?_
    refine sd_iload_n sD11_isUnlike_29 rfl ?_
    refine sd_iadd (z := (298 + h)) sD11_isUnlike_30 (by omega) (by omega) ?_
    refine sd_ialdx (a := (298 + h.toNat)) (v := x (298 + h.toNat)) hx sD11_isUnlike_31 sAM0 (by omega) rfl ?_
    refine sd_aload_n sD11_isUnlike_32 rfl ?_
    refine sd_getfr sD11_isUnlike_33 sF11_7 sGM15_0 ?_
    refine sd_bipush sD11_isUnlike_36 rfl (by decide) ?_
    refine sd_iload_n sD11_isUnlike_38 rfl ?_
    refine sd_iadd (z := (58 + h)) sD11_isUnlike_39 (by omega) (by omega) ?_
    refine sd_ialdx (a := (58 + h.toNat)) (v := x (58 + h.toNat)) hx sD11_isUnlike_40 sAM0 (by omega) rfl ?_
    refine sd_icmp_eq (tgt := 48) sD11_isUnlike_41 (by decide) (fun zc41 => ?_) (fun zc41 => ?_)
    ·
      refine sd_iconst sD11_isUnlike_48 (by decide) ?_
      refine sd_zretp sD11_isUnlike_49 rfl (by decide) ?_
      exact (sd_b0 (by omega)).symm
    ·
      refine sd_iconst sD11_isUnlike_44 (by decide) ?_
      refine sd_goto (tgt := 49) sD11_isUnlike_45 (by decide) ?_
      refine sd_zretp sD11_isUnlike_49 rfl (by decide) ?_
      exact (sd_b1 (by omega)).symm
