set_option maxRecDepth 100000 in
set_option maxHeartbeats 4000000 in
theorem cM_isInForce (t : Int) (h : Int) (x m : sd_M) (hx : sd_ns x m) (h6 : sd_I6 x) (ht : 0 ≤ t ∧ t < 8) : sd_Cp sd_SM 1 sY11_isInForce [.inr 15, .inl t, .inl h] m (.inl (sd_b (sd_inF x t.toNat h))) := by
  refine sd_ct rfl (Nat.le_of_ble_eq_true rfl) (fun hok hm => ?_)
  have r_t : sd_R t := hok (.inl t) (by simp)
  have r_h : sd_R h := hok (.inl h) (by simp)
  have e6 := (h6.1 t.toNat (by omega)).1
  have e7 := h6.2 (x (428 + t.toNat)).toNat (by omega)
  show sd_Wp sd_SM 1 sY11_isInForce 0 [some (.inr 15), some (.inl t), some (.inl h), none] [] m _
  refine sd_aload_n sD11_isInForce_0 rfl ?_
  refine sd_getfr sD11_isInForce_1 sF11_7 sGM15_0 ?_
  refine sd_sipush sD11_isInForce_4 rfl (by decide) ?_
  refine sd_aload_n sD11_isInForce_7 rfl ?_
  refine sd_getfr sD11_isInForce_8 sF11_7 sGM15_0 ?_
  refine sd_sipush sD11_isInForce_11 rfl (by decide) ?_
  refine sd_iload_n sD11_isInForce_14 rfl ?_
  refine sd_iadd (z := (428 + t)) sD11_isInForce_15 (by omega) (by omega) ?_
  refine sd_ialdx (a := (428 + t.toNat)) (v := x (428 + t.toNat)) hx sD11_isInForce_16 sAM0 (by omega) rfl ?_
  refine sd_iadd (z := (1268 + x (428 + t.toNat))) sD11_isInForce_17 (by omega) (by omega) ?_
  refine sd_ialdx (a := (1268 + (x (428 + t.toNat)).toNat)) (v := x (1268 + (x (428 + t.toNat)).toNat)) hx sD11_isInForce_18 sAM0 (by omega) rfl ?_
  refine sd_istore_n (ls' := [some (.inr 15), some (.inl t), some (.inl h), some (.inl (x (1268 + (x (428 + t.toNat)).toNat)))]) sD11_isInForce_19 (by decide) rfl ?_
  refine sd_iload_n sD11_isInForce_20 rfl ?_
  refine sd_aload_n sD11_isInForce_21 rfl ?_
  refine sd_getfr sD11_isInForce_22 sF11_7 sGM15_0 ?_
  refine sd_sipush sD11_isInForce_25 rfl (by decide) ?_
  refine sd_iload_n sD11_isInForce_28 rfl ?_
  refine sd_iadd (z := (436 + t)) sD11_isInForce_29 (by omega) (by omega) ?_
  refine sd_ialdx (a := (436 + t.toNat)) (v := x (436 + t.toNat)) hx sD11_isInForce_30 sAM0 (by omega) rfl ?_
  refine sd_aload_n sD11_isInForce_31 rfl ?_
  refine sd_getfr sD11_isInForce_32 sF11_7 sGM15_0 ?_
  refine sd_sipush sD11_isInForce_35 rfl (by decide) ?_
  refine sd_iload_n sD11_isInForce_38 rfl ?_
  refine sd_iadd (z := (444 + t)) sD11_isInForce_39 (by omega) (by omega) ?_
  refine sd_ialdx (a := (444 + t.toNat)) (v := x (444 + t.toNat)) hx sD11_isInForce_40 sAM0 (by omega) rfl ?_
  refine sd_callSp (as := [.inl h, .inl (x (436 + t.toNat)), .inl (x (444 + t.toNat))]) (st := []) (v := .inl (sd_b (x (436 + t.toNat) ≤ h ∧ h ≤ x (444 + t.toNat)))) sD11_isInForce_41 sM11_56 rfl rfl (by decide) (Nat.le_of_ble_eq_true rfl) (cM_in h (x (436 + t.toNat)) (x (444 + t.toNat)) m) (fun ho41 => ?_)
  refine sd_bif_eq (tgt := 60) sD11_isInForce_44 (by decide) (fun zc44 => ?_) (fun zc44 => ?_)
  ·
    refine sd_iconst sD11_isInForce_60 (by decide) ?_
    refine sd_zretp sD11_isInForce_61 rfl (by decide) ?_
    exact (sd_b0 (by omega)).symm
  ·
    refine sd_iload_n sD11_isInForce_47 rfl ?_
    refine sd_if_lt (tgt := 56) sD11_isInForce_48 (by decide) (fun zc48 => ?_) (fun zc48 => ?_)
    ·
      refine sd_iconst sD11_isInForce_56 (by decide) ?_
      refine sd_goto (tgt := 61) sD11_isInForce_57 (by decide) ?_
      refine sd_zretp sD11_isInForce_61 rfl (by decide) ?_
      exact (sd_b1 (by omega)).symm
    ·
      refine sd_iload_n sD11_isInForce_51 rfl ?_
      refine sd_iload_n sD11_isInForce_52 rfl ?_
      refine sd_icmp_ge (tgt := 60) sD11_isInForce_53 (by decide) (fun zc53 => ?_) (fun zc53 => ?_)
      ·
        refine sd_iconst sD11_isInForce_60 (by decide) ?_
        refine sd_zretp sD11_isInForce_61 rfl (by decide) ?_
        exact (sd_b0 (by omega)).symm
      ·
        refine sd_iconst sD11_isInForce_56 (by decide) ?_
        refine sd_goto (tgt := 61) sD11_isInForce_57 (by decide) ?_
        refine sd_zretp sD11_isInForce_61 rfl (by decide) ?_
        exact (sd_b1 (by omega)).symm
