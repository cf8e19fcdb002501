set_option maxRecDepth 100000 in
set_option maxHeartbeats 4000000 in
theorem cC_hoursInForce (t : Int) (h : Int) (x m : sd_M) (hx : sd_ns x m) (h1 : sd_I1 x) (h6 : sd_I6 x) (ht : 0 ≤ t ∧ t ≤ x 5 - 1) (hh : h = x 0) : sd_Cp sd_SC 1 sY8_hoursInForce [.inr 36, .inl t, .inl h] m (.inl (sd_btw x t.toNat)) := by
  refine sd_ct rfl (Nat.le_of_ble_eq_true rfl) (fun hok hm => ?_)
  obtain ⟨⟨i0, j0⟩, ⟨i1, j1⟩, ⟨i2, j2⟩, ⟨i3, j3⟩, ⟨i4, j4⟩, ⟨i5, j5⟩, ⟨i6, j6⟩, ⟨i7, j7⟩, ⟨i8, j8⟩⟩ := id h1
  have r_t : sd_R t := hok (.inl t) (by simp)
  have r_h : sd_R h := hok (.inl h) (by simp)
  have e6 := h6.1 t.toNat (by omega)
  have e7 := h6.2 (x (428 + t.toNat)).toNat (by omega)
  have e8 := e6.2.2.2.2 (by omega)
  have e9 := sd_btw_eq h6 (t := t.toNat) (by omega) e8
  show sd_Wp sd_SC 1 sY8_hoursInForce 0 [some (.inr 36), some (.inl t), some (.inl h), none, none, none] [] m _
  refine sd_aload_n sD8_hoursInForce_0 rfl ?_
  refine sd_getfr sD8_hoursInForce_1 sF8_19 sGC36_2 ?_
  refine sd_iload_n sD8_hoursInForce_4 rfl ?_
  refine sd_ialdx (a := (436 + t.toNat)) (v := x (436 + t.toNat)) hx sD8_hoursInForce_5 sAC25 (by omega) rfl ?_
  refine sd_aload_n sD8_hoursInForce_6 rfl ?_
  refine sd_getfr sD8_hoursInForce_7 sF8_25 sGC36_4 ?_
  refine sd_iload_n sD8_hoursInForce_10 rfl ?_
  refine sd_ialdx (a := (452 + t.toNat)) (v := x (452 + t.toNat)) hx sD8_hoursInForce_11 sAC27 (by omega) rfl ?_
  refine sd_mmax sD8_hoursInForce_12 sM8_68 (by decide) (Nat.le_of_ble_eq_true rfl) ?_
  refine sd_istore_n (ls' := [some (.inr 36), some (.inl t), some (.inl h), some (.inl (max (x (436 + t.toNat)) (x (452 + t.toNat)))), none, none]) sD8_hoursInForce_15 (by decide) rfl ?_
  refine sd_aload_n sD8_hoursInForce_16 rfl ?_
  refine sd_getfr sD8_hoursInForce_17 sF8_22 sGC36_3 ?_
  refine sd_iload_n sD8_hoursInForce_20 rfl ?_
  refine sd_ialdx (a := (444 + t.toNat)) (v := x (444 + t.toNat)) hx sD8_hoursInForce_21 sAC26 (by omega) rfl ?_
  refine sd_iconst sD8_hoursInForce_22 (by decide) ?_
  refine sd_iadd (z := (x (444 + t.toNat) + 1)) sD8_hoursInForce_23 (by omega) (by omega) ?_
  refine sd_iload_n sD8_hoursInForce_24 rfl ?_
  refine sd_mmin sD8_hoursInForce_25 sM8_74 (by decide) (Nat.le_of_ble_eq_true rfl) ?_
  refine sd_istore (ls' := [some (.inr 36), some (.inl t), some (.inl h), some (.inl (max (x (436 + t.toNat)) (x (452 + t.toNat)))), some (.inl (min (x (444 + t.toNat) + 1) h)), none]) sD8_hoursInForce_28 (by decide) rfl ?_
  refine sd_aload_n sD8_hoursInForce_30 rfl ?_
  refine sd_getfr sD8_hoursInForce_31 sF8_49 sGC36_12 ?_
  refine sd_aload_n sD8_hoursInForce_34 rfl ?_
  refine sd_getfr sD8_hoursInForce_35 sF8_15 sGC36_1 ?_
  refine sd_iload_n sD8_hoursInForce_38 rfl ?_
  refine sd_ialdx (a := (428 + t.toNat)) (v := x (428 + t.toNat)) hx sD8_hoursInForce_39 sAC24 (by omega) rfl ?_
  refine sd_ialdx (a := (1268 + ((x (428 + t.toNat)).toNat))) (v := x (1268 + ((x (428 + t.toNat)).toNat))) hx sD8_hoursInForce_40 sAC35 (by omega) rfl ?_
  refine sd_istore (ls' := [some (.inr 36), some (.inl t), some (.inl h), some (.inl (max (x (436 + t.toNat)) (x (452 + t.toNat)))), some (.inl (min (x (444 + t.toNat) + 1) h)), some (.inl (x (1268 + ((x (428 + t.toNat)).toNat))))]) sD8_hoursInForce_41 (by decide) rfl ?_
  refine sd_iload sD8_hoursInForce_43 rfl ?_
  refine sd_iconst sD8_hoursInForce_45 (by decide) ?_
  refine sd_icmp_eq (tgt := 58) sD8_hoursInForce_46 (by decide) (fun zc46 => ?_) (fun zc46 => ?_)
  ·
    refine sd_iconst sD8_hoursInForce_58 (by decide) ?_
    refine sd_iload sD8_hoursInForce_59 rfl ?_
    refine sd_iload_n sD8_hoursInForce_61 rfl ?_
    refine sd_isub (z := (min (x (444 + t.toNat) + 1) h - (max (x (436 + t.toNat)) (x (452 + t.toNat))))) sD8_hoursInForce_62 (by omega) (by omega) ?_
    refine sd_mmax sD8_hoursInForce_63 sM8_68 (by decide) (Nat.le_of_ble_eq_true rfl) ?_
    refine sd_iretp sD8_hoursInForce_66 rfl ?_
    (rw [e9]; first | (rw [if_pos (by assumption)]; omega) | (rw [if_neg (by assumption)]; omega))
  ·
    refine sd_iload sD8_hoursInForce_49 rfl ?_
    refine sd_iload sD8_hoursInForce_51 rfl ?_
    refine sd_mmin sD8_hoursInForce_53 sM8_74 (by decide) (Nat.le_of_ble_eq_true rfl) ?_
    refine sd_istore (ls' := [some (.inr 36), some (.inl t), some (.inl h), some (.inl (max (x (436 + t.toNat)) (x (452 + t.toNat)))), some (.inl (min (min (x (444 + t.toNat) + 1) h) (x (1268 + ((x (428 + t.toNat)).toNat))))), some (.inl (x (1268 + ((x (428 + t.toNat)).toNat))))]) sD8_hoursInForce_56 (by decide) rfl ?_
    refine sd_iconst sD8_hoursInForce_58 (by decide) ?_
    refine sd_iload sD8_hoursInForce_59 rfl ?_
    refine sd_iload_n sD8_hoursInForce_61 rfl ?_
    refine sd_isub (z := (min (min (x (444 + t.toNat) + 1) h) (x (1268 + ((x (428 + t.toNat)).toNat))) - (max (x (436 + t.toNat)) (x (452 + t.toNat))))) sD8_hoursInForce_62 (by omega) (by omega) ?_
    refine sd_mmax sD8_hoursInForce_63 sM8_68 (by decide) (Nat.le_of_ble_eq_true rfl) ?_
    refine sd_iretp sD8_hoursInForce_66 rfl ?_
    (rw [e9]; first | (rw [if_pos (by assumption)]; omega) | (rw [if_neg (by assumption)]; omega))
