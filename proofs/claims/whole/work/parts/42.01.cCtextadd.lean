set_option maxRecDepth 100000 in
set_option maxHeartbeats 4000000 in
theorem cC_textadd (j f to hr_ : Int) (t : Nat) (ht : t < 8) (x m : sd_M) (hx : sd_ns x m) (h5 : x 5 = (t : Int)) : sd_Ct sd_SC 0 sY8_add [.inr 36, .inl j, .inl f, .inl to, .inl hr_] m (fun r m' => r = some (.inl (x 5)) ∧ sd_ns (sd_up (sd_up (sd_up (sd_up (sd_up x 5 (x 5 + 1)) (428 + (x 5).toNat) j) (436 + (x 5).toNat) f) (444 + (x 5).toNat) to) (452 + (x 5).toNat) hr_) m') := by
  refine sd_ct rfl (Nat.le_of_ble_eq_true rfl) (fun hok hm => ?_)
  show sd_Wp sd_SC 0 sY8_add 0 [some (.inr 36), some (.inl j), some (.inl f), some (.inl to), some (.inl hr_), none] [] m _
  refine sd_aload_n sD8_add_0 rfl ?_
  refine sd_getfx (v := x 5) hx sD8_add_1 sF8_9 sGC36_0 (by decide) rfl ?_
  refine sd_istore (ls' := [some (.inr 36), some (.inl j), some (.inl f), some (.inl to), some (.inl hr_), some (.inl (x 5))]) sD8_add_4 (by decide) rfl ?_
  refine sd_aload_n sD8_add_6 rfl ?_
  refine sd_dup sD8_add_7 ?_
  refine sd_getfx (v := x 5) hx sD8_add_8 sF8_9 sGC36_0 (by decide) rfl ?_
  refine sd_iconst sD8_add_11 (by decide) ?_
  refine sd_iadd (z := (x 5 + 1)) sD8_add_12 (by omega) (by omega) ?_
  refine sd_putfx sd_sokC sd_oneC hx sD8_add_13 sF8_9 sGC36_0 (Or.inl rfl) (fun m hx em13 => ?_)
  refine sd_aload_n sD8_add_16 rfl ?_
  refine sd_getfr sD8_add_17 sF8_15 sGC36_1 ?_
  refine sd_iload sD8_add_20 rfl ?_
  refine sd_iload_n sD8_add_22 rfl ?_
  refine sd_iastx (a := (428 + ((x 5).toNat))) sd_sokC hx sD8_add_23 sAC24 (by omega) (fun m hx em23 => ?_)
  refine sd_aload_n sD8_add_24 rfl ?_
  refine sd_getfr sD8_add_25 sF8_19 sGC36_2 ?_
  refine sd_iload sD8_add_28 rfl ?_
  refine sd_iload_n sD8_add_30 rfl ?_
  refine sd_iastx (a := (436 + ((x 5).toNat))) sd_sokC hx sD8_add_31 sAC25 (by omega) (fun m hx em31 => ?_)
  refine sd_aload_n sD8_add_32 rfl ?_
  refine sd_getfr sD8_add_33 sF8_22 sGC36_3 ?_
  refine sd_iload sD8_add_36 rfl ?_
  refine sd_iload_n sD8_add_38 rfl ?_
  refine sd_iastx (a := (444 + ((x 5).toNat))) sd_sokC hx sD8_add_39 sAC26 (by omega) (fun m hx em39 => ?_)
  refine sd_aload_n sD8_add_40 rfl ?_
  refine sd_getfr sD8_add_41 sF8_25 sGC36_4 ?_
  refine sd_iload sD8_add_44 rfl ?_
  refine sd_iload sD8_add_46 rfl ?_
  refine sd_iastx (a := (452 + ((x 5).toNat))) sd_sokC hx sD8_add_48 sAC27 (by omega) (fun m hx em48 => ?_)
  refine sd_iload sD8_add_49 rfl ?_
  refine sd_ireturn sD8_add_51 rfl (fun hr hm => ?_)
  exact ⟨rfl, hx⟩
