set_option maxRecDepth 100000 in
set_option maxHeartbeats 4000000 in
theorem cM_isHold (h : Int) (x m : sd_M) (hx : sd_ns x m) (h1 : sd_I1 x) : sd_Cp sd_SM 1 sY11_isHold [.inr 15, .inl h] m (.inl (sd_b (sd_isH x h))) := by
  refine sd_ct rfl (Nat.le_of_ble_eq_true rfl) (fun hok hm => ?_)
  obtain ⟨⟨i0, j0⟩, ⟨i1, j1⟩, ⟨i2, j2⟩, ⟨i3, j3⟩, ⟨i4, j4⟩, ⟨i5, j5⟩, ⟨i6, j6⟩, ⟨i7, j7⟩, ⟨i8, j8⟩⟩ := id h1
  have r_h : sd_R h := hok (.inl h) (by simp)
  show sd_Wp sd_SM 1 sY11_isHold 0 [some (.inr 15), some (.inl h)] [] m _
  refine sd_iload_n sD11_isHold_0 rfl ?_
  refine sd_iconst sD11_isHold_1 (by decide) ?_
  refine sd_aload_n sD11_isHold_2 rfl ?_
  refine sd_getfr sD11_isHold_3 sF11_7 sGM15_0 ?_
  refine sd_iconst sD11_isHold_6 (by decide) ?_
  refine sd_ialdx (a := 2) (v := x 2) hx sD11_isHold_7 sAM0 (by omega) rfl ?_
  refine sd_iconst sD11_isHold_8 (by decide) ?_
  refine sd_isub (z := (x 2 - 1)) sD11_isHold_9 (by omega) (by omega) ?_
  refine sd_callSp (as := [.inl h, .inl 0, .inl (x 2 - 1)]) (st := []) (v := .inl (sd_b (0 ≤ h ∧ h ≤ (x 2 - 1)))) sD11_isHold_10 sM11_56 rfl rfl (by decide) (Nat.le_of_ble_eq_true rfl) (cM_in h 0 (x 2 - 1) m) (fun ho10 => ?_)
  refine sd_zretp sD11_isHold_13 rfl (sd_b01 _) ?_
  first | rfl | exact sd_bc (by omega)
