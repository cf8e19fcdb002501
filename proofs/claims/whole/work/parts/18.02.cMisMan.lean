set_option maxRecDepth 100000 in
set_option maxHeartbeats 4000000 in
theorem cM_isMan (i : Int) (x m : sd_M) (hx : sd_ns x m) (h1 : sd_I1 x) : sd_Cp sd_SM 1 sY11_isMan [.inr 15, .inl i] m (.inl (sd_b (sd_isM x i))) := by
  refine sd_ct rfl (Nat.le_of_ble_eq_true rfl) (fun hok hm => ?_)
  obtain ⟨⟨i0, j0⟩, ⟨i1, j1⟩, ⟨i2, j2⟩, ⟨i3, j3⟩, ⟨i4, j4⟩, ⟨i5, j5⟩, ⟨i6, j6⟩, ⟨i7, j7⟩, ⟨i8, j8⟩⟩ := id h1
  have r_i : sd_R i := hok (.inl i) (by simp)
  show sd_Wp sd_SM 1 sY11_isMan 0 [some (.inr 15), some (.inl i)] [] m _
  refine sd_iload_n sD11_isMan_0 rfl ?_
  refine sd_iconst sD11_isMan_1 (by decide) ?_
  refine sd_aload_n sD11_isMan_2 rfl ?_
  refine sd_getfr sD11_isMan_3 sF11_7 sGM15_0 ?_
  refine sd_iconst sD11_isMan_6 (by decide) ?_
  refine sd_ialdx (a := 3) (v := x 3) hx sD11_isMan_7 sAM0 (by omega) rfl ?_
  refine sd_iconst sD11_isMan_8 (by decide) ?_
  refine sd_isub (z := (x 3 - 1)) sD11_isMan_9 (by omega) (by omega) ?_
  refine sd_callSp (as := [.inl i, .inl 0, .inl (x 3 - 1)]) (st := []) (v := .inl (sd_b (0 ≤ i ∧ i ≤ (x 3 - 1)))) sD11_isMan_10 sM11_56 rfl rfl (by decide) (Nat.le_of_ble_eq_true rfl) (cM_in i 0 (x 3 - 1) m) (fun ho10 => ?_)
  refine sd_zretp sD11_isMan_13 rfl (sd_b01 _) ?_
  first | rfl | exact sd_bc (by omega)
