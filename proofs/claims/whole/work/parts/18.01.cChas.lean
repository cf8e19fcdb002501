set_option maxRecDepth 100000 in
set_option maxHeartbeats 4000000 in
theorem cC_has (i : Int) (x m : sd_M) (hx : sd_ns x m) (h1 : sd_I1 x) : sd_Cp sd_SC 1 sY3_has [.inr 18, .inl i] m (.inl (sd_b (sd_isM x i))) := by
  refine sd_ct rfl (Nat.le_of_ble_eq_true rfl) (fun hok hm => ?_)
  obtain ⟨⟨i0, j0⟩, ⟨i1, j1⟩, ⟨i2, j2⟩, ⟨i3, j3⟩, ⟨i4, j4⟩, ⟨i5, j5⟩, ⟨i6, j6⟩, ⟨i7, j7⟩, ⟨i8, j8⟩⟩ := id h1
  have r_i : sd_R i := hok (.inl i) (by simp)
  show sd_Wp sd_SC 1 sY3_has 0 [some (.inr 18), some (.inl i)] [] m _
  refine sd_iload_n sD3_has_0 rfl ?_
  refine sd_iconst sD3_has_1 (by decide) ?_
  refine sd_aload_n sD3_has_2 rfl ?_
  refine sd_getfx (v := x 3) hx sD3_has_3 sF3_9 sGC18_0 (by decide) rfl ?_
  refine sd_iconst sD3_has_6 (by decide) ?_
  refine sd_isub (z := (x 3 - 1)) sD3_has_7 (by omega) (by omega) ?_
  refine sd_callNp (as := [.inl i, .inl 0, .inl (x 3 - 1)]) (st := []) (v := .inl (sd_b (0 ≤ i ∧ i ≤ (x 3 - 1)))) sD3_has_8 sM3_32 rfl rfl (by decide) (Nat.le_of_ble_eq_true rfl) (cC_isWithin i 0 (x 3 - 1) m) (fun ho8 => ?_)
  refine sd_zretp sD3_has_11 rfl (sd_b01 _) ?_
  first | rfl | exact sd_bc (by omega)
