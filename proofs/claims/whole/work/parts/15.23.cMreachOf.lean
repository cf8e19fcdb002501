set_option maxRecDepth 100000 in
set_option maxHeartbeats 4000000 in
theorem cM_reachOf (s : Int) (x m : sd_M) (hx : sd_ns x m) (h1 : sd_I1 x) (h2 : sd_I2 x) (h3 : sd_I3 x) : sd_Cp sd_SM 2 sY11_reachOf [.inr 15, .inl s] m (.inl (sd_rch x (sd_shl 1 s) 8)) := by
  refine sd_ct rfl (Nat.le_of_ble_eq_true rfl) (fun hok hm => ?_)
  obtain ⟨⟨i0, j0⟩, ⟨i1, j1⟩, ⟨i2, j2⟩, ⟨i3, j3⟩, ⟨i4, j4⟩, ⟨i5, j5⟩, ⟨i6, j6⟩, ⟨i7, j7⟩, ⟨i8, j8⟩⟩ := id h1
  have r_s : sd_R s := hok (.inl s) (by simp)
  show sd_Wp sd_SM 2 sY11_reachOf 0 [some (.inr 15), some (.inl s)] [] m _
  refine sd_aload_n sD11_reachOf_0 rfl ?_
  refine sd_iload_n sD11_reachOf_1 rfl ?_
  refine sd_bipush sD11_reachOf_2 rfl (by decide) ?_
  refine sd_callVp (as := [.inl s, .inl 8]) (st := []) (v := .inl (sd_rch x (sd_shl 1 s) 8)) sD11_reachOf_4 sM11_106 sOM15 rfl rfl rfl (by decide) (Nat.le_of_ble_eq_true rfl) (cM_reachBy s 8 _ m hx h1 h2 h3 (by omega)) (fun ho4 => ?_)
  refine sd_iretp sD11_reachOf_7 rfl ?_
  first | rfl | omega | (congr 1; omega)
