set_option maxRecDepth 100000 in
set_option maxHeartbeats 4000000 in
theorem cM_kindOf (h : Int) (x m : sd_M) (hx : sd_ns x m)  (hh : 0 ≤ h ∧ h < 24) : sd_Cp sd_SM 0 sY11_kindOf [.inr 15, .inl h] m (.inl (x (10 + h.toNat))) := by
  refine sd_ct rfl (Nat.le_of_ble_eq_true rfl) (fun hok hm => ?_)
  have r_h : sd_R h := hok (.inl h) (by simp)
  show sd_Wp sd_SM 0 sY11_kindOf 0 [some (.inr 15), some (.inl h)] [] m _
  refine sd_aload_n sD11_kindOf_0 rfl ?_
  refine sd_getfr sD11_kindOf_1 sF11_7 sGM15_0 ?_
  refine sd_bipush sD11_kindOf_4 rfl (by decide) ?_
  refine sd_iload_n sD11_kindOf_6 rfl ?_
  refine sd_iadd (z := (10 + h)) sD11_kindOf_7 (by omega) (by omega) ?_
  refine sd_ialdx (a := (10 + h.toNat)) (v := x (10 + h.toNat)) hx sD11_kindOf_8 sAM0 (by omega) rfl ?_
  refine sd_iretp sD11_kindOf_9 rfl ?_
  first | rfl | omega | (congr 1; omega)
