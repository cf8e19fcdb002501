set_option maxRecDepth 100000 in
set_option maxHeartbeats 4000000 in
theorem cM_isSheet (s : Int) (x m : sd_M) (hx : sd_ns x m)  : sd_Cp sd_SM 1 sY11_isSheet [.inl s] m (.inl (sd_b (0 ≤ s ∧ s ≤ 3))) := by
  refine sd_ct rfl (Nat.le_of_ble_eq_true rfl) (fun hok hm => ?_)
  have r_s : sd_R s := hok (.inl s) (by simp)
  show sd_Wp sd_SM 1 sY11_isSheet 0 [some (.inl s)] [] m _
  refine sd_iload_n sD11_isSheet_0 rfl ?_
  refine sd_iconst sD11_isSheet_1 (by decide) ?_
  refine sd_iconst sD11_isSheet_2 (by decide) ?_
  refine sd_callSp (as := [.inl s, .inl 0, .inl 3]) (st := []) (v := .inl (sd_b (0 ≤ s ∧ s ≤ 3))) sD11_isSheet_3 sM11_56 rfl rfl (by decide) (Nat.le_of_ble_eq_true rfl) (cM_in s 0 3 m) (fun ho3 => ?_)
  refine sd_zretp sD11_isSheet_6 rfl (sd_b01 _) ?_
  first | rfl | exact sd_bc (by omega)
