set_option maxRecDepth 100000 in
set_option maxHeartbeats 4000000 in
theorem cM_isGood0 (fr : Int) (n p q : Nat) (x m : sd_M) (hx : sd_ns x m) (hS : sd_RS m fr n p (q : Int)) : sd_Cp sd_SM 0 sY11_isGood [.inr 15] m (.inl 0) := by
  refine sd_ct rfl (Nat.le_of_ble_eq_true rfl) (fun hok hm => ?_)
  show sd_Wp sd_SM 0 sY11_isGood 0 [some (.inr 15)] [] m _
  refine sd_aload_n sD11_isGood_0 rfl ?_
  refine sd_getfi sD11_isGood_1 sF11_157 sGM15_13 ?_
  rw [show m 5493 = (q : Int) from hS.2.2.2]
  refine sd_if_ge (tgt := 11) sD11_isGood_4 (by decide) (fun zc4 => ?_) (fun zc4 => (by exfalso; omega))
  refine sd_iconst sD11_isGood_11 (by decide) ?_
  exact sd_zreturn sD11_isGood_12 rfl (by decide) (fun hm => ⟨rfl, rfl⟩)
