set_option maxRecDepth 100000 in
set_option maxHeartbeats 4000000 in
theorem cM_wrong1 (fr : Int) (n p : Nat) (x m : sd_M) (hx : sd_ns x m) (hS : sd_RS m fr n p (-1)) : sd_Ct sd_SM 0 sY11_wrong [.inr 15] m (fun r m' => r = none ∧ sd_k2 m m' ∧ sd_RS m' fr n p (p : Nat)) := by
  refine sd_ct rfl (Nat.le_of_ble_eq_true rfl) (fun hok hm => ?_)
  have hK : sd_k2 m m := sd_k2.rf
  show sd_Wp sd_SM 0 sY11_wrong 0 [some (.inr 15)] [] m _
  refine sd_aload_n sD11_wrong_0 rfl ?_
  refine sd_aload_n sD11_wrong_1 rfl ?_
  refine sd_getfi sD11_wrong_2 sF11_157 sGM15_13 ?_
  rw [show m 5493 = (-1) from hS.2.2.2]
  refine sd_if_ge (tgt := 15) sD11_wrong_5 (by decide) (fun zc5 => (by exfalso; omega)) (fun zc5 => ?_)
  refine sd_aload_n sD11_wrong_8 rfl ?_
  refine sd_getfi sD11_wrong_9 sF11_147 sGM15_12 ?_
  rw [show m 5492 = (p : Int) from hS.2.2.1]
  refine sd_goto (tgt := 19) sD11_wrong_12 (by decide) ?_
  refine sd_putfc sd_sokM sd_oneM hx sD11_wrong_19 sF11_157 sGM15_13 (by decide) (Or.inl rfl) (fun m hx em19 => ?_)
  replace hK := hK.tr (sd_k2.up em19 (Or.inr rfl))
  replace hS : sd_RS m fr n p (p : Nat) := ⟨by rw [em19, sd_up_ne (by decide)]; exact hS.1, by rw [em19, sd_up_ne (by decide)]; exact hS.2.1, by rw [em19, sd_up_ne (by decide)]; exact hS.2.2.1, by rw [em19, sd_up_eq]⟩
  exact sd_vreturn sD11_wrong_22 rfl (fun hm => ⟨rfl, hK, hS⟩)
