set_option maxRecDepth 100000 in
set_option maxHeartbeats 4000000 in
theorem cM_isShop (h : Int) (x m : sd_M) (hx : sd_ns x m) (h1 : sd_I1 x) (h2 : sd_I2 x) : sd_Cp sd_SM 2 sY11_isShop [.inr 15, .inl h] m (.inl (sd_b (sd_isA x h 1))) := by
  refine sd_ct rfl (Nat.le_of_ble_eq_true rfl) (fun hok hm => ?_)
  obtain ⟨⟨i0, j0⟩, ⟨i1, j1⟩, ⟨i2, j2⟩, ⟨i3, j3⟩, ⟨i4, j4⟩, ⟨i5, j5⟩, ⟨i6, j6⟩, ⟨i7, j7⟩, ⟨i8, j8⟩⟩ := id h1
  have r_h : sd_R h := hok (.inl h) (by simp)
  show sd_Wp sd_SM 2 sY11_isShop 0 [some (.inr 15), some (.inl h)] [] m _
  refine sd_aload_n sD11_isShop_0 rfl ?_
  refine sd_iload_n sD11_isShop_1 rfl ?_
  refine sd_callVp (as := [.inl h]) (st := []) (v := .inl (sd_b (sd_isH x h))) sD11_isShop_2 sM11_60 sOM15 rfl rfl rfl (by decide) (Nat.le_of_ble_eq_true rfl) (cM_isHold h _ m hx h1 ) (fun ho2 => ?_)
  refine sd_bif_eq (tgt := 25) sD11_isShop_5 (by decide) (fun zc5 => ?_) (fun zc5 => ?_)
  ·
    refine sd_iconst sD11_isShop_25 (by decide) ?_
    refine sd_zretp sD11_isShop_26 rfl (by decide) ?_
    exact (sd_b0 (by omega)).symm
  ·
    refine sd_aload_n sD11_isShop_8 rfl ?_
    refine sd_iload_n sD11_isShop_9 rfl ?_
    refine sd_callVp (as := [.inl h]) (st := []) (v := .inl (x (10 + h.toNat))) sD11_isShop_10 sM11_64 sOM15 rfl rfl rfl (by decide) (Nat.le_of_ble_eq_true rfl) (cM_kindOf h _ m hx  (by omega)) (fun ho10 => ?_)
    refine sd_iconst sD11_isShop_13 (by decide) ?_
    refine sd_iconst sD11_isShop_14 (by decide) ?_
    refine sd_callSp (as := [.inl (x (10 + h.toNat)), .inl 1, .inl 2]) (st := []) (v := .inl (sd_b (1 ≤ x (10 + h.toNat) ∧ x (10 + h.toNat) ≤ 2))) sD11_isShop_15 sM11_56 rfl rfl (by decide) (Nat.le_of_ble_eq_true rfl) (cM_in (x (10 + h.toNat)) 1 2 m) (fun ho15 => ?_)
    refine sd_bif_eq (tgt := 25) sD11_isShop_18 (by decide) (fun zc18 => ?_) (fun zc18 => ?_)
    ·
      refine sd_iconst sD11_isShop_25 (by decide) ?_
      refine sd_zretp sD11_isShop_26 rfl (by decide) ?_
      exact (sd_b0 (by omega)).symm
    ·
      refine sd_iconst sD11_isShop_21 (by decide) ?_
      refine sd_goto (tgt := 26) sD11_isShop_22 (by decide) ?_
      refine sd_zretp sD11_isShop_26 rfl (by decide) ?_
      exact (sd_b1 (by omega)).symm
