set_option maxRecDepth 100000 in
set_option maxHeartbeats 4000000 in
theorem cM_isGame (w : Int) (v : Int) (x m : sd_M) (hx : sd_ns x m)  : sd_Cp sd_SM 1 sY11_isGame [.inl w, .inl v] m (.inl (sd_b ((1 ≤ w ∧ w ≤ 99) ∧ 1 ≤ v ∧ v ≤ 99))) := by
  refine sd_ct rfl (Nat.le_of_ble_eq_true rfl) (fun hok hm => ?_)
  have r_w : sd_R w := hok (.inl w) (by simp)
  have r_v : sd_R v := hok (.inl v) (by simp)
  show sd_Wp sd_SM 1 sY11_isGame 0 [some (.inl w), some (.inl v)] [] m _
  refine sd_iload_n sD11_isGame_0 rfl ?_
  refine sd_iconst sD11_isGame_1 (by decide) ?_
  refine sd_bipush sD11_isGame_2 rfl (by decide) ?_
  refine sd_callSp (as := [.inl w, .inl 1, .inl 99]) (st := []) (v := .inl (sd_b (1 ≤ w ∧ w ≤ 99))) sD11_isGame_4 sM11_56 rfl rfl (by decide) (Nat.le_of_ble_eq_true rfl) (cM_in w 1 99 m) (fun ho4 => ?_)
  refine sd_bif_eq (tgt := 24) sD11_isGame_7 (by decide) (fun zc7 => ?_) (fun zc7 => ?_)
  ·
    refine sd_iconst sD11_isGame_24 (by decide) ?_
    refine sd_zretp sD11_isGame_25 rfl (by decide) ?_
    exact (sd_b0 (by omega)).symm
  ·
    refine sd_iload_n sD11_isGame_10 rfl ?_
    refine sd_iconst sD11_isGame_11 (by decide) ?_
    refine sd_bipush sD11_isGame_12 rfl (by decide) ?_
    refine sd_callSp (as := [.inl v, .inl 1, .inl 99]) (st := []) (v := .inl (sd_b (1 ≤ v ∧ v ≤ 99))) sD11_isGame_14 sM11_56 rfl rfl (by decide) (Nat.le_of_ble_eq_true rfl) (cM_in v 1 99 m) (fun ho14 => ?_)
    refine sd_bif_eq (tgt := 24) sD11_isGame_17 (by decide) (fun zc17 => ?_) (fun zc17 => ?_)
    ·
      refine sd_iconst sD11_isGame_24 (by decide) ?_
      refine sd_zretp sD11_isGame_25 rfl (by decide) ?_
      exact (sd_b0 (by omega)).symm
    ·
      refine sd_iconst sD11_isGame_20 (by decide) ?_
      refine sd_goto (tgt := 25) sD11_isGame_21 (by decide) ?_
      refine sd_zretp sD11_isGame_25 rfl (by decide) ?_
      exact (sd_b1 (by omega)).symm
