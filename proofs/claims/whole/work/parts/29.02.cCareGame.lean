set_option maxRecDepth 100000 in
set_option maxHeartbeats 4000000 in
theorem cC_areGame (w v n : Int) (m : sd_M) : sd_Cp sd_SC 1 sY10_areGame [.inl w, .inl v, .inl n] m (.inl (sd_b (((1 ≤ w ∧ w ≤ 99) ∧ 1 ≤ v ∧ v ≤ 99) ∧ 1 ≤ n ∧ n ≤ 5))) := by
  refine sd_ct rfl (Nat.le_of_ble_eq_true rfl) (fun hok hm => ?_)
  show sd_Wp sd_SC 1 sY10_areGame 0 [some (.inl w), some (.inl v), some (.inl n)] [] m _
  refine sd_iload_n sD10_areGame_0 rfl ?_
  refine sd_iconst sD10_areGame_1 (by decide) ?_
  refine sd_bipush sD10_areGame_2 rfl (by decide) ?_
  refine sd_callSp (as := [.inl w, .inl 1, .inl 99]) (st := []) (v := .inl (sd_b (1 ≤ w ∧ w ≤ 99))) sD10_areGame_4 sM10_65 rfl rfl (by decide) (Nat.le_of_ble_eq_true rfl) (cC_isWithin w 1 99 m) (fun ho4 => ?_)
  refine sd_bif_eq (tgt := 33) sD10_areGame_7 (by decide) (fun zc7 => ?_) (fun zc7 => ?_)
  ·
    refine sd_iconst sD10_areGame_33 (by decide) ?_
    refine sd_zretp sD10_areGame_34 rfl (by decide) ?_
    exact (sd_b0 (by omega)).symm
  ·
    refine sd_iload_n sD10_areGame_10 rfl ?_
    refine sd_iconst sD10_areGame_11 (by decide) ?_
    refine sd_bipush sD10_areGame_12 rfl (by decide) ?_
    refine sd_callSp (as := [.inl v, .inl 1, .inl 99]) (st := []) (v := .inl (sd_b (1 ≤ v ∧ v ≤ 99))) sD10_areGame_14 sM10_65 rfl rfl (by decide) (Nat.le_of_ble_eq_true rfl) (cC_isWithin v 1 99 m) (fun ho14 => ?_)
    refine sd_bif_eq (tgt := 33) sD10_areGame_17 (by decide) (fun zc17 => ?_) (fun zc17 => ?_)
    ·
      refine sd_iconst sD10_areGame_33 (by decide) ?_
      refine sd_zretp sD10_areGame_34 rfl (by decide) ?_
      exact (sd_b0 (by omega)).symm
    ·
      refine sd_iload_n sD10_areGame_20 rfl ?_
      refine sd_iconst sD10_areGame_21 (by decide) ?_
      refine sd_iconst sD10_areGame_22 (by decide) ?_
      refine sd_callSp (as := [.inl n, .inl 1, .inl 5]) (st := []) (v := .inl (sd_b (1 ≤ n ∧ n ≤ 5))) sD10_areGame_23 sM10_65 rfl rfl (by decide) (Nat.le_of_ble_eq_true rfl) (cC_isWithin n 1 5 m) (fun ho23 => ?_)
      refine sd_bif_eq (tgt := 33) sD10_areGame_26 (by decide) (fun zc26 => ?_) (fun zc26 => ?_)
      ·
        refine sd_iconst sD10_areGame_33 (by decide) ?_
        refine sd_zretp sD10_areGame_34 rfl (by decide) ?_
        exact (sd_b0 (by omega)).symm
      ·
        refine sd_iconst sD10_areGame_29 (by decide) ?_
        refine sd_goto (tgt := 34) sD10_areGame_30 (by decide) ?_
        refine sd_zretp sD10_areGame_34 rfl (by decide) ?_
        exact (sd_b1 (by omega)).symm
