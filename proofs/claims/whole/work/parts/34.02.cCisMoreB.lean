set_option maxRecDepth 100000 in
set_option maxHeartbeats 4000000 in
theorem cC_isMoreB (g : Nat) (b : Int) (m : sd_M) (hg : g < 24) (hb : 0 ≤ b ∧ b < 24) (cr sa : Nat → Int) (hc : ∀ g, g < 24 → m (5070 + g) = cr g) (hs : ∀ g, g < 24 → m (5040 + g) = sa g) (hcr : ∀ g, 0 ≤ cr g ∧ cr g ≤ 54) (hsa : ∀ g, 0 ≤ sa g ∧ sa g ≤ 9) : sd_Cp sd_SC 0 sY4_isMoreBelieved [.inr 42, .inl (g : Int), .inl b] m (.inl (sd_b (cr b.toNat * (sa g + 1) < cr g * (sa b.toNat + 1)))) := by
  refine sd_ct rfl (Nat.le_of_ble_eq_true rfl) (fun hok hm => ?_)
  have e1 := hcr g
  have e2 := hsa g
  have e3 := hcr b.toNat
  have e4 := hsa b.toNat
  have e5 := hs b.toNat (by omega)
  have e6 := hs g (by omega)
  show sd_Wp sd_SC 0 sY4_isMoreBelieved 0 [some (.inr 42), some (.inl (g : Int)), some (.inl b)] [] m _
  refine sd_aload_n sD4_isMoreBelieved_0 rfl ?_
  refine sd_getfr sD4_isMoreBelieved_1 sF4_31 sGC42_6 ?_
  refine sd_iload_n sD4_isMoreBelieved_4 rfl ?_
  refine sd_iald (a := (5070 + g)) sD4_isMoreBelieved_5 sAC41 (by omega) ?_
  refine sd_aload_n sD4_isMoreBelieved_6 rfl ?_
  refine sd_getfr sD4_isMoreBelieved_7 sF4_28 sGC42_5 ?_
  refine sd_iload_n sD4_isMoreBelieved_10 rfl ?_
  refine sd_iald (a := (5040 + b.toNat)) sD4_isMoreBelieved_11 sAC40 (by omega) ?_
  refine sd_iconst sD4_isMoreBelieved_12 (by decide) ?_
  refine sd_iadd (z := (m (5040 + b.toNat) + 1)) sD4_isMoreBelieved_13 (by omega) (by omega) ?_
  rw [hc g (by omega), hs b.toNat (by omega)]
  have q1 := sd_mulb (hcr g) (hsa b.toNat)
  refine sd_imul (z := ((cr g) * (sa b.toNat + 1))) sD4_isMoreBelieved_14 (by omega) (by omega) ?_
  refine sd_aload_n sD4_isMoreBelieved_15 rfl ?_
  refine sd_getfr sD4_isMoreBelieved_16 sF4_31 sGC42_6 ?_
  refine sd_iload_n sD4_isMoreBelieved_19 rfl ?_
  refine sd_iald (a := (5070 + b.toNat)) sD4_isMoreBelieved_20 sAC41 (by omega) ?_
  refine sd_aload_n sD4_isMoreBelieved_21 rfl ?_
  refine sd_getfr sD4_isMoreBelieved_22 sF4_28 sGC42_5 ?_
  refine sd_iload_n sD4_isMoreBelieved_25 rfl ?_
  refine sd_iald (a := (5040 + g)) sD4_isMoreBelieved_26 sAC40 (by omega) ?_
  refine sd_iconst sD4_isMoreBelieved_27 (by decide) ?_
  refine sd_iadd (z := (m (5040 + g) + 1)) sD4_isMoreBelieved_28 (by omega) (by omega) ?_
  rw [hc b.toNat (by omega), hs g (by omega)]
  have q2 := sd_mulb (hcr b.toNat) (hsa g)
  refine sd_imul (z := ((cr b.toNat) * (sa g + 1))) sD4_isMoreBelieved_29 (by omega) (by omega) ?_
  refine sd_icmp_le (tgt := 37) sD4_isMoreBelieved_30 (by decide) (fun zc30 => ?_) (fun zc30 => ?_)
  ·
    refine sd_iconst sD4_isMoreBelieved_37 (by decide) ?_
    refine sd_zretp sD4_isMoreBelieved_38 rfl (by decide) ?_
    exact (sd_b0 (by omega)).symm
  ·
    refine sd_iconst sD4_isMoreBelieved_33 (by decide) ?_
    refine sd_goto (tgt := 38) sD4_isMoreBelieved_34 (by decide) ?_
    refine sd_zretp sD4_isMoreBelieved_38 rfl (by decide) ?_
    exact (sd_b1 (by omega)).symm
