set_option maxRecDepth 100000 in
set_option maxHeartbeats 4000000 in
theorem cM_has (s : Int) (p : Int) (n : Int) (x m : sd_M) (hx : sd_ns x m)  (hs : 0 ≤ s ∧ s ≤ 3) (hz : 0 ≤ x (4254 + s.toNat) ∧ x (4254 + s.toNat) ≤ 12) : sd_Cp sd_SM 0 sY11_has [.inr 15, .inl s, .inl p, .inl n] m (.inl (sd_b (0 ≤ p ∧ 0 ≤ n ∧ p ≤ x (4254 + s.toNat) ∧ n ≤ x (4254 + s.toNat) - p))) := by
  refine sd_ct rfl (Nat.le_of_ble_eq_true rfl) (fun hok hm => ?_)
  have r_s : sd_R s := hok (.inl s) (by simp)
  have r_p : sd_R p := hok (.inl p) (by simp)
  have r_n : sd_R n := hok (.inl n) (by simp)
  show sd_Wp sd_SM 0 sY11_has 0 [some (.inr 15), some (.inl s), some (.inl p), some (.inl n)] [] m _
  refine sd_iload_n sD11_has_0 rfl ?_
  refine sd_if_lt (tgt := 34) sD11_has_1 (by decide) (fun zc1 => ?_) (fun zc1 => ?_)
  ·
    refine sd_iconst sD11_has_34 (by decide) ?_
    refine sd_zretp sD11_has_35 rfl (by decide) ?_
    exact (sd_b0 (by omega)).symm
  ·
    refine sd_iload_n sD11_has_4 rfl ?_
    refine sd_if_lt (tgt := 34) sD11_has_5 (by decide) (fun zc5 => ?_) (fun zc5 => ?_)
    ·
      refine sd_iconst sD11_has_34 (by decide) ?_
      refine sd_zretp sD11_has_35 rfl (by decide) ?_
      exact (sd_b0 (by omega)).symm
    ·
      refine sd_iload_n sD11_has_8 rfl ?_
      refine sd_aload_n sD11_has_9 rfl ?_
      refine sd_getfr sD11_has_10 sF11_46 sGM15_21 ?_
      refine sd_iload_n sD11_has_13 rfl ?_
      refine sd_ialdx (a := (4254 + s.toNat)) (v := x (4254 + s.toNat)) hx sD11_has_14 sAM12 (by omega) rfl ?_
      refine sd_icmp_gt (tgt := 34) sD11_has_15 (by decide) (fun zc15 => ?_) (fun zc15 => ?_)
      ·
        refine sd_iconst sD11_has_34 (by decide) ?_
        refine sd_zretp sD11_has_35 rfl (by decide) ?_
        exact (sd_b0 (by omega)).symm
      ·
        refine sd_iload_n sD11_has_18 rfl ?_
        refine sd_aload_n sD11_has_19 rfl ?_
        refine sd_getfr sD11_has_20 sF11_46 sGM15_21 ?_
        refine sd_iload_n sD11_has_23 rfl ?_
        refine sd_ialdx (a := (4254 + s.toNat)) (v := x (4254 + s.toNat)) hx sD11_has_24 sAM12 (by omega) rfl ?_
        refine sd_iload_n sD11_has_25 rfl ?_
        refine sd_isub (z := (x (4254 + s.toNat) - n)) sD11_has_26 (by omega) (by omega) ?_
        refine sd_icmp_gt (tgt := 34) sD11_has_27 (by decide) (fun zc27 => ?_) (fun zc27 => ?_)
        ·
          refine sd_iconst sD11_has_34 (by decide) ?_
          refine sd_zretp sD11_has_35 rfl (by decide) ?_
          exact (sd_b0 (by omega)).symm
        ·
          refine sd_iconst sD11_has_30 (by decide) ?_
          refine sd_goto (tgt := 35) sD11_has_31 (by decide) ?_
          refine sd_zretp sD11_has_35 rfl (by decide) ?_
          exact (sd_b1 (by omega)).symm
