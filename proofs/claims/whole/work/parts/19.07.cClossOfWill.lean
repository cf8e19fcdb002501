set_option maxRecDepth 100000 in
set_option maxHeartbeats 4000000 in
theorem cC_lossOfWill (i : Int) (g : Int) (t : Int) (x m : sd_M) (hx : sd_ns x m) (h2 : sd_I2 x) (h4 : sd_I4 x) (hi : 0 ≤ i ∧ i < 16) (hs : 0 ≤ x (322 + i.toNat)) : sd_Cp sd_SC 1 sY6_lossOfWill [.inr 53, .inl i, .inl g, .inl t] m (.inl (sd_los x (x (322 + i.toNat)) g (x (354 + i.toNat)) t)) := by
  refine sd_ct rfl (Nat.le_of_ble_eq_true rfl) (fun hok hm => ?_)
  have r_i : sd_R i := hok (.inl i) (by simp)
  have r_g : sd_R g := hok (.inl g) (by simp)
  have r_t : sd_R t := hok (.inl t) (by simp)
  have e4 := (h4 i.toNat (by omega)).1
  have e2 := (h2 (x (322 + i.toNat)).toNat (by omega)).2.2.2.2.1
  show sd_Wp sd_SC 1 sY6_lossOfWill 0 [some (.inr 53), some (.inl i), some (.inl g), some (.inl t), none] [] m _
  refine sd_aload_n sD6_lossOfWill_0 rfl ?_
  refine sd_getfr sD6_lossOfWill_1 sF6_28 sGC53_3 ?_
  refine sd_getfr sD6_lossOfWill_4 sF6_201 sGC18_1 ?_
  refine sd_iload_n sD6_lossOfWill_7 rfl ?_
  refine sd_ialdx (a := (322 + i.toNat)) (v := x (322 + i.toNat)) hx sD6_lossOfWill_8 sAC14 (by omega) rfl ?_
  refine sd_istore (ls' := [some (.inr 53), some (.inl i), some (.inl g), some (.inl t), some (.inl (x (322 + i.toNat)))]) sD6_lossOfWill_9 (by decide) rfl ?_
  refine sd_iload_n sD6_lossOfWill_11 rfl ?_
  refine sd_bipush sD6_lossOfWill_12 rfl (by decide) ?_
  refine sd_cut (J := 22) (ls := [some (.inr 53), some (.inl i), some (.inl g), some (.inl t), some (.inl (x (322 + i.toNat)))]) (st := []) (fun zv => zv = (sd_b (12 ≤ g))) (fun zv hzv => ?_) (fun K14 => ?_)
  ·
    subst hzv
    refine sd_callNp (as := [.inl (sd_b (12 ≤ g))]) (st := []) (v := .inl (sd_b (12 ≤ g))) sD6_lossOfWill_22 sM6_204 rfl rfl (by decide) (Nat.le_of_ble_eq_true rfl) (cC_asNumber (12 ≤ g) m) (fun ho22 => ?_)
    refine sd_aload_n sD6_lossOfWill_25 rfl ?_
    refine sd_getfr sD6_lossOfWill_26 sF6_21 sGC53_2 ?_
    refine sd_getfr sD6_lossOfWill_29 sF6_120 sGC13_5 ?_
    refine sd_iload sD6_lossOfWill_32 rfl ?_
    refine sd_ialdx (a := (82 + ((x (322 + i.toNat)).toNat))) (v := x (82 + ((x (322 + i.toNat)).toNat))) hx sD6_lossOfWill_34 sAC3 (by omega) rfl ?_
    refine sd_iconst sD6_lossOfWill_35 (by decide) ?_
    refine sd_cut (J := 44) (ls := [some (.inr 53), some (.inl i), some (.inl g), some (.inl t), some (.inl (x (322 + i.toNat)))]) (st := [.inl (sd_b (12 ≤ g))]) (fun zv => zv = (sd_b (x (82 + ((x (322 + i.toNat)).toNat)) < 5))) (fun zv hzv => ?_) (fun K36 => ?_)
    ·
      subst hzv
      refine sd_callNp (as := [.inl (sd_b (x (82 + ((x (322 + i.toNat)).toNat)) < 5))]) (st := [.inl (sd_b (12 ≤ g))]) (v := .inl (sd_b (x (82 + ((x (322 + i.toNat)).toNat)) < 5))) sD6_lossOfWill_44 sM6_204 rfl rfl (by decide) (Nat.le_of_ble_eq_true rfl) (cC_asNumber (x (82 + ((x (322 + i.toNat)).toNat)) < 5) m) (fun ho44 => ?_)
      have zb47 := sd_b01 (12 ≤ g)
      have zb47 := sd_b01 (x (82 + ((x (322 + i.toNat)).toNat)) < 5)
      refine sd_iadd (z := (sd_b (12 ≤ g) + sd_b (x (82 + ((x (322 + i.toNat)).toNat)) < 5))) sD6_lossOfWill_47 (by omega) (by omega) ?_
      refine sd_iconst sD6_lossOfWill_48 (by decide) ?_
      refine sd_aload_n sD6_lossOfWill_49 rfl ?_
      refine sd_getfr sD6_lossOfWill_50 sF6_21 sGC53_2 ?_
      refine sd_getfr sD6_lossOfWill_53 sF6_133 sGC13_6 ?_
      refine sd_iload sD6_lossOfWill_56 rfl ?_
      refine sd_ialdx (a := (106 + ((x (322 + i.toNat)).toNat))) (v := x (106 + ((x (322 + i.toNat)).toNat))) hx sD6_lossOfWill_58 sAC4 (by omega) rfl ?_
      refine sd_imul (z := (2 * (x (106 + ((x (322 + i.toNat)).toNat))))) sD6_lossOfWill_59 (by omega) (by omega) ?_
      refine sd_iadd (z := ((sd_b (12 ≤ g) + sd_b (x (82 + ((x (322 + i.toNat)).toNat)) < 5)) + (2 * (x (106 + ((x (322 + i.toNat)).toNat)))))) sD6_lossOfWill_60 (by omega) (by omega) ?_
      refine sd_iload_n sD6_lossOfWill_61 rfl ?_
      refine sd_cut (J := 84) (ls := [some (.inr 53), some (.inl i), some (.inl g), some (.inl t), some (.inl (x (322 + i.toNat)))]) (st := [.inl ((sd_b (12 ≤ g) + sd_b (x (82 + ((x (322 + i.toNat)).toNat)) < 5)) + (2 * (x (106 + ((x (322 + i.toNat)).toNat)))))]) (fun zv => zv = (sd_b ((t = 0) ∧ (50 ≤ x (354 + i.toNat))))) (fun zv hzv => ?_) (fun K62 => ?_)
      ·
        subst hzv
        refine sd_callNp (as := [.inl (sd_b ((t = 0) ∧ (50 ≤ x (354 + i.toNat))))]) (st := [.inl ((sd_b (12 ≤ g) + sd_b (x (82 + ((x (322 + i.toNat)).toNat)) < 5)) + (2 * (x (106 + ((x (322 + i.toNat)).toNat)))))]) (v := .inl (sd_b ((t = 0) ∧ (50 ≤ x (354 + i.toNat))))) sD6_lossOfWill_84 sM6_204 rfl rfl (by decide) (Nat.le_of_ble_eq_true rfl) (cC_asNumber ((t = 0) ∧ (50 ≤ x (354 + i.toNat))) m) (fun ho84 => ?_)
        have zb87 := sd_b01 ((t = 0) ∧ (50 ≤ x (354 + i.toNat)))
        refine sd_iadd (z := (((sd_b (12 ≤ g) + sd_b (x (82 + ((x (322 + i.toNat)).toNat)) < 5)) + (2 * (x (106 + ((x (322 + i.toNat)).toNat))))) + sd_b ((t = 0) ∧ (50 ≤ x (354 + i.toNat))))) sD6_lossOfWill_87 (by omega) (by omega) ?_
        refine sd_iretp sD6_lossOfWill_88 rfl ?_
        rfl
      ·
        refine sd_if_ne (tgt := 83) sD6_lossOfWill_62 (by decide) (fun zc62 => ?_) (fun zc62 => ?_)
        ·
          refine sd_iconst sD6_lossOfWill_83 (by decide) ?_
          exact K62 _ (by exact (sd_b0 (by omega)).symm)
        ·
          refine sd_aload_n sD6_lossOfWill_65 rfl ?_
          refine sd_getfr sD6_lossOfWill_66 sF6_28 sGC53_3 ?_
          refine sd_getfr sD6_lossOfWill_69 sF6_198 sGC18_3 ?_
          refine sd_iload_n sD6_lossOfWill_72 rfl ?_
          refine sd_ialdx (a := (354 + i.toNat)) (v := x (354 + i.toNat)) hx sD6_lossOfWill_73 sAC16 (by omega) rfl ?_
          refine sd_bipush sD6_lossOfWill_74 rfl (by decide) ?_
          refine sd_icmp_lt (tgt := 83) sD6_lossOfWill_76 (by decide) (fun zc76 => ?_) (fun zc76 => ?_)
          ·
            refine sd_iconst sD6_lossOfWill_83 (by decide) ?_
            exact K62 _ (by exact (sd_b0 (by omega)).symm)
          ·
            refine sd_iconst sD6_lossOfWill_79 (by decide) ?_
            refine sd_goto (tgt := 84) sD6_lossOfWill_80 (by decide) ?_
            exact K62 _ (by exact (sd_b1 (by omega)).symm)
    ·
      refine sd_icmp_ge (tgt := 43) sD6_lossOfWill_36 (by decide) (fun zc36 => ?_) (fun zc36 => ?_)
      ·
        refine sd_iconst sD6_lossOfWill_43 (by decide) ?_
        exact K36 _ (by exact (sd_b0 (by omega)).symm)
      ·
        refine sd_iconst sD6_lossOfWill_39 (by decide) ?_
        refine sd_goto (tgt := 44) sD6_lossOfWill_40 (by decide) ?_
        exact K36 _ (by exact (sd_b1 (by omega)).symm)
  ·
    refine sd_icmp_lt (tgt := 21) sD6_lossOfWill_14 (by decide) (fun zc14 => ?_) (fun zc14 => ?_)
    ·
      refine sd_iconst sD6_lossOfWill_21 (by decide) ?_
      exact K14 _ (by exact (sd_b0 (by omega)).symm)
    ·
      refine sd_iconst sD6_lossOfWill_17 (by decide) ?_
      refine sd_goto (tgt := 22) sD6_lossOfWill_18 (by decide) ?_
      exact K14 _ (by exact (sd_b1 (by omega)).symm)
