set_option maxRecDepth 100000 in
set_option maxHeartbeats 4000000 in
theorem cM_willThen (w : Int) (g : Int) (s : Int) (d : Int) (t : Int) (x m : sd_M) (hx : sd_ns x m) (h2 : sd_I2 x) (hw : 0 ≤ w ∧ w ≤ 99) (hs : 0 ≤ s ∧ s < 24) : sd_Cp sd_SM 0 sY11_willThen [.inr 15, .inl w, .inl g, .inl s, .inl d, .inl t] m (.inl (max 0 (w - sd_los x s g d t))) := by
  refine sd_ct rfl (Nat.le_of_ble_eq_true rfl) (fun hok hm => ?_)
  have r_w : sd_R w := hok (.inl w) (by simp)
  have r_g : sd_R g := hok (.inl g) (by simp)
  have r_s : sd_R s := hok (.inl s) (by simp)
  have r_d : sd_R d := hok (.inl d) (by simp)
  have r_t : sd_R t := hok (.inl t) (by simp)
  have e2 := (h2 s.toNat (by omega)).2.2.2.2.1
  show sd_Wp sd_SM 0 sY11_willThen 0 [some (.inr 15), some (.inl w), some (.inl g), some (.inl s), some (.inl d), some (.inl t), none] [] m _
  refine sd_iload_n sD11_willThen_0 rfl ?_
  refine sd_iload_n sD11_willThen_1 rfl ?_
  refine sd_bipush sD11_willThen_2 rfl (by decide) ?_
  refine sd_cut (J := 12) (ls := [some (.inr 15), some (.inl w), some (.inl g), some (.inl s), some (.inl d), some (.inl t), none]) (st := [.inl w]) (fun zv => zv = (sd_b (12 ≤ g))) (fun zv hzv => ?_) (fun K4 => ?_)
  ·
    subst hzv
    have zb12 := sd_b01 (12 ≤ g)
    refine sd_isub (z := (w - (sd_b (12 ≤ g)))) sD11_willThen_12 (by omega) (by omega) ?_
    refine sd_aload_n sD11_willThen_13 rfl ?_
    refine sd_getfr sD11_willThen_14 sF11_7 sGM15_0 ?_
    refine sd_bipush sD11_willThen_17 rfl (by decide) ?_
    refine sd_iload_n sD11_willThen_19 rfl ?_
    refine sd_iadd (z := (82 + s)) sD11_willThen_20 (by omega) (by omega) ?_
    refine sd_ialdx (a := (82 + s.toNat)) (v := x (82 + s.toNat)) hx sD11_willThen_21 sAM0 (by omega) rfl ?_
    refine sd_iconst sD11_willThen_22 (by decide) ?_
    refine sd_cut (J := 31) (ls := [some (.inr 15), some (.inl w), some (.inl g), some (.inl s), some (.inl d), some (.inl t), none]) (st := [.inl (w - (sd_b (12 ≤ g)))]) (fun zv => zv = (sd_b (x (82 + s.toNat) < 5))) (fun zv hzv => ?_) (fun K23 => ?_)
    ·
      subst hzv
      have zb31 := sd_b01 (x (82 + s.toNat) < 5)
      refine sd_isub (z := ((w - (sd_b (12 ≤ g))) - (sd_b (x (82 + s.toNat) < 5)))) sD11_willThen_31 (by omega) (by omega) ?_
      refine sd_iconst sD11_willThen_32 (by decide) ?_
      refine sd_aload_n sD11_willThen_33 rfl ?_
      refine sd_getfr sD11_willThen_34 sF11_7 sGM15_0 ?_
      refine sd_bipush sD11_willThen_37 rfl (by decide) ?_
      refine sd_iload_n sD11_willThen_39 rfl ?_
      refine sd_iadd (z := (106 + s)) sD11_willThen_40 (by omega) (by omega) ?_
      refine sd_ialdx (a := (106 + s.toNat)) (v := x (106 + s.toNat)) hx sD11_willThen_41 sAM0 (by omega) rfl ?_
      refine sd_imul (z := (2 * (x (106 + s.toNat)))) sD11_willThen_42 (by omega) (by omega) ?_
      refine sd_isub (z := (((w - (sd_b (12 ≤ g))) - (sd_b (x (82 + s.toNat) < 5))) - (2 * (x (106 + s.toNat))))) sD11_willThen_43 (by omega) (by omega) ?_
      refine sd_iload sD11_willThen_44 rfl ?_
      refine sd_cut (J := 61) (ls := [some (.inr 15), some (.inl w), some (.inl g), some (.inl s), some (.inl d), some (.inl t), none]) (st := [.inl (((w - (sd_b (12 ≤ g))) - (sd_b (x (82 + s.toNat) < 5))) - (2 * (x (106 + s.toNat))))]) (fun zv => zv = (sd_b ((t = 0) ∧ (50 ≤ d)))) (fun zv hzv => ?_) (fun K46 => ?_)
      ·
        subst hzv
        have zb61 := sd_b01 ((t = 0) ∧ (50 ≤ d))
        refine sd_isub (z := ((((w - (sd_b (12 ≤ g))) - (sd_b (x (82 + s.toNat) < 5))) - (2 * (x (106 + s.toNat)))) - (sd_b ((t = 0) ∧ (50 ≤ d))))) sD11_willThen_61 (by omega) (by omega) ?_
        refine sd_istore (ls' := [some (.inr 15), some (.inl w), some (.inl g), some (.inl s), some (.inl d), some (.inl t), some (.inl ((((w - (sd_b (12 ≤ g))) - (sd_b (x (82 + s.toNat) < 5))) - (2 * (x (106 + s.toNat)))) - (sd_b ((t = 0) ∧ (50 ≤ d)))))]) sD11_willThen_62 (by decide) rfl ?_
        refine sd_iload sD11_willThen_64 rfl ?_
        refine sd_if_ge (tgt := 73) sD11_willThen_66 (by decide) (fun zc66 => ?_) (fun zc66 => ?_)
        ·
          refine sd_iload sD11_willThen_73 rfl ?_
          refine sd_iretp sD11_willThen_75 rfl ?_
          (unfold sd_los; omega)
        ·
          refine sd_iconst sD11_willThen_69 (by decide) ?_
          refine sd_goto (tgt := 75) sD11_willThen_70 (by decide) ?_
          refine sd_iretp sD11_willThen_75 rfl ?_
          (unfold sd_los; omega)
      ·
        refine sd_if_ne (tgt := 60) sD11_willThen_46 (by decide) (fun zc46 => ?_) (fun zc46 => ?_)
        ·
          refine sd_iconst sD11_willThen_60 (by decide) ?_
          exact K46 _ (by exact (sd_b0 (by omega)).symm)
        ·
          refine sd_iload sD11_willThen_49 rfl ?_
          refine sd_bipush sD11_willThen_51 rfl (by decide) ?_
          refine sd_icmp_lt (tgt := 60) sD11_willThen_53 (by decide) (fun zc53 => ?_) (fun zc53 => ?_)
          ·
            refine sd_iconst sD11_willThen_60 (by decide) ?_
            exact K46 _ (by exact (sd_b0 (by omega)).symm)
          ·
            refine sd_iconst sD11_willThen_56 (by decide) ?_
            refine sd_goto (tgt := 61) sD11_willThen_57 (by decide) ?_
            exact K46 _ (by exact (sd_b1 (by omega)).symm)
    ·
      refine sd_icmp_ge (tgt := 30) sD11_willThen_23 (by decide) (fun zc23 => ?_) (fun zc23 => ?_)
      ·
        refine sd_iconst sD11_willThen_30 (by decide) ?_
        exact K23 _ (by exact (sd_b0 (by omega)).symm)
      ·
        refine sd_iconst sD11_willThen_26 (by decide) ?_
        refine sd_goto (tgt := 31) sD11_willThen_27 (by decide) ?_
        exact K23 _ (by exact (sd_b1 (by omega)).symm)
  ·
    refine sd_icmp_lt (tgt := 11) sD11_willThen_4 (by decide) (fun zc4 => ?_) (fun zc4 => ?_)
    ·
      refine sd_iconst sD11_willThen_11 (by decide) ?_
      exact K4 _ (by exact (sd_b0 (by omega)).symm)
    ·
      refine sd_iconst sD11_willThen_7 (by decide) ?_
      refine sd_goto (tgt := 12) sD11_willThen_8 (by decide) ?_
      exact K4 _ (by exact (sd_b1 (by omega)).symm)
