set_option maxRecDepth 100000 in
set_option maxHeartbeats 4000000 in
theorem cM_mealsIn (s : Int) (x m : sd_M) (hx : sd_ns x m) (h1 : sd_I1 x) (h2 : sd_I2 x) : sd_Cp sd_SM 1 sY11_mealsIn [.inr 15, .inl s] m (.inl (sd_mls x s)) := by
  refine sd_ct rfl (Nat.le_of_ble_eq_true rfl) (fun hok hm => ?_)
  obtain ⟨⟨i0, j0⟩, ⟨i1, j1⟩, ⟨i2, j2⟩, ⟨i3, j3⟩, ⟨i4, j4⟩, ⟨i5, j5⟩, ⟨i6, j6⟩, ⟨i7, j7⟩, ⟨i8, j8⟩⟩ := id h1
  have r_s : sd_R s := hok (.inl s) (by simp)
  show sd_Wp sd_SM 1 sY11_mealsIn 0 [some (.inr 15), some (.inl s), none, none] [] m _
  refine sd_iconst sD11_mealsIn_0 (by decide) ?_
  refine sd_istore_n (ls' := [some (.inr 15), some (.inl s), some (.inl 0), none]) sD11_mealsIn_1 (by decide) rfl ?_
  refine sd_iconst sD11_mealsIn_2 (by decide) ?_
  refine sd_istore_n (ls' := [some (.inr 15), some (.inl s), some (.inl 0), some (.inl 0)]) sD11_mealsIn_3 (by decide) rfl ?_
  refine sd_forE ((x 2).toNat) (fun zi4 : Nat => [some (.inr 15), some (.inl s), some (.inl (sd_sum (sd_fml x s) zi4)), some (.inl (zi4 : Int))]) (by rfl) (fun zi4 hizi4 ihzi4 => ?_) ?_
  ·
    have e2 := h2 zi4 (by omega)
    have e5 := sd_sum_le (f := sd_fml x s) (n := zi4) (B := 99) (fun i hi => sd_fml_le h2 s i (by omega))
    refine sd_iload_n sD11_mealsIn_4 rfl ?_
    refine sd_aload_n sD11_mealsIn_5 rfl ?_
    refine sd_getfr sD11_mealsIn_6 sF11_7 sGM15_0 ?_
    refine sd_iconst sD11_mealsIn_9 (by decide) ?_
    refine sd_ialdx (a := 2) (v := x 2) hx sD11_mealsIn_10 sAM0 (by omega) rfl ?_
    refine sd_icmp_ge (tgt := 55) sD11_mealsIn_11 (by decide) (fun zc11 => (by exfalso; omega)) (fun zc11 => ?_)
    refine sd_iload_n sD11_mealsIn_14 rfl ?_
    refine sd_aload_n sD11_mealsIn_15 rfl ?_
    refine sd_iload_n sD11_mealsIn_16 rfl ?_
    refine sd_callVp (as := [.inl (zi4 : Int)]) (st := [.inl (sd_sum (sd_fml x s) zi4)]) (v := .inl (x (10 + zi4))) sD11_mealsIn_17 sM11_64 sOM15 rfl rfl rfl (by decide) (Nat.le_of_ble_eq_true rfl) (cM_kindOf (zi4 : Int) _ m hx  (by omega)) (fun ho17 => ?_)
    refine sd_iconst sD11_mealsIn_20 (by decide) ?_
    refine sd_icmp_ne (tgt := 46) sD11_mealsIn_21 (by decide) (fun zc21 => ?_) (fun zc21 => ?_)
    ·
      refine sd_iconst sD11_mealsIn_46 (by decide) ?_
      refine sd_iadd (z := sd_sum (sd_fml x s) zi4) sD11_mealsIn_47 (by omega) (by omega) ?_
      refine sd_istore_n (ls' := [some (.inr 15), some (.inl s), some (.inl (sd_sum (sd_fml x s) zi4)), some (.inl (zi4 : Int))]) sD11_mealsIn_48 (by decide) rfl ?_
      refine sd_iinc (y := ((zi4 : Int) + 1)) (ls' := [some (.inr 15), some (.inl s), some (.inl (sd_sum (sd_fml x s) zi4)), some (.inl ((zi4 : Int) + 1))]) sD11_mealsIn_49 rfl (by omega) (by omega) (by decide) rfl ?_
      refine sd_goto (tgt := 4) sD11_mealsIn_52 (by decide) ?_
      exact sd_eqw (ls' := [some (.inr 15), some (.inl s), some (.inl (sd_sum (sd_fml x s) (zi4 + 1))), some (.inl ((zi4 + 1 : Nat) : Int))]) ihzi4 (by rw [show (sd_sum (sd_fml x s) zi4 : Int) = sd_sum (sd_fml x s) (zi4 + 1) from by (simp only [sd_sum]; unfold sd_fml; first | (rw [if_pos ⟨by assumption, by assumption⟩]; done) | (rw [if_neg (fun hp => by have a1 := hp.1; have a2 := hp.2; first | omega | contradiction)]; omega)), show (((zi4 : Int) + 1) : Int) = ((zi4 + 1 : Nat) : Int) from by omega]) rfl
    ·
      refine sd_iload_n sD11_mealsIn_24 rfl ?_
      refine sd_iload_n sD11_mealsIn_25 rfl ?_
      refine sd_ishr sD11_mealsIn_26 ?_
      refine sd_iconst sD11_mealsIn_27 (by decide) ?_
      refine sd_iand sD11_mealsIn_28 ?_
      refine sd_iconst sD11_mealsIn_29 (by decide) ?_
      refine sd_icmp_ne (tgt := 46) sD11_mealsIn_30 (by decide) (fun zc30 => ?_) (fun zc30 => ?_)
      ·
        refine sd_iconst sD11_mealsIn_46 (by decide) ?_
        refine sd_iadd (z := sd_sum (sd_fml x s) zi4) sD11_mealsIn_47 (by omega) (by omega) ?_
        refine sd_istore_n (ls' := [some (.inr 15), some (.inl s), some (.inl (sd_sum (sd_fml x s) zi4)), some (.inl (zi4 : Int))]) sD11_mealsIn_48 (by decide) rfl ?_
        refine sd_iinc (y := ((zi4 : Int) + 1)) (ls' := [some (.inr 15), some (.inl s), some (.inl (sd_sum (sd_fml x s) zi4)), some (.inl ((zi4 : Int) + 1))]) sD11_mealsIn_49 rfl (by omega) (by omega) (by decide) rfl ?_
        refine sd_goto (tgt := 4) sD11_mealsIn_52 (by decide) ?_
        exact sd_eqw (ls' := [some (.inr 15), some (.inl s), some (.inl (sd_sum (sd_fml x s) (zi4 + 1))), some (.inl ((zi4 + 1 : Nat) : Int))]) ihzi4 (by rw [show (sd_sum (sd_fml x s) zi4 : Int) = sd_sum (sd_fml x s) (zi4 + 1) from by (simp only [sd_sum]; unfold sd_fml; first | (rw [if_pos ⟨by assumption, by assumption⟩]; done) | (rw [if_neg (fun hp => by have a1 := hp.1; have a2 := hp.2; first | omega | contradiction)]; omega)), show (((zi4 : Int) + 1) : Int) = ((zi4 + 1 : Nat) : Int) from by omega]) rfl
      ·
        refine sd_aload_n sD11_mealsIn_33 rfl ?_
        refine sd_getfr sD11_mealsIn_34 sF11_7 sGM15_0 ?_
        refine sd_sipush sD11_mealsIn_37 rfl (by decide) ?_
        refine sd_iload_n sD11_mealsIn_40 rfl ?_
        refine sd_iadd (z := (154 + (zi4 : Int))) sD11_mealsIn_41 (by omega) (by omega) ?_
        refine sd_ialdx (a := (154 + zi4)) (v := x (154 + zi4)) hx sD11_mealsIn_42 sAM0 (by omega) rfl ?_
        refine sd_goto (tgt := 47) sD11_mealsIn_43 (by decide) ?_
        refine sd_iadd (z := (sd_sum (sd_fml x s) zi4 + x (154 + zi4))) sD11_mealsIn_47 (by omega) (by omega) ?_
        refine sd_istore_n (ls' := [some (.inr 15), some (.inl s), some (.inl (sd_sum (sd_fml x s) zi4 + x (154 + zi4))), some (.inl (zi4 : Int))]) sD11_mealsIn_48 (by decide) rfl ?_
        refine sd_iinc (y := ((zi4 : Int) + 1)) (ls' := [some (.inr 15), some (.inl s), some (.inl (sd_sum (sd_fml x s) zi4 + x (154 + zi4))), some (.inl ((zi4 : Int) + 1))]) sD11_mealsIn_49 rfl (by omega) (by omega) (by decide) rfl ?_
        refine sd_goto (tgt := 4) sD11_mealsIn_52 (by decide) ?_
        exact sd_eqw (ls' := [some (.inr 15), some (.inl s), some (.inl (sd_sum (sd_fml x s) (zi4 + 1))), some (.inl ((zi4 + 1 : Nat) : Int))]) ihzi4 (by rw [show ((sd_sum (sd_fml x s) zi4 + x (154 + zi4)) : Int) = sd_sum (sd_fml x s) (zi4 + 1) from by (simp only [sd_sum]; unfold sd_fml; first | (rw [if_pos ⟨by assumption, by assumption⟩]; done) | (rw [if_neg (fun hp => by have a1 := hp.1; have a2 := hp.2; first | omega | contradiction)]; omega)), show (((zi4 : Int) + 1) : Int) = ((zi4 + 1 : Nat) : Int) from by omega]) rfl
  ·
    show sd_Wp sd_SM 1 sY11_mealsIn 4 [some (.inr 15), some (.inl s), some (.inl (sd_sum (sd_fml x s) ((x 2).toNat))), some (.inl ((((x 2).toNat) : Nat) : Int))] [] m _
    refine sd_iload_n sD11_mealsIn_4 rfl ?_
    refine sd_aload_n sD11_mealsIn_5 rfl ?_
    refine sd_getfr sD11_mealsIn_6 sF11_7 sGM15_0 ?_
    refine sd_iconst sD11_mealsIn_9 (by decide) ?_
    refine sd_ialdx (a := 2) (v := x 2) hx sD11_mealsIn_10 sAM0 (by omega) rfl ?_
    refine sd_icmp_ge (tgt := 55) sD11_mealsIn_11 (by decide) (fun zc11 => ?_) (fun zc11 => (by exfalso; omega))
    refine sd_iload_n sD11_mealsIn_55 rfl ?_
    refine sd_iretp sD11_mealsIn_56 rfl ?_
    first | rfl | omega | (congr 1; omega)
