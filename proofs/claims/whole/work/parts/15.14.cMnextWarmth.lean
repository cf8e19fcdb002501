set_option maxRecDepth 100000 in
set_option maxHeartbeats 4000000 in
theorem cM_nextWarmth (s : Int) (w : Int) (x m : sd_M) (hx : sd_ns x m) (h1 : sd_I1 x) (h2 : sd_I2 x) (hw : 0 ≤ w ∧ w ≤ 20) : sd_Cp sd_SM 2 sY11_nextWarmth [.inr 15, .inl s, .inl w] m (.inl (sd_wth x s w)) := by
  refine sd_ct rfl (Nat.le_of_ble_eq_true rfl) (fun hok hm => ?_)
  obtain ⟨⟨i0, j0⟩, ⟨i1, j1⟩, ⟨i2, j2⟩, ⟨i3, j3⟩, ⟨i4, j4⟩, ⟨i5, j5⟩, ⟨i6, j6⟩, ⟨i7, j7⟩, ⟨i8, j8⟩⟩ := id h1
  have r_s : sd_R s := hok (.inl s) (by simp)
  have r_w : sd_R w := hok (.inl w) (by simp)
  show sd_Wp sd_SM 2 sY11_nextWarmth 0 [some (.inr 15), some (.inl s), some (.inl w)] [] m _
  refine sd_aload_n sD11_nextWarmth_0 rfl ?_
  refine sd_iload_n sD11_nextWarmth_1 rfl ?_
  refine sd_iconst sD11_nextWarmth_2 (by decide) ?_
  refine sd_callVp (as := [.inl s, .inl 0]) (st := []) (v := .inl (sd_b (sd_pip x s 0))) sD11_nextWarmth_3 sM11_97 sOM15 rfl rfl rfl (by decide) (Nat.le_of_ble_eq_true rfl) (cM_leads s 0 _ m hx h1 h2 ) (fun ho3 => ?_)
  refine sd_bif_eq (tgt := 24) sD11_nextWarmth_6 (by decide) (fun zc6 => ?_) (fun zc6 => ?_)
  ·
    refine sd_iload_n sD11_nextWarmth_24 rfl ?_
    refine sd_aload_n sD11_nextWarmth_25 rfl ?_
    refine sd_getfr sD11_nextWarmth_26 sF11_7 sGM15_0 ?_
    refine sd_iconst sD11_nextWarmth_29 (by decide) ?_
    refine sd_ialdx (a := 1) (v := x 1) hx sD11_nextWarmth_30 sAM0 (by omega) rfl ?_
    refine sd_icmp_le (tgt := 40) sD11_nextWarmth_31 (by decide) (fun zc31 => ?_) (fun zc31 => ?_)
    ·
      refine sd_iload_n sD11_nextWarmth_40 rfl ?_
      refine sd_aload_n sD11_nextWarmth_41 rfl ?_
      refine sd_getfr sD11_nextWarmth_42 sF11_7 sGM15_0 ?_
      refine sd_iconst sD11_nextWarmth_45 (by decide) ?_
      refine sd_ialdx (a := 1) (v := x 1) hx sD11_nextWarmth_46 sAM0 (by omega) rfl ?_
      refine sd_icmp_ge (tgt := 56) sD11_nextWarmth_47 (by decide) (fun zc47 => ?_) (fun zc47 => ?_)
      ·
        refine sd_iload_n sD11_nextWarmth_56 rfl ?_
        refine sd_iretp sD11_nextWarmth_57 rfl ?_
        (unfold sd_wth; repeat (first | rw [if_pos (by first | assumption | omega)] | rw [if_neg (by first | assumption | omega)]); try omega)
      ·
        refine sd_iload_n sD11_nextWarmth_50 rfl ?_
        refine sd_iconst sD11_nextWarmth_51 (by decide) ?_
        refine sd_iadd (z := (w + 1)) sD11_nextWarmth_52 (by omega) (by omega) ?_
        refine sd_goto (tgt := 57) sD11_nextWarmth_53 (by decide) ?_
        refine sd_iretp sD11_nextWarmth_57 rfl ?_
        (unfold sd_wth; repeat (first | rw [if_pos (by first | assumption | omega)] | rw [if_neg (by first | assumption | omega)]); try omega)
    ·
      refine sd_iload_n sD11_nextWarmth_34 rfl ?_
      refine sd_iconst sD11_nextWarmth_35 (by decide) ?_
      refine sd_isub (z := (w - 1)) sD11_nextWarmth_36 (by omega) (by omega) ?_
      refine sd_goto (tgt := 57) sD11_nextWarmth_37 (by decide) ?_
      refine sd_iretp sD11_nextWarmth_57 rfl ?_
      (unfold sd_wth; repeat (first | rw [if_pos (by first | assumption | omega)] | rw [if_neg (by first | assumption | omega)]); try omega)
  ·
    refine sd_iload_n sD11_nextWarmth_9 rfl ?_
    refine sd_bipush sD11_nextWarmth_10 rfl (by decide) ?_
    refine sd_icmp_ge (tgt := 21) sD11_nextWarmth_12 (by decide) (fun zc12 => ?_) (fun zc12 => ?_)
    ·
      refine sd_bipush sD11_nextWarmth_21 rfl (by decide) ?_
      refine sd_iretp sD11_nextWarmth_23 rfl ?_
      (unfold sd_wth; repeat (first | rw [if_pos (by first | assumption | omega)] | rw [if_neg (by first | assumption | omega)]); try omega)
    ·
      refine sd_iload_n sD11_nextWarmth_15 rfl ?_
      refine sd_iconst sD11_nextWarmth_16 (by decide) ?_
      refine sd_iadd (z := (w + 1)) sD11_nextWarmth_17 (by omega) (by omega) ?_
      refine sd_goto (tgt := 23) sD11_nextWarmth_18 (by decide) ?_
      refine sd_iretp sD11_nextWarmth_23 rfl ?_
      (unfold sd_wth; repeat (first | rw [if_pos (by first | assumption | omega)] | rw [if_neg (by first | assumption | omega)]); try omega)
