set_option maxRecDepth 100000 in
set_option maxHeartbeats 4000000 in
theorem cC_isSigned (t : Int) (a : Int) (l : Int) (x m : sd_M) (hx : sd_ns x m) (h1 : sd_I1 x) (h2 : sd_I2 x) : sd_Cp sd_SC 2 sY1_isSigned [.inr 13, .inl t, .inl a, .inl l] m (.inl (sd_b (sd_sgd x t a l))) := by
  refine sd_ct rfl (Nat.le_of_ble_eq_true rfl) (fun hok hm => ?_)
  obtain ⟨⟨i0, j0⟩, ⟨i1, j1⟩, ⟨i2, j2⟩, ⟨i3, j3⟩, ⟨i4, j4⟩, ⟨i5, j5⟩, ⟨i6, j6⟩, ⟨i7, j7⟩, ⟨i8, j8⟩⟩ := id h1
  have r_t : sd_R t := hok (.inl t) (by simp)
  have r_a : sd_R a := hok (.inl a) (by simp)
  have r_l : sd_R l := hok (.inl l) (by simp)
  show sd_Wp sd_SC 2 sY1_isSigned 0 [some (.inr 13), some (.inl t), some (.inl a), some (.inl l)] [] m _
  refine sd_aload_n sD1_isSigned_0 rfl ?_
  refine sd_iload_n sD1_isSigned_1 rfl ?_
  refine sd_aload_n sD1_isSigned_2 rfl ?_
  refine sd_getfr sD1_isSigned_3 sF1_25 sGC13_4 ?_
  refine sd_callVp (as := [.inl t, .inr 2]) (st := []) (v := .inl (sd_smi x t 58)) sD1_isSigned_6 sM1_121 sOC13 rfl rfl rfl (by decide) (Nat.le_of_ble_eq_true rfl) (cC_sumIn58 t _ m hx h1 h2) (fun ho6 => ?_)
  have ze6 := sd_smi_le h1 h2 t (b := 58) (by omega)
  refine sd_iload_n sD1_isSigned_9 rfl ?_
  refine sd_icmp_lt (tgt := 56) sD1_isSigned_10 (by decide) (fun zc10 => ?_) (fun zc10 => ?_)
  ·
    refine sd_iconst sD1_isSigned_56 (by decide) ?_
    refine sd_zretp sD1_isSigned_57 rfl (by decide) ?_
    exact (sd_b0 (by omega)).symm
  ·
    refine sd_aload_n sD1_isSigned_13 rfl ?_
    refine sd_iload_n sD1_isSigned_14 rfl ?_
    refine sd_aload_n sD1_isSigned_15 rfl ?_
    refine sd_getfr sD1_isSigned_16 sF1_55 sGC13_14 ?_
    refine sd_callVp (as := [.inl t, .inr 12]) (st := []) (v := .inl (sd_smi x t 298)) sD1_isSigned_19 sM1_121 sOC13 rfl rfl rfl (by decide) (Nat.le_of_ble_eq_true rfl) (cC_sumIn298 t _ m hx h1 h2) (fun ho19 => ?_)
    have ze19 := sd_smi_le h1 h2 t (b := 298) (by omega)
    refine sd_iload_n sD1_isSigned_22 rfl ?_
    refine sd_icmp_lt (tgt := 56) sD1_isSigned_23 (by decide) (fun zc23 => ?_) (fun zc23 => ?_)
    ·
      refine sd_iconst sD1_isSigned_56 (by decide) ?_
      refine sd_zretp sD1_isSigned_57 rfl (by decide) ?_
      exact (sd_b0 (by omega)).symm
    ·
      refine sd_aload_n sD1_isSigned_26 rfl ?_
      refine sd_iload_n sD1_isSigned_27 rfl ?_
      refine sd_aload_n sD1_isSigned_28 rfl ?_
      refine sd_getfr sD1_isSigned_29 sF1_22 sGC13_3 ?_
      refine sd_callVp (as := [.inl t, .inr 1]) (st := []) (v := .inl (sd_smi x t 34)) sD1_isSigned_32 sM1_121 sOC13 rfl rfl rfl (by decide) (Nat.le_of_ble_eq_true rfl) (cC_sumIn34 t _ m hx h1 h2) (fun ho32 => ?_)
      have ze32 := sd_smi_le h1 h2 t (b := 34) (by omega)
      refine sd_iload_n sD1_isSigned_35 rfl ?_
      refine sd_icmp_gt (tgt := 56) sD1_isSigned_36 (by decide) (fun zc36 => ?_) (fun zc36 => ?_)
      ·
        refine sd_iconst sD1_isSigned_56 (by decide) ?_
        refine sd_zretp sD1_isSigned_57 rfl (by decide) ?_
        exact (sd_b0 (by omega)).symm
      ·
        refine sd_aload_n sD1_isSigned_39 rfl ?_
        refine sd_iload_n sD1_isSigned_40 rfl ?_
        refine sd_aload_n sD1_isSigned_41 rfl ?_
        refine sd_getfr sD1_isSigned_42 sF1_52 sGC13_13 ?_
        refine sd_callVp (as := [.inl t, .inr 11]) (st := []) (v := .inl (sd_smi x t 274)) sD1_isSigned_45 sM1_121 sOC13 rfl rfl rfl (by decide) (Nat.le_of_ble_eq_true rfl) (cC_sumIn274 t _ m hx h1 h2) (fun ho45 => ?_)
        have ze45 := sd_smi_le h1 h2 t (b := 274) (by omega)
        refine sd_iload_n sD1_isSigned_48 rfl ?_
        refine sd_icmp_gt (tgt := 56) sD1_isSigned_49 (by decide) (fun zc49 => ?_) (fun zc49 => ?_)
        ·
          refine sd_iconst sD1_isSigned_56 (by decide) ?_
          refine sd_zretp sD1_isSigned_57 rfl (by decide) ?_
          exact (sd_b0 (by omega)).symm
        ·
          refine sd_iconst sD1_isSigned_52 (by decide) ?_
          refine sd_goto (tgt := 57) sD1_isSigned_53 (by decide) ?_
          refine sd_zretp sD1_isSigned_57 rfl (by decide) ?_
          exact (sd_b1 (by omega)).symm
