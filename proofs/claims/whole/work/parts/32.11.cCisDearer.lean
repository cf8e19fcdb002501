set_option maxRecDepth 100000 in
set_option maxHeartbeats 4000000 in
theorem cC_isDearer (b : Int) (t : Int) (x m : sd_M) (hx : sd_ns x m) (h1 : sd_I1 x) (h2 : sd_I2 x) (hb : 0 ≤ b ∧ b < 16777216) (ht : 0 ≤ t ∧ t < 16777216) : sd_Cp sd_SC 2 sY1_isDearer [.inr 13, .inl b, .inl t] m (.inl (sd_b (sd_der x b t))) := by
  refine sd_ct rfl (Nat.le_of_ble_eq_true rfl) (fun hok hm => ?_)
  obtain ⟨⟨i0, j0⟩, ⟨i1, j1⟩, ⟨i2, j2⟩, ⟨i3, j3⟩, ⟨i4, j4⟩, ⟨i5, j5⟩, ⟨i6, j6⟩, ⟨i7, j7⟩, ⟨i8, j8⟩⟩ := id h1
  have r_b : sd_R b := hok (.inl b) (by simp)
  have r_t : sd_R t := hok (.inl t) (by simp)
  show sd_Wp sd_SC 2 sY1_isDearer 0 [some (.inr 13), some (.inl b), some (.inl t), none] [] m _
  refine sd_aload_n sD1_isDearer_0 rfl ?_
  refine sd_iload_n sD1_isDearer_1 rfl ?_
  refine sd_aload_n sD1_isDearer_2 rfl ?_
  refine sd_getfr sD1_isDearer_3 sF1_22 sGC13_3 ?_
  refine sd_callVp (as := [.inl b, .inr 1]) (st := []) (v := .inl (sd_smi x b 34)) sD1_isDearer_6 sM1_121 sOC13 rfl rfl rfl (by decide) (Nat.le_of_ble_eq_true rfl) (cC_sumIn34 b _ m hx h1 h2) (fun ho6 => ?_)
  have ze6 := sd_smi_le h1 h2 b (b := 34) (by omega)
  refine sd_aload_n sD1_isDearer_9 rfl ?_
  refine sd_iload_n sD1_isDearer_10 rfl ?_
  refine sd_aload_n sD1_isDearer_11 rfl ?_
  refine sd_getfr sD1_isDearer_12 sF1_22 sGC13_3 ?_
  refine sd_callVp (as := [.inl t, .inr 1]) (st := [.inl (sd_smi x b 34)]) (v := .inl (sd_smi x t 34)) sD1_isDearer_15 sM1_121 sOC13 rfl rfl rfl (by decide) (Nat.le_of_ble_eq_true rfl) (cC_sumIn34 t _ m hx h1 h2) (fun ho15 => ?_)
  have ze15 := sd_smi_le h1 h2 t (b := 34) (by omega)
  refine sd_isub (z := (sd_smi x b 34 - (sd_smi x t 34))) sD1_isDearer_18 (by omega) (by omega) ?_
  refine sd_istore_n (ls' := [some (.inr 13), some (.inl b), some (.inl t), some (.inl (sd_smi x b 34 - (sd_smi x t 34)))]) sD1_isDearer_19 (by decide) rfl ?_
  refine sd_iload_n sD1_isDearer_20 rfl ?_
  refine sd_if_gt (tgt := 39) sD1_isDearer_21 (by decide) (fun zc21 => ?_) (fun zc21 => ?_)
  ·
    refine sd_iconst sD1_isDearer_39 (by decide) ?_
    refine sd_goto (tgt := 44) sD1_isDearer_40 (by decide) ?_
    refine sd_zretp sD1_isDearer_44 rfl (by decide) ?_
    exact (sd_b1 (by omega)).symm
  ·
    refine sd_iload_n sD1_isDearer_24 rfl ?_
    refine sd_if_ne (tgt := 43) sD1_isDearer_25 (by decide) (fun zc25 => ?_) (fun zc25 => ?_)
    ·
      refine sd_iconst sD1_isDearer_43 (by decide) ?_
      refine sd_zretp sD1_isDearer_44 rfl (by decide) ?_
      exact (sd_b0 (by omega)).symm
    ·
      refine sd_iload_n sD1_isDearer_28 rfl ?_
      refine sd_callSp (as := [.inl b]) (st := []) (v := .inl (sd_ones b)) sD1_isDearer_29 sM1_106 rfl rfl (by decide) (Nat.le_of_ble_eq_true rfl) (cC_bitCount b m (by first | omega | assumption)) (fun ho29 => ?_)
      refine sd_iload_n sD1_isDearer_32 rfl ?_
      refine sd_callSp (as := [.inl t]) (st := [.inl (sd_ones b)]) (v := .inl (sd_ones t)) sD1_isDearer_33 sM1_106 rfl rfl (by decide) (Nat.le_of_ble_eq_true rfl) (cC_bitCount t m (by first | omega | assumption)) (fun ho33 => ?_)
      refine sd_icmp_le (tgt := 43) sD1_isDearer_36 (by decide) (fun zc36 => ?_) (fun zc36 => ?_)
      ·
        refine sd_iconst sD1_isDearer_43 (by decide) ?_
        refine sd_zretp sD1_isDearer_44 rfl (by decide) ?_
        exact (sd_b0 (by omega)).symm
      ·
        refine sd_iconst sD1_isDearer_39 (by decide) ?_
        refine sd_goto (tgt := 44) sD1_isDearer_40 (by decide) ?_
        refine sd_zretp sD1_isDearer_44 rfl (by decide) ?_
        exact (sd_b1 (by omega)).symm
