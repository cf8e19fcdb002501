set_option maxRecDepth 100000 in
set_option maxHeartbeats 4000000 in
theorem cM_forceAt (g : Int) (x m : sd_M) (hx : sd_ns x m) (h1 : sd_I1 x) (h2 : sd_I2 x) (h3 : sd_I3 x) (h4 : sd_I4 x) (hg : 0 ≤ g ∧ g < 24) : sd_Cp sd_SM 3 sY11_forceAt [.inr 15, .inl g] m (.inl (sd_frc x g.toNat)) := by
  refine sd_ct rfl (Nat.le_of_ble_eq_true rfl) (fun hok hm => ?_)
  obtain ⟨⟨i0, j0⟩, ⟨i1, j1⟩, ⟨i2, j2⟩, ⟨i3, j3⟩, ⟨i4, j4⟩, ⟨i5, j5⟩, ⟨i6, j6⟩, ⟨i7, j7⟩, ⟨i8, j8⟩⟩ := id h1
  have r_g : sd_R g := hok (.inl g) (by simp)
  show sd_Wp sd_SM 3 sY11_forceAt 0 [some (.inr 15), some (.inl g)] [] m _
  refine sd_aload_n sD11_forceAt_0 rfl ?_
  refine sd_aload_n sD11_forceAt_1 rfl ?_
  refine sd_aload_n sD11_forceAt_2 rfl ?_
  refine sd_getfr sD11_forceAt_3 sF11_7 sGM15_0 ?_
  refine sd_bipush sD11_forceAt_6 rfl (by decide) ?_
  refine sd_iload_n sD11_forceAt_8 rfl ?_
  refine sd_iadd (z := (34 + g)) sD11_forceAt_9 (by omega) (by omega) ?_
  refine sd_ialdx (a := (34 + g.toNat)) (v := x (34 + g.toNat)) hx sD11_forceAt_10 sAM0 (by omega) rfl ?_
  refine sd_callVp (as := [.inl (x (34 + g.toNat))]) (st := [.inr 15]) (v := .inl (sd_rch x (sd_shl 1 (x (34 + g.toNat))) 8)) sD11_forceAt_11 sM11_109 sOM15 rfl rfl rfl (by decide) (Nat.le_of_ble_eq_true rfl) (cM_reachOf (x (34 + g.toNat)) _ m hx h1 h2 h3 ) (fun ho11 => ?_)
  refine sd_aload_n sD11_forceAt_14 rfl ?_
  refine sd_getfr sD11_forceAt_15 sF11_7 sGM15_0 ?_
  refine sd_bipush sD11_forceAt_18 rfl (by decide) ?_
  refine sd_iload_n sD11_forceAt_20 rfl ?_
  refine sd_iadd (z := (58 + g)) sD11_forceAt_21 (by omega) (by omega) ?_
  refine sd_ialdx (a := (58 + g.toNat)) (v := x (58 + g.toNat)) hx sD11_forceAt_22 sAM0 (by omega) rfl ?_
  refine sd_bipush sD11_forceAt_23 rfl (by decide) ?_
  refine sd_icmp_ne (tgt := 32) sD11_forceAt_25 (by decide) (fun zc25 => ?_) (fun zc25 => ?_)
  ·
    refine sd_aload_n sD11_forceAt_32 rfl ?_
    refine sd_aload_n sD11_forceAt_33 rfl ?_
    refine sd_getfr sD11_forceAt_34 sF11_7 sGM15_0 ?_
    refine sd_bipush sD11_forceAt_37 rfl (by decide) ?_
    refine sd_iload_n sD11_forceAt_39 rfl ?_
    refine sd_iadd (z := (58 + g)) sD11_forceAt_40 (by omega) (by omega) ?_
    refine sd_ialdx (a := (58 + g.toNat)) (v := x (58 + g.toNat)) hx sD11_forceAt_41 sAM0 (by omega) rfl ?_
    refine sd_callVp (as := [.inl (x (58 + g.toNat))]) (st := [.inl (sd_rch x (sd_shl 1 (x (34 + g.toNat))) 8), .inr 15]) (v := .inl (sd_rch x (sd_shl 1 (x (58 + g.toNat))) 8)) sD11_forceAt_42 sM11_109 sOM15 rfl rfl rfl (by decide) (Nat.le_of_ble_eq_true rfl) (cM_reachOf (x (58 + g.toNat)) _ m hx h1 h2 h3 ) (fun ho42 => ?_)
    refine sd_ior sD11_forceAt_45 ?_
    refine sd_callVp (as := [.inl (sd_or (sd_rch x (sd_shl 1 (x (34 + g.toNat))) 8) (sd_rch x (sd_shl 1 (x (58 + g.toNat))) 8))]) (st := []) (v := .inl (sd_inS x (sd_or (sd_rch x (sd_shl 1 (x (34 + g.toNat))) 8) (sd_rch x (sd_shl 1 (x (58 + g.toNat))) 8)))) sD11_forceAt_46 sM11_116 sOM15 rfl rfl rfl (by decide) (Nat.le_of_ble_eq_true rfl) (cM_menInAll (sd_or (sd_rch x (sd_shl 1 (x (34 + g.toNat))) 8) (sd_rch x (sd_shl 1 (x (58 + g.toNat))) 8)) _ m hx h1 h4) (fun ho46 => ?_)
    refine sd_iretp sD11_forceAt_49 rfl ?_
    (unfold sd_frc; first | rfl | (rw [if_pos (by assumption), sd_or_0 (sd_rchR (sd_R_shl _ _) _)]; done) | (rw [if_pos (by assumption)]; done) | (rw [if_neg (by assumption)]; done))
  ·
    refine sd_iconst sD11_forceAt_28 (by decide) ?_
    refine sd_goto (tgt := 45) sD11_forceAt_29 (by decide) ?_
    refine sd_ior sD11_forceAt_45 ?_
    refine sd_callVp (as := [.inl (sd_or (sd_rch x (sd_shl 1 (x (34 + g.toNat))) 8) 0)]) (st := []) (v := .inl (sd_inS x (sd_or (sd_rch x (sd_shl 1 (x (34 + g.toNat))) 8) 0))) sD11_forceAt_46 sM11_116 sOM15 rfl rfl rfl (by decide) (Nat.le_of_ble_eq_true rfl) (cM_menInAll (sd_or (sd_rch x (sd_shl 1 (x (34 + g.toNat))) 8) 0) _ m hx h1 h4) (fun ho46 => ?_)
    refine sd_iretp sD11_forceAt_49 rfl ?_
    (unfold sd_frc; first | rfl | (rw [if_pos (by assumption), sd_or_0 (sd_rchR (sd_R_shl _ _) _)]; done) | (rw [if_pos (by assumption)]; done) | (rw [if_neg (by assumption)]; done))
