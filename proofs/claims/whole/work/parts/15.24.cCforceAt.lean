set_option maxRecDepth 100000 in
set_option maxHeartbeats 4000000 in
theorem cC_forceAt (g : Int) (x m : sd_M) (hx : sd_ns x m) (h1 : sd_I1 x) (h2 : sd_I2 x) (h3 : sd_I3 x) (h4 : sd_I4 x) (hg : 0 ≤ g ∧ g < 24) : sd_Cp sd_SC 2 sY6_forceAt [.inr 53, .inl g] m (.inl (sd_frc x g.toNat)) := by
  refine sd_ct rfl (Nat.le_of_ble_eq_true rfl) (fun hok hm => ?_)
  obtain ⟨⟨i0, j0⟩, ⟨i1, j1⟩, ⟨i2, j2⟩, ⟨i3, j3⟩, ⟨i4, j4⟩, ⟨i5, j5⟩, ⟨i6, j6⟩, ⟨i7, j7⟩, ⟨i8, j8⟩⟩ := id h1
  have r_g : sd_R g := hok (.inl g) (by simp)
  show sd_Wp sd_SC 2 sY6_forceAt 0 [some (.inr 53), some (.inl g), none] [] m _
  refine sd_aload_n sD6_forceAt_0 rfl ?_
  refine sd_aload_n sD6_forceAt_1 rfl ?_
  refine sd_getfr sD6_forceAt_2 sF6_21 sGC53_2 ?_
  refine sd_getfr sD6_forceAt_5 sF6_107 sGC13_3 ?_
  refine sd_iload_n sD6_forceAt_8 rfl ?_
  refine sd_ialdx (a := (34 + g.toNat)) (v := x (34 + g.toNat)) hx sD6_forceAt_9 sAC1 (by omega) rfl ?_
  refine sd_bipush sD6_forceAt_10 rfl (by decide) ?_
  refine sd_callVp (as := [.inl (x (34 + g.toNat)), .inl 8]) (st := []) (v := .inl (sd_rch x (sd_shl 1 (x (34 + g.toNat))) 8)) sD6_forceAt_12 sM6_110 sOC53 rfl rfl rfl (by decide) (Nat.le_of_ble_eq_true rfl) (cC_reachedFrom (x (34 + g.toNat)) 8 _ m hx h1 h2 h3 (by omega)) (fun ho12 => ?_)
  refine sd_istore_n (ls' := [some (.inr 53), some (.inl g), some (.inl (sd_rch x (sd_shl 1 (x (34 + g.toNat))) 8))]) sD6_forceAt_15 (by decide) rfl ?_
  refine sd_aload_n sD6_forceAt_16 rfl ?_
  refine sd_getfr sD6_forceAt_17 sF6_21 sGC53_2 ?_
  refine sd_getfr sD6_forceAt_20 sF6_114 sGC13_4 ?_
  refine sd_iload_n sD6_forceAt_23 rfl ?_
  refine sd_ialdx (a := (58 + g.toNat)) (v := x (58 + g.toNat)) hx sD6_forceAt_24 sAC2 (by omega) rfl ?_
  refine sd_bipush sD6_forceAt_25 rfl (by decide) ?_
  refine sd_icmp_eq (tgt := 48) sD6_forceAt_27 (by decide) (fun zc27 => ?_) (fun zc27 => ?_)
  ·
    refine sd_aload_n sD6_forceAt_48 rfl ?_
    refine sd_getfr sD6_forceAt_49 sF6_28 sGC53_3 ?_
    refine sd_iload_n sD6_forceAt_52 rfl ?_
    refine sd_callVp (as := [.inl (sd_rch x (sd_shl 1 (x (34 + g.toNat))) 8)]) (st := []) (v := .inl (sd_inS x (sd_rch x (sd_shl 1 (x (34 + g.toNat))) 8))) sD6_forceAt_53 sM6_117 sOC18 rfl rfl rfl (by decide) (Nat.le_of_ble_eq_true rfl) (cC_inShops (sd_rch x (sd_shl 1 (x (34 + g.toNat))) 8) _ m hx h1 h4) (fun ho53 => ?_)
    refine sd_iretp sD6_forceAt_56 rfl ?_
    (unfold sd_frc; first | rfl | (rw [if_pos (by assumption), sd_or_0 (sd_rchR (sd_R_shl _ _) _)]; done) | (rw [if_pos (by assumption)]; done) | (rw [if_neg (by assumption)]; done))
  ·
    refine sd_iload_n sD6_forceAt_30 rfl ?_
    refine sd_aload_n sD6_forceAt_31 rfl ?_
    refine sd_aload_n sD6_forceAt_32 rfl ?_
    refine sd_getfr sD6_forceAt_33 sF6_21 sGC53_2 ?_
    refine sd_getfr sD6_forceAt_36 sF6_114 sGC13_4 ?_
    refine sd_iload_n sD6_forceAt_39 rfl ?_
    refine sd_ialdx (a := (58 + g.toNat)) (v := x (58 + g.toNat)) hx sD6_forceAt_40 sAC2 (by omega) rfl ?_
    refine sd_bipush sD6_forceAt_41 rfl (by decide) ?_
    refine sd_callVp (as := [.inl (x (58 + g.toNat)), .inl 8]) (st := [.inl (sd_rch x (sd_shl 1 (x (34 + g.toNat))) 8)]) (v := .inl (sd_rch x (sd_shl 1 (x (58 + g.toNat))) 8)) sD6_forceAt_43 sM6_110 sOC53 rfl rfl rfl (by decide) (Nat.le_of_ble_eq_true rfl) (cC_reachedFrom (x (58 + g.toNat)) 8 _ m hx h1 h2 h3 (by omega)) (fun ho43 => ?_)
    refine sd_ior sD6_forceAt_46 ?_
    refine sd_istore_n (ls' := [some (.inr 53), some (.inl g), some (.inl (sd_or (sd_rch x (sd_shl 1 (x (34 + g.toNat))) 8) (sd_rch x (sd_shl 1 (x (58 + g.toNat))) 8)))]) sD6_forceAt_47 (by decide) rfl ?_
    refine sd_aload_n sD6_forceAt_48 rfl ?_
    refine sd_getfr sD6_forceAt_49 sF6_28 sGC53_3 ?_
    refine sd_iload_n sD6_forceAt_52 rfl ?_
    refine sd_callVp (as := [.inl (sd_or (sd_rch x (sd_shl 1 (x (34 + g.toNat))) 8) (sd_rch x (sd_shl 1 (x (58 + g.toNat))) 8))]) (st := []) (v := .inl (sd_inS x (sd_or (sd_rch x (sd_shl 1 (x (34 + g.toNat))) 8) (sd_rch x (sd_shl 1 (x (58 + g.toNat))) 8)))) sD6_forceAt_53 sM6_117 sOC18 rfl rfl rfl (by decide) (Nat.le_of_ble_eq_true rfl) (cC_inShops (sd_or (sd_rch x (sd_shl 1 (x (34 + g.toNat))) 8) (sd_rch x (sd_shl 1 (x (58 + g.toNat))) 8)) _ m hx h1 h4) (fun ho53 => ?_)
    refine sd_iretp sD6_forceAt_56 rfl ?_
    (unfold sd_frc; first | rfl | (rw [if_pos (by assumption), sd_or_0 (sd_rchR (sd_R_shl _ _) _)]; done) | (rw [if_pos (by assumption)]; done) | (rw [if_neg (by assumption)]; done))
