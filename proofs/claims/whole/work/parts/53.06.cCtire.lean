set_option maxRecDepth 100000 in
set_option maxHeartbeats 4000000 in
theorem cC_tire (i : Nat) (hi : i < 16) (t : Int) (x m : sd_M) (hx : sd_ns x m) (hJ : sd_J x) (hs : ¬ x (322 + i) = -1) : sd_Ct sd_SC 3 sY6_loseWill [.inr 53, .inl (i : Int), .inl t] m (fun r m' => r = none ∧ sd_ns (sd_tiS x i t) m') := by
  refine sd_ct rfl (Nat.le_of_ble_eq_true rfl) (fun hok hm => ?_)
  have h1 := hJ.1
  have h2 := hJ.2.1
  have h3 := hJ.2.2.1
  have h4 := hJ.2.2.2.1
  have h5 := hJ.2.2.2.2.1
  have h6 := hJ.2.2.2.2.2.1
  have h7 := hJ.2.2.2.2.2.2.1
  have hR := hJ.2.2.2.2.2.2.2.1
  have hI := hJ.2.2.2.2.2.2.2.2.1
  have hL := hJ.2.2.2.2.2.2.2.2.2
  obtain ⟨⟨i0, j0⟩, ⟨i1, j1⟩, ⟨i2, j2⟩, ⟨i3, j3⟩, ⟨i4, j4⟩, ⟨i5, j5⟩, ⟨i6, j6⟩, ⟨i7, j7⟩, ⟨i8, j8⟩⟩ := id h1
  have e4 := h4 i hi
  have hs0 : 0 ≤ x (322 + ((i : Nat) : Int).toNat) := by rw [Int.toNat_natCast]; omega
  have hJ2 := (sd_tiY_J hJ hi (by omega) t).1
  have hW := (sd_tiY_J hJ hi (by omega) t).2
  have el := sd_los_rng h2 (s := x (322 + i)) (hg := x (370 + i)) (ow := x (354 + i)) (tm := t) (by omega)
  show sd_Wp sd_SC 3 sY6_loseWill 0 [some (.inr 53), some (.inl (i : Int)), some (.inl t), none] [] m _
  refine sd_iconst sD6_loseWill_0 (by decide) ?_
  refine sd_aload_n sD6_loseWill_1 rfl ?_
  refine sd_getfr sD6_loseWill_2 sF6_28 sGC53_3 ?_
  refine sd_getfr sD6_loseWill_5 sF6_181 sGC18_2 ?_
  refine sd_iload_n sD6_loseWill_8 rfl ?_
  refine sd_ialdx (a := (338 + i)) (v := x (338 + i)) hx sD6_loseWill_9 sAC15 (by omega) rfl ?_
  refine sd_aload_n sD6_loseWill_10 rfl ?_
  refine sd_iload_n sD6_loseWill_11 rfl ?_
  refine sd_aload_n sD6_loseWill_12 rfl ?_
  refine sd_getfr sD6_loseWill_13 sF6_28 sGC53_3 ?_
  refine sd_getfr sD6_loseWill_16 sF6_184 sGC18_4 ?_
  refine sd_iload_n sD6_loseWill_19 rfl ?_
  refine sd_ialdx (a := (370 + i)) (v := x (370 + i)) hx sD6_loseWill_20 sAC17 (by omega) rfl ?_
  refine sd_iload_n sD6_loseWill_21 rfl ?_
  refine sd_callVp (as := [.inl (i : Int), .inl (x (370 + i)), .inl t]) (st := [.inl (x (338 + i)), .inl 0]) (v := .inl (sd_los x (x (322 + i)) (x (370 + i)) (x (354 + i)) t)) sD6_loseWill_22 sM6_192 sOC53 rfl rfl rfl (by decide) (Nat.le_of_ble_eq_true rfl) (cC_lossOfWill (i : Int) (x (370 + i)) t _ m hx h2 h4 (by omega) (by first | assumption | omega)) (fun ho22 => ?_)
  refine sd_isub (z := (x (338 + i) - (sd_los x (x (322 + i)) (x (370 + i)) (x (354 + i)) t))) sD6_loseWill_25 (by omega) (by omega) ?_
  refine sd_mmax sD6_loseWill_26 sM6_195 (by decide) (Nat.le_of_ble_eq_true rfl) ?_
  refine sd_eqs (ls' := [some (.inr 53), some (.inl (i : Int)), some (.inl t), none]) (st' := [.inl (sd_tiW x i t)]) ?_ rfl (by unfold sd_tiW; rfl)
  refine sd_istore_n (ls' := [some (.inr 53), some (.inl (i : Int)), some (.inl t), some (.inl (sd_tiW x i t))]) sD6_loseWill_29 (by decide) rfl ?_
  refine sd_aload_n sD6_loseWill_30 rfl ?_
  refine sd_getfr sD6_loseWill_31 sF6_28 sGC53_3 ?_
  refine sd_getfr sD6_loseWill_34 sF6_181 sGC18_2 ?_
  refine sd_iload_n sD6_loseWill_37 rfl ?_
  refine sd_iload_n sD6_loseWill_38 rfl ?_
  refine sd_iastx (a := (338 + i)) sd_sokC hx sD6_loseWill_39 sAC15 (by omega) (fun m hx em39 => ?_)
  replace hx : sd_ns (sd_tiY x i t) m := hx
  replace h1 := hJ2.1
  replace h2 := hJ2.2.1
  replace h3 := hJ2.2.2.1
  replace h4 := hJ2.2.2.2.1
  replace h5 := hJ2.2.2.2.2.1
  replace h6 := hJ2.2.2.2.2.2.1
  replace h7 := hJ2.2.2.2.2.2.2.1
  replace hR := hJ2.2.2.2.2.2.2.2.1
  replace hI := hJ2.2.2.2.2.2.2.2.2.1
  replace hL := hJ2.2.2.2.2.2.2.2.2.2
  refine sd_iload_n sD6_loseWill_40 rfl ?_
  refine sd_aload_n sD6_loseWill_41 rfl ?_
  refine sd_getfr sD6_loseWill_42 sF6_28 sGC53_3 ?_
  refine sd_getfr sD6_loseWill_45 sF6_198 sGC18_3 ?_
  refine sd_iload_n sD6_loseWill_48 rfl ?_
  refine sd_ialdx (a := (354 + i)) (v := x (354 + i)) hx sD6_loseWill_49 sAC16 (by omega) (by unfold sd_tiY; exact sd_up_ne (by omega)) ?_
  refine sd_bipush sD6_loseWill_50 rfl (by decide) ?_
  refine sd_idiv (z := (x (354 + i) / 10)) sD6_loseWill_52 (by decide) (by exact Int.tdiv_eq_ediv_of_nonneg (by omega)) (by omega) ?_
  refine sd_icmp_ge (tgt := 90) sD6_loseWill_53 (by decide) (fun zc53 => ?_) (fun zc53 => ?_)
  ·
    refine sd_vreturn sD6_loseWill_90 rfl (fun hm => ?_)
    (refine ⟨rfl, ?_⟩; unfold sd_tiS; first | (rw [if_pos ⟨by assumption, by assumption⟩]; exact hx) | (rw [if_neg (fun q => by have q1 := q.1; have q2 := q.2; first | omega | contradiction)]; exact hx))
  ·
    refine sd_aload_n sD6_loseWill_56 rfl ?_
    refine sd_getfr sD6_loseWill_57 sF6_42 sGC53_5 ?_
    refine sd_aload_n sD6_loseWill_60 rfl ?_
    refine sd_iconst sD6_loseWill_61 (by decide) ?_
    refine sd_aload_n sD6_loseWill_62 rfl ?_
    refine sd_getfr sD6_loseWill_63 sF6_28 sGC53_3 ?_
    refine sd_getfr sD6_loseWill_66 sF6_201 sGC18_1 ?_
    refine sd_iload_n sD6_loseWill_69 rfl ?_
    refine sd_ialdx (a := (322 + i)) (v := x (322 + i)) hx sD6_loseWill_70 sAC14 (by omega) (by unfold sd_tiY; exact sd_up_ne (by omega)) ?_
    refine sd_callV (as := [.inl 0, .inl (x (322 + i))]) (st := [.inr 36]) sD6_loseWill_71 sM6_136 rfl rfl sOC53 rfl (by decide) (Nat.le_of_ble_eq_true rfl) (cC_clauseAt 0 (x (322 + i)) _ m hx (by omega) h1 h2 h4 h6 hR) (fun r m hq ho71 hm => ?_)
    obtain ⟨rfl, hx⟩ := hq
    have zk71 := sd_clx_rng h1 hR 0 (x (322 + i))
    show sd_Wp sd_SC 3 sY6_loseWill 74 [some (.inr 53), some (.inl (i : Int)), some (.inl t), some (.inl (sd_tiW x i t))] [.inl (sd_clx (sd_tiY x i t) 0 (x (322 + i))), .inr 36] m _
    refine sd_callVp (as := [.inl (sd_clx (sd_tiY x i t) 0 (x (322 + i)))]) (st := []) (v := .inl (sd_b (sd_brs (sd_tiY x i t) (sd_clx (sd_tiY x i t) 0 (x (322 + i)))))) sD6_loseWill_74 sM6_139 sOC36 rfl rfl rfl (by decide) (Nat.le_of_ble_eq_true rfl) (cC_bars (sd_clx (sd_tiY x i t) 0 (x (322 + i))) _ m hx  (by omega)) (fun ho74 => ?_)
    refine sd_bif_ne (tgt := 90) sD6_loseWill_77 (by decide) (fun zc77 => ?_) (fun zc77 => ?_)
    ·
      refine sd_vreturn sD6_loseWill_90 rfl (fun hm => ?_)
      (refine ⟨rfl, ?_⟩; unfold sd_tiS; first | (rw [if_pos ⟨by assumption, by assumption⟩]; exact hx) | (rw [if_neg (fun q => by have q1 := q.1; have q2 := q.2; first | omega | contradiction)]; exact hx))
    ·
      refine sd_aload_n sD6_loseWill_80 rfl ?_
      refine sd_getfr sD6_loseWill_81 sF6_28 sGC53_3 ?_
      refine sd_getfr sD6_loseWill_84 sF6_201 sGC18_1 ?_
      refine sd_iload_n sD6_loseWill_87 rfl ?_
      refine sd_iconst sD6_loseWill_88 (by decide) ?_
      refine sd_iastx (a := (322 + i)) sd_sokC hx sD6_loseWill_89 sAC14 (by omega) (fun m hx em89 => ?_)
      refine sd_vreturn sD6_loseWill_90 rfl (fun hm => ?_)
      (refine ⟨rfl, ?_⟩; unfold sd_tiS; first | (rw [if_pos ⟨by assumption, by assumption⟩]; exact hx) | (rw [if_neg (fun q => by have q1 := q.1; have q2 := q.2; first | omega | contradiction)]; exact hx))
