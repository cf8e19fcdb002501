set_option maxRecDepth 100000 in
set_option maxHeartbeats 4000000 in
theorem cM_tire (i : Nat) (hi : i < 16) (x m : sd_M) (hx : sd_ns x m) (hJ : sd_J x) (hs : ¬ x (322 + i) = -1) (t : Int) (ht : t = x 0 % 24) : sd_Ct sd_SM 6 sY11_tires [.inr 15, .inl (i : Int)] m (fun r m' => r = none ∧ sd_ns (sd_tiS x i t) m') := by
  refine sd_ct rfl (Nat.le_of_ble_eq_true rfl) (fun hok hm => ?_)
  have h1 := hJ.1
  have h2 := hJ.2.1
  have h3 := hJ.2.2.1
  have h4 := hJ.2.2.2.1
  have h5 := hJ.2.2.2.2.1
  have h6 := hJ.2.2.2.2.2.1
  have h7 := hJ.2.2.2.2.2.2.1
  have hR := hJ.2.2.2.2.2.2.2.1
  have hI := hJ.2.2.2.2.2.2.2.2.1
  have hL := hJ.2.2.2.2.2.2.2.2.2
  obtain ⟨⟨i0, j0⟩, ⟨i1, j1⟩, ⟨i2, j2⟩, ⟨i3, j3⟩, ⟨i4, j4⟩, ⟨i5, j5⟩, ⟨i6, j6⟩, ⟨i7, j7⟩, ⟨i8, j8⟩⟩ := id h1
  have e4 := h4 i hi
  have hs0 : 0 ≤ x (322 + ((i : Nat) : Int).toNat) := by rw [Int.toNat_natCast]; omega
  have hJ2 := (sd_tiY_J hJ hi (by omega) t).1
  have hW := (sd_tiY_J hJ hi (by omega) t).2
  have el := sd_los_rng h2 (s := x (322 + i)) (hg := x (370 + i)) (ow := x (354 + i)) (tm := t) (by omega)
  show sd_Wp sd_SM 6 sY11_tires 0 [some (.inr 15), some (.inl (i : Int)), none] [] m _
  refine sd_aload_n sD11_tires_0 rfl ?_
  refine sd_getfr sD11_tires_1 sF11_7 sGM15_0 ?_
  refine sd_sipush sD11_tires_4 rfl (by decide) ?_
  refine sd_iload_n sD11_tires_7 rfl ?_
  refine sd_iadd (z := (322 + (i : Int))) sD11_tires_8 (by omega) (by omega) ?_
  refine sd_ialdx (a := (322 + i)) (v := x (322 + i)) hx sD11_tires_9 sAM0 (by omega) rfl ?_
  refine sd_istore_n (ls' := [some (.inr 15), some (.inl (i : Int)), some (.inl (x (322 + i)))]) sD11_tires_10 (by decide) rfl ?_
  refine sd_aload_n sD11_tires_11 rfl ?_
  refine sd_getfr sD11_tires_12 sF11_7 sGM15_0 ?_
  refine sd_sipush sD11_tires_15 rfl (by decide) ?_
  refine sd_iload_n sD11_tires_18 rfl ?_
  refine sd_iadd (z := (338 + (i : Int))) sD11_tires_19 (by omega) (by omega) ?_
  refine sd_aload_n sD11_tires_20 rfl ?_
  refine sd_aload_n sD11_tires_21 rfl ?_
  refine sd_getfr sD11_tires_22 sF11_7 sGM15_0 ?_
  refine sd_sipush sD11_tires_25 rfl (by decide) ?_
  refine sd_iload_n sD11_tires_28 rfl ?_
  refine sd_iadd (z := (338 + (i : Int))) sD11_tires_29 (by omega) (by omega) ?_
  refine sd_ialdx (a := (338 + i)) (v := x (338 + i)) hx sD11_tires_30 sAM0 (by omega) rfl ?_
  refine sd_aload_n sD11_tires_31 rfl ?_
  refine sd_getfr sD11_tires_32 sF11_7 sGM15_0 ?_
  refine sd_sipush sD11_tires_35 rfl (by decide) ?_
  refine sd_iload_n sD11_tires_38 rfl ?_
  refine sd_iadd (z := (370 + (i : Int))) sD11_tires_39 (by omega) (by omega) ?_
  refine sd_ialdx (a := (370 + i)) (v := x (370 + i)) hx sD11_tires_40 sAM0 (by omega) rfl ?_
  refine sd_iload_n sD11_tires_41 rfl ?_
  refine sd_aload_n sD11_tires_42 rfl ?_
  refine sd_getfr sD11_tires_43 sF11_7 sGM15_0 ?_
  refine sd_sipush sD11_tires_46 rfl (by decide) ?_
  refine sd_iload_n sD11_tires_49 rfl ?_
  refine sd_iadd (z := (354 + (i : Int))) sD11_tires_50 (by omega) (by omega) ?_
  refine sd_ialdx (a := (354 + i)) (v := x (354 + i)) hx sD11_tires_51 sAM0 (by omega) rfl ?_
  refine sd_aload_n sD11_tires_52 rfl ?_
  refine sd_getfr sD11_tires_53 sF11_7 sGM15_0 ?_
  refine sd_iconst sD11_tires_56 (by decide) ?_
  refine sd_ialdx (a := 0) (v := x 0) hx sD11_tires_57 sAM0 (by omega) rfl ?_
  refine sd_bipush sD11_tires_58 rfl (by decide) ?_
  refine sd_irem (z := (x 0 % 24)) sD11_tires_60 (by decide) (by exact Int.tmod_eq_emod_of_nonneg (by omega)) (by omega) ?_
  refine sd_callVp (as := [.inl (x (338 + i)), .inl (x (370 + i)), .inl (x (322 + i)), .inl (x (354 + i)), .inl (x 0 % 24)]) (st := [.inl (338 + (i : Int)), .inr 0]) (v := .inl (max 0 ((x (338 + i)) - sd_los x (x (322 + i)) (x (370 + i)) (x (354 + i)) (x 0 % 24)))) sD11_tires_61 sM11_112 sOM15 rfl rfl rfl (by decide) (Nat.le_of_ble_eq_true rfl) (cM_willThen (x (338 + i)) (x (370 + i)) (x (322 + i)) (x (354 + i)) (x 0 % 24) _ m hx h2 (by omega) (by omega)) (fun ho61 => ?_)
  refine sd_eqs (ls' := [some (.inr 15), some (.inl (i : Int)), some (.inl (x (322 + i)))]) (st' := [.inl (sd_tiW x i t), .inl (338 + (i : Int)), .inr 0]) ?_ rfl (by unfold sd_tiW; rw [ht])
  refine sd_iastx (a := (338 + i)) sd_sokM hx sD11_tires_64 sAM0 (by omega) (fun m hx em64 => ?_)
  replace hx : sd_ns (sd_tiY x i t) m := hx
  replace h1 := hJ2.1
  replace h2 := hJ2.2.1
  replace h3 := hJ2.2.2.1
  replace h4 := hJ2.2.2.2.1
  replace h5 := hJ2.2.2.2.2.1
  replace h6 := hJ2.2.2.2.2.2.1
  replace h7 := hJ2.2.2.2.2.2.2.1
  replace hR := hJ2.2.2.2.2.2.2.2.1
  replace hI := hJ2.2.2.2.2.2.2.2.2.1
  replace hL := hJ2.2.2.2.2.2.2.2.2.2
  refine sd_aload_n sD11_tires_65 rfl ?_
  refine sd_getfr sD11_tires_66 sF11_7 sGM15_0 ?_
  refine sd_sipush sD11_tires_69 rfl (by decide) ?_
  refine sd_iload_n sD11_tires_72 rfl ?_
  refine sd_iadd (z := (338 + (i : Int))) sD11_tires_73 (by omega) (by omega) ?_
  refine sd_ialdx (a := (338 + i)) (v := sd_tiW x i t) hx sD11_tires_74 sAM0 (by omega) (by unfold sd_tiY; exact sd_up_eq) ?_
  refine sd_aload_n sD11_tires_75 rfl ?_
  refine sd_getfr sD11_tires_76 sF11_7 sGM15_0 ?_
  refine sd_sipush sD11_tires_79 rfl (by decide) ?_
  refine sd_iload_n sD11_tires_82 rfl ?_
  refine sd_iadd (z := (354 + (i : Int))) sD11_tires_83 (by omega) (by omega) ?_
  refine sd_ialdx (a := (354 + i)) (v := x (354 + i)) hx sD11_tires_84 sAM0 (by omega) (by unfold sd_tiY; exact sd_up_ne (by omega)) ?_
  refine sd_bipush sD11_tires_85 rfl (by decide) ?_
  refine sd_idiv (z := (x (354 + i) / 10)) sD11_tires_87 (by decide) (by exact Int.tdiv_eq_ediv_of_nonneg (by omega)) (by omega) ?_
  refine sd_icmp_ge (tgt := 111) sD11_tires_88 (by decide) (fun zc88 => ?_) (fun zc88 => ?_)
  ·
    refine sd_vreturn sD11_tires_111 rfl (fun hm => ?_)
    (refine ⟨rfl, ?_⟩; unfold sd_tiS; first | (rw [if_pos ⟨by assumption, by assumption⟩]; exact hx) | (rw [if_neg (fun q => by have q1 := q.1; have q2 := q.2; first | omega | contradiction)]; exact hx))
  ·
    refine sd_aload_n sD11_tires_91 rfl ?_
    refine sd_iconst sD11_tires_92 (by decide) ?_
    refine sd_iload_n sD11_tires_93 rfl ?_
    refine sd_callV (as := [.inl 0, .inl (x (322 + i))]) (st := []) sD11_tires_94 sM11_87 rfl rfl sOM15 rfl (by decide) (Nat.le_of_ble_eq_true rfl) (cM_isBarred 0 (x (322 + i)) _ m hx (by omega) h1 h2 h4 h6 hR hI hL) (fun r m hq ho94 hm => ?_)
    obtain ⟨rfl, hx, hwy94⟩ := hq
    have zk94 := sd_clx_rng h1 hR 0 (x (322 + i))
    show sd_Wp sd_SM 6 sY11_tires 97 [some (.inr 15), some (.inl (i : Int)), some (.inl (x (322 + i)))] [.inl (sd_b (sd_brs (sd_tiY x i t) (sd_clx (sd_tiY x i t) 0 (x (322 + i)))))] m _
    refine sd_bif_ne (tgt := 111) sD11_tires_97 (by decide) (fun zc97 => ?_) (fun zc97 => ?_)
    ·
      refine sd_vreturn sD11_tires_111 rfl (fun hm => ?_)
      (refine ⟨rfl, ?_⟩; unfold sd_tiS; first | (rw [if_pos ⟨by assumption, by assumption⟩]; exact hx) | (rw [if_neg (fun q => by have q1 := q.1; have q2 := q.2; first | omega | contradiction)]; exact hx))
    ·
      refine sd_aload_n sD11_tires_100 rfl ?_
      refine sd_getfr sD11_tires_101 sF11_7 sGM15_0 ?_
      refine sd_sipush sD11_tires_104 rfl (by decide) ?_
      refine sd_iload_n sD11_tires_107 rfl ?_
      refine sd_iadd (z := (322 + (i : Int))) sD11_tires_108 (by omega) (by omega) ?_
      refine sd_iconst sD11_tires_109 (by decide) ?_
      refine sd_iastx (a := (322 + i)) sd_sokM hx sD11_tires_110 sAM0 (by omega) (fun m hx em110 => ?_)
      refine sd_vreturn sD11_tires_111 rfl (fun hm => ?_)
      (refine ⟨rfl, ?_⟩; unfold sd_tiS; first | (rw [if_pos ⟨by assumption, by assumption⟩]; exact hx) | (rw [if_neg (fun q => by have q1 := q.1; have q2 := q.2; first | omega | contradiction)]; exact hx))
