set_option maxRecDepth 100000 in
set_option maxHeartbeats 4000000 in
theorem cM_makes (h : Int) (x m : sd_M) (hx : sd_ns x m) (hh : 0 ≤ h ∧ h < 24) (h1 : sd_I1 x) (h2 : sd_I2 x) (h4 : sd_I4 x) (h6 : sd_I6 x) (hR : sd_IR x) (hI : sd_IT x) (hL : sd_LT x) : sd_Ct sd_SM 6 sY11_makes [.inr 15, .inl h] m (fun r m' => r = some (.inl (sd_b (sd_mk x h))) ∧ sd_ns x m') := by
  refine sd_ct rfl (Nat.le_of_ble_eq_true rfl) (fun hok hm => ?_)
  obtain ⟨⟨i0, j0⟩, ⟨i1, j1⟩, ⟨i2, j2⟩, ⟨i3, j3⟩, ⟨i4, j4⟩, ⟨i5, j5⟩, ⟨i6, j6⟩, ⟨i7, j7⟩, ⟨i8, j8⟩⟩ := id h1
  show sd_Wp sd_SM 6 sY11_makes 0 [some (.inr 15), some (.inl h)] [] m _
  refine sd_aload_n sD11_makes_0 rfl ?_
  refine sd_iload_n sD11_makes_1 rfl ?_
  refine sd_callVp (as := [.inl h]) (st := []) (v := .inl (x (10 + h.toNat))) sD11_makes_2 sM11_64 sOM15 rfl rfl rfl (by decide) (Nat.le_of_ble_eq_true rfl) (cM_kindOf h _ m hx  (by omega)) (fun ho2 => ?_)
  refine sd_iconst sD11_makes_5 (by decide) ?_
  refine sd_icmp_ne (tgt := 56) sD11_makes_6 (by decide) (fun zc6 => ?_) (fun zc6 => ?_)
  ·
    refine sd_iconst sD11_makes_56 (by decide) ?_
    refine sd_zreturn sD11_makes_57 rfl (by decide) (fun hm => ?_)
    first | exact ⟨by rw [sd_b1 (show sd_mk x h from ⟨by omega, by omega, by omega, by rw [sd_inS_mIn h1 h4 hh]; omega, by assumption⟩)], hx⟩ | exact ⟨by rw [sd_b0 (show ¬ sd_mk x h from fun q => by have q1 := q.1; have q2 := q.2.1; have q3 := q.2.2.1; have q4 := q.2.2.2.1; rw [sd_inS_mIn h1 h4 hh] at q4; have q5 := q.2.2.2.2; first | omega | contradiction)], hx⟩
  ·
    refine sd_aload_n sD11_makes_9 rfl ?_
    refine sd_getfr sD11_makes_10 sF11_7 sGM15_0 ?_
    refine sd_sipush sD11_makes_13 rfl (by decide) ?_
    refine sd_iload_n sD11_makes_16 rfl ?_
    refine sd_iadd (z := (130 + h)) sD11_makes_17 (by omega) (by omega) ?_
    refine sd_ialdx (a := (130 + h.toNat)) (v := x (130 + h.toNat)) hx sD11_makes_18 sAM0 (by omega) rfl ?_
    refine sd_iconst sD11_makes_19 (by decide) ?_
    refine sd_icmp_ne (tgt := 56) sD11_makes_20 (by decide) (fun zc20 => ?_) (fun zc20 => ?_)
    ·
      refine sd_iconst sD11_makes_56 (by decide) ?_
      refine sd_zreturn sD11_makes_57 rfl (by decide) (fun hm => ?_)
      first | exact ⟨by rw [sd_b1 (show sd_mk x h from ⟨by omega, by omega, by omega, by rw [sd_inS_mIn h1 h4 hh]; omega, by assumption⟩)], hx⟩ | exact ⟨by rw [sd_b0 (show ¬ sd_mk x h from fun q => by have q1 := q.1; have q2 := q.2.1; have q3 := q.2.2.1; have q4 := q.2.2.2.1; rw [sd_inS_mIn h1 h4 hh] at q4; have q5 := q.2.2.2.2; first | omega | contradiction)], hx⟩
    ·
      refine sd_aload_n sD11_makes_23 rfl ?_
      refine sd_getfr sD11_makes_24 sF11_7 sGM15_0 ?_
      refine sd_bipush sD11_makes_27 rfl (by decide) ?_
      refine sd_iload_n sD11_makes_29 rfl ?_
      refine sd_iadd (z := (106 + h)) sD11_makes_30 (by omega) (by omega) ?_
      refine sd_ialdx (a := (106 + h.toNat)) (v := x (106 + h.toNat)) hx sD11_makes_31 sAM0 (by omega) rfl ?_
      refine sd_if_ne (tgt := 56) sD11_makes_32 (by decide) (fun zc32 => ?_) (fun zc32 => ?_)
      ·
        refine sd_iconst sD11_makes_56 (by decide) ?_
        refine sd_zreturn sD11_makes_57 rfl (by decide) (fun hm => ?_)
        first | exact ⟨by rw [sd_b1 (show sd_mk x h from ⟨by omega, by omega, by omega, by rw [sd_inS_mIn h1 h4 hh]; omega, by assumption⟩)], hx⟩ | exact ⟨by rw [sd_b0 (show ¬ sd_mk x h from fun q => by have q1 := q.1; have q2 := q.2.1; have q3 := q.2.2.1; have q4 := q.2.2.2.1; rw [sd_inS_mIn h1 h4 hh] at q4; have q5 := q.2.2.2.2; first | omega | contradiction)], hx⟩
      ·
        refine sd_aload_n sD11_makes_35 rfl ?_
        refine sd_iload_n sD11_makes_36 rfl ?_
        refine sd_callVp (as := [.inl h]) (st := []) (v := .inl (sd_mIn x h)) sD11_makes_37 sM11_84 sOM15 rfl rfl rfl (by decide) (Nat.le_of_ble_eq_true rfl) (cM_menIn h _ m hx h1 h4) (fun ho37 => ?_)
        refine sd_if_ne (tgt := 56) sD11_makes_40 (by decide) (fun zc40 => ?_) (fun zc40 => ?_)
        ·
          refine sd_iconst sD11_makes_56 (by decide) ?_
          refine sd_zreturn sD11_makes_57 rfl (by decide) (fun hm => ?_)
          first | exact ⟨by rw [sd_b1 (show sd_mk x h from ⟨by omega, by omega, by omega, by rw [sd_inS_mIn h1 h4 hh]; omega, by assumption⟩)], hx⟩ | exact ⟨by rw [sd_b0 (show ¬ sd_mk x h from fun q => by have q1 := q.1; have q2 := q.2.1; have q3 := q.2.2.1; have q4 := q.2.2.2.1; rw [sd_inS_mIn h1 h4 hh] at q4; have q5 := q.2.2.2.2; first | omega | contradiction)], hx⟩
        ·
          refine sd_aload_n sD11_makes_43 rfl ?_
          refine sd_iconst sD11_makes_44 (by decide) ?_
          refine sd_iload_n sD11_makes_45 rfl ?_
          refine sd_callV (as := [.inl 3, .inl h]) (st := []) sD11_makes_46 sM11_87 rfl rfl sOM15 rfl (by decide) (Nat.le_of_ble_eq_true rfl) (cM_isBarred 3 h _ m hx (by omega) h1 h2 h4 h6 hR hI hL) (fun r m hq ho46 hm => ?_)
          obtain ⟨rfl, hx, hwy46⟩ := hq
          have zk46 := sd_clx_rng h1 hR 3 h
          show sd_Wp sd_SM 6 sY11_makes 49 [some (.inr 15), some (.inl h)] [.inl (sd_b (sd_brs x (sd_clx x 3 h)))] m _
          refine sd_bif_ne (tgt := 56) sD11_makes_49 (by decide) (fun zc49 => ?_) (fun zc49 => ?_)
          ·
            refine sd_iconst sD11_makes_56 (by decide) ?_
            refine sd_zreturn sD11_makes_57 rfl (by decide) (fun hm => ?_)
            first | exact ⟨by rw [sd_b1 (show sd_mk x h from ⟨by omega, by omega, by omega, by rw [sd_inS_mIn h1 h4 hh]; omega, by assumption⟩)], hx⟩ | exact ⟨by rw [sd_b0 (show ¬ sd_mk x h from fun q => by have q1 := q.1; have q2 := q.2.1; have q3 := q.2.2.1; have q4 := q.2.2.2.1; rw [sd_inS_mIn h1 h4 hh] at q4; have q5 := q.2.2.2.2; first | omega | contradiction)], hx⟩
          ·
            refine sd_iconst sD11_makes_52 (by decide) ?_
            refine sd_goto (tgt := 57) sD11_makes_53 (by decide) ?_
            refine sd_zreturn sD11_makes_57 rfl (by decide) (fun hm => ?_)
            first | exact ⟨by rw [sd_b1 (show sd_mk x h from ⟨by omega, by omega, by omega, by rw [sd_inS_mIn h1 h4 hh]; omega, by assumption⟩)], hx⟩ | exact ⟨by rw [sd_b0 (show ¬ sd_mk x h from fun q => by have q1 := q.1; have q2 := q.2.1; have q3 := q.2.2.1; have q4 := q.2.2.2.1; rw [sd_inS_mIn h1 h4 hh] at q4; have q5 := q.2.2.2.2; first | omega | contradiction)], hx⟩
