set_option maxRecDepth 100000 in
set_option maxHeartbeats 4000000 in
theorem cC_makes (h : Int) (x m : sd_M) (hx : sd_ns x m) (hh : 0 ≤ h ∧ h < 24) (h1 : sd_I1 x) (h2 : sd_I2 x) (h4 : sd_I4 x) (h6 : sd_I6 x) (hR : sd_IR x) : sd_Ct sd_SC 3 sY6_makes [.inr 53, .inl h] m (fun r m' => r = some (.inl (sd_b (sd_mk x h))) ∧ sd_ns x m') := by
  refine sd_ct rfl (Nat.le_of_ble_eq_true rfl) (fun hok hm => ?_)
  obtain ⟨⟨i0, j0⟩, ⟨i1, j1⟩, ⟨i2, j2⟩, ⟨i3, j3⟩, ⟨i4, j4⟩, ⟨i5, j5⟩, ⟨i6, j6⟩, ⟨i7, j7⟩, ⟨i8, j8⟩⟩ := id h1
  show sd_Wp sd_SC 3 sY6_makes 0 [some (.inr 53), some (.inl h)] [] m _
  refine sd_aload_n sD6_makes_0 rfl ?_
  refine sd_getfr sD6_makes_1 sF6_21 sGC53_2 ?_
  refine sd_getfr sD6_makes_4 sF6_127 sGC13_2 ?_
  refine sd_iload_n sD6_makes_7 rfl ?_
  refine sd_ialdx (a := (10 + h.toNat)) (v := x (10 + h.toNat)) hx sD6_makes_8 sAC0 (by omega) rfl ?_
  refine sd_iconst sD6_makes_9 (by decide) ?_
  refine sd_icmp_ne (tgt := 71) sD6_makes_10 (by decide) (fun zc10 => ?_) (fun zc10 => ?_)
  ·
    refine sd_iconst sD6_makes_71 (by decide) ?_
    refine sd_zreturn sD6_makes_72 rfl (by decide) (fun hm => ?_)
    first | exact ⟨by rw [sd_b1 (show sd_mk x h from ⟨by omega, by omega, by omega, by omega, by assumption⟩)], hx⟩ | exact ⟨by rw [sd_b0 (show ¬ sd_mk x h from fun q => by have q1 := q.1; have q2 := q.2.1; have q3 := q.2.2.1; have q4 := q.2.2.2.1; have q5 := q.2.2.2.2; first | omega | contradiction)], hx⟩
  ·
    refine sd_aload_n sD6_makes_13 rfl ?_
    refine sd_getfr sD6_makes_14 sF6_21 sGC53_2 ?_
    refine sd_getfr sD6_makes_17 sF6_130 sGC13_7 ?_
    refine sd_iload_n sD6_makes_20 rfl ?_
    refine sd_ialdx (a := (130 + h.toNat)) (v := x (130 + h.toNat)) hx sD6_makes_21 sAC5 (by omega) rfl ?_
    refine sd_iconst sD6_makes_22 (by decide) ?_
    refine sd_icmp_ne (tgt := 71) sD6_makes_23 (by decide) (fun zc23 => ?_) (fun zc23 => ?_)
    ·
      refine sd_iconst sD6_makes_71 (by decide) ?_
      refine sd_zreturn sD6_makes_72 rfl (by decide) (fun hm => ?_)
      first | exact ⟨by rw [sd_b1 (show sd_mk x h from ⟨by omega, by omega, by omega, by omega, by assumption⟩)], hx⟩ | exact ⟨by rw [sd_b0 (show ¬ sd_mk x h from fun q => by have q1 := q.1; have q2 := q.2.1; have q3 := q.2.2.1; have q4 := q.2.2.2.1; have q5 := q.2.2.2.2; first | omega | contradiction)], hx⟩
    ·
      refine sd_aload_n sD6_makes_26 rfl ?_
      refine sd_getfr sD6_makes_27 sF6_21 sGC53_2 ?_
      refine sd_getfr sD6_makes_30 sF6_133 sGC13_6 ?_
      refine sd_iload_n sD6_makes_33 rfl ?_
      refine sd_ialdx (a := (106 + h.toNat)) (v := x (106 + h.toNat)) hx sD6_makes_34 sAC4 (by omega) rfl ?_
      refine sd_if_ne (tgt := 71) sD6_makes_35 (by decide) (fun zc35 => ?_) (fun zc35 => ?_)
      ·
        refine sd_iconst sD6_makes_71 (by decide) ?_
        refine sd_zreturn sD6_makes_72 rfl (by decide) (fun hm => ?_)
        first | exact ⟨by rw [sd_b1 (show sd_mk x h from ⟨by omega, by omega, by omega, by omega, by assumption⟩)], hx⟩ | exact ⟨by rw [sd_b0 (show ¬ sd_mk x h from fun q => by have q1 := q.1; have q2 := q.2.1; have q3 := q.2.2.1; have q4 := q.2.2.2.1; have q5 := q.2.2.2.2; first | omega | contradiction)], hx⟩
      ·
        refine sd_aload_n sD6_makes_38 rfl ?_
        refine sd_getfr sD6_makes_39 sF6_28 sGC53_3 ?_
        refine sd_iconst sD6_makes_42 (by decide) ?_
        refine sd_iload_n sD6_makes_43 rfl ?_
        refine sd_ishl sD6_makes_44 ?_
        refine sd_callVp (as := [.inl (sd_shl 1 h)]) (st := []) (v := .inl (sd_inS x (sd_shl 1 h))) sD6_makes_45 sM6_117 sOC18 rfl rfl rfl (by decide) (Nat.le_of_ble_eq_true rfl) (cC_inShops (sd_shl 1 h) _ m hx h1 h4) (fun ho45 => ?_)
        refine sd_if_ne (tgt := 71) sD6_makes_48 (by decide) (fun zc48 => ?_) (fun zc48 => ?_)
        ·
          refine sd_iconst sD6_makes_71 (by decide) ?_
          refine sd_zreturn sD6_makes_72 rfl (by decide) (fun hm => ?_)
          first | exact ⟨by rw [sd_b1 (show sd_mk x h from ⟨by omega, by omega, by omega, by omega, by assumption⟩)], hx⟩ | exact ⟨by rw [sd_b0 (show ¬ sd_mk x h from fun q => by have q1 := q.1; have q2 := q.2.1; have q3 := q.2.2.1; have q4 := q.2.2.2.1; have q5 := q.2.2.2.2; first | omega | contradiction)], hx⟩
        ·
          refine sd_aload_n sD6_makes_51 rfl ?_
          refine sd_getfr sD6_makes_52 sF6_42 sGC53_5 ?_
          refine sd_aload_n sD6_makes_55 rfl ?_
          refine sd_iconst sD6_makes_56 (by decide) ?_
          refine sd_iload_n sD6_makes_57 rfl ?_
          refine sd_callV (as := [.inl 3, .inl h]) (st := [.inr 36]) sD6_makes_58 sM6_136 rfl rfl sOC53 rfl (by decide) (Nat.le_of_ble_eq_true rfl) (cC_clauseAt 3 h _ m hx (by omega) h1 h2 h4 h6 hR) (fun r m hq ho58 hm => ?_)
          obtain ⟨rfl, hx⟩ := hq
          have zk58 := sd_clx_rng h1 hR 3 h
          show sd_Wp sd_SC 3 sY6_makes 61 [some (.inr 53), some (.inl h)] [.inl (sd_clx x 3 h), .inr 36] m _
          refine sd_callVp (as := [.inl (sd_clx x 3 h)]) (st := []) (v := .inl (sd_b (sd_brs x (sd_clx x 3 h)))) sD6_makes_61 sM6_139 sOC36 rfl rfl rfl (by decide) (Nat.le_of_ble_eq_true rfl) (cC_bars (sd_clx x 3 h) _ m hx  (by omega)) (fun ho61 => ?_)
          refine sd_bif_ne (tgt := 71) sD6_makes_64 (by decide) (fun zc64 => ?_) (fun zc64 => ?_)
          ·
            refine sd_iconst sD6_makes_71 (by decide) ?_
            refine sd_zreturn sD6_makes_72 rfl (by decide) (fun hm => ?_)
            first | exact ⟨by rw [sd_b1 (show sd_mk x h from ⟨by omega, by omega, by omega, by omega, by assumption⟩)], hx⟩ | exact ⟨by rw [sd_b0 (show ¬ sd_mk x h from fun q => by have q1 := q.1; have q2 := q.2.1; have q3 := q.2.2.1; have q4 := q.2.2.2.1; have q5 := q.2.2.2.2; first | omega | contradiction)], hx⟩
          ·
            refine sd_iconst sD6_makes_67 (by decide) ?_
            refine sd_goto (tgt := 72) sD6_makes_68 (by decide) ?_
            refine sd_zreturn sD6_makes_72 rfl (by decide) (fun hm => ?_)
            first | exact ⟨by rw [sd_b1 (show sd_mk x h from ⟨by omega, by omega, by omega, by omega, by assumption⟩)], hx⟩ | exact ⟨by rw [sd_b0 (show ¬ sd_mk x h from fun q => by have q1 := q.1; have q2 := q.2.1; have q3 := q.2.2.1; have q4 := q.2.2.2.1; have q5 := q.2.2.2.2; first | omega | contradiction)], hx⟩
