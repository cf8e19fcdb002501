set_option maxRecDepth 100000 in
set_option maxHeartbeats 4000000 in
theorem cC_weather (o : Int) (x m : sd_M) (hx : sd_ns x m) (hJ : sd_J x) (ho : o = x 1) : sd_Ct sd_SC 2 sY1_weather [.inr 13, .inl o] m (fun r m' => r = none ∧ sd_ns (sd_wea x (x 2).toNat) m') := by
  refine sd_ct rfl (Nat.le_of_ble_eq_true rfl) (fun hok hm => ?_)
  have h1 := hJ.1
  obtain ⟨⟨i0, j0⟩, ⟨i1, j1⟩, ⟨i2, j2⟩, ⟨i3, j3⟩, ⟨i4, j4⟩, ⟨i5, j5⟩, ⟨i6, j6⟩, ⟨i7, j7⟩, ⟨i8, j8⟩⟩ := id h1
  show sd_Wp sd_SC 2 sY1_weather 0 [some (.inr 13), some (.inl o), none] [] m _
  refine sd_iconst sD1_weather_0 (by decide) ?_
  refine sd_istore_n (ls' := [some (.inr 13), some (.inl o), some (.inl 0)]) sD1_weather_1 (by decide) rfl ?_
  refine sd_forX ((x 2).toNat) (fun zi2 : Nat => [some (.inr 13), some (.inl o), some (.inl (zi2 : Int))]) (fun zi2 : Nat => sd_wea x zi2) (fun (zi2 : Nat) (m : sd_M) => True) (by rfl) (fun zi2 hizi2 m hx hpzi2 ihzi2 => ?_) (fun m hx hpzi2 => ?_) (by exact hx) (by trivial)
  ·
    obtain ⟨hJ, hw2, hw3, hw0, hw1⟩ := sd_wea_J hJ zi2 (by omega)
    have h1 := hJ.1
    have h2 := hJ.2.1
    have h3 := hJ.2.2.1
    have h4 := hJ.2.2.2.1
    have h5 := hJ.2.2.2.2.1
    have h6 := hJ.2.2.2.2.2.1
    have h7 := hJ.2.2.2.2.2.2.1
    have hR := hJ.2.2.2.2.2.2.2.1
    have hI := hJ.2.2.2.2.2.2.2.2.1
    have hL := hJ.2.2.2.2.2.2.2.2.2
    have e2 := h2 zi2 (by omega)
    have hwr := sd_wth_rng h1 (zi2 : Int) (w := sd_wea x zi2 (82 + zi2)) e2.2.2.2.1
    refine sd_iload_n sD1_weather_2 rfl ?_
    refine sd_aload_n sD1_weather_3 rfl ?_
    refine sd_getfx (v := (sd_wea x zi2) 2) hx sD1_weather_4 sF1_9 sGC13_0 (by decide) rfl ?_
    refine sd_icmp_ge (tgt := 69) sD1_weather_7 (by decide) (fun zc7 => (by exfalso; omega)) (fun zc7 => ?_)
    refine sd_aload_n sD1_weather_10 rfl ?_
    refine sd_iload_n sD1_weather_11 rfl ?_
    refine sd_iconst sD1_weather_12 (by decide) ?_
    refine sd_callVp (as := [.inl (zi2 : Int), .inl 1]) (st := []) (v := .inl (sd_b (sd_isA (sd_wea x zi2) (zi2 : Int) 1))) sD1_weather_13 sM1_70 sOC13 rfl rfl rfl (by decide) (Nat.le_of_ble_eq_true rfl) (cC_isA (zi2 : Int) 1 _ m hx h1 h2) (fun ho13 => ?_)
    refine sd_bif_eq (tgt := 63) sD1_weather_16 (by decide) (fun zc16 => ?_) (fun zc16 => ?_)
    ·
      refine sd_iinc (y := ((zi2 : Int) + 1)) (ls' := [some (.inr 13), some (.inl o), some (.inl ((zi2 : Int) + 1))]) sD1_weather_63 rfl (by omega) (by omega) (by decide) rfl ?_
      refine sd_goto (tgt := 2) sD1_weather_66 (by decide) ?_
      exact sd_eqw (ls' := [some (.inr 13), some (.inl o), some (.inl ((zi2 + 1 : Nat) : Int))]) (ihzi2 m (by simp only [sd_wea]; unfold sd_weS; first | (rw [if_pos (by assumption), if_pos ⟨by assumption, by assumption⟩]; exact hx) | (rw [if_pos (by assumption), if_neg (fun q => by have q1 := q.1; have q2 := q.2; first | omega | contradiction)]; exact hx) | (rw [if_neg (by assumption)]; exact hx) | (rw [if_pos (by assumption), if_neg (fun q => by have q1 := q.1; have q2 := q.2; first | omega | contradiction)]; exact sd_nseq (sd_up_self2 (by rw [sd_up_ne (by omega)])) hx)) (by trivial)) (sd_cg rfl (sd_cg rfl (sd_cg (sd_ce (show (((zi2 : Int) + 1) : Int) = ((zi2 + 1 : Nat) : Int) from by omega)) rfl))) rfl
    ·
      refine sd_aload_n sD1_weather_19 rfl ?_
      refine sd_getfr sD1_weather_20 sF1_28 sGC13_5 ?_
      refine sd_iload_n sD1_weather_23 rfl ?_
      refine sd_aload_n sD1_weather_24 rfl ?_
      refine sd_iload_n sD1_weather_25 rfl ?_
      refine sd_aload_n sD1_weather_26 rfl ?_
      refine sd_getfr sD1_weather_27 sF1_28 sGC13_5 ?_
      refine sd_iload_n sD1_weather_30 rfl ?_
      refine sd_ialdx (a := (82 + zi2)) (v := (sd_wea x zi2) (82 + zi2)) hx sD1_weather_31 sAC3 (by omega) rfl ?_
      refine sd_iload_n sD1_weather_32 rfl ?_
      refine sd_callVp (as := [.inl (zi2 : Int), .inl ((sd_wea x zi2) (82 + zi2)), .inl o]) (st := [.inl (zi2 : Int), .inr 3]) (v := .inl (sd_wth (sd_wea x zi2) (zi2 : Int) ((sd_wea x zi2) (82 + zi2)))) sD1_weather_33 sM1_88 sOC13 rfl rfl rfl (by decide) (Nat.le_of_ble_eq_true rfl) (cC_warmthBehind (zi2 : Int) ((sd_wea x zi2) (82 + zi2)) o _ m hx h1 h2 (by omega) (by first | rfl | omega)) (fun ho33 => ?_)
      refine sd_iastx (a := (82 + zi2)) sd_sokC hx sD1_weather_36 sAC3 (by omega) (fun m hx em36 => ?_)
      refine sd_aload_n sD1_weather_37 rfl ?_
      refine sd_getfr sD1_weather_38 sF1_28 sGC13_5 ?_
      refine sd_iload_n sD1_weather_41 rfl ?_
      refine sd_ialdx (a := (82 + zi2)) (v := sd_wth (sd_wea x zi2) (zi2 : Int) ((sd_wea x zi2) (82 + zi2))) hx sD1_weather_42 sAC3 (by omega) (by simp only [sd_up]; first | (simp; done) | (repeat (first | rw [if_pos (by first | trivial | omega)] | rw [if_neg (by omega)]))) ?_
      refine sd_iconst sD1_weather_43 (by decide) ?_
      refine sd_icmp_gt (tgt := 63) sD1_weather_44 (by decide) (fun zc44 => ?_) (fun zc44 => ?_)
      ·
        refine sd_iinc (y := ((zi2 : Int) + 1)) (ls' := [some (.inr 13), some (.inl o), some (.inl ((zi2 : Int) + 1))]) sD1_weather_63 rfl (by omega) (by omega) (by decide) rfl ?_
        refine sd_goto (tgt := 2) sD1_weather_66 (by decide) ?_
        exact sd_eqw (ls' := [some (.inr 13), some (.inl o), some (.inl ((zi2 + 1 : Nat) : Int))]) (ihzi2 m (by simp only [sd_wea]; unfold sd_weS; first | (rw [if_pos (by assumption), if_pos ⟨by assumption, by assumption⟩]; exact hx) | (rw [if_pos (by assumption), if_neg (fun q => by have q1 := q.1; have q2 := q.2; first | omega | contradiction)]; exact hx) | (rw [if_neg (by assumption)]; exact hx) | (rw [if_pos (by assumption), if_neg (fun q => by have q1 := q.1; have q2 := q.2; first | omega | contradiction)]; exact sd_nseq (sd_up_self2 (by rw [sd_up_ne (by omega)])) hx)) (by trivial)) (sd_cg rfl (sd_cg rfl (sd_cg (sd_ce (show (((zi2 : Int) + 1) : Int) = ((zi2 + 1 : Nat) : Int) from by omega)) rfl))) rfl
      ·
        have hJ2 := hJ.warm (k := zi2) (by omega) hwr
        have h1 := hJ2.1
        have h2 := hJ2.2.1
        have h3 := hJ2.2.2.1
        have h4 := hJ2.2.2.2.1
        have h5 := hJ2.2.2.2.2.1
        have h6 := hJ2.2.2.2.2.2.1
        have h7 := hJ2.2.2.2.2.2.2.1
        have hR := hJ2.2.2.2.2.2.2.2.1
        have hI := hJ2.2.2.2.2.2.2.2.2.1
        have hL := hJ2.2.2.2.2.2.2.2.2.2
        refine sd_aload_n sD1_weather_47 rfl ?_
        refine sd_iload_n sD1_weather_48 rfl ?_
        refine sd_iconst sD1_weather_49 (by decide) ?_
        refine sd_callVp (as := [.inl (zi2 : Int), .inl 1]) (st := []) (v := .inl (sd_b (sd_pip (sd_up (sd_wea x zi2) (82 + zi2) (sd_wth (sd_wea x zi2) (zi2 : Int) ((sd_wea x zi2) (82 + zi2)))) (zi2 : Int) 1))) sD1_weather_50 sM1_79 sOC13 rfl rfl rfl (by decide) (Nat.le_of_ble_eq_true rfl) (cC_hasOpenPipe (zi2 : Int) 1 _ m hx h1 h2 ) (fun ho50 => ?_)
        refine sd_bif_eq (tgt := 63) sD1_weather_53 (by decide) (fun zc53 => ?_) (fun zc53 => ?_)
        ·
          refine sd_iinc (y := ((zi2 : Int) + 1)) (ls' := [some (.inr 13), some (.inl o), some (.inl ((zi2 : Int) + 1))]) sD1_weather_63 rfl (by omega) (by omega) (by decide) rfl ?_
          refine sd_goto (tgt := 2) sD1_weather_66 (by decide) ?_
          exact sd_eqw (ls' := [some (.inr 13), some (.inl o), some (.inl ((zi2 + 1 : Nat) : Int))]) (ihzi2 m (by simp only [sd_wea]; unfold sd_weS; first | (rw [if_pos (by assumption), if_pos ⟨by assumption, by assumption⟩]; exact hx) | (rw [if_pos (by assumption), if_neg (fun q => by have q1 := q.1; have q2 := q.2; first | omega | contradiction)]; exact hx) | (rw [if_neg (by assumption)]; exact hx) | (rw [if_pos (by assumption), if_neg (fun q => by have q1 := q.1; have q2 := q.2; first | omega | contradiction)]; exact sd_nseq (sd_up_self2 (by rw [sd_up_ne (by omega)])) hx)) (by trivial)) (sd_cg rfl (sd_cg rfl (sd_cg (sd_ce (show (((zi2 : Int) + 1) : Int) = ((zi2 + 1 : Nat) : Int) from by omega)) rfl))) rfl
        ·
          refine sd_aload_n sD1_weather_56 rfl ?_
          refine sd_getfr sD1_weather_57 sF1_31 sGC13_6 ?_
          refine sd_iload_n sD1_weather_60 rfl ?_
          refine sd_iconst sD1_weather_61 (by decide) ?_
          refine sd_iastx (a := (106 + zi2)) sd_sokC hx sD1_weather_62 sAC4 (by omega) (fun m hx em62 => ?_)
          refine sd_iinc (y := ((zi2 : Int) + 1)) (ls' := [some (.inr 13), some (.inl o), some (.inl ((zi2 : Int) + 1))]) sD1_weather_63 rfl (by omega) (by omega) (by decide) rfl ?_
          refine sd_goto (tgt := 2) sD1_weather_66 (by decide) ?_
          exact sd_eqw (ls' := [some (.inr 13), some (.inl o), some (.inl ((zi2 + 1 : Nat) : Int))]) (ihzi2 m (by simp only [sd_wea]; unfold sd_weS; first | (rw [if_pos (by assumption), if_pos ⟨by assumption, by assumption⟩]; exact hx) | (rw [if_pos (by assumption), if_neg (fun q => by have q1 := q.1; have q2 := q.2; first | omega | contradiction)]; exact hx) | (rw [if_neg (by assumption)]; exact hx) | (rw [if_pos (by assumption), if_neg (fun q => by have q1 := q.1; have q2 := q.2; first | omega | contradiction)]; exact sd_nseq (sd_up_self2 (by rw [sd_up_ne (by omega)])) hx)) (by trivial)) (sd_cg rfl (sd_cg rfl (sd_cg (sd_ce (show (((zi2 : Int) + 1) : Int) = ((zi2 + 1 : Nat) : Int) from by omega)) rfl))) rfl
  ·
    show sd_Wp sd_SC 2 sY1_weather 2 [some (.inr 13), some (.inl o), some (.inl ((((x 2).toNat) : Nat) : Int))] [] m _
    obtain ⟨hJ, hw2, hw3, hw0, hw1⟩ := sd_wea_J hJ (x 2).toNat (by omega)
    refine sd_iload_n sD1_weather_2 rfl ?_
    refine sd_aload_n sD1_weather_3 rfl ?_
    refine sd_getfx (v := (sd_wea x ((x 2).toNat)) 2) hx sD1_weather_4 sF1_9 sGC13_0 (by decide) rfl ?_
    refine sd_icmp_ge (tgt := 69) sD1_weather_7 (by decide) (fun zc7 => ?_) (fun zc7 => (by exfalso; omega))
    refine sd_vreturn sD1_weather_69 rfl (fun hm => ?_)
    exact ⟨rfl, hx⟩
