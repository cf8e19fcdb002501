set_option maxRecDepth 100000 in
set_option maxHeartbeats 4000000 in
theorem cC_setSquads (O : Int) (x m : sd_M) (hx : sd_ns x m) (h1 : sd_I1 x) (h2 : sd_I2 x) (h7 : sd_I7 x) : sd_Ct sd_SC 2 sY4_setSquads [.inr 42, .inl O, .inr 13] m (fun r m' => r = none ∧ sd_ns x m' ∧ ∀ g, g < 24 → m' (5040 + g) = sd_sqd x O g) := by
  obtain ⟨cr, hcr⟩ : ∃ cr, cr = sd_crk x O (x 6).toNat := ⟨_, rfl⟩
  unfold sd_sqd
  rw [← hcr]
  refine sd_ct rfl (Nat.le_of_ble_eq_true rfl) (fun hok hm => ?_)
  obtain ⟨⟨i0, j0⟩, ⟨i1, j1⟩, ⟨i2, j2⟩, ⟨i3, j3⟩, ⟨i4, j4⟩, ⟨i5, j5⟩, ⟨i6, j6⟩, ⟨i7, j7⟩, ⟨i8, j8⟩⟩ := id h1
  show sd_Wp sd_SC 2 sY4_setSquads 0 [some (.inr 42), some (.inl O), some (.inr 13), none, none] [] m _
  refine sd_aload_n sD4_setSquads_0 rfl ?_
  refine sd_getfr sD4_setSquads_1 sF4_28 sGC42_5 ?_
  refine sd_iconst sD4_setSquads_4 (by decide) ?_
  refine sd_callN (as := [.inr 40, .inl 0]) (st := []) sD4_setSquads_5 sM4_38 rfl rfl (by decide) (Nat.le_of_ble_eq_true rfl) (cC_fill sAC40 (by decide) 0 m) (fun r m hq ho5 hm => ?_)
  obtain ⟨rfl, hfil5⟩ := hq
  have hx : sd_ns x m := by rw [hfil5]; exact hx.filc (by decide) _
  show sd_Wp sd_SC 2 sY4_setSquads 8 [some (.inr 42), some (.inl O), some (.inr 13), none, none] [] m _
  refine sd_aload_n sD4_setSquads_8 rfl ?_
  refine sd_getfr sD4_setSquads_9 sF4_31 sGC42_6 ?_
  refine sd_iconst sD4_setSquads_12 (by decide) ?_
  refine sd_callN (as := [.inr 41, .inl 0]) (st := []) sD4_setSquads_13 sM4_38 rfl rfl (by decide) (Nat.le_of_ble_eq_true rfl) (cC_fill sAC41 (by decide) 0 m) (fun r m hq ho13 hm => ?_)
  obtain ⟨rfl, hfil13⟩ := hq
  have hx : sd_ns x m := by rw [hfil13]; exact hx.filc (by decide) _
  show sd_Wp sd_SC 2 sY4_setSquads 16 [some (.inr 42), some (.inl O), some (.inr 13), none, none] [] m _
  refine sd_iconst sD4_setSquads_16 (by decide) ?_
  refine sd_istore_n (ls' := [some (.inr 42), some (.inl O), some (.inr 13), some (.inl 0), none]) sD4_setSquads_17 (by decide) rfl ?_
  refine sd_forX ((x 6).toNat) (fun zi18 : Nat => [some (.inr 42), some (.inl O), some (.inr 13), some (.inl (zi18 : Int)), none]) (fun zi18 : Nat => x) (fun (zi18 : Nat) (m : sd_M) => (∀ g, g < 24 → m (5040 + g) = 0) ∧ ∀ g, g < 24 → m (5070 + g) = sd_crk x O zi18 g) (by rfl) (fun zi18 hizi18 m hx hpzi18 ihzi18 => ?_) (fun m hx hpzi18 => ?_) (by exact hx) (by exact ⟨fun g hg => by rw [hfil13, hfil5]; unfold sd_fil; rw [if_neg (by omega), if_pos (by omega)], fun g hg => by rw [hfil13]; unfold sd_fil; rw [if_pos (by omega)]; rfl⟩)
  ·
    refine sd_iload_n sD4_setSquads_18 rfl ?_
    refine sd_aload_n sD4_setSquads_19 rfl ?_
    refine sd_getfx (v := x 6) hx sD4_setSquads_20 sF4_9 sGC42_0 (by decide) rfl ?_
    refine sd_icmp_ge (tgt := 73) sD4_setSquads_23 (by decide) (fun zc23 => (by exfalso; omega)) (fun zc23 => ?_)
    refine sd_iload_n sD4_setSquads_26 rfl ?_
    refine sd_iload_n sD4_setSquads_27 rfl ?_
    refine sd_callNp (as := [.inl O, .inl (zi18 : Int)]) (st := []) (v := .inl (sd_b (sd_bit O (zi18 : Int)))) sD4_setSquads_28 sM4_42 rfl rfl (by decide) (Nat.le_of_ble_eq_true rfl) (cC_isIn O (zi18 : Int) m) (fun ho28 => ?_)
    refine sd_bif_eq (tgt := 67) sD4_setSquads_31 (by decide) (fun zc31 => ?_) (fun zc31 => ?_)
    ·
      refine sd_iinc (y := ((zi18 : Int) + 1)) (ls' := [some (.inr 42), some (.inl O), some (.inr 13), some (.inl ((zi18 : Int) + 1)), none]) sD4_setSquads_67 rfl (by omega) (by omega) (by decide) rfl ?_
      refine sd_goto (tgt := 18) sD4_setSquads_70 (by decide) ?_
      exact sd_eqw (ls' := [some (.inr 42), some (.inl O), some (.inr 13), some (.inl ((zi18 + 1 : Nat) : Int)), none]) (ihzi18 m (by exact hx) (by first | exact ⟨sd_row_ke hpzi18.1 em66 (by omega), sd_row_up hpzi18.2 em66 (fun g hg => by unfold sd_crk; simp only [sd_sum]; by_cases q : g = (x (1272 + zi18)).toNat; (subst q; rw [if_pos rfl]; unfold sd_fcr; rw [if_pos ⟨⟨by assumption, by assumption⟩, rfl⟩]; rw [e9]; rfl); (rw [if_neg q]; unfold sd_fcr; rw [if_neg (fun qq => q qq.2.symm)]; omega))⟩ | exact ⟨hpzi18.1, fun g hg => by rw [hpzi18.2 g hg]; unfold sd_crk; simp only [sd_sum]; rw [show sd_fcr x O g zi18 = 0 from by unfold sd_fcr; rw [if_neg (fun qq => by have q1 := qq.1.1; have q2 := qq.1.2; contradiction)]]; omega⟩)) (sd_cg rfl (sd_cg rfl (sd_cg rfl (sd_cg (sd_ce (show (((zi18 : Int) + 1) : Int) = ((zi18 + 1 : Nat) : Int) from by omega)) (sd_cg rfl rfl))))) rfl
    ·
      have e7 := h7 zi18 (by omega)
      have e8 := e7.2.2.2 (by omega)
      have e9 := hpzi18.2 (x (1272 + zi18)).toNat (by omega)
      have e10 := sd_crk_le h7 O (x (1272 + zi18)).toNat zi18 (by omega)
      refine sd_aload_n sD4_setSquads_34 rfl ?_
      refine sd_aload_n sD4_setSquads_35 rfl ?_
      refine sd_getfr sD4_setSquads_36 sF4_18 sGC42_2 ?_
      refine sd_iload_n sD4_setSquads_39 rfl ?_
      refine sd_ialdx (a := (1272 + zi18)) (v := x (1272 + zi18)) hx sD4_setSquads_40 sAC37 (by omega) rfl ?_
      refine sd_callVp (as := [.inl (x (1272 + zi18))]) (st := []) (v := .inl (sd_b (x (10 + ((x (1272 + zi18)).toNat)) = 3 ∧ x (202 + ((x (1272 + zi18)).toNat)) = 0))) sD4_setSquads_41 sM4_46 sOC13 rfl rfl rfl (by decide) (Nat.le_of_ble_eq_true rfl) (cC_isFreeGate (x (1272 + zi18)) _ m hx  (by omega)) (fun ho41 => ?_)
      refine sd_bif_eq (tgt := 67) sD4_setSquads_44 (by decide) (fun zc44 => ?_) (fun zc44 => ?_)
      ·
        refine sd_iinc (y := ((zi18 : Int) + 1)) (ls' := [some (.inr 42), some (.inl O), some (.inr 13), some (.inl ((zi18 : Int) + 1)), none]) sD4_setSquads_67 rfl (by omega) (by omega) (by decide) rfl ?_
        refine sd_goto (tgt := 18) sD4_setSquads_70 (by decide) ?_
        exact sd_eqw (ls' := [some (.inr 42), some (.inl O), some (.inr 13), some (.inl ((zi18 + 1 : Nat) : Int)), none]) (ihzi18 m (by exact hx) (by first | exact ⟨sd_row_ke hpzi18.1 em66 (by omega), sd_row_up hpzi18.2 em66 (fun g hg => by unfold sd_crk; simp only [sd_sum]; by_cases q : g = (x (1272 + zi18)).toNat; (subst q; rw [if_pos rfl]; unfold sd_fcr; rw [if_pos ⟨⟨by assumption, by assumption⟩, rfl⟩]; rw [e9]; rfl); (rw [if_neg q]; unfold sd_fcr; rw [if_neg (fun qq => q qq.2.symm)]; omega))⟩ | exact ⟨hpzi18.1, fun g hg => by rw [hpzi18.2 g hg]; unfold sd_crk; simp only [sd_sum]; rw [show sd_fcr x O g zi18 = 0 from by unfold sd_fcr; rw [if_neg (fun qq => by have q1 := qq.1.1; have q2 := qq.1.2; contradiction)]]; omega⟩)) (sd_cg rfl (sd_cg rfl (sd_cg rfl (sd_cg (sd_ce (show (((zi18 : Int) + 1) : Int) = ((zi18 + 1 : Nat) : Int) from by omega)) (sd_cg rfl rfl))))) rfl
      ·
        refine sd_aload_n sD4_setSquads_47 rfl ?_
        refine sd_getfr sD4_setSquads_48 sF4_31 sGC42_6 ?_
        refine sd_aload_n sD4_setSquads_51 rfl ?_
        refine sd_getfr sD4_setSquads_52 sF4_18 sGC42_2 ?_
        refine sd_iload_n sD4_setSquads_55 rfl ?_
        refine sd_ialdx (a := (1272 + zi18)) (v := x (1272 + zi18)) hx sD4_setSquads_56 sAC37 (by omega) rfl ?_
        refine sd_dup2 sD4_setSquads_57 ?_
        refine sd_iald (a := (5070 + ((x (1272 + zi18)).toNat))) sD4_setSquads_58 sAC41 (by omega) ?_
        refine sd_aload_n sD4_setSquads_59 rfl ?_
        refine sd_getfr sD4_setSquads_60 sF4_22 sGC42_3 ?_
        refine sd_iload_n sD4_setSquads_63 rfl ?_
        refine sd_ialdx (a := (1278 + zi18)) (v := x (1278 + zi18)) hx sD4_setSquads_64 sAC38 (by omega) rfl ?_
        refine sd_iadd (z := (m (5070 + ((x (1272 + zi18)).toNat)) + x (1278 + zi18))) sD4_setSquads_65 (by omega) (by omega) ?_
        refine sd_iastc (a := (5070 + ((x (1272 + zi18)).toNat))) sd_sokC hx sD4_setSquads_66 sAC41 (by omega) (fun m hx em66 => ?_)
        refine sd_iinc (y := ((zi18 : Int) + 1)) (ls' := [some (.inr 42), some (.inl O), some (.inr 13), some (.inl ((zi18 : Int) + 1)), none]) sD4_setSquads_67 rfl (by omega) (by omega) (by decide) rfl ?_
        refine sd_goto (tgt := 18) sD4_setSquads_70 (by decide) ?_
        exact sd_eqw (ls' := [some (.inr 42), some (.inl O), some (.inr 13), some (.inl ((zi18 + 1 : Nat) : Int)), none]) (ihzi18 m (by exact hx) (by first | exact ⟨sd_row_ke hpzi18.1 em66 (by omega), sd_row_up hpzi18.2 em66 (fun g hg => by unfold sd_crk; simp only [sd_sum]; by_cases q : g = (x (1272 + zi18)).toNat; (subst q; rw [if_pos rfl]; unfold sd_fcr; rw [if_pos ⟨⟨by assumption, by assumption⟩, rfl⟩]; rw [e9]; rfl); (rw [if_neg q]; unfold sd_fcr; rw [if_neg (fun qq => q qq.2.symm)]; omega))⟩ | exact ⟨hpzi18.1, fun g hg => by rw [hpzi18.2 g hg]; unfold sd_crk; simp only [sd_sum]; rw [show sd_fcr x O g zi18 = 0 from by unfold sd_fcr; rw [if_neg (fun qq => by have q1 := qq.1.1; have q2 := qq.1.2; contradiction)]]; omega⟩)) (sd_cg rfl (sd_cg rfl (sd_cg rfl (sd_cg (sd_ce (show (((zi18 : Int) + 1) : Int) = ((zi18 + 1 : Nat) : Int) from by omega)) (sd_cg rfl rfl))))) rfl
  ·
    show sd_Wp sd_SC 2 sY4_setSquads 18 [some (.inr 42), some (.inl O), some (.inr 13), some (.inl ((((x 6).toNat) : Nat) : Int)), none] [] m _
    refine sd_iload_n sD4_setSquads_18 rfl ?_
    refine sd_aload_n sD4_setSquads_19 rfl ?_
    refine sd_getfx (v := x 6) hx sD4_setSquads_20 sF4_9 sGC42_0 (by decide) rfl ?_
    refine sd_icmp_ge (tgt := 73) sD4_setSquads_23 (by decide) (fun zc23 => ?_) (fun zc23 => (by exfalso; omega))
    have zz := hpzi18.1
    refine sd_iconst sD4_setSquads_73 (by decide) ?_
    refine sd_istore_n (ls' := [some (.inr 42), some (.inl O), some (.inr 13), some (.inl 0), none]) sD4_setSquads_74 (by decide) rfl ?_
    refine sd_forX ((x 7).toNat) (fun zi75 : Nat => [some (.inr 42), some (.inl O), some (.inr 13), some (.inl (zi75 : Int)), none]) (fun zi75 : Nat => x) (fun (zi75 : Nat) (m : sd_M) => (∀ g, g < 24 → m (5070 + g) = cr g) ∧ ∀ g, g < 24 → m (5040 + g) = sd_sqa x cr zi75 g) (by rfl) (fun zi75 hizi75 m hx hpzi75 ihzi75 => ?_) (fun m hx hpzi75 => ?_) (by exact hx) (by rw [hcr]; exact ⟨hpzi18.2, hpzi18.1⟩)
    ·
      refine sd_iload_n sD4_setSquads_75 rfl ?_
      refine sd_aload_n sD4_setSquads_76 rfl ?_
      refine sd_getfx (v := x 7) hx sD4_setSquads_77 sF4_15 sGC42_1 (by decide) rfl ?_
      refine sd_icmp_ge (tgt := 112) sD4_setSquads_80 (by decide) (fun zc80 => (by exfalso; omega)) (fun zc80 => ?_)
      refine sd_aload_n sD4_setSquads_83 rfl ?_
      refine sd_callVp (as := []) (st := []) (v := .inl (sd_mbk cr (sd_sqa x cr zi75) 24)) sD4_setSquads_84 sM4_52 sOC42 rfl rfl rfl (by decide) (Nat.le_of_ble_eq_true rfl) (cC_mostB m cr (sd_sqa x cr zi75) hpzi75.1 hpzi75.2 (fun g => by rw [hcr]; exact sd_crk_le h7 O g _ (by omega)) (fun g => by have := sd_sqa_rng (x := x) (cr := cr) zi75 g; omega)) (fun ho84 => ?_)
      have e2 := sd_mbk_rng cr (sd_sqa x cr zi75) 24
      have e4 : sd_mbk cr (sd_sqa x cr zi75) 24 = sd_mbk cr (sd_sqa x cr zi75) (x 2).toNat := sd_mbk_more (fun g a b => by rw [hcr]; exact sd_crk_out h1 h7 O a) 24 (by omega) (Nat.le_refl _)
      refine sd_istore (ls' := [some (.inr 42), some (.inl O), some (.inr 13), some (.inl (zi75 : Int)), some (.inl (sd_mbk cr (sd_sqa x cr zi75) 24))]) sD4_setSquads_87 (by decide) rfl ?_
      refine sd_iload sD4_setSquads_89 rfl ?_
      refine sd_iconst sD4_setSquads_91 (by decide) ?_
      refine sd_icmp_eq (tgt := 106) sD4_setSquads_92 (by decide) (fun zc92 => ?_) (fun zc92 => ?_)
      ·
        refine sd_iinc (y := ((zi75 : Int) + 1)) (ls' := [some (.inr 42), some (.inl O), some (.inr 13), some (.inl ((zi75 : Int) + 1)), some (.inl (sd_mbk cr (sd_sqa x cr zi75) 24))]) sD4_setSquads_106 rfl (by omega) (by omega) (by decide) rfl ?_
        refine sd_goto (tgt := 75) sD4_setSquads_109 (by decide) ?_
        refine sd_less (ls' := [some (.inr 42), some (.inl O), some (.inr 13), some (.inl ((zi75 : Int) + 1)), none]) ?_ rfl (by intro zi zv zh; rcases zi with _ | _ | _ | _ | _ | zi <;> first | exact zh | cases zh)
        exact sd_eqw (ls' := [some (.inr 42), some (.inl O), some (.inr 13), some (.inl ((zi75 + 1 : Nat) : Int)), none]) (ihzi75 m (by exact hx) (by first | exact ⟨sd_row_ke hpzi75.1 em105 (by omega), sd_row_up hpzi75.2 em105 (fun g hg => by simp only [sd_sqa, sd_add1]; rw [← e4, if_neg (by omega)]; by_cases q : g = (sd_mbk cr (sd_sqa x cr zi75) 24).toNat; (rw [if_pos q, if_pos q, e5, q]); (rw [if_neg q, if_neg q]))⟩ | exact ⟨hpzi75.1, fun g hg => by rw [hpzi75.2 g hg]; simp only [sd_sqa, sd_add1]; rw [← e4, if_pos (by assumption)]⟩)) (sd_cg rfl (sd_cg rfl (sd_cg rfl (sd_cg (sd_ce (show (((zi75 : Int) + 1) : Int) = ((zi75 + 1 : Nat) : Int) from by omega)) (sd_cg rfl rfl))))) rfl
      ·
        have e5 := hpzi75.2 (sd_mbk cr (sd_sqa x cr zi75) 24).toNat (by omega)
        have e6 := sd_sqa_rng (x := x) (cr := cr) zi75 (sd_mbk cr (sd_sqa x cr zi75) 24).toNat
        refine sd_aload_n sD4_setSquads_95 rfl ?_
        refine sd_getfr sD4_setSquads_96 sF4_28 sGC42_5 ?_
        refine sd_iload sD4_setSquads_99 rfl ?_
        refine sd_dup2 sD4_setSquads_101 ?_
        refine sd_iald (a := (5040 + ((sd_mbk cr (sd_sqa x cr zi75) 24).toNat))) sD4_setSquads_102 sAC40 (by omega) ?_
        refine sd_iconst sD4_setSquads_103 (by decide) ?_
        refine sd_iadd (z := (m (5040 + ((sd_mbk cr (sd_sqa x cr zi75) 24).toNat)) + 1)) sD4_setSquads_104 (by omega) (by omega) ?_
        refine sd_iastc (a := (5040 + ((sd_mbk cr (sd_sqa x cr zi75) 24).toNat))) sd_sokC hx sD4_setSquads_105 sAC40 (by omega) (fun m hx em105 => ?_)
        refine sd_iinc (y := ((zi75 : Int) + 1)) (ls' := [some (.inr 42), some (.inl O), some (.inr 13), some (.inl ((zi75 : Int) + 1)), some (.inl (sd_mbk cr (sd_sqa x cr zi75) 24))]) sD4_setSquads_106 rfl (by omega) (by omega) (by decide) rfl ?_
        refine sd_goto (tgt := 75) sD4_setSquads_109 (by decide) ?_
        refine sd_less (ls' := [some (.inr 42), some (.inl O), some (.inr 13), some (.inl ((zi75 : Int) + 1)), none]) ?_ rfl (by intro zi zv zh; rcases zi with _ | _ | _ | _ | _ | zi <;> first | exact zh | cases zh)
        exact sd_eqw (ls' := [some (.inr 42), some (.inl O), some (.inr 13), some (.inl ((zi75 + 1 : Nat) : Int)), none]) (ihzi75 m (by exact hx) (by first | exact ⟨sd_row_ke hpzi75.1 em105 (by omega), sd_row_up hpzi75.2 em105 (fun g hg => by simp only [sd_sqa, sd_add1]; rw [← e4, if_neg (by omega)]; by_cases q : g = (sd_mbk cr (sd_sqa x cr zi75) 24).toNat; (rw [if_pos q, if_pos q, e5, q]); (rw [if_neg q, if_neg q]))⟩ | exact ⟨hpzi75.1, fun g hg => by rw [hpzi75.2 g hg]; simp only [sd_sqa, sd_add1]; rw [← e4, if_pos (by assumption)]⟩)) (sd_cg rfl (sd_cg rfl (sd_cg rfl (sd_cg (sd_ce (show (((zi75 : Int) + 1) : Int) = ((zi75 + 1 : Nat) : Int) from by omega)) (sd_cg rfl rfl))))) rfl
    ·
      show sd_Wp sd_SC 2 sY4_setSquads 75 [some (.inr 42), some (.inl O), some (.inr 13), some (.inl ((((x 7).toNat) : Nat) : Int)), none] [] m _
      refine sd_iload_n sD4_setSquads_75 rfl ?_
      refine sd_aload_n sD4_setSquads_76 rfl ?_
      refine sd_getfx (v := x 7) hx sD4_setSquads_77 sF4_15 sGC42_1 (by decide) rfl ?_
      refine sd_icmp_ge (tgt := 112) sD4_setSquads_80 (by decide) (fun zc80 => ?_) (fun zc80 => (by exfalso; omega))
      refine sd_vreturn sD4_setSquads_112 rfl (fun hm => ?_)
      exact ⟨rfl, hx, fun g hg => hpzi75.2 g hg⟩
