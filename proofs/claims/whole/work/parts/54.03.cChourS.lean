set_option maxRecDepth 100000 in
set_option maxHeartbeats 4000000 in
theorem cC_hourS (k r : Nat → Int) (x m : sd_M) (hx : sd_ns (sd_rc x r (x 8)) m) (h1 : sd_I1 x) (h5 : sd_I5 x) (hk : sd_kr k) (hrr : sd_rr r) (hmd : ∀ p, p < 6 → m (5010 + p) = k p) : sd_Ct sd_SC 1 sY9_goThroughHour [.inr 23, .inr 19, .inr 52] m (fun q m' => q = some (.inl (sd_set (sd_stW x k r) (x 4).toNat)) ∧ sd_ns (sd_rc x (sd_hr x k r) (x 8)) m') := by
  refine sd_ct rfl (Nat.le_of_ble_eq_true rfl) (fun hok hm => ?_)
  obtain ⟨⟨i0, j0⟩, ⟨i1, j1⟩, ⟨i2, j2⟩, ⟨i3, j3⟩, ⟨i4, j4⟩, ⟨i5, j5⟩, ⟨i6, j6⟩, ⟨i7, j7⟩, ⟨i8, j8⟩⟩ := id h1
  show sd_Wp sd_SC 1 sY9_goThroughHour 0 [some (.inr 23), some (.inr 19), some (.inr 52), none, none, none] [] m _
  refine sd_iconst sD9_goThroughHour_0 (by decide) ?_
  refine sd_istore_n (ls' := [some (.inr 23), some (.inr 19), some (.inr 52), some (.inl 0), none, none]) sD9_goThroughHour_1 (by decide) rfl ?_
  refine sd_forX (6) (fun zi2 : Nat => [some (.inr 23), some (.inr 19), some (.inr 52), some (.inl (zi2 : Int)), none, none]) (fun zi2 : Nat => sd_rc x (sd_pt r (sd_ad k r) zi2) (x 8)) (fun (zi2 : Nat) (m : sd_M) => ∀ p, p < 6 → m (5010 + p) = k p) (by rfl) (fun zi2 hizi2 m hx hpzi2 ihzi2 => ?_) (fun m hx hpzi2 => ?_) (by exact sd_nseq (sd_rc_cong (fun p hp => by unfold sd_pt; rw [if_neg (by omega)])) hx) (by exact hmd)
  ·
    have e1 := hrr zi2 (by omega)
    have e2 := hk zi2
    refine sd_iload_n sD9_goThroughHour_2 rfl ?_
    refine sd_bipush sD9_goThroughHour_3 rfl (by decide) ?_
    refine sd_icmp_ge (tgt := 30) sD9_goThroughHour_5 (by decide) (fun zc5 => (by exfalso; omega)) (fun zc5 => ?_)
    refine sd_aload_n sD9_goThroughHour_8 rfl ?_
    refine sd_iload_n sD9_goThroughHour_9 rfl ?_
    refine sd_sipush sD9_goThroughHour_10 rfl (by decide) ?_
    refine sd_aload_n sD9_goThroughHour_13 rfl ?_
    refine sd_iload_n sD9_goThroughHour_14 rfl ?_
    refine sd_ialdx (a := (386 + zi2)) (v := r zi2) hx sD9_goThroughHour_15 sAC19 (by omega) (by rw [sd_rc_at (by omega)]; unfold sd_pt; rw [if_neg (by omega)]) ?_
    refine sd_aload_n sD9_goThroughHour_16 rfl ?_
    refine sd_iload_n sD9_goThroughHour_17 rfl ?_
    refine sd_iald (a := (5010 + zi2)) sD9_goThroughHour_18 sAC52 (by omega) ?_
    rw [show m (5010 + zi2) = k zi2 from hpzi2 zi2 (by omega)]
    refine sd_iadd (z := (r zi2 + k zi2)) sD9_goThroughHour_19 (by omega) (by omega) ?_
    refine sd_mmin sD9_goThroughHour_20 sM9_45 (by decide) (Nat.le_of_ble_eq_true rfl) ?_
    refine sd_iastx (a := (386 + zi2)) sd_sokC hx sD9_goThroughHour_23 sAC19 (by omega) (fun m hx em23 => ?_)
    refine sd_iinc (y := ((zi2 : Int) + 1)) (ls' := [some (.inr 23), some (.inr 19), some (.inr 52), some (.inl ((zi2 : Int) + 1)), none, none]) sD9_goThroughHour_24 rfl (by omega) (by omega) (by decide) rfl ?_
    refine sd_goto (tgt := 2) sD9_goThroughHour_27 (by decide) ?_
    exact sd_eqw (ls' := [some (.inr 23), some (.inr 19), some (.inr 52), some (.inl ((zi2 + 1 : Nat) : Int)), none, none]) (ihzi2 m (by exact sd_nseq (sd_rc_st (by omega) (by rw [sd_pt_s.1]; rfl) (fun p hp hn => sd_pt_s.2 p hn)) hx) (by exact sd_row_ke hpzi2 em23 (by omega))) (sd_cg rfl (sd_cg rfl (sd_cg rfl (sd_cg (sd_ce (show (((zi2 : Int) + 1) : Int) = ((zi2 + 1 : Nat) : Int) from by omega)) (sd_cg rfl (sd_cg rfl rfl)))))) rfl
  ·
    show sd_Wp sd_SC 1 sY9_goThroughHour 2 [some (.inr 23), some (.inr 19), some (.inr 52), some (.inl (6 : Int)), none, none] [] m _
    refine sd_iload_n sD9_goThroughHour_2 rfl ?_
    refine sd_bipush sD9_goThroughHour_3 rfl (by decide) ?_
    refine sd_icmp_ge (tgt := 30) sD9_goThroughHour_5 (by decide) (fun zc5 => ?_) (fun zc5 => (by exfalso; omega))
    refine sd_iconst sD9_goThroughHour_30 (by decide) ?_
    refine sd_istore_n (ls' := [some (.inr 23), some (.inr 19), some (.inr 52), some (.inl 0), none, none]) sD9_goThroughHour_31 (by decide) rfl ?_
    refine sd_iconst sD9_goThroughHour_32 (by decide) ?_
    refine sd_istore (ls' := [some (.inr 23), some (.inr 19), some (.inr 52), some (.inl 0), some (.inl 0), none]) sD9_goThroughHour_33 (by decide) rfl ?_
    refine sd_forX ((x 4).toNat) (fun zi35 : Nat => [some (.inr 23), some (.inr 19), some (.inr 52), some (.inl (sd_set (sd_stW x k r) zi35)), some (.inl (zi35 : Int)), none]) (fun zi35 : Nat => sd_rc x (sd_wr x (sd_ad k r) zi35) (x 8)) (fun (zi35 : Nat) (m : sd_M) => True) (by rfl) (fun zi35 hizi35 m hx hpzi35 ihzi35 => ?_) (fun m hx hpzi35 => ?_) (by exact sd_nseq (sd_rc_cong (fun p hp => by unfold sd_pt; rw [if_pos hp]; rfl)) hx) (by trivial)
    ·
      refine sd_iload sD9_goThroughHour_35 rfl ?_
      refine sd_aload_n sD9_goThroughHour_37 rfl ?_
      refine sd_getfx (v := x 4) hx sD9_goThroughHour_38 sF9_9 sGC23_0 (by decide) (sd_rc_o (by omega) (by omega)) ?_
      refine sd_icmp_ge (tgt := 91) sD9_goThroughHour_41 (by decide) (fun zc41 => (by exfalso; omega)) (fun zc41 => ?_)
      refine sd_aload_n sD9_goThroughHour_44 rfl ?_
      refine sd_iload sD9_goThroughHour_45 rfl ?_
      refine sd_aload_n sD9_goThroughHour_47 rfl ?_
      refine sd_callVp (as := [.inl (zi35 : Int), .inr 19]) (st := []) (v := .inl (sd_lk x zi35 (sd_wr x (sd_ad k r) zi35))) sD9_goThroughHour_48 sM9_51 sOC23 rfl rfl rfl (by decide) (Nat.le_of_ble_eq_true rfl) (cC_lackS zi35 (by omega) (sd_wr x (sd_ad k r) zi35) (x 8) x m hx) (fun ho48 => ?_)
      have e9 := sd_lk_rng x zi35 (sd_wr x (sd_ad k r) zi35)
      refine sd_istore (ls' := [some (.inr 23), some (.inr 19), some (.inr 52), some (.inl (sd_set (sd_stW x k r) zi35)), some (.inl (zi35 : Int)), some (.inl (sd_lk x zi35 (sd_wr x (sd_ad k r) zi35)))]) sD9_goThroughHour_51 (by decide) rfl ?_
      refine sd_iload sD9_goThroughHour_53 rfl ?_
      refine sd_iconst sD9_goThroughHour_55 (by decide) ?_
      refine sd_icmp_ne (tgt := 69) sD9_goThroughHour_56 (by decide) (fun zc56 => ?_) (fun zc56 => ?_)
      ·
        refine sd_aload_n sD9_goThroughHour_69 rfl ?_
        refine sd_getfr sD9_goThroughHour_70 sF9_25 sGC23_4 ?_
        refine sd_iload sD9_goThroughHour_73 rfl ?_
        refine sd_iload sD9_goThroughHour_75 rfl ?_
        refine sd_iastc (a := (5020 + zi35)) sd_sokC hx sD9_goThroughHour_77 sAC21 (by omega) (fun m hx em77 => ?_)
        refine sd_iload_n sD9_goThroughHour_78 rfl ?_
        refine sd_iconst sD9_goThroughHour_79 (by decide) ?_
        refine sd_iload sD9_goThroughHour_80 rfl ?_
        refine sd_ishl sD9_goThroughHour_82 ?_
        refine sd_ior sD9_goThroughHour_83 ?_
        refine sd_istore_n (ls' := [some (.inr 23), some (.inr 19), some (.inr 52), some (.inl (sd_or (sd_set (sd_stW x k r) zi35) (sd_shl 1 (zi35 : Int)))), some (.inl (zi35 : Int)), some (.inl (sd_lk x zi35 (sd_wr x (sd_ad k r) zi35)))]) sD9_goThroughHour_84 (by decide) rfl ?_
        refine sd_iinc (y := ((zi35 : Int) + 1)) (ls' := [some (.inr 23), some (.inr 19), some (.inr 52), some (.inl (sd_or (sd_set (sd_stW x k r) zi35) (sd_shl 1 (zi35 : Int)))), some (.inl ((zi35 : Int) + 1)), some (.inl (sd_lk x zi35 (sd_wr x (sd_ad k r) zi35)))]) sD9_goThroughHour_85 rfl (by omega) (by omega) (by decide) rfl ?_
        refine sd_goto (tgt := 35) sD9_goThroughHour_88 (by decide) ?_
        refine sd_less (ls' := [some (.inr 23), some (.inr 19), some (.inr 52), some (.inl (sd_or (sd_set (sd_stW x k r) zi35) (sd_shl 1 (zi35 : Int)))), some (.inl ((zi35 : Int) + 1)), none]) ?_ rfl (by intro zi zv zh; rcases zi with _ | _ | _ | _ | _ | _ | zi <;> first | exact zh | cases zh)
        exact sd_eqw (ls' := [some (.inr 23), some (.inr 19), some (.inr 52), some (.inl (sd_set (sd_stW x k r) (zi35 + 1))), some (.inl ((zi35 + 1 : Nat) : Int)), none]) (ihzi35 m (by simp only [sd_wr]; first | (rw [if_pos (by assumption)]; exact hx) | (rw [if_neg (by assumption)]; exact hx)) (by trivial)) (sd_cg rfl (sd_cg rfl (sd_cg rfl (sd_cg (sd_ce (show (sd_or (sd_set (sd_stW x k r) zi35) (sd_shl 1 (zi35 : Int)) : Int) = sd_set (sd_stW x k r) (zi35 + 1) from by simp only [sd_set]; first | (rw [if_pos (show sd_stW x k r zi35 by assumption)]; done) | (rw [if_neg (show ¬ sd_stW x k r zi35 from fun q => q (by assumption))]; done))) (sd_cg (sd_ce (show (((zi35 : Int) + 1) : Int) = ((zi35 + 1 : Nat) : Int) from by omega)) (sd_cg rfl rfl)))))) rfl
      ·
        refine sd_aload_n sD9_goThroughHour_59 rfl ?_
        refine sd_iload sD9_goThroughHour_60 rfl ?_
        refine sd_aload_n sD9_goThroughHour_62 rfl ?_
        refine sd_callV (as := [.inl (zi35 : Int), .inr 19]) (st := []) sD9_goThroughHour_63 sM9_55 rfl rfl sOC23 rfl (by decide) (Nat.le_of_ble_eq_true rfl) (cC_takeS zi35 (by omega) (sd_wr x (sd_ad k r) zi35) (x 8) x m hx h5 (sd_wr_rr h5 (sd_ad_rr hk hrr) zi35 (by omega))) (fun r m hq ho63 hm => ?_)
        obtain ⟨rfl, hx, _⟩ := hq
        show sd_Wp sd_SC 1 sY9_goThroughHour 66 [some (.inr 23), some (.inr 19), some (.inr 52), some (.inl (sd_set (sd_stW x k r) zi35)), some (.inl (zi35 : Int)), some (.inl (sd_lk x zi35 (sd_wr x (sd_ad k r) zi35)))] [] m _
        refine sd_goto (tgt := 85) sD9_goThroughHour_66 (by decide) ?_
        refine sd_iinc (y := ((zi35 : Int) + 1)) (ls' := [some (.inr 23), some (.inr 19), some (.inr 52), some (.inl (sd_set (sd_stW x k r) zi35)), some (.inl ((zi35 : Int) + 1)), some (.inl (sd_lk x zi35 (sd_wr x (sd_ad k r) zi35)))]) sD9_goThroughHour_85 rfl (by omega) (by omega) (by decide) rfl ?_
        refine sd_goto (tgt := 35) sD9_goThroughHour_88 (by decide) ?_
        refine sd_less (ls' := [some (.inr 23), some (.inr 19), some (.inr 52), some (.inl (sd_set (sd_stW x k r) zi35)), some (.inl ((zi35 : Int) + 1)), none]) ?_ rfl (by intro zi zv zh; rcases zi with _ | _ | _ | _ | _ | _ | zi <;> first | exact zh | cases zh)
        exact sd_eqw (ls' := [some (.inr 23), some (.inr 19), some (.inr 52), some (.inl (sd_set (sd_stW x k r) (zi35 + 1))), some (.inl ((zi35 + 1 : Nat) : Int)), none]) (ihzi35 m (by simp only [sd_wr]; first | (rw [if_pos (by assumption)]; exact hx) | (rw [if_neg (by assumption)]; exact hx)) (by trivial)) (sd_cg rfl (sd_cg rfl (sd_cg rfl (sd_cg (sd_ce (show (sd_set (sd_stW x k r) zi35 : Int) = sd_set (sd_stW x k r) (zi35 + 1) from by simp only [sd_set]; first | (rw [if_pos (show sd_stW x k r zi35 by assumption)]; done) | (rw [if_neg (show ¬ sd_stW x k r zi35 from fun q => q (by assumption))]; done))) (sd_cg (sd_ce (show (((zi35 : Int) + 1) : Int) = ((zi35 + 1 : Nat) : Int) from by omega)) (sd_cg rfl rfl)))))) rfl
    ·
      show sd_Wp sd_SC 1 sY9_goThroughHour 35 [some (.inr 23), some (.inr 19), some (.inr 52), some (.inl (sd_set (sd_stW x k r) ((x 4).toNat))), some (.inl ((((x 4).toNat) : Nat) : Int)), none] [] m _
      refine sd_iload sD9_goThroughHour_35 rfl ?_
      refine sd_aload_n sD9_goThroughHour_37 rfl ?_
      refine sd_getfx (v := x 4) hx sD9_goThroughHour_38 sF9_9 sGC23_0 (by decide) (sd_rc_o (by omega) (by omega)) ?_
      refine sd_icmp_ge (tgt := 91) sD9_goThroughHour_41 (by decide) (fun zc41 => ?_) (fun zc41 => (by exfalso; omega))
      refine sd_iload_n sD9_goThroughHour_91 rfl ?_
      refine sd_ireturn sD9_goThroughHour_92 rfl (fun hr hm => ?_)
      exact ⟨rfl, hx⟩
