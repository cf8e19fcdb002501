set_option maxRecDepth 100000 in
set_option maxHeartbeats 4000000 in
theorem cC_hourF (k r : Nat → Int) (x m0 m : sd_M) (hm0 : m0 = m) (hx : sd_ns x m) (h1 : sd_I1 x) (h5 : sd_I5 x) (hk : sd_kr k) (hrr : sd_rr r) (hmd : ∀ p, p < 6 → m0 (5010 + p) = k p) (hr : ∀ p, p < 6 → m (5030 + p) = r p) : sd_Ct sd_SC 1 sY9_goThroughHour [.inr 23, .inr 22, .inr 52] m (fun q m' => q = some (.inl (sd_set (sd_stW x k r) (x 4).toNat)) ∧ sd_kF 5020 5036 m0 m' ∧ (∀ p, p < 6 → m' (5030 + p) = sd_hr x k r p) ∧ ∀ w, w < 6 → m' (5020 + w) = if w < (x 4).toNat ∧ sd_stW x k r w then sd_lk x w (sd_wr x (sd_ad k r) w) else m0 (5020 + w)) := by
  refine sd_ct rfl (Nat.le_of_ble_eq_true rfl) (fun hok hm => ?_)
  obtain ⟨⟨i0, j0⟩, ⟨i1, j1⟩, ⟨i2, j2⟩, ⟨i3, j3⟩, ⟨i4, j4⟩, ⟨i5, j5⟩, ⟨i6, j6⟩, ⟨i7, j7⟩, ⟨i8, j8⟩⟩ := id h1
  have hK : sd_kF 5030 5036 m0 m := by rw [hm0]; exact sd_kF.rf
  show sd_Wp sd_SC 1 sY9_goThroughHour 0 [some (.inr 23), some (.inr 22), some (.inr 52), none, none, none] [] m _
  refine sd_iconst sD9_goThroughHour_0 (by decide) ?_
  refine sd_istore_n (ls' := [some (.inr 23), some (.inr 22), some (.inr 52), some (.inl 0), none, none]) sD9_goThroughHour_1 (by decide) rfl ?_
  refine sd_forX (6) (fun zi2 : Nat => [some (.inr 23), some (.inr 22), some (.inr 52), some (.inl (zi2 : Int)), none, none]) (fun zi2 : Nat => x) (fun (zi2 : Nat) (m : sd_M) => sd_kF 5030 5036 m0 m ∧ ∀ p, p < 6 → m (5030 + p) = sd_pt r (sd_ad k r) zi2 p) (by rfl) (fun zi2 hizi2 m hx hpzi2 ihzi2 => ?_) (fun m hx hpzi2 => ?_) (by exact hx) (by exact ⟨hK, fun p hp => by unfold sd_pt; rw [if_neg (by omega)]; exact hr p hp⟩)
  ·
    have e1 := hrr zi2 (by omega)
    have e2 := hk zi2
    refine sd_iload_n sD9_goThroughHour_2 rfl ?_
    refine sd_bipush sD9_goThroughHour_3 rfl (by decide) ?_
    refine sd_icmp_ge (tgt := 30) sD9_goThroughHour_5 (by decide) (fun zc5 => (by exfalso; omega)) (fun zc5 => ?_)
    refine sd_aload_n sD9_goThroughHour_8 rfl ?_
    refine sd_iload_n sD9_goThroughHour_9 rfl ?_
    refine sd_sipush sD9_goThroughHour_10 rfl (by decide) ?_
    refine sd_aload_n sD9_goThroughHour_13 rfl ?_
    refine sd_iload_n sD9_goThroughHour_14 rfl ?_
    refine sd_iald (a := (5030 + zi2)) sD9_goThroughHour_15 sAC22 (by omega) ?_
    rw [show m (5030 + zi2) = r zi2 from (by rw [hpzi2.2 zi2 (by omega)]; unfold sd_pt; rw [if_neg (by omega)])]
    refine sd_aload_n sD9_goThroughHour_16 rfl ?_
    refine sd_iload_n sD9_goThroughHour_17 rfl ?_
    refine sd_iald (a := (5010 + zi2)) sD9_goThroughHour_18 sAC52 (by omega) ?_
    rw [show m (5010 + zi2) = k zi2 from ((hpzi2.1 _ (by omega)).trans (hmd zi2 (by omega)))]
    refine sd_iadd (z := (r zi2 + k zi2)) sD9_goThroughHour_19 (by omega) (by omega) ?_
    refine sd_mmin sD9_goThroughHour_20 sM9_45 (by decide) (Nat.le_of_ble_eq_true rfl) ?_
    refine sd_iastc (a := (5030 + zi2)) sd_sokC hx sD9_goThroughHour_23 sAC22 (by omega) (fun m hx em23 => ?_)
    refine sd_iinc (y := ((zi2 : Int) + 1)) (ls' := [some (.inr 23), some (.inr 22), some (.inr 52), some (.inl ((zi2 : Int) + 1)), none, none]) sD9_goThroughHour_24 rfl (by omega) (by omega) (by decide) rfl ?_
    refine sd_goto (tgt := 2) sD9_goThroughHour_27 (by decide) ?_
    exact sd_eqw (ls' := [some (.inr 23), some (.inr 22), some (.inr 52), some (.inl ((zi2 + 1 : Nat) : Int)), none, none]) (ihzi2 m (by exact hx) (by exact ⟨hpzi2.1.tr (sd_kF.up em23 (by omega)), sd_row_F hpzi2.2 em23 (by unfold sd_pt sd_ad; rw [if_pos (by omega)]) (fun g hg hn => by unfold sd_pt; rw [sd_itec (show g < zi2 + 1 ↔ g < zi2 by omega)])⟩)) (sd_cg rfl (sd_cg rfl (sd_cg rfl (sd_cg (sd_ce (show (((zi2 : Int) + 1) : Int) = ((zi2 + 1 : Nat) : Int) from by omega)) (sd_cg rfl (sd_cg rfl rfl)))))) rfl
  ·
    show sd_Wp sd_SC 1 sY9_goThroughHour 2 [some (.inr 23), some (.inr 22), some (.inr 52), some (.inl (6 : Int)), none, none] [] m _
    refine sd_iload_n sD9_goThroughHour_2 rfl ?_
    refine sd_bipush sD9_goThroughHour_3 rfl (by decide) ?_
    refine sd_icmp_ge (tgt := 30) sD9_goThroughHour_5 (by decide) (fun zc5 => ?_) (fun zc5 => (by exfalso; omega))
    refine sd_iconst sD9_goThroughHour_30 (by decide) ?_
    refine sd_istore_n (ls' := [some (.inr 23), some (.inr 22), some (.inr 52), some (.inl 0), none, none]) sD9_goThroughHour_31 (by decide) rfl ?_
    refine sd_iconst sD9_goThroughHour_32 (by decide) ?_
    refine sd_istore (ls' := [some (.inr 23), some (.inr 22), some (.inr 52), some (.inl 0), some (.inl 0), none]) sD9_goThroughHour_33 (by decide) rfl ?_
    refine sd_forX ((x 4).toNat) (fun zi35 : Nat => [some (.inr 23), some (.inr 22), some (.inr 52), some (.inl (sd_set (sd_stW x k r) zi35)), some (.inl (zi35 : Int)), none]) (fun zi35 : Nat => x) (fun (zi35 : Nat) (m : sd_M) => sd_kF 5020 5036 m0 m ∧ (∀ p, p < 6 → m (5030 + p) = sd_wr x (sd_ad k r) zi35 p) ∧ ∀ w, w < 6 → m (5020 + w) = if w < zi35 ∧ sd_stW x k r w then sd_lk x w (sd_wr x (sd_ad k r) w) else m0 (5020 + w)) (by rfl) (fun zi35 hizi35 m hx hpzi35 ihzi35 => ?_) (fun m hx hpzi35 => ?_) (by exact hx) (by exact ⟨hpzi2.1.wd (by decide), fun p hp => by rw [hpzi2.2 p hp]; unfold sd_pt; rw [if_pos hp]; rfl, fun w hw => by rw [if_neg (fun q => absurd q.1 (by omega))]; exact hpzi2.1 _ (by omega)⟩)
    ·
      refine sd_iload sD9_goThroughHour_35 rfl ?_
      refine sd_aload_n sD9_goThroughHour_37 rfl ?_
      refine sd_getfx (v := x 4) hx sD9_goThroughHour_38 sF9_9 sGC23_0 (by decide) rfl ?_
      refine sd_icmp_ge (tgt := 91) sD9_goThroughHour_41 (by decide) (fun zc41 => (by exfalso; omega)) (fun zc41 => ?_)
      refine sd_aload_n sD9_goThroughHour_44 rfl ?_
      refine sd_iload sD9_goThroughHour_45 rfl ?_
      refine sd_aload_n sD9_goThroughHour_47 rfl ?_
      refine sd_callVp (as := [.inl (zi35 : Int), .inr 22]) (st := []) (v := .inl (sd_lk x zi35 (sd_wr x (sd_ad k r) zi35))) sD9_goThroughHour_48 sM9_51 sOC23 rfl rfl rfl (by decide) (Nat.le_of_ble_eq_true rfl) (cC_lackF zi35 (by omega) (sd_wr x (sd_ad k r) zi35) _ m hx hpzi35.2.1) (fun ho48 => ?_)
      have e9 := sd_lk_rng x zi35 (sd_wr x (sd_ad k r) zi35)
      refine sd_istore (ls' := [some (.inr 23), some (.inr 22), some (.inr 52), some (.inl (sd_set (sd_stW x k r) zi35)), some (.inl (zi35 : Int)), some (.inl (sd_lk x zi35 (sd_wr x (sd_ad k r) zi35)))]) sD9_goThroughHour_51 (by decide) rfl ?_
      refine sd_iload sD9_goThroughHour_53 rfl ?_
      refine sd_iconst sD9_goThroughHour_55 (by decide) ?_
      refine sd_icmp_ne (tgt := 69) sD9_goThroughHour_56 (by decide) (fun zc56 => ?_) (fun zc56 => ?_)
      ·
        refine sd_aload_n sD9_goThroughHour_69 rfl ?_
        refine sd_getfr sD9_goThroughHour_70 sF9_25 sGC23_4 ?_
        refine sd_iload sD9_goThroughHour_73 rfl ?_
        refine sd_iload sD9_goThroughHour_75 rfl ?_
        refine sd_iastc (a := (5020 + zi35)) sd_sokC hx sD9_goThroughHour_77 sAC21 (by omega) (fun m hx em77 => ?_)
        refine sd_iload_n sD9_goThroughHour_78 rfl ?_
        refine sd_iconst sD9_goThroughHour_79 (by decide) ?_
        refine sd_iload sD9_goThroughHour_80 rfl ?_
        refine sd_ishl sD9_goThroughHour_82 ?_
        refine sd_ior sD9_goThroughHour_83 ?_
        refine sd_istore_n (ls' := [some (.inr 23), some (.inr 22), some (.inr 52), some (.inl (sd_or (sd_set (sd_stW x k r) zi35) (sd_shl 1 (zi35 : Int)))), some (.inl (zi35 : Int)), some (.inl (sd_lk x zi35 (sd_wr x (sd_ad k r) zi35)))]) sD9_goThroughHour_84 (by decide) rfl ?_
        refine sd_iinc (y := ((zi35 : Int) + 1)) (ls' := [some (.inr 23), some (.inr 22), some (.inr 52), some (.inl (sd_or (sd_set (sd_stW x k r) zi35) (sd_shl 1 (zi35 : Int)))), some (.inl ((zi35 : Int) + 1)), some (.inl (sd_lk x zi35 (sd_wr x (sd_ad k r) zi35)))]) sD9_goThroughHour_85 rfl (by omega) (by omega) (by decide) rfl ?_
        refine sd_goto (tgt := 35) sD9_goThroughHour_88 (by decide) ?_
        refine sd_less (ls' := [some (.inr 23), some (.inr 22), some (.inr 52), some (.inl (sd_or (sd_set (sd_stW x k r) zi35) (sd_shl 1 (zi35 : Int)))), some (.inl ((zi35 : Int) + 1)), none]) ?_ rfl (by intro zi zv zh; rcases zi with _ | _ | _ | _ | _ | _ | zi <;> first | exact zh | cases zh)
        exact sd_eqw (ls' := [some (.inr 23), some (.inr 22), some (.inr 52), some (.inl (sd_set (sd_stW x k r) (zi35 + 1))), some (.inl ((zi35 + 1 : Nat) : Int)), none]) (ihzi35 m (by exact hx) (by first | exact ⟨hpzi35.1.tr (hkf.wd (by decide)), fun p hp => by rw [hrw p hp]; simp only [sd_wr]; rw [if_pos (by assumption)], fun w hw => by rw [hkf _ (by omega), hpzi35.2.2 w hw, sd_itec (show (w < zi35 + 1 ∧ sd_stW x k r w) ↔ (w < zi35 ∧ sd_stW x k r w) from ⟨fun q => ⟨by rcases Nat.lt_or_ge w zi35 with z | z; exact z; exact absurd (show w = zi35 by omega) (fun z2 => by subst z2; exact q.2 (by assumption)), q.2⟩, fun q => ⟨by omega, q.2⟩⟩)]⟩ | exact ⟨hpzi35.1.tr (sd_kF.up em77 (by omega)), fun p hp => by rw [em77, sd_up_ne (by omega), hpzi35.2.1 p hp]; simp only [sd_wr]; rw [if_neg (by assumption)], fun w hw => by by_cases z : w = zi35; (subst z; rw [em77, sd_up_eq, if_pos ⟨by omega, by assumption⟩]); (rw [em77, sd_up_ne (by omega), hpzi35.2.2 w hw, sd_itec (show (w < zi35 + 1 ∧ sd_stW x k r w) ↔ (w < zi35 ∧ sd_stW x k r w) from ⟨fun q => ⟨by omega, q.2⟩, fun q => ⟨by omega, q.2⟩⟩)])⟩)) (sd_cg rfl (sd_cg rfl (sd_cg rfl (sd_cg (sd_ce (show (sd_or (sd_set (sd_stW x k r) zi35) (sd_shl 1 (zi35 : Int)) : Int) = sd_set (sd_stW x k r) (zi35 + 1) from by simp only [sd_set]; first | (rw [if_pos (show sd_stW x k r zi35 by assumption)]; done) | (rw [if_neg (show ¬ sd_stW x k r zi35 from fun q => q (by assumption))]; done))) (sd_cg (sd_ce (show (((zi35 : Int) + 1) : Int) = ((zi35 + 1 : Nat) : Int) from by omega)) (sd_cg rfl rfl)))))) rfl
      ·
        refine sd_aload_n sD9_goThroughHour_59 rfl ?_
        refine sd_iload sD9_goThroughHour_60 rfl ?_
        refine sd_aload_n sD9_goThroughHour_62 rfl ?_
        refine sd_callV (as := [.inl (zi35 : Int), .inr 22]) (st := []) sD9_goThroughHour_63 sM9_55 rfl rfl sOC23 rfl (by decide) (Nat.le_of_ble_eq_true rfl) (cC_takeF zi35 (by omega) (sd_wr x (sd_ad k r) zi35) _ m m sd_kF.rf hx h5 (sd_wr_rr h5 (sd_ad_rr hk hrr) zi35 (by omega)) hpzi35.2.1) (fun r m hq ho63 hm => ?_)
        obtain ⟨rfl, hkf, hrw⟩ := hq
        replace hx := hkf.ns (by decide) hx
        show sd_Wp sd_SC 1 sY9_goThroughHour 66 [some (.inr 23), some (.inr 22), some (.inr 52), some (.inl (sd_set (sd_stW x k r) zi35)), some (.inl (zi35 : Int)), some (.inl (sd_lk x zi35 (sd_wr x (sd_ad k r) zi35)))] [] m _
        refine sd_goto (tgt := 85) sD9_goThroughHour_66 (by decide) ?_
        refine sd_iinc (y := ((zi35 : Int) + 1)) (ls' := [some (.inr 23), some (.inr 22), some (.inr 52), some (.inl (sd_set (sd_stW x k r) zi35)), some (.inl ((zi35 : Int) + 1)), some (.inl (sd_lk x zi35 (sd_wr x (sd_ad k r) zi35)))]) sD9_goThroughHour_85 rfl (by omega) (by omega) (by decide) rfl ?_
        refine sd_goto (tgt := 35) sD9_goThroughHour_88 (by decide) ?_
        refine sd_less (ls' := [some (.inr 23), some (.inr 22), some (.inr 52), some (.inl (sd_set (sd_stW x k r) zi35)), some (.inl ((zi35 : Int) + 1)), none]) ?_ rfl (by intro zi zv zh; rcases zi with _ | _ | _ | _ | _ | _ | zi <;> first | exact zh | cases zh)
        exact sd_eqw (ls' := [some (.inr 23), some (.inr 22), some (.inr 52), some (.inl (sd_set (sd_stW x k r) (zi35 + 1))), some (.inl ((zi35 + 1 : Nat) : Int)), none]) (ihzi35 m (by exact hx) (by first | exact ⟨hpzi35.1.tr (hkf.wd (by decide)), fun p hp => by rw [hrw p hp]; simp only [sd_wr]; rw [if_pos (by assumption)], fun w hw => by rw [hkf _ (by omega), hpzi35.2.2 w hw, sd_itec (show (w < zi35 + 1 ∧ sd_stW x k r w) ↔ (w < zi35 ∧ sd_stW x k r w) from ⟨fun q => ⟨by rcases Nat.lt_or_ge w zi35 with z | z; exact z; exact absurd (show w = zi35 by omega) (fun z2 => by subst z2; exact q.2 (by assumption)), q.2⟩, fun q => ⟨by omega, q.2⟩⟩)]⟩ | exact ⟨hpzi35.1.tr (sd_kF.up em77 (by omega)), fun p hp => by rw [em77, sd_up_ne (by omega), hpzi35.2.1 p hp]; simp only [sd_wr]; rw [if_neg (by assumption)], fun w hw => by by_cases z : w = zi35; (subst z; rw [em77, sd_up_eq, if_pos ⟨by omega, by assumption⟩]); (rw [em77, sd_up_ne (by omega), hpzi35.2.2 w hw, sd_itec (show (w < zi35 + 1 ∧ sd_stW x k r w) ↔ (w < zi35 ∧ sd_stW x k r w) from ⟨fun q => ⟨by omega, q.2⟩, fun q => ⟨by omega, q.2⟩⟩)])⟩)) (sd_cg rfl (sd_cg rfl (sd_cg rfl (sd_cg (sd_ce (show (sd_set (sd_stW x k r) zi35 : Int) = sd_set (sd_stW x k r) (zi35 + 1) from by simp only [sd_set]; first | (rw [if_pos (show sd_stW x k r zi35 by assumption)]; done) | (rw [if_neg (show ¬ sd_stW x k r zi35 from fun q => q (by assumption))]; done))) (sd_cg (sd_ce (show (((zi35 : Int) + 1) : Int) = ((zi35 + 1 : Nat) : Int) from by omega)) (sd_cg rfl rfl)))))) rfl
    ·
      show sd_Wp sd_SC 1 sY9_goThroughHour 35 [some (.inr 23), some (.inr 22), some (.inr 52), some (.inl (sd_set (sd_stW x k r) ((x 4).toNat))), some (.inl ((((x 4).toNat) : Nat) : Int)), none] [] m _
      refine sd_iload sD9_goThroughHour_35 rfl ?_
      refine sd_aload_n sD9_goThroughHour_37 rfl ?_
      refine sd_getfx (v := x 4) hx sD9_goThroughHour_38 sF9_9 sGC23_0 (by decide) rfl ?_
      refine sd_icmp_ge (tgt := 91) sD9_goThroughHour_41 (by decide) (fun zc41 => ?_) (fun zc41 => (by exfalso; omega))
      refine sd_iload_n sD9_goThroughHour_91 rfl ?_
      refine sd_ireturn sD9_goThroughHour_92 rfl (fun hr hm => ?_)
      exact ⟨rfl, hpzi35.1, hpzi35.2.1, hpzi35.2.2⟩
