set_option maxRecDepth 100000 in
set_option maxHeartbeats 4000000 in
theorem cM_closes (x m : sd_M) (hx : sd_ns x m) (hJ : sd_J x) (hc : x 8 ≤ 6 * x 0) (h9 : x 0 + 1 ≤ 959) : sd_Ct sd_SM 8 sY11_closes [.inr 15] m (fun r m' => r = none ∧ sd_ns (sd_clo x) m') := by
  refine sd_ct rfl (Nat.le_of_ble_eq_true rfl) (fun hok hm => ?_)
  have h1 := hJ.1
  obtain ⟨⟨i0, j0⟩, ⟨i1, j1⟩, ⟨i2, j2⟩, ⟨i3, j3⟩, ⟨i4, j4⟩, ⟨i5, j5⟩, ⟨i6, j6⟩, ⟨i7, j7⟩, ⟨i8, j8⟩⟩ := id h1
  obtain ⟨⟨hJ1, g10, g12, g13⟩, ⟨hJ2, g20, g23, g22⟩, ⟨hJ3, g30, g38, g32⟩⟩ := sd_y3J hJ
  obtain ⟨hJ4, g40, g48, hrr4⟩ := sd_y4J hJ hc
  obtain ⟨hJ5, g50, g58⟩ := sd_y5J hJ hc
  show sd_Wp sd_SM 8 sY11_closes 0 [some (.inr 15), none, none] [] m _
  refine sd_aload_n sD11_closes_0 rfl ?_
  refine sd_callV (as := []) (st := []) sD11_closes_1 sM11_230 rfl rfl sOM15 rfl (by decide) (Nat.le_of_ble_eq_true rfl) (cM_warms _ m hx hJ) (fun r m hq ho1 hm => ?_)
  obtain ⟨rfl, hx⟩ := hq
  show sd_Wp sd_SM 8 sY11_closes 4 [some (.inr 15), none, none] [] m _
  refine sd_iconst sD11_closes_4 (by decide) ?_
  refine sd_istore_n (ls' := [some (.inr 15), some (.inl 0), none]) sD11_closes_5 (by decide) rfl ?_
  refine sd_forX ((x 3).toNat) (fun zi6 : Nat => [some (.inr 15), some (.inl (zi6 : Int)), none]) (fun zi6 : Nat => sd_eaL (sd_y1 x) (x 0 % 24 = 6 ∨ x 0 % 24 = 12 ∨ x 0 % 24 = 18) zi6) (fun (zi6 : Nat) (m : sd_M) => True) (by rfl) (fun zi6 hizi6 m hx hpzi6 ihzi6 => ?_) (fun m hx hpzi6 => ?_) (by exact hx) (by trivial)
  ·
    obtain ⟨hJe, hO⟩ := sd_eaL_J hJ1 (x 0 % 24 = 6 ∨ x 0 % 24 = 12 ∨ x 0 % 24 = 18) zi6 (by omega)
    have h1 := hJe.1
    have h2 := hJe.2.1
    have h3 := hJe.2.2.1
    have h4 := hJe.2.2.2.1
    have h5 := hJe.2.2.2.2.1
    have h6 := hJe.2.2.2.2.2.1
    have h7 := hJe.2.2.2.2.2.2.1
    have hR := hJe.2.2.2.2.2.2.2.1
    have hI := hJe.2.2.2.2.2.2.2.2.1
    have hL := hJe.2.2.2.2.2.2.2.2.2
    have e4 := (h4 zi6 (by omega)).1
    refine sd_iload_n sD11_closes_6 rfl ?_
    refine sd_aload_n sD11_closes_7 rfl ?_
    refine sd_getfr sD11_closes_8 sF11_7 sGM15_0 ?_
    refine sd_iconst sD11_closes_11 (by decide) ?_
    refine sd_ialdx (a := 3) (v := x 3) hx sD11_closes_12 sAM0 (by omega) ((hO 3 (by omega)).trans g13) ?_
    refine sd_icmp_ge (tgt := 40) sD11_closes_13 (by decide) (fun zc13 => (by exfalso; omega)) (fun zc13 => ?_)
    refine sd_aload_n sD11_closes_16 rfl ?_
    refine sd_getfr sD11_closes_17 sF11_7 sGM15_0 ?_
    refine sd_sipush sD11_closes_20 rfl (by decide) ?_
    refine sd_iload_n sD11_closes_23 rfl ?_
    refine sd_iadd (z := (322 + (zi6 : Int))) sD11_closes_24 (by omega) (by omega) ?_
    refine sd_ialdx (a := (322 + zi6)) (v := (sd_eaL (sd_y1 x) (x 0 % 24 = 6 ∨ x 0 % 24 = 12 ∨ x 0 % 24 = 18) zi6) (322 + zi6)) hx sD11_closes_25 sAM0 (by omega) rfl ?_
    refine sd_if_lt (tgt := 34) sD11_closes_26 (by decide) (fun zc26 => ?_) (fun zc26 => ?_)
    ·
      refine sd_iinc (y := ((zi6 : Int) + 1)) (ls' := [some (.inr 15), some (.inl ((zi6 : Int) + 1)), none]) sD11_closes_34 rfl (by omega) (by omega) (by decide) rfl ?_
      refine sd_goto (tgt := 6) sD11_closes_37 (by decide) ?_
      exact sd_eqw (ls' := [some (.inr 15), some (.inl ((zi6 + 1 : Nat) : Int)), none]) (ihzi6 m (by simp only [sd_eaL]; first | (rw [if_pos (by omega)]; exact hx) | (rw [if_neg (by omega)]; exact hx)) (by trivial)) (sd_cg rfl (sd_cg (sd_ce (show (((zi6 : Int) + 1) : Int) = ((zi6 + 1 : Nat) : Int) from by omega)) (sd_cg rfl rfl))) rfl
    ·
      refine sd_aload_n sD11_closes_29 rfl ?_
      refine sd_iload_n sD11_closes_30 rfl ?_
      refine sd_callV (as := [.inl (zi6 : Int)]) (st := []) sD11_closes_31 sM11_233 rfl rfl sOM15 rfl (by decide) (Nat.le_of_ble_eq_true rfl) (cM_eat zi6 (by omega) _ m hx hJe (by omega)) (fun r m hq ho31 hm => ?_)
      obtain ⟨rfl, hx⟩ := hq
      rw [show (sd_eaL (sd_y1 x) (x 0 % 24 = 6 ∨ x 0 % 24 = 12 ∨ x 0 % 24 = 18) zi6) 0 = x 0 from (hO 0 (by omega)).trans g10] at hx
      show sd_Wp sd_SM 8 sY11_closes 34 [some (.inr 15), some (.inl (zi6 : Int)), none] [] m _
      refine sd_iinc (y := ((zi6 : Int) + 1)) (ls' := [some (.inr 15), some (.inl ((zi6 : Int) + 1)), none]) sD11_closes_34 rfl (by omega) (by omega) (by decide) rfl ?_
      refine sd_goto (tgt := 6) sD11_closes_37 (by decide) ?_
      exact sd_eqw (ls' := [some (.inr 15), some (.inl ((zi6 + 1 : Nat) : Int)), none]) (ihzi6 m (by simp only [sd_eaL]; first | (rw [if_pos (by omega)]; exact hx) | (rw [if_neg (by omega)]; exact hx)) (by trivial)) (sd_cg rfl (sd_cg (sd_ce (show (((zi6 : Int) + 1) : Int) = ((zi6 + 1 : Nat) : Int) from by omega)) (sd_cg rfl rfl))) rfl
  ·
    show sd_Wp sd_SM 8 sY11_closes 6 [some (.inr 15), some (.inl ((((x 3).toNat) : Nat) : Int)), none] [] m _
    obtain ⟨hJe, hO⟩ := sd_eaL_J hJ1 (x 0 % 24 = 6 ∨ x 0 % 24 = 12 ∨ x 0 % 24 = 18) (x 3).toNat (by omega)
    refine sd_iload_n sD11_closes_6 rfl ?_
    refine sd_aload_n sD11_closes_7 rfl ?_
    refine sd_getfr sD11_closes_8 sF11_7 sGM15_0 ?_
    refine sd_iconst sD11_closes_11 (by decide) ?_
    refine sd_ialdx (a := 3) (v := x 3) hx sD11_closes_12 sAM0 (by omega) ((hO 3 (by omega)).trans g13) ?_
    refine sd_icmp_ge (tgt := 40) sD11_closes_13 (by decide) (fun zc13 => ?_) (fun zc13 => (by exfalso; omega))
    replace hx : sd_ns (sd_y2 x) m := hx
    refine sd_iconst sD11_closes_40 (by decide) ?_
    refine sd_istore_n (ls' := [some (.inr 15), some (.inl 0), none]) sD11_closes_41 (by decide) rfl ?_
    refine sd_forX ((x 3).toNat) (fun zi42 : Nat => [some (.inr 15), some (.inl (zi42 : Int)), none]) (fun zi42 : Nat => sd_tiL (sd_y2 x) (x 0 % 24) zi42) (fun (zi42 : Nat) (m : sd_M) => True) (by rfl) (fun zi42 hizi42 m hx hpzi42 ihzi42 => ?_) (fun m hx hpzi42 => ?_) (by exact hx) (by trivial)
    ·
      obtain ⟨hJe, hO⟩ := sd_tiL_J hJ2 (x 0 % 24) zi42 (by omega)
      have h1 := hJe.1
      have h2 := hJe.2.1
      have h3 := hJe.2.2.1
      have h4 := hJe.2.2.2.1
      have h5 := hJe.2.2.2.2.1
      have h6 := hJe.2.2.2.2.2.1
      have h7 := hJe.2.2.2.2.2.2.1
      have hR := hJe.2.2.2.2.2.2.2.1
      have hI := hJe.2.2.2.2.2.2.2.2.1
      have hL := hJe.2.2.2.2.2.2.2.2.2
      have e4 := (h4 zi42 (by omega)).1
      refine sd_iload_n sD11_closes_42 rfl ?_
      refine sd_aload_n sD11_closes_43 rfl ?_
      refine sd_getfr sD11_closes_44 sF11_7 sGM15_0 ?_
      refine sd_iconst sD11_closes_47 (by decide) ?_
      refine sd_ialdx (a := 3) (v := x 3) hx sD11_closes_48 sAM0 (by omega) ((hO 3 (by omega)).trans g23) ?_
      refine sd_icmp_ge (tgt := 76) sD11_closes_49 (by decide) (fun zc49 => (by exfalso; omega)) (fun zc49 => ?_)
      refine sd_aload_n sD11_closes_52 rfl ?_
      refine sd_getfr sD11_closes_53 sF11_7 sGM15_0 ?_
      refine sd_sipush sD11_closes_56 rfl (by decide) ?_
      refine sd_iload_n sD11_closes_59 rfl ?_
      refine sd_iadd (z := (322 + (zi42 : Int))) sD11_closes_60 (by omega) (by omega) ?_
      refine sd_ialdx (a := (322 + zi42)) (v := (sd_tiL (sd_y2 x) (x 0 % 24) zi42) (322 + zi42)) hx sD11_closes_61 sAM0 (by omega) rfl ?_
      refine sd_if_lt (tgt := 70) sD11_closes_62 (by decide) (fun zc62 => ?_) (fun zc62 => ?_)
      ·
        refine sd_iinc (y := ((zi42 : Int) + 1)) (ls' := [some (.inr 15), some (.inl ((zi42 : Int) + 1)), none]) sD11_closes_70 rfl (by omega) (by omega) (by decide) rfl ?_
        refine sd_goto (tgt := 42) sD11_closes_73 (by decide) ?_
        exact sd_eqw (ls' := [some (.inr 15), some (.inl ((zi42 + 1 : Nat) : Int)), none]) (ihzi42 m (by simp only [sd_tiL]; first | (rw [if_pos (by omega)]; exact hx) | (rw [if_neg (by omega)]; exact hx)) (by trivial)) (sd_cg rfl (sd_cg (sd_ce (show (((zi42 : Int) + 1) : Int) = ((zi42 + 1 : Nat) : Int) from by omega)) (sd_cg rfl rfl))) rfl
      ·
        refine sd_aload_n sD11_closes_65 rfl ?_
        refine sd_iload_n sD11_closes_66 rfl ?_
        refine sd_callV (as := [.inl (zi42 : Int)]) (st := []) sD11_closes_67 sM11_236 rfl rfl sOM15 rfl (by decide) (Nat.le_of_ble_eq_true rfl) (cM_tire zi42 (by omega) _ m hx hJe (by omega) (x 0 % 24) (by rw [show (sd_tiL (sd_y2 x) (x 0 % 24) zi42) 0 = x 0 from (hO 0 (by omega)).trans g20])) (fun r m hq ho67 hm => ?_)
        obtain ⟨rfl, hx⟩ := hq
        show sd_Wp sd_SM 8 sY11_closes 70 [some (.inr 15), some (.inl (zi42 : Int)), none] [] m _
        refine sd_iinc (y := ((zi42 : Int) + 1)) (ls' := [some (.inr 15), some (.inl ((zi42 : Int) + 1)), none]) sD11_closes_70 rfl (by omega) (by omega) (by decide) rfl ?_
        refine sd_goto (tgt := 42) sD11_closes_73 (by decide) ?_
        exact sd_eqw (ls' := [some (.inr 15), some (.inl ((zi42 + 1 : Nat) : Int)), none]) (ihzi42 m (by simp only [sd_tiL]; first | (rw [if_pos (by omega)]; exact hx) | (rw [if_neg (by omega)]; exact hx)) (by trivial)) (sd_cg rfl (sd_cg (sd_ce (show (((zi42 : Int) + 1) : Int) = ((zi42 + 1 : Nat) : Int) from by omega)) (sd_cg rfl rfl))) rfl
    ·
      show sd_Wp sd_SM 8 sY11_closes 42 [some (.inr 15), some (.inl ((((x 3).toNat) : Nat) : Int)), none] [] m _
      obtain ⟨hJe, hO⟩ := sd_tiL_J hJ2 (x 0 % 24) (x 3).toNat (by omega)
      refine sd_iload_n sD11_closes_42 rfl ?_
      refine sd_aload_n sD11_closes_43 rfl ?_
      refine sd_getfr sD11_closes_44 sF11_7 sGM15_0 ?_
      refine sd_iconst sD11_closes_47 (by decide) ?_
      refine sd_ialdx (a := 3) (v := x 3) hx sD11_closes_48 sAM0 (by omega) ((hO 3 (by omega)).trans g23) ?_
      refine sd_icmp_ge (tgt := 76) sD11_closes_49 (by decide) (fun zc49 => ?_) (fun zc49 => (by exfalso; omega))
      replace hx : sd_ns (sd_y3 x) m := hx
      have h1 := hJ3.1
      have h2 := hJ3.2.1
      have h3 := hJ3.2.2.1
      have h4 := hJ3.2.2.2.1
      have h5 := hJ3.2.2.2.2.1
      have h6 := hJ3.2.2.2.2.2.1
      have h7 := hJ3.2.2.2.2.2.2.1
      have hR := hJ3.2.2.2.2.2.2.2.1
      have hI := hJ3.2.2.2.2.2.2.2.2.1
      have hL := hJ3.2.2.2.2.2.2.2.2.2
      refine sd_iconst sD11_closes_76 (by decide) ?_
      refine sd_istore_n (ls' := [some (.inr 15), some (.inl 0), none]) sD11_closes_77 (by decide) rfl ?_
      refine sd_forX ((x 2).toNat) (fun zi78 : Nat => [some (.inr 15), some (.inl (zi78 : Int)), none]) (fun zi78 : Nat => sd_rc (sd_y3 x) (sd_ad (sd_md (sd_y3 x) (sd_mks (sd_y3 x)) zi78) (sd_stx (sd_y3 x))) (sd_y3 x 8)) (fun (zi78 : Nat) (m : sd_M) => True) (by rfl) (fun zi78 hizi78 m hx hpzi78 ihzi78 => ?_) (fun m hx hpzi78 => ?_) (by exact sd_nseq (fun j => (sd_rc_0 (sd_y3 x) j).trans (sd_rc_cong (fun p hp => by have z := hJ3.2.2.2.2.1.1 p hp; unfold sd_ad sd_md sd_stx; simp only [sd_sum]; omega) j)) hx) (by trivial)
      ·
        have hkz := sd_mka_le hJ3.1 hJ3.2.1 (sd_mks (sd_y3 x)) zi78 (by omega)
        have hra := sd_ad_rr hkz (show sd_rr (sd_stx (sd_y3 x)) from fun p hp => hJ3.2.2.2.2.1.1 p hp)
        have hJa := sd_J_rc hJ3 hra (c := sd_y3 x 8) (by have := hJ3.1.2.2.2.2.2.2.2.2; omega)
        refine sd_iload_n sD11_closes_78 rfl ?_
        refine sd_aload_n sD11_closes_79 rfl ?_
        refine sd_getfr sD11_closes_80 sF11_7 sGM15_0 ?_
        refine sd_iconst sD11_closes_83 (by decide) ?_
        refine sd_ialdx (a := 2) (v := x 2) hx sD11_closes_84 sAM0 (by omega) ((sd_rc_o (by omega) (by omega)).trans g32) ?_
        refine sd_icmp_ge (tgt := 163) sD11_closes_85 (by decide) (fun zc85 => (by exfalso; omega)) (fun zc85 => ?_)
        refine sd_aload_n sD11_closes_88 rfl ?_
        refine sd_iload_n sD11_closes_89 rfl ?_
        refine sd_callV (as := [.inl (zi78 : Int)]) (st := []) sD11_closes_90 sM11_90 rfl rfl sOM15 rfl (by decide) (Nat.le_of_ble_eq_true rfl) (cM_makes (zi78 : Int) _ m hx (by omega) hJa.1 hJa.2.1 hJa.2.2.2.1 hJa.2.2.2.2.2.1 hJa.2.2.2.2.2.2.2.1 hJa.2.2.2.2.2.2.2.2.1 hJa.2.2.2.2.2.2.2.2.2) (fun r m hq ho90 hm => ?_)
        obtain ⟨hq1, hx⟩ := hq
        rw [sd_bc (sd_sm_mk (sd_rc_sm _ _ _) hJ3.1 hJ3.2.2.2.2.2.2.2.1 (h := (zi78 : Int)) (by omega))] at hq1
        subst hq1
        have hbm := sd_set_bit (sd_Pmk (sd_y3 x)) (n := (sd_y3 x 2).toNat) (w := zi78) (by omega) (by omega)
        show sd_Wp sd_SM 8 sY11_closes 93 [some (.inr 15), some (.inl (zi78 : Int)), none] [.inl (sd_b (sd_mk (sd_y3 x) (zi78 : Int)))] m _
        refine sd_bif_eq (tgt := 157) sD11_closes_93 (by decide) (fun zc93 => ?_) (fun zc93 => ?_)
        ·
          refine sd_iinc (y := ((zi78 : Int) + 1)) (ls' := [some (.inr 15), some (.inl ((zi78 : Int) + 1)), none]) sD11_closes_157 rfl (by omega) (by omega) (by decide) rfl ?_
          refine sd_goto (tgt := 78) sD11_closes_160 (by decide) ?_
          exact sd_eqw (ls' := [some (.inr 15), some (.inl ((zi78 + 1 : Nat) : Int)), none]) (ihzi78 m (by first | exact sd_nseq (sd_clD (by omega) (by omega) (hbm.mpr ⟨by omega, hmk⟩) (by omega) e6 e5.1 (by omega)) hx | exact sd_nseq (sd_clD0 (fun q => absurd (hbm.mp q).2 (by assumption))) hx) (by trivial)) (sd_cg rfl (sd_cg (sd_ce (show (((zi78 : Int) + 1) : Int) = ((zi78 + 1 : Nat) : Int) from by omega)) (sd_cg rfl rfl))) rfl
        ·
          have hmk : sd_mk (sd_y3 x) (zi78 : Int) := by assumption
          have ek1 : sd_y3 x (10 + zi78) = 1 := by have := hmk.1; rw [Int.toNat_natCast] at this; exact this
          have e3 := (hJ3.2.2.1 zi78 (by omega)).1 ek1
          have e2 := hJ3.2.1 zi78 (by omega)
          have e5 := sd_md_rng hJ3.2.1 (sd_mks (sd_y3 x)) zi78 (sd_y3 x (34 + zi78)).toNat (by omega)
          have e6 := hJ3.2.2.2.2.1.1 (sd_y3 x (34 + zi78)).toNat (by omega)
          have e7 := hra (sd_y3 x (34 + zi78)).toNat (by omega)
          refine sd_aload_n sD11_closes_96 rfl ?_
          refine sd_getfr sD11_closes_97 sF11_7 sGM15_0 ?_
          refine sd_sipush sD11_closes_100 rfl (by decide) ?_
          refine sd_aload_n sD11_closes_103 rfl ?_
          refine sd_getfr sD11_closes_104 sF11_7 sGM15_0 ?_
          refine sd_bipush sD11_closes_107 rfl (by decide) ?_
          refine sd_iload_n sD11_closes_109 rfl ?_
          refine sd_iadd (z := (34 + (zi78 : Int))) sD11_closes_110 (by omega) (by omega) ?_
          refine sd_ialdx (a := (34 + zi78)) (v := (sd_y3 x) (34 + zi78)) hx sD11_closes_111 sAM0 (by omega) (sd_rc_o (by omega) (by omega)) ?_
          refine sd_iadd (z := (386 + (sd_y3 x) (34 + zi78))) sD11_closes_112 (by omega) (by omega) ?_
          refine sd_ialdx (a := (386 + ((sd_y3 x) (34 + zi78)).toNat)) (v := sd_ad (sd_md (sd_y3 x) (sd_mks (sd_y3 x)) zi78) (sd_stx (sd_y3 x)) (((sd_y3 x) (34 + zi78)).toNat)) hx sD11_closes_113 sAM0 (by omega) (sd_rc_at (by omega)) ?_
          refine sd_aload_n sD11_closes_114 rfl ?_
          refine sd_getfr sD11_closes_115 sF11_7 sGM15_0 ?_
          refine sd_bipush sD11_closes_118 rfl (by decide) ?_
          refine sd_iload_n sD11_closes_120 rfl ?_
          refine sd_iadd (z := (58 + (zi78 : Int))) sD11_closes_121 (by omega) (by omega) ?_
          refine sd_ialdx (a := (58 + zi78)) (v := (sd_y3 x) (58 + zi78)) hx sD11_closes_122 sAM0 (by omega) (sd_rc_o (by omega) (by omega)) ?_
          refine sd_iadd (z := (sd_ad (sd_md (sd_y3 x) (sd_mks (sd_y3 x)) zi78) (sd_stx (sd_y3 x)) (((sd_y3 x) (34 + zi78)).toNat) + (sd_y3 x) (58 + zi78))) sD11_closes_123 (by omega) (by omega) ?_
          refine sd_istore_n (ls' := [some (.inr 15), some (.inl (zi78 : Int)), some (.inl (sd_ad (sd_md (sd_y3 x) (sd_mks (sd_y3 x)) zi78) (sd_stx (sd_y3 x)) (((sd_y3 x) (34 + zi78)).toNat) + (sd_y3 x) (58 + zi78)))]) sD11_closes_124 (by decide) rfl ?_
          refine sd_aload_n sD11_closes_125 rfl ?_
          refine sd_getfr sD11_closes_126 sF11_7 sGM15_0 ?_
          refine sd_sipush sD11_closes_129 rfl (by decide) ?_
          refine sd_aload_n sD11_closes_132 rfl ?_
          refine sd_getfr sD11_closes_133 sF11_7 sGM15_0 ?_
          refine sd_bipush sD11_closes_136 rfl (by decide) ?_
          refine sd_iload_n sD11_closes_138 rfl ?_
          refine sd_iadd (z := (34 + (zi78 : Int))) sD11_closes_139 (by omega) (by omega) ?_
          refine sd_ialdx (a := (34 + zi78)) (v := (sd_y3 x) (34 + zi78)) hx sD11_closes_140 sAM0 (by omega) (sd_rc_o (by omega) (by omega)) ?_
          refine sd_iadd (z := (386 + (sd_y3 x) (34 + zi78))) sD11_closes_141 (by omega) (by omega) ?_
          refine sd_iload_n sD11_closes_142 rfl ?_
          refine sd_sipush sD11_closes_143 rfl (by decide) ?_
          refine sd_icmp_le (tgt := 155) sD11_closes_146 (by decide) (fun zc146 => ?_) (fun zc146 => ?_)
          ·
            refine sd_iload_n sD11_closes_155 rfl ?_
            refine sd_iastx (a := (386 + ((sd_y3 x) (34 + zi78)).toNat)) sd_sokM hx sD11_closes_156 sAM0 (by omega) (fun m hx em156 => ?_)
            refine sd_iinc (y := ((zi78 : Int) + 1)) (ls' := [some (.inr 15), some (.inl ((zi78 : Int) + 1)), some (.inl (sd_ad (sd_md (sd_y3 x) (sd_mks (sd_y3 x)) zi78) (sd_stx (sd_y3 x)) (((sd_y3 x) (34 + zi78)).toNat) + (sd_y3 x) (58 + zi78)))]) sD11_closes_157 rfl (by omega) (by omega) (by decide) rfl ?_
            refine sd_goto (tgt := 78) sD11_closes_160 (by decide) ?_
            refine sd_less (ls' := [some (.inr 15), some (.inl ((zi78 : Int) + 1)), none]) ?_ rfl (by intro zi zv zh; rcases zi with _ | _ | _ | zi <;> first | exact zh | cases zh)
            exact sd_eqw (ls' := [some (.inr 15), some (.inl ((zi78 + 1 : Nat) : Int)), none]) (ihzi78 m (by first | exact sd_nseq (sd_clD (by omega) (by omega) (hbm.mpr ⟨by omega, hmk⟩) (by omega) e6 e5.1 (by omega)) hx | exact sd_nseq (sd_clD0 (fun q => absurd (hbm.mp q).2 (by assumption))) hx) (by trivial)) (sd_cg rfl (sd_cg (sd_ce (show (((zi78 : Int) + 1) : Int) = ((zi78 + 1 : Nat) : Int) from by omega)) (sd_cg rfl rfl))) rfl
          ·
            refine sd_sipush sD11_closes_149 rfl (by decide) ?_
            refine sd_goto (tgt := 156) sD11_closes_152 (by decide) ?_
            refine sd_iastx (a := (386 + ((sd_y3 x) (34 + zi78)).toNat)) sd_sokM hx sD11_closes_156 sAM0 (by omega) (fun m hx em156 => ?_)
            refine sd_iinc (y := ((zi78 : Int) + 1)) (ls' := [some (.inr 15), some (.inl ((zi78 : Int) + 1)), some (.inl (sd_ad (sd_md (sd_y3 x) (sd_mks (sd_y3 x)) zi78) (sd_stx (sd_y3 x)) (((sd_y3 x) (34 + zi78)).toNat) + (sd_y3 x) (58 + zi78)))]) sD11_closes_157 rfl (by omega) (by omega) (by decide) rfl ?_
            refine sd_goto (tgt := 78) sD11_closes_160 (by decide) ?_
            refine sd_less (ls' := [some (.inr 15), some (.inl ((zi78 : Int) + 1)), none]) ?_ rfl (by intro zi zv zh; rcases zi with _ | _ | _ | zi <;> first | exact zh | cases zh)
            exact sd_eqw (ls' := [some (.inr 15), some (.inl ((zi78 + 1 : Nat) : Int)), none]) (ihzi78 m (by first | exact sd_nseq (sd_clD (by omega) (by omega) (hbm.mpr ⟨by omega, hmk⟩) (by omega) e6 e5.1 (by omega)) hx | exact sd_nseq (sd_clD0 (fun q => absurd (hbm.mp q).2 (by assumption))) hx) (by trivial)) (sd_cg rfl (sd_cg (sd_ce (show (((zi78 : Int) + 1) : Int) = ((zi78 + 1 : Nat) : Int) from by omega)) (sd_cg rfl rfl))) rfl
      ·
        show sd_Wp sd_SM 8 sY11_closes 78 [some (.inr 15), some (.inl ((((x 2).toNat) : Nat) : Int)), none] [] m _
        replace hx : sd_ns (sd_rc (sd_y3 x) (sd_ad (sd_kN (sd_y3 x)) (sd_stx (sd_y3 x))) (sd_y3 x 8)) m := by rw [show sd_kN (sd_y3 x) = sd_md (sd_y3 x) (sd_mks (sd_y3 x)) (x 2).toNat from by funext p; show sd_md _ _ (sd_y3 x 2).toNat p = _; rw [g32]]; exact hx
        refine sd_iload_n sD11_closes_78 rfl ?_
        refine sd_aload_n sD11_closes_79 rfl ?_
        refine sd_getfr sD11_closes_80 sF11_7 sGM15_0 ?_
        refine sd_iconst sD11_closes_83 (by decide) ?_
        refine sd_ialdx (a := 2) (v := x 2) hx sD11_closes_84 sAM0 (by omega) ((sd_rc_o (by omega) (by omega)).trans g32) ?_
        refine sd_icmp_ge (tgt := 163) sD11_closes_85 (by decide) (fun zc85 => ?_) (fun zc85 => (by exfalso; omega))
        refine sd_aload_n sD11_closes_163 rfl ?_
        refine sd_callV (as := []) (st := []) sD11_closes_164 sM11_239 rfl rfl sOM15 rfl (by decide) (Nat.le_of_ble_eq_true rfl) (cM_works (sd_ad (sd_kN (sd_y3 x)) (sd_stx (sd_y3 x))) _ m hx hJ3.1 hJ3.2.2.2.2.1 hrr4) (fun r m hq ho164 hm => ?_)
        obtain ⟨rfl, hx⟩ := hq
        replace hx : sd_ns (sd_y4 x) m := hx
        show sd_Wp sd_SM 8 sY11_closes 167 [some (.inr 15), some (.inl ((((x 2).toNat) : Nat) : Int)), none] [.inl (sd_yc x)] m _
        refine sd_istore_n (ls' := [some (.inr 15), some (.inl (sd_yc x)), none]) sD11_closes_167 (by decide) rfl ?_
        refine sd_aload_n sD11_closes_168 rfl ?_
        refine sd_getfr sD11_closes_169 sF11_7 sGM15_0 ?_
        refine sd_iconst sD11_closes_172 (by decide) ?_
        refine sd_ialdx (a := 0) (v := x 0) hx sD11_closes_173 sAM0 (by omega) g40 ?_
        refine sd_bipush sD11_closes_174 rfl (by decide) ?_
        refine sd_irem (z := (x 0 % 24)) sD11_closes_176 (by decide) (by exact Int.tmod_eq_emod_of_nonneg (by omega)) (by omega) ?_
        refine sd_bipush sD11_closes_177 rfl (by decide) ?_
        refine sd_icmp_ne (tgt := 203) sD11_closes_179 (by decide) (fun zc179 => ?_) (fun zc179 => ?_)
        ·
          replace hx : sd_ns (sd_y5 x) m := by unfold sd_y5; rw [if_neg (by omega)]; exact hx
          refine sd_iconst sD11_closes_203 (by decide) ?_
          refine sd_istore_n (ls' := [some (.inr 15), some (.inl (sd_yc x)), some (.inl 0)]) sD11_closes_204 (by decide) rfl ?_
          refine sd_forX (24) (fun zi205 : Nat => [some (.inr 15), some (.inl (sd_yc x)), some (.inl (zi205 : Int))]) (fun zi205 : Nat => sd_fil (sd_y5 x) 178 zi205 0) (fun (zi205 : Nat) (m : sd_M) => True) (by rfl) (fun zi205 hizi205 m hx hpzi205 ihzi205 => ?_) (fun m hx hpzi205 => ?_) (by rw [sd_fil_0]; exact hx) (by trivial)
          ·
            refine sd_iload_n sD11_closes_205 rfl ?_
            refine sd_bipush sD11_closes_206 rfl (by decide) ?_
            refine sd_icmp_ge (tgt := 228) sD11_closes_208 (by decide) (fun zc208 => (by exfalso; omega)) (fun zc208 => ?_)
            refine sd_aload_n sD11_closes_211 rfl ?_
            refine sd_getfr sD11_closes_212 sF11_7 sGM15_0 ?_
            refine sd_sipush sD11_closes_215 rfl (by decide) ?_
            refine sd_iload_n sD11_closes_218 rfl ?_
            refine sd_iadd (z := (178 + (zi205 : Int))) sD11_closes_219 (by omega) (by omega) ?_
            refine sd_iconst sD11_closes_220 (by decide) ?_
            refine sd_iastx (a := (178 + zi205)) sd_sokM hx sD11_closes_221 sAM0 (by omega) (fun m hx em221 => ?_)
            refine sd_iinc (y := ((zi205 : Int) + 1)) (ls' := [some (.inr 15), some (.inl (sd_yc x)), some (.inl ((zi205 : Int) + 1))]) sD11_closes_222 rfl (by omega) (by omega) (by decide) rfl ?_
            refine sd_goto (tgt := 205) sD11_closes_225 (by decide) ?_
            exact sd_eqw (ls' := [some (.inr 15), some (.inl (sd_yc x)), some (.inl ((zi205 + 1 : Nat) : Int))]) (ihzi205 m (by exact sd_nseq (fun j => by rw [← sd_fil_s]) hx) (by trivial)) (sd_cg rfl (sd_cg rfl (sd_cg (sd_ce (show (((zi205 : Int) + 1) : Int) = ((zi205 + 1 : Nat) : Int) from by omega)) rfl))) rfl
          ·
            show sd_Wp sd_SM 8 sY11_closes 205 [some (.inr 15), some (.inl (sd_yc x)), some (.inl (24 : Int))] [] m _
            refine sd_iload_n sD11_closes_205 rfl ?_
            refine sd_bipush sD11_closes_206 rfl (by decide) ?_
            refine sd_icmp_ge (tgt := 228) sD11_closes_208 (by decide) (fun zc208 => ?_) (fun zc208 => (by exfalso; omega))
            refine sd_aload_n sD11_closes_228 rfl ?_
            refine sd_getfr sD11_closes_229 sF11_7 sGM15_0 ?_
            refine sd_iconst sD11_closes_232 (by decide) ?_
            refine sd_dup2 sD11_closes_233 ?_
            refine sd_ialdx (a := 0) (v := x 0) hx sD11_closes_234 sAM0 (by omega) (by unfold sd_fil; rw [if_neg (by omega)]; exact g50) ?_
            refine sd_iconst sD11_closes_235 (by decide) ?_
            refine sd_iadd (z := (x 0 + 1)) sD11_closes_236 (by omega) (by omega) ?_
            refine sd_iastx (a := 0) sd_sokM hx sD11_closes_237 sAM0 (by omega) (fun m hx em237 => ?_)
            refine sd_vreturn sD11_closes_238 rfl (fun hm => ?_)
            exact ⟨rfl, hx⟩
        ·
          refine sd_aload_n sD11_closes_182 rfl ?_
          refine sd_sipush sD11_closes_183 rfl (by decide) ?_
          refine sd_bipush sD11_closes_186 rfl (by decide) ?_
          refine sd_aload_n sD11_closes_188 rfl ?_
          refine sd_getfr sD11_closes_189 sF11_7 sGM15_0 ?_
          refine sd_iconst sD11_closes_192 (by decide) ?_
          refine sd_ialdx (a := 0) (v := x 0) hx sD11_closes_193 sAM0 (by omega) g40 ?_
          refine sd_bipush sD11_closes_194 rfl (by decide) ?_
          refine sd_idiv (z := (x 0 / 24)) sD11_closes_196 (by decide) (by exact Int.tdiv_eq_ediv_of_nonneg (by omega)) (by omega) ?_
          refine sd_imul (z := (6 * (x 0 / 24))) sD11_closes_197 (by omega) (by omega) ?_
          refine sd_iadd (z := (1314 + (6 * (x 0 / 24)))) sD11_closes_198 (by omega) (by omega) ?_
          refine sd_iload_n sD11_closes_199 rfl ?_
          refine sd_callV (as := [.inl (1314 + (6 * (x 0 / 24))), .inl (sd_yc x)]) (st := []) sD11_closes_200 sM11_242 rfl rfl sOM15 rfl (by decide) (Nat.le_of_ble_eq_true rfl) (cM_pageI (x 0 / 24) _ (by omega) (by omega) (sd_yc x) _ m hx hJ4) (fun r m hq ho200 hm => ?_)
          obtain ⟨rfl, hx⟩ := hq
          show sd_Wp sd_SM 8 sY11_closes 203 [some (.inr 15), some (.inl (sd_yc x)), none] [] m _
          replace hx : sd_ns (sd_y5 x) m := by unfold sd_y5; rw [if_pos (by omega)]; exact hx
          refine sd_iconst sD11_closes_203 (by decide) ?_
          refine sd_istore_n (ls' := [some (.inr 15), some (.inl (sd_yc x)), some (.inl 0)]) sD11_closes_204 (by decide) rfl ?_
          refine sd_forX (24) (fun zi205 : Nat => [some (.inr 15), some (.inl (sd_yc x)), some (.inl (zi205 : Int))]) (fun zi205 : Nat => sd_fil (sd_y5 x) 178 zi205 0) (fun (zi205 : Nat) (m : sd_M) => True) (by rfl) (fun zi205 hizi205 m hx hpzi205 ihzi205 => ?_) (fun m hx hpzi205 => ?_) (by rw [sd_fil_0]; exact hx) (by trivial)
          ·
            refine sd_iload_n sD11_closes_205 rfl ?_
            refine sd_bipush sD11_closes_206 rfl (by decide) ?_
            refine sd_icmp_ge (tgt := 228) sD11_closes_208 (by decide) (fun zc208 => (by exfalso; omega)) (fun zc208 => ?_)
            refine sd_aload_n sD11_closes_211 rfl ?_
            refine sd_getfr sD11_closes_212 sF11_7 sGM15_0 ?_
            refine sd_sipush sD11_closes_215 rfl (by decide) ?_
            refine sd_iload_n sD11_closes_218 rfl ?_
            refine sd_iadd (z := (178 + (zi205 : Int))) sD11_closes_219 (by omega) (by omega) ?_
            refine sd_iconst sD11_closes_220 (by decide) ?_
            refine sd_iastx (a := (178 + zi205)) sd_sokM hx sD11_closes_221 sAM0 (by omega) (fun m hx em221 => ?_)
            refine sd_iinc (y := ((zi205 : Int) + 1)) (ls' := [some (.inr 15), some (.inl (sd_yc x)), some (.inl ((zi205 : Int) + 1))]) sD11_closes_222 rfl (by omega) (by omega) (by decide) rfl ?_
            refine sd_goto (tgt := 205) sD11_closes_225 (by decide) ?_
            exact sd_eqw (ls' := [some (.inr 15), some (.inl (sd_yc x)), some (.inl ((zi205 + 1 : Nat) : Int))]) (ihzi205 m (by exact sd_nseq (fun j => by rw [← sd_fil_s]) hx) (by trivial)) (sd_cg rfl (sd_cg rfl (sd_cg (sd_ce (show (((zi205 : Int) + 1) : Int) = ((zi205 + 1 : Nat) : Int) from by omega)) rfl))) rfl
          ·
            show sd_Wp sd_SM 8 sY11_closes 205 [some (.inr 15), some (.inl (sd_yc x)), some (.inl (24 : Int))] [] m _
            refine sd_iload_n sD11_closes_205 rfl ?_
            refine sd_bipush sD11_closes_206 rfl (by decide) ?_
            refine sd_icmp_ge (tgt := 228) sD11_closes_208 (by decide) (fun zc208 => ?_) (fun zc208 => (by exfalso; omega))
            refine sd_aload_n sD11_closes_228 rfl ?_
            refine sd_getfr sD11_closes_229 sF11_7 sGM15_0 ?_
            refine sd_iconst sD11_closes_232 (by decide) ?_
            refine sd_dup2 sD11_closes_233 ?_
            refine sd_ialdx (a := 0) (v := x 0) hx sD11_closes_234 sAM0 (by omega) (by unfold sd_fil; rw [if_neg (by omega)]; exact g50) ?_
            refine sd_iconst sD11_closes_235 (by decide) ?_
            refine sd_iadd (z := (x 0 + 1)) sD11_closes_236 (by omega) (by omega) ?_
            refine sd_iastx (a := 0) sd_sokM hx sD11_closes_237 sAM0 (by omega) (fun m hx em237 => ?_)
            refine sd_vreturn sD11_closes_238 rfl (fun hm => ?_)
            exact ⟨rfl, hx⟩
