set_option maxRecDepth 100000 in
set_option maxHeartbeats 4000000 in
theorem cM_isBarred (w h : Int) (x m : sd_M) (hx : sd_ns x m) (hh : 0 ≤ h ∧ h < 24) (h1 : sd_I1 x) (h2 : sd_I2 x) (h4 : sd_I4 x) (h6 : sd_I6 x) (hR : sd_IR x) (hI : sd_IT x) (hL : sd_LT x) : sd_Ct sd_SM 5 sY11_isBarred [.inr 15, .inl w, .inl h] m (fun r m' => r = some (.inl (sd_b (sd_brs x (sd_clx x w h)))) ∧ sd_ns x m' ∧ ((sd_clx x w h = -1 ∧ m' 5512 = -1) ∨ (¬ sd_clx x w h = -1 ∧ m' 5512 = sd_clx x w h / 5 ∧ m' 5510 = sd_clx x w h % 5))) := by
  refine sd_ct rfl (Nat.le_of_ble_eq_true rfl) (fun hok hm => ?_)
  obtain ⟨⟨i0, j0⟩, ⟨i1, j1⟩, ⟨i2, j2⟩, ⟨i3, j3⟩, ⟨i4, j4⟩, ⟨i5, j5⟩, ⟨i6, j6⟩, ⟨i7, j7⟩, ⟨i8, j8⟩⟩ := id h1
  obtain ⟨f, hfc⟩ : ∃ f, f = sd_fct x h := ⟨_, rfl⟩
  have hfr : ∀ i, 0 ≤ f i ∧ f i ≤ 40 := fun i => by rw [hfc]; exact sd_fct_rng h1 h2 hh i
  show sd_Wp sd_SM 5 sY11_isBarred 0 [some (.inr 15), some (.inl w), some (.inl h), none] [] m _
  refine sd_aload_n sD11_isBarred_0 rfl ?_
  refine sd_getfr sD11_isBarred_1 sF11_34 sGM15_14 ?_
  refine sd_iconst sD11_isBarred_4 (by decide) ?_
  refine sd_aload_n sD11_isBarred_5 rfl ?_
  refine sd_getfr sD11_isBarred_6 sF11_7 sGM15_0 ?_
  refine sd_iconst sD11_isBarred_9 (by decide) ?_
  refine sd_ialdx (a := 0) (v := x 0) hx sD11_isBarred_10 sAM0 (by omega) rfl ?_
  refine sd_bipush sD11_isBarred_11 rfl (by decide) ?_
  refine sd_idiv (z := (x 0 / 24)) sD11_isBarred_13 (by decide) (by exact Int.tdiv_eq_ediv_of_nonneg (by omega)) (by omega) ?_
  refine sd_iastc (a := 5504) sd_sokM hx sD11_isBarred_14 sAM8 (by omega) (fun m hx em14 => ?_)
  refine sd_aload_n sD11_isBarred_15 rfl ?_
  refine sd_getfr sD11_isBarred_16 sF11_34 sGM15_14 ?_
  refine sd_iconst sD11_isBarred_19 (by decide) ?_
  refine sd_aload_n sD11_isBarred_20 rfl ?_
  refine sd_getfr sD11_isBarred_21 sF11_7 sGM15_0 ?_
  refine sd_iconst sD11_isBarred_24 (by decide) ?_
  refine sd_ialdx (a := 0) (v := x 0) hx sD11_isBarred_25 sAM0 (by omega) rfl ?_
  refine sd_bipush sD11_isBarred_26 rfl (by decide) ?_
  refine sd_irem (z := (x 0 % 24)) sD11_isBarred_28 (by decide) (by exact Int.tmod_eq_emod_of_nonneg (by omega)) (by omega) ?_
  refine sd_iastc (a := 5505) sd_sokM hx sD11_isBarred_29 sAM8 (by omega) (fun m hx em29 => ?_)
  refine sd_aload_n sD11_isBarred_30 rfl ?_
  refine sd_getfr sD11_isBarred_31 sF11_34 sGM15_14 ?_
  refine sd_iconst sD11_isBarred_34 (by decide) ?_
  refine sd_aload_n sD11_isBarred_35 rfl ?_
  refine sd_iload_n sD11_isBarred_36 rfl ?_
  refine sd_callVp (as := [.inl h]) (st := [.inl 2, .inr 8]) (v := .inl (sd_mIn x h)) sD11_isBarred_37 sM11_84 sOM15 rfl rfl rfl (by decide) (Nat.le_of_ble_eq_true rfl) (cM_menIn h _ m hx h1 h4) (fun ho37 => ?_)
  refine sd_iastc (a := 5506) sd_sokM hx sD11_isBarred_40 sAM8 (by omega) (fun m hx em40 => ?_)
  refine sd_aload_n sD11_isBarred_41 rfl ?_
  refine sd_getfr sD11_isBarred_42 sF11_34 sGM15_14 ?_
  refine sd_iconst sD11_isBarred_45 (by decide) ?_
  refine sd_aload_n sD11_isBarred_46 rfl ?_
  refine sd_getfr sD11_isBarred_47 sF11_7 sGM15_0 ?_
  refine sd_bipush sD11_isBarred_50 rfl (by decide) ?_
  refine sd_iload_n sD11_isBarred_52 rfl ?_
  refine sd_iadd (z := (82 + h)) sD11_isBarred_53 (by omega) (by omega) ?_
  refine sd_ialdx (a := (82 + h.toNat)) (v := x (82 + h.toNat)) hx sD11_isBarred_54 sAM0 (by omega) rfl ?_
  refine sd_iastc (a := 5507) sd_sokM hx sD11_isBarred_55 sAM8 (by omega) (fun m hx em55 => ?_)
  refine sd_aload_n sD11_isBarred_56 rfl ?_
  refine sd_iconst sD11_isBarred_57 (by decide) ?_
  refine sd_putfc sd_sokM sd_oneM hx sD11_isBarred_58 sF11_199 sGM15_17 (by decide) (Or.inl rfl) (fun m hx em58 => ?_)
  refine sd_aload_n sD11_isBarred_61 rfl ?_
  refine sd_getfr sD11_isBarred_62 sF11_7 sGM15_0 ?_
  refine sd_iconst sD11_isBarred_65 (by decide) ?_
  refine sd_ialdx (a := 5) (v := x 5) hx sD11_isBarred_66 sAM0 (by omega) rfl ?_
  refine sd_iconst sD11_isBarred_67 (by decide) ?_
  refine sd_isub (z := (x 5 - 1)) sD11_isBarred_68 (by omega) (by omega) ?_
  refine sd_istore_n (ls' := [some (.inr 15), some (.inl w), some (.inl h), some (.inl (x 5 - 1))]) sD11_isBarred_69 (by decide) rfl ?_
  refine sd_forX ((x 5).toNat) (fun zi70 : Nat => [some (.inr 15), some (.inl w), some (.inl h), some (.inl (x 5 - 1 - (zi70 : Int)))]) (fun zi70 : Nat => x) (fun (zi70 : Nat) (m : sd_M) => (∀ i, i < 4 → m (5504 + i) = f i) ∧ m 5512 = -1 ∧ sd_clf x f w (x 5).toNat = sd_clf x f w ((x 5).toNat - zi70)) (by rw [show x 5 - 1 - ((0 : Nat) : Int) = x 5 - 1 from by omega]) (fun zi70 hizi70 m hx hpzi70 ihzi70 => ?_) (fun m hx hpzi70 => ?_) (by exact hx) (by refine ⟨fun i hi => ?_, by rw [em58, sd_up_eq], by rw [Nat.sub_zero]⟩; rw [hfc]; have emn := sd_inS_mIn h1 h4 hh; rcases (show i = 0 ∨ i = 1 ∨ i = 2 ∨ i = 3 by omega) with rfl | rfl | rfl | rfl; (rw [em58, em55, em40, em29, em14]; simp [sd_up, sd_fct]); (rw [em58, em55, em40, em29]; simp [sd_up, sd_fct]); (rw [em58, em55, em40]; simp [sd_up, sd_fct, emn]); (rw [em58, em55]; simp [sd_up, sd_fct]))
  ·
    refine sd_iload_n sD11_isBarred_70 rfl ?_
    refine sd_if_lt (tgt := 134) sD11_isBarred_71 (by decide) (fun zc71 => (by exfalso; omega)) (fun zc71 => ?_)
    obtain ⟨hpf, hpw, hpc⟩ := hpzi70
    obtain ⟨t, htq⟩ : ∃ t : Nat, t = (x 5).toNat - 1 - zi70 := ⟨_, rfl⟩
    refine sd_eqw (ls' := [some (.inr 15), some (.inl w), some (.inl h), some (.inl (t : Int))]) ?_ (sd_cg rfl (sd_cg rfl (sd_cg rfl (sd_cg (sd_ce (by omega)) rfl)))) rfl
    have hRt := (hR t (by omega)).1
    have hRc := (hR t (by omega)).2
    obtain ⟨cs, hT1, hT2, hT3, hT4⟩ := hI t (by omega)
    have ecl : sd_clf x f w (x 5).toNat = sd_clf x f w (t + 1) := by rw [hpc]; congr 1; omega
    refine sd_aload_n sD11_isBarred_74 rfl ?_
    refine sd_iload_n sD11_isBarred_75 rfl ?_
    refine sd_aload_n sD11_isBarred_76 rfl ?_
    refine sd_getfr sD11_isBarred_77 sF11_7 sGM15_0 ?_
    refine sd_iconst sD11_isBarred_80 (by decide) ?_
    refine sd_ialdx (a := 0) (v := x 0) hx sD11_isBarred_81 sAM0 (by omega) rfl ?_
    refine sd_callVp (as := [.inl (t : Int), .inl (x 0)]) (st := []) (v := .inl (sd_b (sd_inF x t (x 0)))) sD11_isBarred_82 sM11_193 sOM15 rfl rfl rfl (by decide) (Nat.le_of_ble_eq_true rfl) (cM_isInForce (t : Int) (x 0) _ m hx h6 (by omega)) (fun ho82 => ?_)
    refine sd_bif_eq (tgt := 128) sD11_isBarred_85 (by decide) (fun zc85 => ?_) (fun zc85 => ?_)
    ·
      refine sd_iinc (y := (t : Int) - 1) (ls' := [some (.inr 15), some (.inl w), some (.inl h), some (.inl ((t : Int) - 1))]) sD11_isBarred_128 rfl (by omega) (by omega) (by decide) rfl ?_
      refine sd_goto (tgt := 70) sD11_isBarred_131 (by decide) ?_
      have ecm : sd_clf x f w (t + 1) = sd_clf x f w t := by simp only [sd_clf]; rw [if_neg (fun q => by have q1 := q.1; contradiction)]
      exact sd_eqw (ls' := [some (.inr 15), some (.inl w), some (.inl h), some (.inl (x 5 - 1 - ((zi70 + 1 : Nat) : Int)))]) (ihzi70 m (by exact hx) (by exact ⟨hpf, hpw, by rw [ecl, ecm]; congr 1; omega⟩)) (sd_cg rfl (sd_cg rfl (sd_cg rfl (sd_cg (sd_ce (show ((t : Int) - 1 : Int) = (x 5 - 1 - ((zi70 + 1 : Nat) : Int)) from by omega)) rfl)))) rfl
    ·
      refine sd_aload_n sD11_isBarred_88 rfl ?_
      refine sd_sipush sD11_isBarred_89 rfl (by decide) ?_
      refine sd_bipush sD11_isBarred_92 rfl (by decide) ?_
      refine sd_iload_n sD11_isBarred_94 rfl ?_
      refine sd_imul (z := (100 * (t : Int))) sD11_isBarred_95 (by omega) (by omega) ?_
      refine sd_iadd (z := ((468 + 100 * t : Nat) : Int)) sD11_isBarred_96 (by omega) (by omega) ?_
      refine sd_aload_n sD11_isBarred_97 rfl ?_
      refine sd_getfr sD11_isBarred_98 sF11_7 sGM15_0 ?_
      refine sd_sipush sD11_isBarred_101 rfl (by decide) ?_
      refine sd_iload_n sD11_isBarred_104 rfl ?_
      refine sd_iadd (z := (460 + (t : Int))) sD11_isBarred_105 (by omega) (by omega) ?_
      refine sd_ialdx (a := (460 + t)) (v := x (460 + t)) hx sD11_isBarred_106 sAM0 (by omega) rfl ?_
      rw [show x (460 + t) = ((x (460 + t)).toNat : Int) from by omega]
      refine sd_iload_n sD11_isBarred_107 rfl ?_
      refine sd_callV (as := [.inl ((468 + 100 * t : Nat) : Int), .inl (((x (460 + t)).toNat : Nat) : Int), .inl w]) (st := []) sD11_isBarred_108 sM11_189 rfl rfl sOM15 rfl (by decide) (Nat.le_of_ble_eq_true rfl) (cM_reads ((468 + 100 * t : Nat) : Int) (sd_stB x t) (x (460 + t)).toNat x (sd_stB_RB (by omega) hT2) hL f w m hx hpf) (fun r m hq ho108 hm => ?_)
      obtain ⟨rfl, hk6, hrd⟩ := hq
      replace hx := hk6.ns hx
      replace hpf : ∀ i, i < 4 → m (5504 + i) = f i := fun i hi => (hk6 _ (by omega)).trans (hpf i hi)
      replace hpw : m 5512 = -1 := (hk6 5512 (by omega)).trans hpw
      rcases (sd_rd_top hT1 (sd_fcx_fcl f w hT3 hT4) hrd) with ⟨hz1, hz2⟩ | ⟨c, hz1, hz2, hz3⟩
      ·
        clear hrd
        show sd_Wp sd_SM 5 sY11_isBarred 111 [some (.inr 15), some (.inl w), some (.inl h), some (.inl (t : Int))] [] m _
        refine sd_aload_n sD11_isBarred_111 rfl ?_
        refine sd_getfi sD11_isBarred_112 sF11_176 sGM15_15 ?_
        rw [show m 5510 = (-1) from hz2]
        refine sd_if_lt (tgt := 128) sD11_isBarred_115 (by decide) (fun zc115 => ?_) (fun zc115 => (by exfalso; omega))
        refine sd_iinc (y := (t : Int) - 1) (ls' := [some (.inr 15), some (.inl w), some (.inl h), some (.inl ((t : Int) - 1))]) sD11_isBarred_128 rfl (by omega) (by omega) (by decide) rfl ?_
        refine sd_goto (tgt := 70) sD11_isBarred_131 (by decide) ?_
        have ecm : sd_clf x f w (t + 1) = sd_clf x f w t := by simp only [sd_clf]; rw [if_neg (fun q => q.2 hz1)]
        exact sd_eqw (ls' := [some (.inr 15), some (.inl w), some (.inl h), some (.inl (x 5 - 1 - ((zi70 + 1 : Nat) : Int)))]) (ihzi70 m (by exact hx) (by exact ⟨hpf, hpw, by rw [ecl, ecm]; congr 1; omega⟩)) (sd_cg rfl (sd_cg rfl (sd_cg rfl (sd_cg (sd_ce (show ((t : Int) - 1 : Int) = (x 5 - 1 - ((zi70 + 1 : Nat) : Int)) from by omega)) rfl)))) rfl
      ·
        clear hrd
        show sd_Wp sd_SM 5 sY11_isBarred 111 [some (.inr 15), some (.inl w), some (.inl h), some (.inl (t : Int))] [] m _
        refine sd_aload_n sD11_isBarred_111 rfl ?_
        refine sd_getfi sD11_isBarred_112 sF11_176 sGM15_15 ?_
        rw [show m 5510 = (c : Int) from hz2]
        refine sd_if_lt (tgt := 128) sD11_isBarred_115 (by decide) (fun zc115 => ?_) (fun zc115 => ?_)
        ·
          refine sd_iinc (y := (t : Int) - 1) (ls' := [some (.inr 15), some (.inl w), some (.inl h), some (.inl ((t : Int) - 1))]) sD11_isBarred_128 rfl (by omega) (by omega) (by decide) rfl ?_
          refine sd_goto (tgt := 70) sD11_isBarred_131 (by decide) ?_
          have ecm : sd_clf x f w (t + 1) = sd_clf x f w t := by simp only [sd_clf]; rw [if_neg (fun q => by have q1 := q.1; contradiction)]
          exact sd_eqw (ls' := [some (.inr 15), some (.inl w), some (.inl h), some (.inl (x 5 - 1 - ((zi70 + 1 : Nat) : Int)))]) (ihzi70 m (by exact hx) (by exact ⟨hpf, hpw, by rw [ecl, ecm]; congr 1; omega⟩)) (sd_cg rfl (sd_cg rfl (sd_cg rfl (sd_cg (sd_ce (show ((t : Int) - 1 : Int) = (x 5 - 1 - ((zi70 + 1 : Nat) : Int)) from by omega)) rfl)))) rfl
        ·
          refine sd_aload_n sD11_isBarred_118 rfl ?_
          refine sd_iload_n sD11_isBarred_119 rfl ?_
          refine sd_putfc sd_sokM sd_oneM hx sD11_isBarred_120 sF11_199 sGM15_17 (by decide) (Or.inl rfl) (fun m hx em120 => ?_)
          have hw12 : m 5512 = (t : Int) := by rw [em120, sd_up_eq]
          have hc10 : m 5510 = (c : Int) := by rw [em120, sd_up_ne (by decide)]; exact hz2
          have hc11 : m 5511 = x (6020 + (5 * t + c)) := by rw [em120, sd_up_ne (by decide)]; exact hz3
          refine sd_aload_n sD11_isBarred_123 rfl ?_
          refine sd_getfi sD11_isBarred_124 sF11_182 sGM15_16 ?_
          rw [show m 5511 = x (6020 + (5 * t + c)) from hc11]
          have hrg := sd_fcx_rng x f w t
          have hcb := (hRc c (by omega)).2.1
          have ecx : sd_clx x w h = ((5 * t + c : Nat) : Int) := by unfold sd_clx; rw [← hfc, ecl]; simp only [sd_clf]; rw [if_pos ⟨by assumption, by omega⟩, hz1]; omega
          refine sd_zreturn sD11_isBarred_127 rfl (by omega) (fun hm => ⟨?_, hx, Or.inr ⟨by omega, by rw [hw12]; omega, by rw [hc10]; omega⟩⟩)
          rcases hcb with hcb | hcb
          · rw [hcb, sd_b0 (fun q => by have q1 := q.2; rw [ecx, Int.toNat_natCast] at q1; omega)]
          · rw [hcb, sd_b1 (show sd_brs x (sd_clx x w h) from ⟨by omega, by rw [ecx, Int.toNat_natCast]; exact hcb⟩)]
  ·
    show sd_Wp sd_SM 5 sY11_isBarred 70 [some (.inr 15), some (.inl w), some (.inl h), some (.inl (x 5 - 1 - ((((x 5).toNat) : Nat) : Int)))] [] m _
    refine sd_iload_n sD11_isBarred_70 rfl ?_
    refine sd_if_lt (tgt := 134) sD11_isBarred_71 (by decide) (fun zc71 => ?_) (fun zc71 => (by exfalso; omega))
    refine sd_iconst sD11_isBarred_134 (by decide) ?_
    have ecx : sd_clx x w h = -1 := by unfold sd_clx; rw [← hfc, hpzi70.2.2, Nat.sub_self]; rfl
    exact sd_zreturn sD11_isBarred_135 rfl (by decide) (fun hm => ⟨by rw [sd_b0 (fun q => q.1 ecx)], hx, Or.inl ⟨ecx, hpzi70.2.1⟩⟩)
