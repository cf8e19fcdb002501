set_option maxRecDepth 100000 in
set_option maxHeartbeats 4000000 in
theorem cM_page (d : Nat) (hd : d < 40) (c : Int) (x m : sd_M) (hx : sd_ns x m) (hJ0 : sd_J x) : sd_Ct sd_SM 2 sY11_writes [.inr 15, .inl ((1314 + (d * 6) : Nat) : Int), .inl c] m (fun r m' => r = none ∧ sd_ns (sd_pag x d c) m') := by
  refine sd_ct rfl (Nat.le_of_ble_eq_true rfl) (fun hok hm => ?_)
  have h1 := hJ0.1
  have h2 := hJ0.2.1
  have h3 := hJ0.2.2.1
  have h4 := hJ0.2.2.2.1
  have h5 := hJ0.2.2.2.2.1
  have h6 := hJ0.2.2.2.2.2.1
  have h7 := hJ0.2.2.2.2.2.2.1
  have hR := hJ0.2.2.2.2.2.2.2.1
  have hI := hJ0.2.2.2.2.2.2.2.2.1
  have hL := hJ0.2.2.2.2.2.2.2.2.2
  obtain ⟨⟨i0, j0⟩, ⟨i1, j1⟩, ⟨i2, j2⟩, ⟨i3, j3⟩, ⟨i4, j4⟩, ⟨i5, j5⟩, ⟨i6, j6⟩, ⟨i7, j7⟩, ⟨i8, j8⟩⟩ := id h1
  have H1 := h1
  show sd_Wp sd_SM 2 sY11_writes 0 [some (.inr 15), some (.inl ((1314 + (d * 6) : Nat) : Int)), some (.inl c), none, none, none] [] m _
  refine sd_iconst sD11_writes_0 (by decide) ?_
  refine sd_istore_n (ls' := [some (.inr 15), some (.inl ((1314 + (d * 6) : Nat) : Int)), some (.inl c), some (.inl 0), none, none]) sD11_writes_1 (by decide) rfl ?_
  refine sd_iconst sD11_writes_2 (by decide) ?_
  refine sd_istore (ls' := [some (.inr 15), some (.inl ((1314 + (d * 6) : Nat) : Int)), some (.inl c), some (.inl 0), some (.inl 0), none]) sD11_writes_3 (by decide) rfl ?_
  refine sd_iconst sD11_writes_5 (by decide) ?_
  refine sd_istore (ls' := [some (.inr 15), some (.inl ((1314 + (d * 6) : Nat) : Int)), some (.inl c), some (.inl 0), some (.inl 0), some (.inl 0)]) sD11_writes_6 (by decide) rfl ?_
  refine sd_forE ((x 3).toNat) (fun zi8 : Nat => [some (.inr 15), some (.inl ((1314 + (d * 6) : Nat) : Int)), some (.inl c), some (.inl (sd_cnt (fun i => 0 ≤ x (322 + i)) zi8)), some (.inl (sd_sum (sd_fwl x) zi8)), some (.inl (zi8 : Int))]) (by rfl) (fun zi8 hizi8 ihzi8 => ?_) ?_
  ·
    have e4 := h4 zi8 (by omega)
    have e5 := sd_sum_le (f := sd_fwl x) (n := zi8) (B := 99) (fun i hi => sd_fwl_le h4 i (by omega))
    have e6 := sd_cnt_le (fun i => 0 ≤ x (322 + i)) zi8
    refine sd_iload sD11_writes_8 rfl ?_
    refine sd_aload_n sD11_writes_10 rfl ?_
    refine sd_getfr sD11_writes_11 sF11_7 sGM15_0 ?_
    refine sd_iconst sD11_writes_14 (by decide) ?_
    refine sd_ialdx (a := 3) (v := x 3) hx sD11_writes_15 sAM0 (by omega) rfl ?_
    refine sd_icmp_ge (tgt := 81) sD11_writes_16 (by decide) (fun zc16 => (by exfalso; omega)) (fun zc16 => ?_)
    refine sd_iload_n sD11_writes_19 rfl ?_
    refine sd_aload_n sD11_writes_20 rfl ?_
    refine sd_getfr sD11_writes_21 sF11_7 sGM15_0 ?_
    refine sd_sipush sD11_writes_24 rfl (by decide) ?_
    refine sd_iload sD11_writes_27 rfl ?_
    refine sd_iadd (z := (322 + (zi8 : Int))) sD11_writes_29 (by omega) (by omega) ?_
    refine sd_ialdx (a := (322 + zi8)) (v := x (322 + zi8)) hx sD11_writes_30 sAM0 (by omega) rfl ?_
    refine sd_cut (J := 39) (ls := [some (.inr 15), some (.inl ((1314 + (d * 6) : Nat) : Int)), some (.inl c), some (.inl (sd_cnt (fun i => 0 ≤ x (322 + i)) zi8)), some (.inl (sd_sum (sd_fwl x) zi8)), some (.inl (zi8 : Int))]) (st := [.inl (sd_cnt (fun i => 0 ≤ x (322 + i)) zi8)]) (fun zv => zv = (sd_b (0 ≤ x (322 + zi8)))) (fun zv hzv => ?_) (fun K31 => ?_)
    ·
      subst hzv
      have zb39 := sd_b01 (0 ≤ x (322 + zi8))
      refine sd_iadd (z := (sd_cnt (fun i => 0 ≤ x (322 + i)) zi8 + sd_b (0 ≤ x (322 + zi8)))) sD11_writes_39 (by omega) (by omega) ?_
      refine sd_istore_n (ls' := [some (.inr 15), some (.inl ((1314 + (d * 6) : Nat) : Int)), some (.inl c), some (.inl (sd_cnt (fun i => 0 ≤ x (322 + i)) zi8 + sd_b (0 ≤ x (322 + zi8)))), some (.inl (sd_sum (sd_fwl x) zi8)), some (.inl (zi8 : Int))]) sD11_writes_40 (by decide) rfl ?_
      refine sd_iload sD11_writes_41 rfl ?_
      refine sd_aload_n sD11_writes_43 rfl ?_
      refine sd_getfr sD11_writes_44 sF11_7 sGM15_0 ?_
      refine sd_sipush sD11_writes_47 rfl (by decide) ?_
      refine sd_iload sD11_writes_50 rfl ?_
      refine sd_iadd (z := (322 + (zi8 : Int))) sD11_writes_52 (by omega) (by omega) ?_
      refine sd_ialdx (a := (322 + zi8)) (v := x (322 + zi8)) hx sD11_writes_53 sAM0 (by omega) rfl ?_
      refine sd_if_lt (tgt := 71) sD11_writes_54 (by decide) (fun zc54 => ?_) (fun zc54 => ?_)
      ·
        refine sd_iconst sD11_writes_71 (by decide) ?_
        refine sd_iadd (z := sd_sum (sd_fwl x) zi8) sD11_writes_72 (by omega) (by omega) ?_
        refine sd_istore (ls' := [some (.inr 15), some (.inl ((1314 + (d * 6) : Nat) : Int)), some (.inl c), some (.inl (sd_cnt (fun i => 0 ≤ x (322 + i)) zi8 + sd_b (0 ≤ x (322 + zi8)))), some (.inl (sd_sum (sd_fwl x) zi8)), some (.inl (zi8 : Int))]) sD11_writes_73 (by decide) rfl ?_
        refine sd_iinc (y := ((zi8 : Int) + 1)) (ls' := [some (.inr 15), some (.inl ((1314 + (d * 6) : Nat) : Int)), some (.inl c), some (.inl (sd_cnt (fun i => 0 ≤ x (322 + i)) zi8 + sd_b (0 ≤ x (322 + zi8)))), some (.inl (sd_sum (sd_fwl x) zi8)), some (.inl ((zi8 : Int) + 1))]) sD11_writes_75 rfl (by omega) (by omega) (by decide) rfl ?_
        refine sd_goto (tgt := 8) sD11_writes_78 (by decide) ?_
        exact sd_eqw (ls' := [some (.inr 15), some (.inl ((1314 + (d * 6) : Nat) : Int)), some (.inl c), some (.inl (sd_cnt (fun i => 0 ≤ x (322 + i)) (zi8 + 1))), some (.inl (sd_sum (sd_fwl x) (zi8 + 1))), some (.inl ((zi8 + 1 : Nat) : Int))]) ihzi8 (sd_cg rfl (sd_cg rfl (sd_cg rfl (sd_cg (sd_ce (show ((sd_cnt (fun i => 0 ≤ x (322 + i)) zi8 + sd_b (0 ≤ x (322 + zi8))) : Int) = sd_cnt (fun i => 0 ≤ x (322 + i)) (zi8 + 1) from by simp only [sd_cnt, sd_b])) (sd_cg (sd_ce (show (sd_sum (sd_fwl x) zi8 : Int) = sd_sum (sd_fwl x) (zi8 + 1) from by simp only [sd_sum]; unfold sd_fwl; first | (rw [if_pos (by omega)]; omega) | (rw [if_neg (by omega)]))) (sd_cg (sd_ce (show (((zi8 : Int) + 1) : Int) = ((zi8 + 1 : Nat) : Int) from by omega)) rfl)))))) rfl
      ·
        refine sd_aload_n sD11_writes_57 rfl ?_
        refine sd_getfr sD11_writes_58 sF11_7 sGM15_0 ?_
        refine sd_sipush sD11_writes_61 rfl (by decide) ?_
        refine sd_iload sD11_writes_64 rfl ?_
        refine sd_iadd (z := (338 + (zi8 : Int))) sD11_writes_66 (by omega) (by omega) ?_
        refine sd_ialdx (a := (338 + zi8)) (v := x (338 + zi8)) hx sD11_writes_67 sAM0 (by omega) rfl ?_
        refine sd_goto (tgt := 72) sD11_writes_68 (by decide) ?_
        refine sd_iadd (z := (sd_sum (sd_fwl x) zi8 + x (338 + zi8))) sD11_writes_72 (by omega) (by omega) ?_
        refine sd_istore (ls' := [some (.inr 15), some (.inl ((1314 + (d * 6) : Nat) : Int)), some (.inl c), some (.inl (sd_cnt (fun i => 0 ≤ x (322 + i)) zi8 + sd_b (0 ≤ x (322 + zi8)))), some (.inl (sd_sum (sd_fwl x) zi8 + x (338 + zi8))), some (.inl (zi8 : Int))]) sD11_writes_73 (by decide) rfl ?_
        refine sd_iinc (y := ((zi8 : Int) + 1)) (ls' := [some (.inr 15), some (.inl ((1314 + (d * 6) : Nat) : Int)), some (.inl c), some (.inl (sd_cnt (fun i => 0 ≤ x (322 + i)) zi8 + sd_b (0 ≤ x (322 + zi8)))), some (.inl (sd_sum (sd_fwl x) zi8 + x (338 + zi8))), some (.inl ((zi8 : Int) + 1))]) sD11_writes_75 rfl (by omega) (by omega) (by decide) rfl ?_
        refine sd_goto (tgt := 8) sD11_writes_78 (by decide) ?_
        exact sd_eqw (ls' := [some (.inr 15), some (.inl ((1314 + (d * 6) : Nat) : Int)), some (.inl c), some (.inl (sd_cnt (fun i => 0 ≤ x (322 + i)) (zi8 + 1))), some (.inl (sd_sum (sd_fwl x) (zi8 + 1))), some (.inl ((zi8 + 1 : Nat) : Int))]) ihzi8 (sd_cg rfl (sd_cg rfl (sd_cg rfl (sd_cg (sd_ce (show ((sd_cnt (fun i => 0 ≤ x (322 + i)) zi8 + sd_b (0 ≤ x (322 + zi8))) : Int) = sd_cnt (fun i => 0 ≤ x (322 + i)) (zi8 + 1) from by simp only [sd_cnt, sd_b])) (sd_cg (sd_ce (show ((sd_sum (sd_fwl x) zi8 + x (338 + zi8)) : Int) = sd_sum (sd_fwl x) (zi8 + 1) from by simp only [sd_sum]; unfold sd_fwl; first | (rw [if_pos (by omega)]; omega) | (rw [if_neg (by omega)]))) (sd_cg (sd_ce (show (((zi8 : Int) + 1) : Int) = ((zi8 + 1 : Nat) : Int) from by omega)) rfl)))))) rfl
    ·
      refine sd_if_lt (tgt := 38) sD11_writes_31 (by decide) (fun zc31 => ?_) (fun zc31 => ?_)
      ·
        refine sd_iconst sD11_writes_38 (by decide) ?_
        exact K31 _ (by exact (sd_b0 (by omega)).symm)
      ·
        refine sd_iconst sD11_writes_34 (by decide) ?_
        refine sd_goto (tgt := 39) sD11_writes_35 (by decide) ?_
        exact K31 _ (by exact (sd_b1 (by omega)).symm)
  ·
    show sd_Wp sd_SM 2 sY11_writes 8 [some (.inr 15), some (.inl ((1314 + (d * 6) : Nat) : Int)), some (.inl c), some (.inl (sd_cnt (fun i => 0 ≤ x (322 + i)) ((x 3).toNat))), some (.inl (sd_sum (sd_fwl x) ((x 3).toNat))), some (.inl ((((x 3).toNat) : Nat) : Int))] [] m _
    rw [show sd_cnt (fun i => 0 ≤ x (322 + i)) (x 3).toNat = sd_inS x (-1) from (sd_inS_all h1 h4 _ (by omega)).symm, show sd_sum (sd_fwl x) (x 3).toNat = sd_wls x from rfl]
    refine sd_iload sD11_writes_8 rfl ?_
    refine sd_aload_n sD11_writes_10 rfl ?_
    refine sd_getfr sD11_writes_11 sF11_7 sGM15_0 ?_
    refine sd_iconst sD11_writes_14 (by decide) ?_
    refine sd_ialdx (a := 3) (v := x 3) hx sD11_writes_15 sAM0 (by omega) rfl ?_
    refine sd_icmp_ge (tgt := 81) sD11_writes_16 (by decide) (fun zc16 => ?_) (fun zc16 => (by exfalso; omega))
    refine sd_aload_n sD11_writes_81 rfl ?_
    refine sd_getfr sD11_writes_82 sF11_7 sGM15_0 ?_
    refine sd_iload_n sD11_writes_85 rfl ?_
    refine sd_iload_n sD11_writes_86 rfl ?_
    refine sd_iastx (a := (1314 + (d * 6))) sd_sokM hx sD11_writes_87 sAM0 (by omega) (fun m hx em87 => ?_)
    refine sd_aload_n sD11_writes_88 rfl ?_
    refine sd_getfr sD11_writes_89 sF11_7 sGM15_0 ?_
    refine sd_iload_n sD11_writes_92 rfl ?_
    refine sd_iconst sD11_writes_93 (by decide) ?_
    refine sd_iadd (z := (((1314 + (d * 6) : Nat) : Int) + 1)) sD11_writes_94 (by omega) (by omega) ?_
    refine sd_iload sD11_writes_95 rfl ?_
    refine sd_iastx (a := (1314 + ((d * 6) + 1))) sd_sokM hx sD11_writes_97 sAM0 (by omega) (fun m hx em97 => ?_)
    refine sd_aload_n sD11_writes_98 rfl ?_
    refine sd_getfr sD11_writes_99 sF11_7 sGM15_0 ?_
    refine sd_iload_n sD11_writes_102 rfl ?_
    refine sd_iconst sD11_writes_103 (by decide) ?_
    refine sd_iadd (z := (((1314 + (d * 6) : Nat) : Int) + 2)) sD11_writes_104 (by omega) (by omega) ?_
    have hJ1 := ((hJ0.page (k := (d * 6)) (by omega) (v := sd_inS x (-1)) trivial).page (k := ((d * 6) + 1)) (by omega) (v := sd_wls x) trivial)
    replace h1 := hJ1.1
    replace h2 := hJ1.2.1
    replace h3 := hJ1.2.2.1
    replace h4 := hJ1.2.2.2.1
    replace h5 := hJ1.2.2.2.2.1
    replace h6 := hJ1.2.2.2.2.2.1
    replace h7 := hJ1.2.2.2.2.2.2.1
    replace hR := hJ1.2.2.2.2.2.2.2.1
    replace hI := hJ1.2.2.2.2.2.2.2.2.1
    replace hL := hJ1.2.2.2.2.2.2.2.2.2
    refine sd_aload_n sD11_writes_105 rfl ?_
    refine sd_iconst sD11_writes_106 (by decide) ?_
    refine sd_callVp (as := [.inl (-1)]) (st := [.inl (((1314 + (d * 6) : Nat) : Int) + 2), .inr 0]) (v := .inl (sd_mls (sd_up (sd_up x (1314 + (d * 6)) (sd_inS x (-1))) (1314 + ((d * 6) + 1)) (sd_wls x)) (-1))) sD11_writes_107 sM11_119 sOM15 rfl rfl rfl (by decide) (Nat.le_of_ble_eq_true rfl) (cM_mealsIn (-1) _ m hx h1 h2 ) (fun ho107 => ?_)
    rw [show sd_mls (sd_up (sd_up x (1314 + (d * 6)) (sd_inS x (-1))) (1314 + ((d * 6) + 1)) (sd_wls x)) (-1) = sd_mls x (-1) from by exact sd_bl.mls (x := x) ((sd_bl.up sd_bl.rf).up) H1 (-1)]
    refine sd_iastx (a := (1314 + ((d * 6) + 2))) sd_sokM hx sD11_writes_110 sAM0 (by omega) (fun m hx em110 => ?_)
    refine sd_aload_n sD11_writes_111 rfl ?_
    refine sd_getfr sD11_writes_112 sF11_7 sGM15_0 ?_
    refine sd_iload_n sD11_writes_115 rfl ?_
    refine sd_iconst sD11_writes_116 (by decide) ?_
    refine sd_iadd (z := (((1314 + (d * 6) : Nat) : Int) + 3)) sD11_writes_117 (by omega) (by omega) ?_
    refine sd_aload_n sD11_writes_118 rfl ?_
    refine sd_getfr sD11_writes_119 sF11_7 sGM15_0 ?_
    refine sd_bipush sD11_writes_122 rfl (by decide) ?_
    refine sd_ialdx (a := 8) (v := x 8) hx sD11_writes_124 sAM0 (by omega) (by simp only [sd_up]; repeat rw [if_neg (by omega)]) ?_
    refine sd_iastx (a := (1314 + ((d * 6) + 3))) sd_sokM hx sD11_writes_125 sAM0 (by omega) (fun m hx em125 => ?_)
    refine sd_aload_n sD11_writes_126 rfl ?_
    refine sd_getfr sD11_writes_127 sF11_7 sGM15_0 ?_
    refine sd_iload_n sD11_writes_130 rfl ?_
    refine sd_iconst sD11_writes_131 (by decide) ?_
    refine sd_iadd (z := (((1314 + (d * 6) : Nat) : Int) + 4)) sD11_writes_132 (by omega) (by omega) ?_
    refine sd_iload_n sD11_writes_133 rfl ?_
    refine sd_iastx (a := (1314 + ((d * 6) + 4))) sd_sokM hx sD11_writes_134 sAM0 (by omega) (fun m hx em134 => ?_)
    refine sd_aload_n sD11_writes_135 rfl ?_
    refine sd_getfr sD11_writes_136 sF11_7 sGM15_0 ?_
    refine sd_iload_n sD11_writes_139 rfl ?_
    refine sd_iconst sD11_writes_140 (by decide) ?_
    refine sd_iadd (z := (((1314 + (d * 6) : Nat) : Int) + 5)) sD11_writes_141 (by omega) (by omega) ?_
    have hJ1 := (((((hJ0.page (k := (d * 6)) (by omega) (v := sd_inS x (-1)) trivial).page (k := ((d * 6) + 1)) (by omega) (v := sd_wls x) trivial).page (k := ((d * 6) + 2)) (by omega) (v := sd_mls x (-1)) trivial).page (k := ((d * 6) + 3)) (by omega) (v := x 8) trivial).page (k := ((d * 6) + 4)) (by omega) (v := c) trivial)
    replace h1 := hJ1.1
    replace h2 := hJ1.2.1
    replace h3 := hJ1.2.2.1
    replace h4 := hJ1.2.2.2.1
    replace h5 := hJ1.2.2.2.2.1
    replace h6 := hJ1.2.2.2.2.2.1
    replace h7 := hJ1.2.2.2.2.2.2.1
    replace hR := hJ1.2.2.2.2.2.2.2.1
    replace hI := hJ1.2.2.2.2.2.2.2.2.1
    replace hL := hJ1.2.2.2.2.2.2.2.2.2
    refine sd_aload_n sD11_writes_142 rfl ?_
    refine sd_callVp (as := []) (st := [.inl (((1314 + (d * 6) : Nat) : Int) + 5), .inr 0]) (v := .inl (sd_hgt (sd_up (sd_up (sd_up (sd_up (sd_up x (1314 + (d * 6)) (sd_inS x (-1))) (1314 + ((d * 6) + 1)) (sd_wls x)) (1314 + ((d * 6) + 2)) (sd_mls x (-1))) (1314 + ((d * 6) + 3)) (x 8)) (1314 + ((d * 6) + 4)) c))) sD11_writes_143 sM11_246 sOM15 rfl rfl rfl (by decide) (Nat.le_of_ble_eq_true rfl) (cM_heldGates  _ m hx h1 h2 h3 ) (fun ho143 => ?_)
    rw [show sd_hgt (sd_up (sd_up (sd_up (sd_up (sd_up x (1314 + (d * 6)) (sd_inS x (-1))) (1314 + ((d * 6) + 1)) (sd_wls x)) (1314 + ((d * 6) + 2)) (sd_mls x (-1))) (1314 + ((d * 6) + 3)) (x 8)) (1314 + ((d * 6) + 4)) c) = sd_hgt x from by exact sd_bl.hgt (x := x) (((((sd_bl.up sd_bl.rf).up).up).up).up) H1]
    refine sd_iastx (a := (1314 + ((d * 6) + 5))) sd_sokM hx sD11_writes_146 sAM0 (by omega) (fun m hx em146 => ?_)
    refine sd_vreturn sD11_writes_147 rfl (fun hm => ?_)
    exact ⟨rfl, hx⟩
