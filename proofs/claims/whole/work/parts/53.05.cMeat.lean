set_option maxRecDepth 100000 in
set_option maxHeartbeats 4000000 in
theorem cM_eat (i : Nat) (hi : i < 16) (x m : sd_M) (hx : sd_ns x m) (hJ : sd_J x) (hs : ¬ x (322 + i) = -1) : sd_Ct sd_SM 4 sY11_eats [.inr 15, .inl (i : Int)] m (fun r m' => r = none ∧ sd_ns (sd_eaS x i (x 0 % 24 = 6 ∨ x 0 % 24 = 12 ∨ x 0 % 24 = 18)) m') := by
  refine sd_ct rfl (Nat.le_of_ble_eq_true rfl) (fun hok hm => ?_)
  have h1 := hJ.1
  have h2 := hJ.2.1
  have h3 := hJ.2.2.1
  have h4 := hJ.2.2.2.1
  have h5 := hJ.2.2.2.2.1
  have h6 := hJ.2.2.2.2.2.1
  have h7 := hJ.2.2.2.2.2.2.1
  have hR := hJ.2.2.2.2.2.2.2.1
  have hI := hJ.2.2.2.2.2.2.2.2.1
  have hL := hJ.2.2.2.2.2.2.2.2.2
  obtain ⟨⟨i0, j0⟩, ⟨i1, j1⟩, ⟨i2, j2⟩, ⟨i3, j3⟩, ⟨i4, j4⟩, ⟨i5, j5⟩, ⟨i6, j6⟩, ⟨i7, j7⟩, ⟨i8, j8⟩⟩ := id h1
  have e4 := h4 i hi
  show sd_Wp sd_SM 4 sY11_eats 0 [some (.inr 15), some (.inl (i : Int)), none, none] [] m _
  refine sd_aload_n sD11_eats_0 rfl ?_
  refine sd_getfr sD11_eats_1 sF11_7 sGM15_0 ?_
  refine sd_iconst sD11_eats_4 (by decide) ?_
  refine sd_ialdx (a := 0) (v := x 0) hx sD11_eats_5 sAM0 (by omega) rfl ?_
  refine sd_bipush sD11_eats_6 rfl (by decide) ?_
  refine sd_irem (z := (x 0 % 24)) sD11_eats_8 (by decide) (by exact Int.tmod_eq_emod_of_nonneg (by omega)) (by omega) ?_
  refine sd_istore_n (ls' := [some (.inr 15), some (.inl (i : Int)), some (.inl (x 0 % 24)), none]) sD11_eats_9 (by decide) rfl ?_
  refine sd_iload_n sD11_eats_10 rfl ?_
  refine sd_bipush sD11_eats_11 rfl (by decide) ?_
  refine sd_cut (J := 46) (ls := [some (.inr 15), some (.inl (i : Int)), some (.inl (x 0 % 24)), none]) (st := []) (fun zv => zv = (sd_eaK x i (x 0 % 24 = 6 ∨ x 0 % 24 = 12 ∨ x 0 % 24 = 18))) (fun zv hzv => ?_) (fun K13 => ?_)
  ·
    subst hzv
    refine sd_istore_n (ls' := [some (.inr 15), some (.inl (i : Int)), some (.inl (x 0 % 24)), some (.inl (sd_eaK x i (x 0 % 24 = 6 ∨ x 0 % 24 = 12 ∨ x 0 % 24 = 18)))]) sD11_eats_46 (by decide) rfl ?_
    have ek := sd_eaK_rng h1 i (x 0 % 24 = 6 ∨ x 0 % 24 = 12 ∨ x 0 % 24 = 18)
    refine sd_iload_n sD11_eats_47 rfl ?_
    refine sd_if_ge (tgt := 85) sD11_eats_48 (by decide) (fun zc48 => ?_) (fun zc48 => ?_)
    ·
      have ev := (h2 (sd_eaK x i (x 0 % 24 = 6 ∨ x 0 % 24 = 12 ∨ x 0 % 24 = 18)).toNat (by omega)).2.2.2.2.2.2.1
      refine sd_aload_n sD11_eats_85 rfl ?_
      refine sd_getfr sD11_eats_86 sF11_7 sGM15_0 ?_
      refine sd_sipush sD11_eats_89 rfl (by decide) ?_
      refine sd_iload_n sD11_eats_92 rfl ?_
      refine sd_iadd (z := (154 + sd_eaK x i (x 0 % 24 = 6 ∨ x 0 % 24 = 12 ∨ x 0 % 24 = 18))) sD11_eats_93 (by omega) (by omega) ?_
      refine sd_dup2 sD11_eats_94 ?_
      refine sd_ialdx (a := (154 + (sd_eaK x i (x 0 % 24 = 6 ∨ x 0 % 24 = 12 ∨ x 0 % 24 = 18)).toNat)) (v := x (154 + (sd_eaK x i (x 0 % 24 = 6 ∨ x 0 % 24 = 12 ∨ x 0 % 24 = 18)).toNat)) hx sD11_eats_95 sAM0 (by omega) rfl ?_
      refine sd_iconst sD11_eats_96 (by decide) ?_
      refine sd_isub (z := (x (154 + (sd_eaK x i (x 0 % 24 = 6 ∨ x 0 % 24 = 12 ∨ x 0 % 24 = 18)).toNat) - 1)) sD11_eats_97 (by omega) (by omega) ?_
      refine sd_iastx (a := (154 + (sd_eaK x i (x 0 % 24 = 6 ∨ x 0 % 24 = 12 ∨ x 0 % 24 = 18)).toNat)) sd_sokM hx sD11_eats_98 sAM0 (by omega) (fun m hx em98 => ?_)
      refine sd_aload_n sD11_eats_99 rfl ?_
      refine sd_getfr sD11_eats_100 sF11_7 sGM15_0 ?_
      refine sd_sipush sD11_eats_103 rfl (by decide) ?_
      refine sd_iload_n sD11_eats_106 rfl ?_
      refine sd_iadd (z := (370 + (i : Int))) sD11_eats_107 (by omega) (by omega) ?_
      refine sd_iconst sD11_eats_108 (by decide) ?_
      refine sd_iastx (a := (370 + i)) sd_sokM hx sD11_eats_109 sAM0 (by omega) (fun m hx em109 => ?_)
      refine sd_aload_n sD11_eats_110 rfl ?_
      refine sd_getfr sD11_eats_111 sF11_7 sGM15_0 ?_
      refine sd_sipush sD11_eats_114 rfl (by decide) ?_
      refine sd_iload_n sD11_eats_117 rfl ?_
      refine sd_iadd (z := (338 + (i : Int))) sD11_eats_118 (by omega) (by omega) ?_
      refine sd_aload_n sD11_eats_119 rfl ?_
      refine sd_getfr sD11_eats_120 sF11_7 sGM15_0 ?_
      refine sd_sipush sD11_eats_123 rfl (by decide) ?_
      refine sd_iload_n sD11_eats_126 rfl ?_
      refine sd_iadd (z := (338 + (i : Int))) sD11_eats_127 (by omega) (by omega) ?_
      refine sd_ialdx (a := (338 + i)) (v := x (338 + i)) hx sD11_eats_128 sAM0 (by omega) (by simp only [sd_up]; repeat rw [if_neg (by omega)]) ?_
      refine sd_iconst sD11_eats_129 (by decide) ?_
      refine sd_iadd (z := (x (338 + i) + 3)) sD11_eats_130 (by omega) (by omega) ?_
      refine sd_bipush sD11_eats_131 rfl (by decide) ?_
      refine sd_icmp_le (tgt := 141) sD11_eats_133 (by decide) (fun zc133 => ?_) (fun zc133 => ?_)
      ·
        refine sd_aload_n sD11_eats_141 rfl ?_
        refine sd_getfr sD11_eats_142 sF11_7 sGM15_0 ?_
        refine sd_sipush sD11_eats_145 rfl (by decide) ?_
        refine sd_iload_n sD11_eats_148 rfl ?_
        refine sd_iadd (z := (338 + (i : Int))) sD11_eats_149 (by omega) (by omega) ?_
        refine sd_ialdx (a := (338 + i)) (v := x (338 + i)) hx sD11_eats_150 sAM0 (by omega) (by simp only [sd_up]; repeat rw [if_neg (by omega)]) ?_
        refine sd_iconst sD11_eats_151 (by decide) ?_
        refine sd_iadd (z := (x (338 + i) + 3)) sD11_eats_152 (by omega) (by omega) ?_
        refine sd_iastx (a := (338 + i)) sd_sokM hx sD11_eats_153 sAM0 (by omega) (fun m hx em153 => ?_)
        refine sd_vreturn sD11_eats_154 rfl (fun hm => ?_)
        (refine ⟨rfl, ?_⟩; unfold sd_eaS; first | (rw [if_pos (by omega), show min 99 (x (370 + i) + 1) = x (370 + i) + sd_b (x (370 + i) < 99) from by unfold sd_b; split <;> omega]; exact hx) | (rw [if_neg (by omega), show min 99 (x (338 + i) + 3) = 99 from by omega]; exact hx) | (rw [if_neg (by omega), show min 99 (x (338 + i) + 3) = x (338 + i) + 3 from by omega]; exact hx))
      ·
        refine sd_bipush sD11_eats_136 rfl (by decide) ?_
        refine sd_goto (tgt := 153) sD11_eats_138 (by decide) ?_
        refine sd_iastx (a := (338 + i)) sd_sokM hx sD11_eats_153 sAM0 (by omega) (fun m hx em153 => ?_)
        refine sd_vreturn sD11_eats_154 rfl (fun hm => ?_)
        (refine ⟨rfl, ?_⟩; unfold sd_eaS; first | (rw [if_pos (by omega), show min 99 (x (370 + i) + 1) = x (370 + i) + sd_b (x (370 + i) < 99) from by unfold sd_b; split <;> omega]; exact hx) | (rw [if_neg (by omega), show min 99 (x (338 + i) + 3) = 99 from by omega]; exact hx) | (rw [if_neg (by omega), show min 99 (x (338 + i) + 3) = x (338 + i) + 3 from by omega]; exact hx))
    ·
      refine sd_aload_n sD11_eats_51 rfl ?_
      refine sd_getfr sD11_eats_52 sF11_7 sGM15_0 ?_
      refine sd_sipush sD11_eats_55 rfl (by decide) ?_
      refine sd_iload_n sD11_eats_58 rfl ?_
      refine sd_iadd (z := (370 + (i : Int))) sD11_eats_59 (by omega) (by omega) ?_
      refine sd_dup2 sD11_eats_60 ?_
      refine sd_ialdx (a := (370 + i)) (v := x (370 + i)) hx sD11_eats_61 sAM0 (by omega) rfl ?_
      refine sd_aload_n sD11_eats_62 rfl ?_
      refine sd_getfr sD11_eats_63 sF11_7 sGM15_0 ?_
      refine sd_sipush sD11_eats_66 rfl (by decide) ?_
      refine sd_iload_n sD11_eats_69 rfl ?_
      refine sd_iadd (z := (370 + (i : Int))) sD11_eats_70 (by omega) (by omega) ?_
      refine sd_ialdx (a := (370 + i)) (v := x (370 + i)) hx sD11_eats_71 sAM0 (by omega) rfl ?_
      refine sd_bipush sD11_eats_72 rfl (by decide) ?_
      refine sd_cut (J := 82) (ls := [some (.inr 15), some (.inl (i : Int)), some (.inl (x 0 % 24)), some (.inl (sd_eaK x i (x 0 % 24 = 6 ∨ x 0 % 24 = 12 ∨ x 0 % 24 = 18)))]) (st := [.inl (x (370 + i)), .inl (370 + (i : Int)), .inr 0]) (fun zv => zv = (sd_b (x (370 + i) < 99))) (fun zv hzv => ?_) (fun K74 => ?_)
      ·
        subst hzv
        have zb82 := sd_b01 (x (370 + i) < 99)
        refine sd_iadd (z := (x (370 + i) + sd_b (x (370 + i) < 99))) sD11_eats_82 (by omega) (by omega) ?_
        refine sd_iastx (a := (370 + i)) sd_sokM hx sD11_eats_83 sAM0 (by omega) (fun m hx em83 => ?_)
        refine sd_vreturn sD11_eats_84 rfl (fun hm => ?_)
        (refine ⟨rfl, ?_⟩; unfold sd_eaS; first | (rw [if_pos (by omega), show min 99 (x (370 + i) + 1) = x (370 + i) + sd_b (x (370 + i) < 99) from by unfold sd_b; split <;> omega]; exact hx) | (rw [if_neg (by omega), show min 99 (x (338 + i) + 3) = 99 from by omega]; exact hx) | (rw [if_neg (by omega), show min 99 (x (338 + i) + 3) = x (338 + i) + 3 from by omega]; exact hx))
      ·
        refine sd_icmp_ge (tgt := 81) sD11_eats_74 (by decide) (fun zc74 => ?_) (fun zc74 => ?_)
        ·
          refine sd_iconst sD11_eats_81 (by decide) ?_
          exact K74 _ (by exact (sd_b0 (by omega)).symm)
        ·
          refine sd_iconst sD11_eats_77 (by decide) ?_
          refine sd_goto (tgt := 82) sD11_eats_78 (by decide) ?_
          exact K74 _ (by exact (sd_b1 (by omega)).symm)
  ·
    refine sd_icmp_eq (tgt := 28) sD11_eats_13 (by decide) (fun zc13 => ?_) (fun zc13 => ?_)
    ·
      refine sd_aload_n sD11_eats_28 rfl ?_
      refine sd_aload_n sD11_eats_29 rfl ?_
      refine sd_getfr sD11_eats_30 sF11_7 sGM15_0 ?_
      refine sd_sipush sD11_eats_33 rfl (by decide) ?_
      refine sd_iload_n sD11_eats_36 rfl ?_
      refine sd_iadd (z := (322 + (i : Int))) sD11_eats_37 (by omega) (by omega) ?_
      refine sd_ialdx (a := (322 + i)) (v := x (322 + i)) hx sD11_eats_38 sAM0 (by omega) rfl ?_
      refine sd_callVp (as := [.inl (x (322 + i))]) (st := []) (v := .inl (sd_fst (sd_Pm x (sd_rch x (sd_shl 1 (x (322 + i))) 8)) (x 2).toNat)) sD11_eats_39 sM11_227 sOM15 rfl rfl rfl (by decide) (Nat.le_of_ble_eq_true rfl) (cM_kitchenFor (x (322 + i)) _ m hx h1 h2 h3 ) (fun ho39 => ?_)
      refine sd_goto (tgt := 46) sD11_eats_42 (by decide) ?_
      exact K13 _ (by unfold sd_eaK; first | (rw [if_pos (by omega)]; rfl) | (rw [if_neg (by omega)]; done))
    ·
      refine sd_iload_n sD11_eats_16 rfl ?_
      refine sd_bipush sD11_eats_17 rfl (by decide) ?_
      refine sd_icmp_eq (tgt := 28) sD11_eats_19 (by decide) (fun zc19 => ?_) (fun zc19 => ?_)
      ·
        refine sd_aload_n sD11_eats_28 rfl ?_
        refine sd_aload_n sD11_eats_29 rfl ?_
        refine sd_getfr sD11_eats_30 sF11_7 sGM15_0 ?_
        refine sd_sipush sD11_eats_33 rfl (by decide) ?_
        refine sd_iload_n sD11_eats_36 rfl ?_
        refine sd_iadd (z := (322 + (i : Int))) sD11_eats_37 (by omega) (by omega) ?_
        refine sd_ialdx (a := (322 + i)) (v := x (322 + i)) hx sD11_eats_38 sAM0 (by omega) rfl ?_
        refine sd_callVp (as := [.inl (x (322 + i))]) (st := []) (v := .inl (sd_fst (sd_Pm x (sd_rch x (sd_shl 1 (x (322 + i))) 8)) (x 2).toNat)) sD11_eats_39 sM11_227 sOM15 rfl rfl rfl (by decide) (Nat.le_of_ble_eq_true rfl) (cM_kitchenFor (x (322 + i)) _ m hx h1 h2 h3 ) (fun ho39 => ?_)
        refine sd_goto (tgt := 46) sD11_eats_42 (by decide) ?_
        exact K13 _ (by unfold sd_eaK; first | (rw [if_pos (by omega)]; rfl) | (rw [if_neg (by omega)]; done))
      ·
        refine sd_iload_n sD11_eats_22 rfl ?_
        refine sd_bipush sD11_eats_23 rfl (by decide) ?_
        refine sd_icmp_ne (tgt := 45) sD11_eats_25 (by decide) (fun zc25 => ?_) (fun zc25 => ?_)
        ·
          refine sd_iconst sD11_eats_45 (by decide) ?_
          exact K13 _ (by unfold sd_eaK; first | (rw [if_pos (by omega)]; rfl) | (rw [if_neg (by omega)]; done))
        ·
          refine sd_aload_n sD11_eats_28 rfl ?_
          refine sd_aload_n sD11_eats_29 rfl ?_
          refine sd_getfr sD11_eats_30 sF11_7 sGM15_0 ?_
          refine sd_sipush sD11_eats_33 rfl (by decide) ?_
          refine sd_iload_n sD11_eats_36 rfl ?_
          refine sd_iadd (z := (322 + (i : Int))) sD11_eats_37 (by omega) (by omega) ?_
          refine sd_ialdx (a := (322 + i)) (v := x (322 + i)) hx sD11_eats_38 sAM0 (by omega) rfl ?_
          refine sd_callVp (as := [.inl (x (322 + i))]) (st := []) (v := .inl (sd_fst (sd_Pm x (sd_rch x (sd_shl 1 (x (322 + i))) 8)) (x 2).toNat)) sD11_eats_39 sM11_227 sOM15 rfl rfl rfl (by decide) (Nat.le_of_ble_eq_true rfl) (cM_kitchenFor (x (322 + i)) _ m hx h1 h2 h3 ) (fun ho39 => ?_)
          refine sd_goto (tgt := 46) sD11_eats_42 (by decide) ?_
          exact K13 _ (by unfold sd_eaK; first | (rw [if_pos (by omega)]; rfl) | (rw [if_neg (by omega)]; done))
