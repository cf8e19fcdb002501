set_option maxRecDepth 100000 in
set_option maxHeartbeats 4000000 in
theorem pM_text (j f to : Int) (x m : sd_M) (hx : sd_ns x m) (h1 : sd_I1 x) (hF : ∀ k : Nat, k < 7 → 0 ≤ x (4101 + k) ∧ x (4101 + k) ≤ 1000000) (hP : 0 ≤ x 4100 ∧ x 4100 ≤ 100) (hL : sd_LT x) : sd_Ct sd_SM 5 sY11_text [.inr 15, .inl j, .inl f, .inl to] m (sd_textM x j f to) := by
  refine sd_ct rfl (Nat.le_of_ble_eq_true rfl) (fun hok hm => ?_)
  obtain ⟨⟨i0, j0⟩, ⟨i1, j1⟩, ⟨i2, j2⟩, ⟨i3, j3⟩, ⟨i4, j4⟩, ⟨i5, j5⟩, ⟨i6, j6⟩, ⟨i7, j7⟩, ⟨i8, j8⟩⟩ := id h1
  have r_j : sd_R j := hok (.inl j) (by simp)
  have r_f : sd_R f := hok (.inl f) (by simp)
  have r_to : sd_R to := hok (.inl to) (by simp)
  show sd_Wp sd_SM 5 sY11_text 0 [some (.inr 15), some (.inl j), some (.inl f), some (.inl to), none, none] [] m _
  refine sd_iload_n sD11_text_0 rfl ?_
  refine sd_iconst sD11_text_1 (by decide) ?_
  refine sd_iconst sD11_text_2 (by decide) ?_
  refine sd_callSp (as := [.inl j, .inl 0, .inl 3]) (st := []) (v := .inl (sd_b (0 ≤ j ∧ j ≤ 3))) sD11_text_3 sM11_56 rfl rfl (by decide) (Nat.le_of_ble_eq_true rfl) (cM_in j 0 3 m) (fun ho3 => ?_)
  refine sd_bif_eq (tgt := 31) sD11_text_6 (by decide) (fun zc6 => ?_) (fun zc6 => ?_)
  ·
    refine sd_aload_n sD11_text_31 rfl ?_
    refine sd_iconst sD11_text_32 (by decide) ?_
    refine sd_callV (as := [.inl 0]) (st := []) sD11_text_33 sM11_78 rfl rfl sOM15 rfl (by decide) (Nat.le_of_ble_eq_true rfl) (cM_finding 0 (by decide) _ m hx (hF 0 (by decide))) (fun r m hq ho33 hm => ?_)
    obtain ⟨rfl, hx⟩ := hq
    show sd_Wp sd_SM 5 sY11_text 36 [some (.inr 15), some (.inl j), some (.inl f), some (.inl to), none, none] [.inl (-1000001)] m _
    refine sd_ireturn sD11_text_36 rfl (fun hr hm => ?_)
    exact Or.inl ⟨by omega, rfl, hx⟩
  ·
    refine sd_iload_n sD11_text_9 rfl ?_
    refine sd_iconst sD11_text_10 (by decide) ?_
    refine sd_sipush sD11_text_11 rfl (by decide) ?_
    refine sd_callSp (as := [.inl f, .inl 0, .inl 959]) (st := []) (v := .inl (sd_b (0 ≤ f ∧ f ≤ 959))) sD11_text_14 sM11_56 rfl rfl (by decide) (Nat.le_of_ble_eq_true rfl) (cM_in f 0 959 m) (fun ho14 => ?_)
    refine sd_bif_eq (tgt := 31) sD11_text_17 (by decide) (fun zc17 => ?_) (fun zc17 => ?_)
    ·
      refine sd_aload_n sD11_text_31 rfl ?_
      refine sd_iconst sD11_text_32 (by decide) ?_
      refine sd_callV (as := [.inl 0]) (st := []) sD11_text_33 sM11_78 rfl rfl sOM15 rfl (by decide) (Nat.le_of_ble_eq_true rfl) (cM_finding 0 (by decide) _ m hx (hF 0 (by decide))) (fun r m hq ho33 hm => ?_)
      obtain ⟨rfl, hx⟩ := hq
      show sd_Wp sd_SM 5 sY11_text 36 [some (.inr 15), some (.inl j), some (.inl f), some (.inl to), none, none] [.inl (-1000001)] m _
      refine sd_ireturn sD11_text_36 rfl (fun hr hm => ?_)
      exact Or.inl ⟨by omega, rfl, hx⟩
    ·
      refine sd_iload_n sD11_text_20 rfl ?_
      refine sd_iload_n sD11_text_21 rfl ?_
      refine sd_sipush sD11_text_22 rfl (by decide) ?_
      refine sd_callSp (as := [.inl to, .inl f, .inl 959]) (st := []) (v := .inl (sd_b (f ≤ to ∧ to ≤ 959))) sD11_text_25 sM11_56 rfl rfl (by decide) (Nat.le_of_ble_eq_true rfl) (cM_in to f 959 m) (fun ho25 => ?_)
      refine sd_bif_ne (tgt := 37) sD11_text_28 (by decide) (fun zc28 => ?_) (fun zc28 => ?_)
      ·
        refine sd_aload_n sD11_text_37 rfl ?_
        refine sd_getfr sD11_text_38 sF11_7 sGM15_0 ?_
        refine sd_iconst sD11_text_41 (by decide) ?_
        refine sd_ialdx (a := 5) (v := x 5) hx sD11_text_42 sAM0 (by omega) rfl ?_
        refine sd_bipush sD11_text_43 rfl (by decide) ?_
        refine sd_icmp_ne (tgt := 54) sD11_text_45 (by decide) (fun zc45 => ?_) (fun zc45 => ?_)
        ·
          refine sd_aload_n sD11_text_54 rfl ?_
          refine sd_iconst sD11_text_55 (by decide) ?_
          refine sd_aload_n sD11_text_56 rfl ?_
          refine sd_getfx (v := x 4100) hx sD11_text_57 sF11_186 sGM15_4 (by decide) rfl ?_
          refine sd_iconst sD11_text_60 (by decide) ?_
          refine sd_callV (as := [.inl (-1), .inl (x 4100), .inl 0]) (st := []) sD11_text_61 sM11_189 rfl rfl sOM15 rfl (by decide) (Nat.le_of_ble_eq_true rfl) (cM_readsT x hP hL m hx) (fun r m hq ho61 hm => ?_)
          obtain ⟨rfl, hk6, hrd⟩ := hq
          replace hx := hk6.ns hx
          have zR := hm 5493
          rcases hrd with ⟨e, hz, hz2⟩ | ⟨cs, hz, hz2, _⟩
          ·
            show sd_Wp sd_SM 5 sY11_text 64 [some (.inr 15), some (.inl j), some (.inl f), some (.inl to), none, none] [] m _
            refine sd_aload_n sD11_text_64 rfl ?_
            refine sd_getfi sD11_text_65 sF11_157 sGM15_13 ?_
            rw [show m 5493 = (e : Int) from hz2]
            refine sd_if_lt (tgt := 78) sD11_text_68 (by decide) (fun zc68 => (by exfalso; omega)) (fun zc68 => ?_)
            refine sd_iconst sD11_text_71 (by decide) ?_
            refine sd_aload_n sD11_text_72 rfl ?_
            refine sd_getfi sD11_text_73 sF11_157 sGM15_13 ?_
            rw [show m 5493 = (e : Int) from hz2]
            refine sd_isub (z := ((-1) - (e : Int))) sD11_text_76 (by omega) (by omega) ?_
            refine sd_ireturn sD11_text_77 rfl (fun hr hm => ?_)
            exact Or.inr (Or.inr ⟨by omega, by omega, Or.inl ⟨e, hz, rfl, hx⟩⟩)
          ·
            show sd_Wp sd_SM 5 sY11_text 64 [some (.inr 15), some (.inl j), some (.inl f), some (.inl to), none, none] [] m _
            refine sd_aload_n sD11_text_64 rfl ?_
            refine sd_getfi sD11_text_65 sF11_157 sGM15_13 ?_
            rw [show m 5493 = (-1) from hz2]
            refine sd_if_lt (tgt := 78) sD11_text_68 (by decide) (fun zc68 => ?_) (fun zc68 => (by exfalso; omega))
            refine sd_aload_n sD11_text_78 rfl ?_
            refine sd_getfr sD11_text_79 sF11_7 sGM15_0 ?_
            refine sd_iconst sD11_text_82 (by decide) ?_
            refine sd_ialdx (a := 5) (v := x 5) hx sD11_text_83 sAM0 (by omega) rfl ?_
            refine sd_istore (ls' := [some (.inr 15), some (.inl j), some (.inl f), some (.inl to), some (.inl (x 5)), none]) sD11_text_84 (by decide) rfl ?_
            refine sd_aload_n sD11_text_86 rfl ?_
            refine sd_getfr sD11_text_87 sF11_7 sGM15_0 ?_
            refine sd_sipush sD11_text_90 rfl (by decide) ?_
            refine sd_iload sD11_text_93 rfl ?_
            refine sd_iadd (z := (428 + x 5)) sD11_text_95 (by omega) (by omega) ?_
            refine sd_iload_n sD11_text_96 rfl ?_
            refine sd_iastx (a := (428 + (x 5).toNat)) sd_sokM hx sD11_text_97 sAM0 (by omega) (fun m hx em97 => ?_)
            refine sd_aload_n sD11_text_98 rfl ?_
            refine sd_getfr sD11_text_99 sF11_7 sGM15_0 ?_
            refine sd_sipush sD11_text_102 rfl (by decide) ?_
            refine sd_iload sD11_text_105 rfl ?_
            refine sd_iadd (z := (436 + x 5)) sD11_text_107 (by omega) (by omega) ?_
            refine sd_iload_n sD11_text_108 rfl ?_
            refine sd_iastx (a := (436 + (x 5).toNat)) sd_sokM hx sD11_text_109 sAM0 (by omega) (fun m hx em109 => ?_)
            refine sd_aload_n sD11_text_110 rfl ?_
            refine sd_getfr sD11_text_111 sF11_7 sGM15_0 ?_
            refine sd_sipush sD11_text_114 rfl (by decide) ?_
            refine sd_iload sD11_text_117 rfl ?_
            refine sd_iadd (z := (444 + x 5)) sD11_text_119 (by omega) (by omega) ?_
            refine sd_iload_n sD11_text_120 rfl ?_
            refine sd_iastx (a := (444 + (x 5).toNat)) sd_sokM hx sD11_text_121 sAM0 (by omega) (fun m hx em121 => ?_)
            refine sd_aload_n sD11_text_122 rfl ?_
            refine sd_getfr sD11_text_123 sF11_7 sGM15_0 ?_
            refine sd_sipush sD11_text_126 rfl (by decide) ?_
            refine sd_iload sD11_text_129 rfl ?_
            refine sd_iadd (z := (452 + x 5)) sD11_text_131 (by omega) (by omega) ?_
            refine sd_aload_n sD11_text_132 rfl ?_
            refine sd_getfr sD11_text_133 sF11_7 sGM15_0 ?_
            refine sd_iconst sD11_text_136 (by decide) ?_
            refine sd_ialdx (a := 0) (v := x 0) hx sD11_text_137 sAM0 (by omega) (by simp only [sd_up]; repeat rw [if_neg (by omega)]) ?_
            refine sd_iastx (a := (452 + (x 5).toNat)) sd_sokM hx sD11_text_138 sAM0 (by omega) (fun m hx em138 => ?_)
            refine sd_aload_n sD11_text_139 rfl ?_
            refine sd_getfr sD11_text_140 sF11_7 sGM15_0 ?_
            refine sd_sipush sD11_text_143 rfl (by decide) ?_
            refine sd_iload sD11_text_146 rfl ?_
            refine sd_iadd (z := (460 + x 5)) sD11_text_148 (by omega) (by omega) ?_
            refine sd_aload_n sD11_text_149 rfl ?_
            refine sd_getfx (v := x 4100) hx sD11_text_150 sF11_186 sGM15_4 (by decide) (by simp only [sd_up]; repeat rw [if_neg (by omega)]) ?_
            refine sd_iastx (a := (460 + (x 5).toNat)) sd_sokM hx sD11_text_153 sAM0 (by omega) (fun m hx em153 => ?_)
            refine sd_iconst sD11_text_154 (by decide) ?_
            refine sd_istore (ls' := [some (.inr 15), some (.inl j), some (.inl f), some (.inl to), some (.inl (x 5)), some (.inl 0)]) sD11_text_155 (by decide) rfl ?_
            refine sd_forX ((x 4100).toNat) (fun zi157 : Nat => [some (.inr 15), some (.inl j), some (.inl f), some (.inl to), some (.inl (x 5)), some (.inl (zi157 : Int))]) (fun zi157 : Nat => sd_cpm (sd_up (sd_up (sd_up (sd_up (sd_up x (428 + (x 5).toNat) j) (436 + (x 5).toNat) f) (444 + (x 5).toNat) to) (452 + (x 5).toNat) (x 0)) (460 + (x 5).toNat) (x 4100)) 4000 (468 + 100 * (x 5).toNat) zi157) (fun (zi157 : Nat) (m : sd_M) => True) (by rfl) (fun zi157 hizi157 m hx hpzi157 ihzi157 => ?_) (fun m hx hpzi157 => ?_) (by rw [sd_cpm_0]; exact hx) (by trivial)
            ·
              refine sd_iload sD11_text_157 rfl ?_
              refine sd_aload_n sD11_text_159 rfl ?_
              refine sd_getfx (v := x 4100) hx sD11_text_160 sF11_186 sGM15_4 (by decide) (by unfold sd_cpm; rw [if_neg (by omega)]; simp only [sd_up]; repeat rw [if_neg (by omega)]) ?_
              refine sd_icmp_ge (tgt := 196) sD11_text_163 (by decide) (fun zc163 => (by exfalso; omega)) (fun zc163 => ?_)
              refine sd_aload_n sD11_text_166 rfl ?_
              refine sd_getfr sD11_text_167 sF11_7 sGM15_0 ?_
              refine sd_sipush sD11_text_170 rfl (by decide) ?_
              refine sd_bipush sD11_text_173 rfl (by decide) ?_
              refine sd_iload sD11_text_175 rfl ?_
              refine sd_imul (z := (100 * (x 5))) sD11_text_177 (by omega) (by omega) ?_
              refine sd_iadd (z := (468 + (100 * (x 5)))) sD11_text_178 (by omega) (by omega) ?_
              refine sd_iload sD11_text_179 rfl ?_
              refine sd_iadd (z := ((468 + (100 * (x 5))) + (zi157 : Int))) sD11_text_181 (by omega) (by omega) ?_
              refine sd_aload_n sD11_text_182 rfl ?_
              refine sd_getfr sD11_text_183 sF11_16 sGM15_3 ?_
              refine sd_iload sD11_text_186 rfl ?_
              refine sd_ialdx (a := (4000 + zi157)) (v := (sd_cpm (sd_up (sd_up (sd_up (sd_up (sd_up x (428 + (x 5).toNat) j) (436 + (x 5).toNat) f) (444 + (x 5).toNat) to) (452 + (x 5).toNat) (x 0)) (460 + (x 5).toNat) (x 4100)) 4000 (468 + 100 * (x 5).toNat) zi157) (4000 + zi157)) hx sD11_text_188 sAM2 (by omega) rfl ?_
              refine sd_iastx (a := ((468 + (100 * (x 5).toNat)) + zi157)) sd_sokM hx sD11_text_189 sAM0 (by omega) (fun m hx em189 => ?_)
              refine sd_iinc (y := ((zi157 : Int) + 1)) (ls' := [some (.inr 15), some (.inl j), some (.inl f), some (.inl to), some (.inl (x 5)), some (.inl ((zi157 : Int) + 1))]) sD11_text_190 rfl (by omega) (by omega) (by decide) rfl ?_
              refine sd_goto (tgt := 157) sD11_text_193 (by decide) ?_
              exact sd_eqw (ls' := [some (.inr 15), some (.inl j), some (.inl f), some (.inl to), some (.inl (x 5)), some (.inl ((zi157 + 1 : Nat) : Int))]) (ihzi157 m (by exact sd_nseq (fun q => by rw [← sd_cpm_s]; (congr 1 <;> first | omega | (unfold sd_cpm; rw [if_neg (by omega)]) | rfl)) hx) (by trivial)) (sd_cg rfl (sd_cg rfl (sd_cg rfl (sd_cg rfl (sd_cg rfl (sd_cg (sd_ce (show (((zi157 : Int) + 1) : Int) = ((zi157 + 1 : Nat) : Int) from by omega)) rfl)))))) rfl
            ·
              show sd_Wp sd_SM 5 sY11_text 157 [some (.inr 15), some (.inl j), some (.inl f), some (.inl to), some (.inl (x 5)), some (.inl ((((x 4100).toNat) : Nat) : Int))] [] m _
              refine sd_iload sD11_text_157 rfl ?_
              refine sd_aload_n sD11_text_159 rfl ?_
              refine sd_getfx (v := x 4100) hx sD11_text_160 sF11_186 sGM15_4 (by decide) (by unfold sd_cpm; rw [if_neg (by omega)]; simp only [sd_up]; repeat rw [if_neg (by omega)]) ?_
              refine sd_icmp_ge (tgt := 196) sD11_text_163 (by decide) (fun zc163 => ?_) (fun zc163 => (by exfalso; omega))
              refine sd_aload_n sD11_text_196 rfl ?_
              refine sd_iconst sD11_text_197 (by decide) ?_
              refine sd_putfx sd_sokM sd_oneM hx sD11_text_198 sF11_186 sGM15_4 (Or.inl rfl) (fun m hx em198 => ?_)
              refine sd_aload_n sD11_text_201 rfl ?_
              refine sd_getfr sD11_text_202 sF11_7 sGM15_0 ?_
              refine sd_iconst sD11_text_205 (by decide) ?_
              refine sd_dup2 sD11_text_206 ?_
              refine sd_ialdx (a := 5) (v := x 5) hx sD11_text_207 sAM0 (by omega) (by rw [sd_up_ne (by decide)]; unfold sd_cpm; rw [if_neg (by omega)]; simp only [sd_up]; repeat rw [if_neg (by omega)]) ?_
              refine sd_iconst sD11_text_208 (by decide) ?_
              refine sd_iadd (z := (x 5 + 1)) sD11_text_209 (by omega) (by omega) ?_
              refine sd_iastx (a := 5) sd_sokM hx sD11_text_210 sAM0 (by omega) (fun m hx em210 => ?_)
              refine sd_iload sD11_text_211 rfl ?_
              refine sd_ireturn sD11_text_213 rfl (fun hr hm => ?_)
              exact Or.inr (Or.inr ⟨by omega, by omega, Or.inr ⟨cs, hz, rfl, by unfold sd_addM; rw [show ((x 5).toNat : Int) = x 5 from by omega]; exact hx⟩⟩)
        ·
          refine sd_aload_n sD11_text_48 rfl ?_
          refine sd_iconst sD11_text_49 (by decide) ?_
          refine sd_callV (as := [.inl 1]) (st := []) sD11_text_50 sM11_78 rfl rfl sOM15 rfl (by decide) (Nat.le_of_ble_eq_true rfl) (cM_finding 1 (by decide) _ m hx (hF 1 (by decide))) (fun r m hq ho50 hm => ?_)
          obtain ⟨rfl, hx⟩ := hq
          show sd_Wp sd_SM 5 sY11_text 53 [some (.inr 15), some (.inl j), some (.inl f), some (.inl to), none, none] [.inl (-1000002)] m _
          refine sd_ireturn sD11_text_53 rfl (fun hr hm => ?_)
          exact Or.inr (Or.inl ⟨by omega, by omega, rfl, hx⟩)
      ·
        refine sd_aload_n sD11_text_31 rfl ?_
        refine sd_iconst sD11_text_32 (by decide) ?_
        refine sd_callV (as := [.inl 0]) (st := []) sD11_text_33 sM11_78 rfl rfl sOM15 rfl (by decide) (Nat.le_of_ble_eq_true rfl) (cM_finding 0 (by decide) _ m hx (hF 0 (by decide))) (fun r m hq ho33 hm => ?_)
        obtain ⟨rfl, hx⟩ := hq
        show sd_Wp sd_SM 5 sY11_text 36 [some (.inr 15), some (.inl j), some (.inl f), some (.inl to), none, none] [.inl (-1000001)] m _
        refine sd_ireturn sD11_text_36 rfl (fun hr hm => ?_)
        exact Or.inl ⟨by omega, rfl, hx⟩
