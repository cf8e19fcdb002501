set_option maxRecDepth 100000 in
set_option maxHeartbeats 4000000 in
theorem cM_goesOn (M : Int) (x m : sd_M) (hx : sd_ns x m) (h1 : sd_I1 x) (h2 : sd_I2 x) (h5 : sd_I5 x) (hA : ∀ h : Nat, (h : Int) < x 2 → sd_bit M h → 0 ≤ x (34 + h) ∧ x (34 + h) < 6) (k : Nat → Int) (hkM : k = sd_mka x M) (hk : sd_kr k) : sd_Ct sd_SM 1 sY11_goesOn [.inr 15, .inl M] m (fun q m' => q = none ∧ sd_ns x m' ∧ ∀ w, w < (x 4).toNat → sd_SL x k m' w 48) := by
  refine sd_ct rfl (Nat.le_of_ble_eq_true rfl) (fun hok hm => ?_)
  obtain ⟨⟨i0, j0⟩, ⟨i1, j1⟩, ⟨i2, j2⟩, ⟨i3, j3⟩, ⟨i4, j4⟩, ⟨i5, j5⟩, ⟨i6, j6⟩, ⟨i7, j7⟩, ⟨i8, j8⟩⟩ := id h1
  show sd_Wp sd_SM 1 sY11_goesOn 0 [some (.inr 15), some (.inl M), none, none, none, none] [] m _
  refine sd_iconst sD11_goesOn_0 (by decide) ?_
  refine sd_istore_n (ls' := [some (.inr 15), some (.inl M), some (.inl 0), none, none, none]) sD11_goesOn_1 (by decide) rfl ?_
  refine sd_forX (6) (fun zi2 : Nat => [some (.inr 15), some (.inl M), some (.inl (zi2 : Int)), none, none, none]) (fun zi2 : Nat => x) (fun (zi2 : Nat) (m : sd_M) => ∀ p, p < zi2 → m (5400 + p) = x (386 + p)) (by rfl) (fun zi2 hizi2 m hx hpzi2 ihzi2 => ?_) (fun m hx hpzi2 => ?_) (by exact hx) (by exact fun p hp => absurd hp (by omega))
  ·
    refine sd_iload_n sD11_goesOn_2 rfl ?_
    refine sd_bipush sD11_goesOn_3 rfl (by decide) ?_
    refine sd_icmp_ge (tgt := 30) sD11_goesOn_5 (by decide) (fun zc5 => (by exfalso; omega)) (fun zc5 => ?_)
    refine sd_aload_n sD11_goesOn_8 rfl ?_
    refine sd_getfr sD11_goesOn_9 sF11_22 sGM15_6 ?_
    refine sd_iload_n sD11_goesOn_12 rfl ?_
    refine sd_aload_n sD11_goesOn_13 rfl ?_
    refine sd_getfr sD11_goesOn_14 sF11_7 sGM15_0 ?_
    refine sd_sipush sD11_goesOn_17 rfl (by decide) ?_
    refine sd_iload_n sD11_goesOn_20 rfl ?_
    refine sd_iadd (z := (386 + (zi2 : Int))) sD11_goesOn_21 (by omega) (by omega) ?_
    refine sd_ialdx (a := (386 + zi2)) (v := x (386 + zi2)) hx sD11_goesOn_22 sAM0 (by omega) rfl ?_
    refine sd_iastc (a := (5400 + zi2)) sd_sokM hx sD11_goesOn_23 sAM4 (by omega) (fun m hx em23 => ?_)
    refine sd_iinc (y := ((zi2 : Int) + 1)) (ls' := [some (.inr 15), some (.inl M), some (.inl ((zi2 : Int) + 1)), none, none, none]) sD11_goesOn_24 rfl (by omega) (by omega) (by decide) rfl ?_
    refine sd_goto (tgt := 2) sD11_goesOn_27 (by decide) ?_
    exact sd_eqw (ls' := [some (.inr 15), some (.inl M), some (.inl ((zi2 + 1 : Nat) : Int)), none, none, none]) (ihzi2 m (by exact hx) (by exact sd_sc_step hpzi2 em23 rfl)) (sd_cg rfl (sd_cg rfl (sd_cg (sd_ce (show (((zi2 : Int) + 1) : Int) = ((zi2 + 1 : Nat) : Int) from by omega)) (sd_cg rfl (sd_cg rfl (sd_cg rfl rfl)))))) rfl
  ·
    show sd_Wp sd_SM 1 sY11_goesOn 2 [some (.inr 15), some (.inl M), some (.inl (6 : Int)), none, none, none] [] m _
    refine sd_iload_n sD11_goesOn_2 rfl ?_
    refine sd_bipush sD11_goesOn_3 rfl (by decide) ?_
    refine sd_icmp_ge (tgt := 30) sD11_goesOn_5 (by decide) (fun zc5 => ?_) (fun zc5 => (by exfalso; omega))
    refine sd_iconst sD11_goesOn_30 (by decide) ?_
    refine sd_istore_n (ls' := [some (.inr 15), some (.inl M), some (.inl 0), none, none, none]) sD11_goesOn_31 (by decide) rfl ?_
    refine sd_forX (6) (fun zi32 : Nat => [some (.inr 15), some (.inl M), some (.inl (zi32 : Int)), none, none, none]) (fun zi32 : Nat => x) (fun (zi32 : Nat) (m : sd_M) => (∀ p, p < 6 → m (5400 + p) = x (386 + p)) ∧ ∀ w, w < zi32 → m (5410 + w) = -1) (by rfl) (fun zi32 hizi32 m hx hpzi32 ihzi32 => ?_) (fun m hx hpzi32 => ?_) (by exact hx) (by exact ⟨hpzi2, fun p hp => absurd hp (by omega)⟩)
    ·
      refine sd_iload_n sD11_goesOn_32 rfl ?_
      refine sd_bipush sD11_goesOn_33 rfl (by decide) ?_
      refine sd_icmp_ge (tgt := 51) sD11_goesOn_35 (by decide) (fun zc35 => (by exfalso; omega)) (fun zc35 => ?_)
      refine sd_aload_n sD11_goesOn_38 rfl ?_
      refine sd_getfr sD11_goesOn_39 sF11_25 sGM15_7 ?_
      refine sd_iload_n sD11_goesOn_42 rfl ?_
      refine sd_iconst sD11_goesOn_43 (by decide) ?_
      refine sd_iastc (a := (5410 + zi32)) sd_sokM hx sD11_goesOn_44 sAM5 (by omega) (fun m hx em44 => ?_)
      refine sd_iinc (y := ((zi32 : Int) + 1)) (ls' := [some (.inr 15), some (.inl M), some (.inl ((zi32 : Int) + 1)), none, none, none]) sD11_goesOn_45 rfl (by omega) (by omega) (by decide) rfl ?_
      refine sd_goto (tgt := 32) sD11_goesOn_48 (by decide) ?_
      exact sd_eqw (ls' := [some (.inr 15), some (.inl M), some (.inl ((zi32 + 1 : Nat) : Int)), none, none, none]) (ihzi32 m (by exact hx) (by exact ⟨sd_row_ke hpzi32.1 em44 (by omega), sd_sc_step (f := fun _ => -1) hpzi32.2 em44 rfl⟩)) (sd_cg rfl (sd_cg rfl (sd_cg (sd_ce (show (((zi32 : Int) + 1) : Int) = ((zi32 + 1 : Nat) : Int) from by omega)) (sd_cg rfl (sd_cg rfl (sd_cg rfl rfl)))))) rfl
    ·
      show sd_Wp sd_SM 1 sY11_goesOn 32 [some (.inr 15), some (.inl M), some (.inl (6 : Int)), none, none, none] [] m _
      refine sd_iload_n sD11_goesOn_32 rfl ?_
      refine sd_bipush sD11_goesOn_33 rfl (by decide) ?_
      refine sd_icmp_ge (tgt := 51) sD11_goesOn_35 (by decide) (fun zc35 => ?_) (fun zc35 => (by exfalso; omega))
      refine sd_iconst sD11_goesOn_51 (by decide) ?_
      refine sd_istore_n (ls' := [some (.inr 15), some (.inl M), some (.inl 0), none, none, none]) sD11_goesOn_52 (by decide) rfl ?_
      refine sd_forX (48) (fun zi53 : Nat => [some (.inr 15), some (.inl M), some (.inl (zi53 : Int)), none, none, none]) (fun zi53 : Nat => x) (fun (zi53 : Nat) (m : sd_M) => (∀ p, p < 6 → m (5400 + p) = (sd_hrk x k zi53) p) ∧ ∀ w, w < (x 4).toNat → sd_SL x k m w zi53) (by rfl) (fun zi53 hizi53 m hx hpzi53 ihzi53 => ?_) (fun m hx hpzi53 => ?_) (by exact hx) (by exact ⟨hpzi32.1, fun w hw => ⟨by rw [hpzi32.2 w (by omega)]; rfl, fun q => absurd rfl q⟩⟩)
      ·
        refine sd_iload_n sD11_goesOn_53 rfl ?_
        refine sd_bipush sD11_goesOn_54 rfl (by decide) ?_
        refine sd_icmp_ge (tgt := 254) sD11_goesOn_56 (by decide) (fun zc56 => (by exfalso; omega)) (fun zc56 => ?_)
        refine sd_iconst sD11_goesOn_59 (by decide) ?_
        refine sd_istore_n (ls' := [some (.inr 15), some (.inl M), some (.inl (zi53 : Int)), some (.inl 0), none, none]) sD11_goesOn_60 (by decide) rfl ?_
        refine sd_forX ((x 2).toNat) (fun zi61 : Nat => [some (.inr 15), some (.inl M), some (.inl (zi53 : Int)), some (.inl (zi61 : Int)), none, none]) (fun zi61 : Nat => x) (fun (zi61 : Nat) (m : sd_M) => (∀ p, p < 6 → m (5400 + p) = (sd_ad (sd_md x M zi61) (sd_hrk x k zi53)) p) ∧ ∀ w, w < (x 4).toNat → sd_SL x k m w zi53) (by rfl) (fun zi61 hizi61 m hx hpzi61 ihzi61 => ?_) (fun m hx hpzi61 => ?_) (by exact hx) (by exact ⟨fun p hp => by rw [hpzi53.1 p hp]; have z := sd_hrk_rr h1 h5 hk zi53 p hp; unfold sd_ad sd_md; simp only [sd_sum]; omega, hpzi53.2⟩)
        ·
          refine sd_iload_n sD11_goesOn_61 rfl ?_
          refine sd_aload_n sD11_goesOn_62 rfl ?_
          refine sd_getfr sD11_goesOn_63 sF11_7 sGM15_0 ?_
          refine sd_iconst sD11_goesOn_66 (by decide) ?_
          refine sd_ialdx (a := 2) (v := x 2) hx sD11_goesOn_67 sAM0 (by omega) rfl ?_
          refine sd_icmp_ge (tgt := 142) sD11_goesOn_68 (by decide) (fun zc68 => (by exfalso; omega)) (fun zc68 => ?_)
          refine sd_iload_n sD11_goesOn_71 rfl ?_
          refine sd_iload_n sD11_goesOn_72 rfl ?_
          refine sd_ishr sD11_goesOn_73 ?_
          refine sd_iconst sD11_goesOn_74 (by decide) ?_
          refine sd_iand sD11_goesOn_75 ?_
          refine sd_iconst sD11_goesOn_76 (by decide) ?_
          refine sd_icmp_ne (tgt := 136) sD11_goesOn_77 (by decide) (fun zc77 => ?_) (fun zc77 => ?_)
          ·
            refine sd_iinc (y := ((zi61 : Int) + 1)) (ls' := [some (.inr 15), some (.inl M), some (.inl (zi53 : Int)), some (.inl ((zi61 : Int) + 1)), none, none]) sD11_goesOn_136 rfl (by omega) (by omega) (by decide) rfl ?_
            refine sd_goto (tgt := 61) sD11_goesOn_139 (by decide) ?_
            exact sd_eqw (ls' := [some (.inr 15), some (.inl M), some (.inl (zi53 : Int)), some (.inl ((zi61 + 1 : Nat) : Int)), none, none]) (ihzi61 m (by exact hx) (by first | exact ⟨sd_goD hpzi61.1 em135 (by omega) (by assumption) (by omega) e6 e5.1 (by omega), fun w hw => (hpzi61.2 w hw).keep (by rw [em135, sd_up_ne (by omega)]) (by rw [em135, sd_up_ne (by omega)])⟩ | exact ⟨sd_goD0 hpzi61.1 (by assumption), hpzi61.2⟩)) (sd_cg rfl (sd_cg rfl (sd_cg rfl (sd_cg (sd_ce (show (((zi61 : Int) + 1) : Int) = ((zi61 + 1 : Nat) : Int) from by omega)) (sd_cg rfl (sd_cg rfl rfl)))))) rfl
          ·
            have e3 := hA zi61 (by omega) (by assumption)
            have e2 := h2 zi61 (by omega)
            have e4 := sd_ad_rr (sd_mka_le h1 h2 M zi61 (by omega)) (sd_hrk_rr h1 h5 hk zi53) (x (34 + zi61)).toNat (by omega)
            have e5 := sd_md_rng h2 M zi61 (x (34 + zi61)).toNat (by omega)
            have e6 := sd_hrk_rr h1 h5 hk zi53 (x (34 + zi61)).toNat (by omega)
            refine sd_aload_n sD11_goesOn_80 rfl ?_
            refine sd_getfr sD11_goesOn_81 sF11_22 sGM15_6 ?_
            refine sd_aload_n sD11_goesOn_84 rfl ?_
            refine sd_getfr sD11_goesOn_85 sF11_7 sGM15_0 ?_
            refine sd_bipush sD11_goesOn_88 rfl (by decide) ?_
            refine sd_iload_n sD11_goesOn_90 rfl ?_
            refine sd_iadd (z := (34 + (zi61 : Int))) sD11_goesOn_91 (by omega) (by omega) ?_
            refine sd_ialdx (a := (34 + zi61)) (v := x (34 + zi61)) hx sD11_goesOn_92 sAM0 (by omega) rfl ?_
            refine sd_iald (a := (5400 + ((x (34 + zi61)).toNat))) sD11_goesOn_93 sAM4 (by omega) ?_
            rw [show m (5400 + ((x (34 + zi61)).toNat)) = sd_ad (sd_md x M zi61) (sd_hrk x k zi53) (x (34 + zi61)).toNat from hpzi61.1 _ (by omega)]
            refine sd_aload_n sD11_goesOn_94 rfl ?_
            refine sd_getfr sD11_goesOn_95 sF11_7 sGM15_0 ?_
            refine sd_bipush sD11_goesOn_98 rfl (by decide) ?_
            refine sd_iload_n sD11_goesOn_100 rfl ?_
            refine sd_iadd (z := (58 + (zi61 : Int))) sD11_goesOn_101 (by omega) (by omega) ?_
            refine sd_ialdx (a := (58 + zi61)) (v := x (58 + zi61)) hx sD11_goesOn_102 sAM0 (by omega) rfl ?_
            refine sd_iadd (z := (sd_ad (sd_md x M zi61) (sd_hrk x k zi53) (x (34 + zi61)).toNat + x (58 + zi61))) sD11_goesOn_103 (by omega) (by omega) ?_
            refine sd_istore (ls' := [some (.inr 15), some (.inl M), some (.inl (zi53 : Int)), some (.inl (zi61 : Int)), some (.inl (sd_ad (sd_md x M zi61) (sd_hrk x k zi53) (x (34 + zi61)).toNat + x (58 + zi61))), none]) sD11_goesOn_104 (by decide) rfl ?_
            refine sd_aload_n sD11_goesOn_106 rfl ?_
            refine sd_getfr sD11_goesOn_107 sF11_22 sGM15_6 ?_
            refine sd_aload_n sD11_goesOn_110 rfl ?_
            refine sd_getfr sD11_goesOn_111 sF11_7 sGM15_0 ?_
            refine sd_bipush sD11_goesOn_114 rfl (by decide) ?_
            refine sd_iload_n sD11_goesOn_116 rfl ?_
            refine sd_iadd (z := (34 + (zi61 : Int))) sD11_goesOn_117 (by omega) (by omega) ?_
            refine sd_ialdx (a := (34 + zi61)) (v := x (34 + zi61)) hx sD11_goesOn_118 sAM0 (by omega) rfl ?_
            refine sd_iload sD11_goesOn_119 rfl ?_
            refine sd_sipush sD11_goesOn_121 rfl (by decide) ?_
            refine sd_icmp_le (tgt := 133) sD11_goesOn_124 (by decide) (fun zc124 => ?_) (fun zc124 => ?_)
            ·
              refine sd_iload sD11_goesOn_133 rfl ?_
              refine sd_iastc (a := (5400 + ((x (34 + zi61)).toNat))) sd_sokM hx sD11_goesOn_135 sAM4 (by omega) (fun m hx em135 => ?_)
              refine sd_iinc (y := ((zi61 : Int) + 1)) (ls' := [some (.inr 15), some (.inl M), some (.inl (zi53 : Int)), some (.inl ((zi61 : Int) + 1)), some (.inl (sd_ad (sd_md x M zi61) (sd_hrk x k zi53) (x (34 + zi61)).toNat + x (58 + zi61))), none]) sD11_goesOn_136 rfl (by omega) (by omega) (by decide) rfl ?_
              refine sd_goto (tgt := 61) sD11_goesOn_139 (by decide) ?_
              refine sd_less (ls' := [some (.inr 15), some (.inl M), some (.inl (zi53 : Int)), some (.inl ((zi61 : Int) + 1)), none, none]) ?_ rfl (by intro zi zv zh; rcases zi with _ | _ | _ | _ | _ | _ | zi <;> first | exact zh | cases zh)
              exact sd_eqw (ls' := [some (.inr 15), some (.inl M), some (.inl (zi53 : Int)), some (.inl ((zi61 + 1 : Nat) : Int)), none, none]) (ihzi61 m (by exact hx) (by first | exact ⟨sd_goD hpzi61.1 em135 (by omega) (by assumption) (by omega) e6 e5.1 (by omega), fun w hw => (hpzi61.2 w hw).keep (by rw [em135, sd_up_ne (by omega)]) (by rw [em135, sd_up_ne (by omega)])⟩ | exact ⟨sd_goD0 hpzi61.1 (by assumption), hpzi61.2⟩)) (sd_cg rfl (sd_cg rfl (sd_cg rfl (sd_cg (sd_ce (show (((zi61 : Int) + 1) : Int) = ((zi61 + 1 : Nat) : Int) from by omega)) (sd_cg rfl (sd_cg rfl rfl)))))) rfl
            ·
              refine sd_sipush sD11_goesOn_127 rfl (by decide) ?_
              refine sd_goto (tgt := 135) sD11_goesOn_130 (by decide) ?_
              refine sd_iastc (a := (5400 + ((x (34 + zi61)).toNat))) sd_sokM hx sD11_goesOn_135 sAM4 (by omega) (fun m hx em135 => ?_)
              refine sd_iinc (y := ((zi61 : Int) + 1)) (ls' := [some (.inr 15), some (.inl M), some (.inl (zi53 : Int)), some (.inl ((zi61 : Int) + 1)), some (.inl (sd_ad (sd_md x M zi61) (sd_hrk x k zi53) (x (34 + zi61)).toNat + x (58 + zi61))), none]) sD11_goesOn_136 rfl (by omega) (by omega) (by decide) rfl ?_
              refine sd_goto (tgt := 61) sD11_goesOn_139 (by decide) ?_
              refine sd_less (ls' := [some (.inr 15), some (.inl M), some (.inl (zi53 : Int)), some (.inl ((zi61 : Int) + 1)), none, none]) ?_ rfl (by intro zi zv zh; rcases zi with _ | _ | _ | _ | _ | _ | zi <;> first | exact zh | cases zh)
              exact sd_eqw (ls' := [some (.inr 15), some (.inl M), some (.inl (zi53 : Int)), some (.inl ((zi61 + 1 : Nat) : Int)), none, none]) (ihzi61 m (by exact hx) (by first | exact ⟨sd_goD hpzi61.1 em135 (by omega) (by assumption) (by omega) e6 e5.1 (by omega), fun w hw => (hpzi61.2 w hw).keep (by rw [em135, sd_up_ne (by omega)]) (by rw [em135, sd_up_ne (by omega)])⟩ | exact ⟨sd_goD0 hpzi61.1 (by assumption), hpzi61.2⟩)) (sd_cg rfl (sd_cg rfl (sd_cg rfl (sd_cg (sd_ce (show (((zi61 : Int) + 1) : Int) = ((zi61 + 1 : Nat) : Int) from by omega)) (sd_cg rfl (sd_cg rfl rfl)))))) rfl
        ·
          show sd_Wp sd_SM 1 sY11_goesOn 61 [some (.inr 15), some (.inl M), some (.inl (zi53 : Int)), some (.inl ((((x 2).toNat) : Nat) : Int)), none, none] [] m _
          refine sd_iload_n sD11_goesOn_61 rfl ?_
          refine sd_aload_n sD11_goesOn_62 rfl ?_
          refine sd_getfr sD11_goesOn_63 sF11_7 sGM15_0 ?_
          refine sd_iconst sD11_goesOn_66 (by decide) ?_
          refine sd_ialdx (a := 2) (v := x 2) hx sD11_goesOn_67 sAM0 (by omega) rfl ?_
          refine sd_icmp_ge (tgt := 142) sD11_goesOn_68 (by decide) (fun zc68 => ?_) (fun zc68 => (by exfalso; omega))
          refine sd_iconst sD11_goesOn_142 (by decide) ?_
          refine sd_istore_n (ls' := [some (.inr 15), some (.inl M), some (.inl (zi53 : Int)), some (.inl 0), none, none]) sD11_goesOn_143 (by decide) rfl ?_
          refine sd_forX ((x 4).toNat) (fun zi144 : Nat => [some (.inr 15), some (.inl M), some (.inl (zi53 : Int)), some (.inl (zi144 : Int)), none, none]) (fun zi144 : Nat => x) (fun (zi144 : Nat) (m : sd_M) => (∀ p, p < 6 → m (5400 + p) = (sd_wr x (sd_ad k (sd_hrk x k zi53)) zi144) p) ∧ ∀ w, w < (x 4).toNat → (if w < zi144 then sd_SL x k m w (zi53 + 1) else sd_SL x k m w zi53)) (by rfl) (fun zi144 hizi144 m hx hpzi144 ihzi144 => ?_) (fun m hx hpzi144 => ?_) (by exact hx) (by exact ⟨fun p hp => by rw [hpzi61.1 p hp, hkM]; rfl, fun w hw => by rw [if_neg (by omega)]; exact hpzi61.2 w hw⟩)
          ·
            have esl := hpzi144.2 zi144 hizi144
            rw [if_neg (by omega)] at esl
            refine sd_iload_n sD11_goesOn_144 rfl ?_
            refine sd_aload_n sD11_goesOn_145 rfl ?_
            refine sd_getfr sD11_goesOn_146 sF11_7 sGM15_0 ?_
            refine sd_iconst sD11_goesOn_149 (by decide) ?_
            refine sd_ialdx (a := 4) (v := x 4) hx sD11_goesOn_150 sAM0 (by omega) rfl ?_
            refine sd_icmp_ge (tgt := 248) sD11_goesOn_151 (by decide) (fun zc151 => (by exfalso; omega)) (fun zc151 => ?_)
            refine sd_aload_n sD11_goesOn_154 rfl ?_
            refine sd_aload_n sD11_goesOn_155 rfl ?_
            refine sd_getfr sD11_goesOn_156 sF11_22 sGM15_6 ?_
            refine sd_iconst sD11_goesOn_159 (by decide) ?_
            refine sd_iload_n sD11_goesOn_160 rfl ?_
            refine sd_callVp (as := [.inr 4, .inl 0, .inl (zi144 : Int)]) (st := []) (v := .inl (sd_lk x zi144 (sd_wr x (sd_ad k (sd_hrk x k zi53)) zi144))) sD11_goesOn_161 sM11_129 sOM15 rfl rfl rfl (by decide) (Nat.le_of_ble_eq_true rfl) (cM_lacksT zi144 (by omega) (sd_wr x (sd_ad k (sd_hrk x k zi53)) zi144) _ m hx hpzi144.1) (fun ho161 => ?_)
            have e9 := sd_lk_rng x zi144 (sd_wr x (sd_ad k (sd_hrk x k zi53)) zi144)
            refine sd_istore (ls' := [some (.inr 15), some (.inl M), some (.inl (zi53 : Int)), some (.inl (zi144 : Int)), some (.inl (sd_lk x zi144 (sd_wr x (sd_ad k (sd_hrk x k zi53)) zi144))), none]) sD11_goesOn_164 (by decide) rfl ?_
            refine sd_iload sD11_goesOn_166 rfl ?_
            refine sd_if_lt (tgt := 195) sD11_goesOn_168 (by decide) (fun zc168 => ?_) (fun zc168 => ?_)
            ·
              obtain ⟨m1, hm1⟩ : ∃ z : sd_M, z = m := ⟨m, rfl⟩
              refine sd_iconst sD11_goesOn_195 (by decide) ?_
              have hm1s : ∀ p, p < 6 → m (5400 + p) = (sd_wr x (sd_ad k (sd_hrk x k zi53)) zi144) p := fun p hp => by first | exact hpzi144.1 p hp | (rw [em194, sd_up_ne (by omega), em186, sd_up_ne (by omega)]; exact hpzi144.1 p hp)
              refine sd_istore (ls' := [some (.inr 15), some (.inl M), some (.inl (zi53 : Int)), some (.inl (zi144 : Int)), some (.inl (sd_lk x zi144 (sd_wr x (sd_ad k (sd_hrk x k zi53)) zi144))), some (.inl 0)]) sD11_goesOn_196 (by decide) rfl ?_
              refine sd_forX (6) (fun zi198 : Nat => [some (.inr 15), some (.inl M), some (.inl (zi53 : Int)), some (.inl (zi144 : Int)), some (.inl (sd_lk x zi144 (sd_wr x (sd_ad k (sd_hrk x k zi53)) zi144))), some (.inl (zi198 : Int))]) (fun zi198 : Nat => x) (fun (zi198 : Nat) (m : sd_M) => (∀ p, p < 6 → m (5400 + p) = if sd_lk x zi144 (sd_wr x (sd_ad k (sd_hrk x k zi53)) zi144) = -1 then sd_pt (sd_wr x (sd_ad k (sd_hrk x k zi53)) zi144) (sd_tk x zi144 (sd_wr x (sd_ad k (sd_hrk x k zi53)) zi144)) zi198 p else (sd_wr x (sd_ad k (sd_hrk x k zi53)) zi144) p) ∧ ∀ j, ¬ (5400 ≤ j ∧ j < 5406) → m j = m1 j) (by rfl) (fun zi198 hizi198 m hx hpzi198 ihzi198 => ?_) (fun m hx hpzi198 => ?_) (by exact hx) (by exact ⟨fun p hp => by unfold sd_pt; rw [if_neg (show ¬ p < 0 by omega), ite_self]; exact hm1s p hp, fun j hj => by rw [hm1]⟩)
              ·
                have ern := sd_wr_rr h5 (sd_ad_rr hk (sd_hrk_rr h1 h5 hk zi53)) zi144 (by omega) zi198 (by omega)
                have end_ := h5.2 (6 * zi144 + zi198) (by omega)
                refine sd_iload sD11_goesOn_198 rfl ?_
                refine sd_bipush sD11_goesOn_200 rfl (by decide) ?_
                refine sd_icmp_ge (tgt := 242) sD11_goesOn_202 (by decide) (fun zc202 => (by exfalso; omega)) (fun zc202 => ?_)
                refine sd_iload sD11_goesOn_205 rfl ?_
                refine sd_if_ge (tgt := 242) sD11_goesOn_207 (by decide) (fun zc207 => ?_) (fun zc207 => ?_)
                ·
                  refine sd_iinc (y := ((zi144 : Int) + 1)) (ls' := [some (.inr 15), some (.inl M), some (.inl (zi53 : Int)), some (.inl ((zi144 : Int) + 1)), some (.inl (sd_lk x zi144 (sd_wr x (sd_ad k (sd_hrk x k zi53)) zi144))), some (.inl (zi198 : Int))]) sD11_goesOn_242 rfl (by omega) (by omega) (by decide) rfl ?_
                  refine sd_goto (tgt := 144) sD11_goesOn_245 (by decide) ?_
                  refine sd_less (ls' := [some (.inr 15), some (.inl M), some (.inl (zi53 : Int)), some (.inl ((zi144 : Int) + 1)), none, none]) ?_ rfl (by intro zi zv zh; rcases zi with _ | _ | _ | _ | _ | _ | zi <;> first | exact zh | cases zh)
                  exact sd_eqw (ls' := [some (.inr 15), some (.inl M), some (.inl (zi53 : Int)), some (.inl ((zi144 + 1 : Nat) : Int)), none, none]) (ihzi144 m (by exact hx) (by exact ⟨fun p hp => by rw [hpzi198.1 p hp]; simp only [sd_wr]; (by_cases z : sd_lk x zi144 (sd_wr x (sd_ad k (sd_hrk x k zi53)) zi144) = -1); (first | (rw [if_pos z, if_pos z]; unfold sd_pt; rw [if_pos hp]; done) | (exfalso; omega) | (simp only [if_pos z]; unfold sd_pt; simp [hp])); (rw [if_neg z, if_neg z]), sd_goE (by omega) hpzi144.2 hpzi198.2 (by rw [hm1]; first | exact esl.no (fun q => q (by omega)) | exact esl.old (by omega) | exact esl.new (by omega) (show ¬ sd_lk x zi144 (sd_wr x (sd_ad k (sd_hrk x k zi53)) zi144) = -1 by omega) (by rw [em194, sd_up_ne (by omega), em186, sd_up_eq]) (by rw [em194, sd_up_eq]; rfl)) (fun v hv6 hvz => by rw [hm1]; first | exact ⟨rfl, rfl⟩ | exact ⟨by rw [em194, sd_up_ne (by omega), em186, sd_up_ne (by omega)], by rw [em194, sd_up_ne (by omega), em186, sd_up_ne (by omega)]⟩)⟩)) (sd_cg rfl (sd_cg rfl (sd_cg rfl (sd_cg (sd_ce (show (((zi144 : Int) + 1) : Int) = ((zi144 + 1 : Nat) : Int) from by omega)) (sd_cg rfl (sd_cg rfl rfl)))))) rfl
                ·
                  refine sd_aload_n sD11_goesOn_210 rfl ?_
                  refine sd_getfr sD11_goesOn_211 sF11_22 sGM15_6 ?_
                  refine sd_iload sD11_goesOn_214 rfl ?_
                  refine sd_dup2 sD11_goesOn_216 ?_
                  refine sd_iald (a := (5400 + zi198)) sD11_goesOn_217 sAM4 (by omega) ?_
                  rw [show m (5400 + zi198) = (sd_wr x (sd_ad k (sd_hrk x k zi53)) zi144) zi198 from (by rw [hpzi198.1 zi198 (by omega), if_pos (by omega)]; unfold sd_pt; rw [if_neg (by omega)])]
                  refine sd_aload_n sD11_goesOn_218 rfl ?_
                  refine sd_getfr sD11_goesOn_219 sF11_7 sGM15_0 ?_
                  refine sd_sipush sD11_goesOn_222 rfl (by decide) ?_
                  refine sd_bipush sD11_goesOn_225 rfl (by decide) ?_
                  refine sd_iload_n sD11_goesOn_227 rfl ?_
                  refine sd_imul (z := (6 * (zi144 : Int))) sD11_goesOn_228 (by omega) (by omega) ?_
                  refine sd_iadd (z := (392 + (6 * (zi144 : Int)))) sD11_goesOn_229 (by omega) (by omega) ?_
                  refine sd_iload sD11_goesOn_230 rfl ?_
                  refine sd_iadd (z := ((392 + (6 * (zi144 : Int))) + (zi198 : Int))) sD11_goesOn_232 (by omega) (by omega) ?_
                  refine sd_ialdx (a := (392 + (6 * zi144 + zi198))) (v := x (392 + (6 * zi144 + zi198))) hx sD11_goesOn_233 sAM0 (by omega) rfl ?_
                  refine sd_isub (z := ((sd_wr x (sd_ad k (sd_hrk x k zi53)) zi144) zi198 - (x (392 + (6 * zi144 + zi198))))) sD11_goesOn_234 (by omega) (by omega) ?_
                  refine sd_iastc (a := (5400 + zi198)) sd_sokM hx sD11_goesOn_235 sAM4 (by omega) (fun m hx em235 => ?_)
                  refine sd_iinc (y := ((zi198 : Int) + 1)) (ls' := [some (.inr 15), some (.inl M), some (.inl (zi53 : Int)), some (.inl (zi144 : Int)), some (.inl (sd_lk x zi144 (sd_wr x (sd_ad k (sd_hrk x k zi53)) zi144))), some (.inl ((zi198 : Int) + 1))]) sD11_goesOn_236 rfl (by omega) (by omega) (by decide) rfl ?_
                  refine sd_goto (tgt := 198) sD11_goesOn_239 (by decide) ?_
                  exact sd_eqw (ls' := [some (.inr 15), some (.inl M), some (.inl (zi53 : Int)), some (.inl (zi144 : Int)), some (.inl (sd_lk x zi144 (sd_wr x (sd_ad k (sd_hrk x k zi53)) zi144))), some (.inl ((zi198 + 1 : Nat) : Int))]) (ihzi198 m (by exact hx) (by exact ⟨fun p hp => by rw [if_pos (by omega)]; exact sd_row_F (f := sd_pt (sd_wr x (sd_ad k (sd_hrk x k zi53)) zi144) (sd_tk x zi144 (sd_wr x (sd_ad k (sd_hrk x k zi53)) zi144)) zi198) (fun g hg => by rw [hpzi198.1 g hg, if_pos (by omega)]) em235 (by unfold sd_pt sd_tk; rw [if_pos (by omega)]) (fun g hg hn => by unfold sd_pt; rw [sd_itec (show g < zi198 + 1 ↔ g < zi198 by omega)]) p hp, fun j hj => by rw [em235, sd_up_ne (by omega)]; exact hpzi198.2 j hj⟩)) (sd_cg rfl (sd_cg rfl (sd_cg rfl (sd_cg rfl (sd_cg rfl (sd_cg (sd_ce (show (((zi198 : Int) + 1) : Int) = ((zi198 + 1 : Nat) : Int) from by omega)) rfl)))))) rfl
              ·
                show sd_Wp sd_SM 1 sY11_goesOn 198 [some (.inr 15), some (.inl M), some (.inl (zi53 : Int)), some (.inl (zi144 : Int)), some (.inl (sd_lk x zi144 (sd_wr x (sd_ad k (sd_hrk x k zi53)) zi144))), some (.inl (6 : Int))] [] m _
                refine sd_iload sD11_goesOn_198 rfl ?_
                refine sd_bipush sD11_goesOn_200 rfl (by decide) ?_
                refine sd_icmp_ge (tgt := 242) sD11_goesOn_202 (by decide) (fun zc202 => ?_) (fun zc202 => (by exfalso; omega))
                refine sd_iinc (y := ((zi144 : Int) + 1)) (ls' := [some (.inr 15), some (.inl M), some (.inl (zi53 : Int)), some (.inl ((zi144 : Int) + 1)), some (.inl (sd_lk x zi144 (sd_wr x (sd_ad k (sd_hrk x k zi53)) zi144))), some (.inl (6 : Int))]) sD11_goesOn_242 rfl (by omega) (by omega) (by decide) rfl ?_
                refine sd_goto (tgt := 144) sD11_goesOn_245 (by decide) ?_
                refine sd_less (ls' := [some (.inr 15), some (.inl M), some (.inl (zi53 : Int)), some (.inl ((zi144 : Int) + 1)), none, none]) ?_ rfl (by intro zi zv zh; rcases zi with _ | _ | _ | _ | _ | _ | zi <;> first | exact zh | cases zh)
                exact sd_eqw (ls' := [some (.inr 15), some (.inl M), some (.inl (zi53 : Int)), some (.inl ((zi144 + 1 : Nat) : Int)), none, none]) (ihzi144 m (by exact hx) (by exact ⟨fun p hp => by rw [hpzi198.1 p hp]; simp only [sd_wr]; (by_cases z : sd_lk x zi144 (sd_wr x (sd_ad k (sd_hrk x k zi53)) zi144) = -1); (first | (rw [if_pos z, if_pos z]; unfold sd_pt; rw [if_pos hp]; done) | (exfalso; omega) | (simp only [if_pos z]; unfold sd_pt; simp [hp])); (rw [if_neg z, if_neg z]), sd_goE (by omega) hpzi144.2 hpzi198.2 (by rw [hm1]; first | exact esl.no (fun q => q (by omega)) | exact esl.old (by omega) | exact esl.new (by omega) (show ¬ sd_lk x zi144 (sd_wr x (sd_ad k (sd_hrk x k zi53)) zi144) = -1 by omega) (by rw [em194, sd_up_ne (by omega), em186, sd_up_eq]) (by rw [em194, sd_up_eq]; rfl)) (fun v hv6 hvz => by rw [hm1]; first | exact ⟨rfl, rfl⟩ | exact ⟨by rw [em194, sd_up_ne (by omega), em186, sd_up_ne (by omega)], by rw [em194, sd_up_ne (by omega), em186, sd_up_ne (by omega)]⟩)⟩)) (sd_cg rfl (sd_cg rfl (sd_cg rfl (sd_cg (sd_ce (show (((zi144 : Int) + 1) : Int) = ((zi144 + 1 : Nat) : Int) from by omega)) (sd_cg rfl (sd_cg rfl rfl)))))) rfl
            ·
              refine sd_aload_n sD11_goesOn_171 rfl ?_
              refine sd_getfr sD11_goesOn_172 sF11_25 sGM15_7 ?_
              refine sd_iload_n sD11_goesOn_175 rfl ?_
              refine sd_iald (a := (5410 + zi144)) sD11_goesOn_176 sAM5 (by omega) ?_
              refine sd_if_ge (tgt := 195) sD11_goesOn_177 (by decide) (fun zc177 => ?_) (fun zc177 => ?_)
              ·
                obtain ⟨m1, hm1⟩ : ∃ z : sd_M, z = m := ⟨m, rfl⟩
                refine sd_iconst sD11_goesOn_195 (by decide) ?_
                have hm1s : ∀ p, p < 6 → m (5400 + p) = (sd_wr x (sd_ad k (sd_hrk x k zi53)) zi144) p := fun p hp => by first | exact hpzi144.1 p hp | (rw [em194, sd_up_ne (by omega), em186, sd_up_ne (by omega)]; exact hpzi144.1 p hp)
                refine sd_istore (ls' := [some (.inr 15), some (.inl M), some (.inl (zi53 : Int)), some (.inl (zi144 : Int)), some (.inl (sd_lk x zi144 (sd_wr x (sd_ad k (sd_hrk x k zi53)) zi144))), some (.inl 0)]) sD11_goesOn_196 (by decide) rfl ?_
                refine sd_forX (6) (fun zi198 : Nat => [some (.inr 15), some (.inl M), some (.inl (zi53 : Int)), some (.inl (zi144 : Int)), some (.inl (sd_lk x zi144 (sd_wr x (sd_ad k (sd_hrk x k zi53)) zi144))), some (.inl (zi198 : Int))]) (fun zi198 : Nat => x) (fun (zi198 : Nat) (m : sd_M) => (∀ p, p < 6 → m (5400 + p) = if sd_lk x zi144 (sd_wr x (sd_ad k (sd_hrk x k zi53)) zi144) = -1 then sd_pt (sd_wr x (sd_ad k (sd_hrk x k zi53)) zi144) (sd_tk x zi144 (sd_wr x (sd_ad k (sd_hrk x k zi53)) zi144)) zi198 p else (sd_wr x (sd_ad k (sd_hrk x k zi53)) zi144) p) ∧ ∀ j, ¬ (5400 ≤ j ∧ j < 5406) → m j = m1 j) (by rfl) (fun zi198 hizi198 m hx hpzi198 ihzi198 => ?_) (fun m hx hpzi198 => ?_) (by exact hx) (by exact ⟨fun p hp => by unfold sd_pt; rw [if_neg (show ¬ p < 0 by omega), ite_self]; exact hm1s p hp, fun j hj => by rw [hm1]⟩)
                ·
                  have ern := sd_wr_rr h5 (sd_ad_rr hk (sd_hrk_rr h1 h5 hk zi53)) zi144 (by omega) zi198 (by omega)
                  have end_ := h5.2 (6 * zi144 + zi198) (by omega)
                  refine sd_iload sD11_goesOn_198 rfl ?_
                  refine sd_bipush sD11_goesOn_200 rfl (by decide) ?_
                  refine sd_icmp_ge (tgt := 242) sD11_goesOn_202 (by decide) (fun zc202 => (by exfalso; omega)) (fun zc202 => ?_)
                  refine sd_iload sD11_goesOn_205 rfl ?_
                  refine sd_if_ge (tgt := 242) sD11_goesOn_207 (by decide) (fun zc207 => ?_) (fun zc207 => ?_)
                  ·
                    refine sd_iinc (y := ((zi144 : Int) + 1)) (ls' := [some (.inr 15), some (.inl M), some (.inl (zi53 : Int)), some (.inl ((zi144 : Int) + 1)), some (.inl (sd_lk x zi144 (sd_wr x (sd_ad k (sd_hrk x k zi53)) zi144))), some (.inl (zi198 : Int))]) sD11_goesOn_242 rfl (by omega) (by omega) (by decide) rfl ?_
                    refine sd_goto (tgt := 144) sD11_goesOn_245 (by decide) ?_
                    refine sd_less (ls' := [some (.inr 15), some (.inl M), some (.inl (zi53 : Int)), some (.inl ((zi144 : Int) + 1)), none, none]) ?_ rfl (by intro zi zv zh; rcases zi with _ | _ | _ | _ | _ | _ | zi <;> first | exact zh | cases zh)
                    exact sd_eqw (ls' := [some (.inr 15), some (.inl M), some (.inl (zi53 : Int)), some (.inl ((zi144 + 1 : Nat) : Int)), none, none]) (ihzi144 m (by exact hx) (by exact ⟨fun p hp => by rw [hpzi198.1 p hp]; simp only [sd_wr]; (by_cases z : sd_lk x zi144 (sd_wr x (sd_ad k (sd_hrk x k zi53)) zi144) = -1); (first | (rw [if_pos z, if_pos z]; unfold sd_pt; rw [if_pos hp]; done) | (exfalso; omega) | (simp only [if_pos z]; unfold sd_pt; simp [hp])); (rw [if_neg z, if_neg z]), sd_goE (by omega) hpzi144.2 hpzi198.2 (by rw [hm1]; first | exact esl.no (fun q => q (by omega)) | exact esl.old (by omega) | exact esl.new (by omega) (show ¬ sd_lk x zi144 (sd_wr x (sd_ad k (sd_hrk x k zi53)) zi144) = -1 by omega) (by rw [em194, sd_up_ne (by omega), em186, sd_up_eq]) (by rw [em194, sd_up_eq]; rfl)) (fun v hv6 hvz => by rw [hm1]; first | exact ⟨rfl, rfl⟩ | exact ⟨by rw [em194, sd_up_ne (by omega), em186, sd_up_ne (by omega)], by rw [em194, sd_up_ne (by omega), em186, sd_up_ne (by omega)]⟩)⟩)) (sd_cg rfl (sd_cg rfl (sd_cg rfl (sd_cg (sd_ce (show (((zi144 : Int) + 1) : Int) = ((zi144 + 1 : Nat) : Int) from by omega)) (sd_cg rfl (sd_cg rfl rfl)))))) rfl
                  ·
                    refine sd_aload_n sD11_goesOn_210 rfl ?_
                    refine sd_getfr sD11_goesOn_211 sF11_22 sGM15_6 ?_
                    refine sd_iload sD11_goesOn_214 rfl ?_
                    refine sd_dup2 sD11_goesOn_216 ?_
                    refine sd_iald (a := (5400 + zi198)) sD11_goesOn_217 sAM4 (by omega) ?_
                    rw [show m (5400 + zi198) = (sd_wr x (sd_ad k (sd_hrk x k zi53)) zi144) zi198 from (by rw [hpzi198.1 zi198 (by omega), if_pos (by omega)]; unfold sd_pt; rw [if_neg (by omega)])]
                    refine sd_aload_n sD11_goesOn_218 rfl ?_
                    refine sd_getfr sD11_goesOn_219 sF11_7 sGM15_0 ?_
                    refine sd_sipush sD11_goesOn_222 rfl (by decide) ?_
                    refine sd_bipush sD11_goesOn_225 rfl (by decide) ?_
                    refine sd_iload_n sD11_goesOn_227 rfl ?_
                    refine sd_imul (z := (6 * (zi144 : Int))) sD11_goesOn_228 (by omega) (by omega) ?_
                    refine sd_iadd (z := (392 + (6 * (zi144 : Int)))) sD11_goesOn_229 (by omega) (by omega) ?_
                    refine sd_iload sD11_goesOn_230 rfl ?_
                    refine sd_iadd (z := ((392 + (6 * (zi144 : Int))) + (zi198 : Int))) sD11_goesOn_232 (by omega) (by omega) ?_
                    refine sd_ialdx (a := (392 + (6 * zi144 + zi198))) (v := x (392 + (6 * zi144 + zi198))) hx sD11_goesOn_233 sAM0 (by omega) rfl ?_
                    refine sd_isub (z := ((sd_wr x (sd_ad k (sd_hrk x k zi53)) zi144) zi198 - (x (392 + (6 * zi144 + zi198))))) sD11_goesOn_234 (by omega) (by omega) ?_
                    refine sd_iastc (a := (5400 + zi198)) sd_sokM hx sD11_goesOn_235 sAM4 (by omega) (fun m hx em235 => ?_)
                    refine sd_iinc (y := ((zi198 : Int) + 1)) (ls' := [some (.inr 15), some (.inl M), some (.inl (zi53 : Int)), some (.inl (zi144 : Int)), some (.inl (sd_lk x zi144 (sd_wr x (sd_ad k (sd_hrk x k zi53)) zi144))), some (.inl ((zi198 : Int) + 1))]) sD11_goesOn_236 rfl (by omega) (by omega) (by decide) rfl ?_
                    refine sd_goto (tgt := 198) sD11_goesOn_239 (by decide) ?_
                    exact sd_eqw (ls' := [some (.inr 15), some (.inl M), some (.inl (zi53 : Int)), some (.inl (zi144 : Int)), some (.inl (sd_lk x zi144 (sd_wr x (sd_ad k (sd_hrk x k zi53)) zi144))), some (.inl ((zi198 + 1 : Nat) : Int))]) (ihzi198 m (by exact hx) (by exact ⟨fun p hp => by rw [if_pos (by omega)]; exact sd_row_F (f := sd_pt (sd_wr x (sd_ad k (sd_hrk x k zi53)) zi144) (sd_tk x zi144 (sd_wr x (sd_ad k (sd_hrk x k zi53)) zi144)) zi198) (fun g hg => by rw [hpzi198.1 g hg, if_pos (by omega)]) em235 (by unfold sd_pt sd_tk; rw [if_pos (by omega)]) (fun g hg hn => by unfold sd_pt; rw [sd_itec (show g < zi198 + 1 ↔ g < zi198 by omega)]) p hp, fun j hj => by rw [em235, sd_up_ne (by omega)]; exact hpzi198.2 j hj⟩)) (sd_cg rfl (sd_cg rfl (sd_cg rfl (sd_cg rfl (sd_cg rfl (sd_cg (sd_ce (show (((zi198 : Int) + 1) : Int) = ((zi198 + 1 : Nat) : Int) from by omega)) rfl)))))) rfl
                ·
                  show sd_Wp sd_SM 1 sY11_goesOn 198 [some (.inr 15), some (.inl M), some (.inl (zi53 : Int)), some (.inl (zi144 : Int)), some (.inl (sd_lk x zi144 (sd_wr x (sd_ad k (sd_hrk x k zi53)) zi144))), some (.inl (6 : Int))] [] m _
                  refine sd_iload sD11_goesOn_198 rfl ?_
                  refine sd_bipush sD11_goesOn_200 rfl (by decide) ?_
                  refine sd_icmp_ge (tgt := 242) sD11_goesOn_202 (by decide) (fun zc202 => ?_) (fun zc202 => (by exfalso; omega))
                  refine sd_iinc (y := ((zi144 : Int) + 1)) (ls' := [some (.inr 15), some (.inl M), some (.inl (zi53 : Int)), some (.inl ((zi144 : Int) + 1)), some (.inl (sd_lk x zi144 (sd_wr x (sd_ad k (sd_hrk x k zi53)) zi144))), some (.inl (6 : Int))]) sD11_goesOn_242 rfl (by omega) (by omega) (by decide) rfl ?_
                  refine sd_goto (tgt := 144) sD11_goesOn_245 (by decide) ?_
                  refine sd_less (ls' := [some (.inr 15), some (.inl M), some (.inl (zi53 : Int)), some (.inl ((zi144 : Int) + 1)), none, none]) ?_ rfl (by intro zi zv zh; rcases zi with _ | _ | _ | _ | _ | _ | zi <;> first | exact zh | cases zh)
                  exact sd_eqw (ls' := [some (.inr 15), some (.inl M), some (.inl (zi53 : Int)), some (.inl ((zi144 + 1 : Nat) : Int)), none, none]) (ihzi144 m (by exact hx) (by exact ⟨fun p hp => by rw [hpzi198.1 p hp]; simp only [sd_wr]; (by_cases z : sd_lk x zi144 (sd_wr x (sd_ad k (sd_hrk x k zi53)) zi144) = -1); (first | (rw [if_pos z, if_pos z]; unfold sd_pt; rw [if_pos hp]; done) | (exfalso; omega) | (simp only [if_pos z]; unfold sd_pt; simp [hp])); (rw [if_neg z, if_neg z]), sd_goE (by omega) hpzi144.2 hpzi198.2 (by rw [hm1]; first | exact esl.no (fun q => q (by omega)) | exact esl.old (by omega) | exact esl.new (by omega) (show ¬ sd_lk x zi144 (sd_wr x (sd_ad k (sd_hrk x k zi53)) zi144) = -1 by omega) (by rw [em194, sd_up_ne (by omega), em186, sd_up_eq]) (by rw [em194, sd_up_eq]; rfl)) (fun v hv6 hvz => by rw [hm1]; first | exact ⟨rfl, rfl⟩ | exact ⟨by rw [em194, sd_up_ne (by omega), em186, sd_up_ne (by omega)], by rw [em194, sd_up_ne (by omega), em186, sd_up_ne (by omega)]⟩)⟩)) (sd_cg rfl (sd_cg rfl (sd_cg rfl (sd_cg (sd_ce (show (((zi144 : Int) + 1) : Int) = ((zi144 + 1 : Nat) : Int) from by omega)) (sd_cg rfl (sd_cg rfl rfl)))))) rfl
              ·
                refine sd_aload_n sD11_goesOn_180 rfl ?_
                refine sd_getfr sD11_goesOn_181 sF11_25 sGM15_7 ?_
                refine sd_iload_n sD11_goesOn_184 rfl ?_
                refine sd_iload_n sD11_goesOn_185 rfl ?_
                refine sd_iastc (a := (5410 + zi144)) sd_sokM hx sD11_goesOn_186 sAM5 (by omega) (fun m hx em186 => ?_)
                refine sd_aload_n sD11_goesOn_187 rfl ?_
                refine sd_getfr sD11_goesOn_188 sF11_28 sGM15_8 ?_
                refine sd_iload_n sD11_goesOn_191 rfl ?_
                refine sd_iload sD11_goesOn_192 rfl ?_
                refine sd_iastc (a := (5420 + zi144)) sd_sokM hx sD11_goesOn_194 sAM6 (by omega) (fun m hx em194 => ?_)
                obtain ⟨m1, hm1⟩ : ∃ z : sd_M, z = m := ⟨m, rfl⟩
                refine sd_iconst sD11_goesOn_195 (by decide) ?_
                have hm1s : ∀ p, p < 6 → m (5400 + p) = (sd_wr x (sd_ad k (sd_hrk x k zi53)) zi144) p := fun p hp => by first | exact hpzi144.1 p hp | (rw [em194, sd_up_ne (by omega), em186, sd_up_ne (by omega)]; exact hpzi144.1 p hp)
                refine sd_istore (ls' := [some (.inr 15), some (.inl M), some (.inl (zi53 : Int)), some (.inl (zi144 : Int)), some (.inl (sd_lk x zi144 (sd_wr x (sd_ad k (sd_hrk x k zi53)) zi144))), some (.inl 0)]) sD11_goesOn_196 (by decide) rfl ?_
                refine sd_forX (6) (fun zi198 : Nat => [some (.inr 15), some (.inl M), some (.inl (zi53 : Int)), some (.inl (zi144 : Int)), some (.inl (sd_lk x zi144 (sd_wr x (sd_ad k (sd_hrk x k zi53)) zi144))), some (.inl (zi198 : Int))]) (fun zi198 : Nat => x) (fun (zi198 : Nat) (m : sd_M) => (∀ p, p < 6 → m (5400 + p) = if sd_lk x zi144 (sd_wr x (sd_ad k (sd_hrk x k zi53)) zi144) = -1 then sd_pt (sd_wr x (sd_ad k (sd_hrk x k zi53)) zi144) (sd_tk x zi144 (sd_wr x (sd_ad k (sd_hrk x k zi53)) zi144)) zi198 p else (sd_wr x (sd_ad k (sd_hrk x k zi53)) zi144) p) ∧ ∀ j, ¬ (5400 ≤ j ∧ j < 5406) → m j = m1 j) (by rfl) (fun zi198 hizi198 m hx hpzi198 ihzi198 => ?_) (fun m hx hpzi198 => ?_) (by exact hx) (by exact ⟨fun p hp => by unfold sd_pt; rw [if_neg (show ¬ p < 0 by omega), ite_self]; exact hm1s p hp, fun j hj => by rw [hm1]⟩)
                ·
                  have ern := sd_wr_rr h5 (sd_ad_rr hk (sd_hrk_rr h1 h5 hk zi53)) zi144 (by omega) zi198 (by omega)
                  have end_ := h5.2 (6 * zi144 + zi198) (by omega)
                  refine sd_iload sD11_goesOn_198 rfl ?_
                  refine sd_bipush sD11_goesOn_200 rfl (by decide) ?_
                  refine sd_icmp_ge (tgt := 242) sD11_goesOn_202 (by decide) (fun zc202 => (by exfalso; omega)) (fun zc202 => ?_)
                  refine sd_iload sD11_goesOn_205 rfl ?_
                  refine sd_if_ge (tgt := 242) sD11_goesOn_207 (by decide) (fun zc207 => ?_) (fun zc207 => ?_)
                  ·
                    refine sd_iinc (y := ((zi144 : Int) + 1)) (ls' := [some (.inr 15), some (.inl M), some (.inl (zi53 : Int)), some (.inl ((zi144 : Int) + 1)), some (.inl (sd_lk x zi144 (sd_wr x (sd_ad k (sd_hrk x k zi53)) zi144))), some (.inl (zi198 : Int))]) sD11_goesOn_242 rfl (by omega) (by omega) (by decide) rfl ?_
                    refine sd_goto (tgt := 144) sD11_goesOn_245 (by decide) ?_
                    refine sd_less (ls' := [some (.inr 15), some (.inl M), some (.inl (zi53 : Int)), some (.inl ((zi144 : Int) + 1)), none, none]) ?_ rfl (by intro zi zv zh; rcases zi with _ | _ | _ | _ | _ | _ | zi <;> first | exact zh | cases zh)
                    exact sd_eqw (ls' := [some (.inr 15), some (.inl M), some (.inl (zi53 : Int)), some (.inl ((zi144 + 1 : Nat) : Int)), none, none]) (ihzi144 m (by exact hx) (by exact ⟨fun p hp => by rw [hpzi198.1 p hp]; simp only [sd_wr]; (by_cases z : sd_lk x zi144 (sd_wr x (sd_ad k (sd_hrk x k zi53)) zi144) = -1); (first | (rw [if_pos z, if_pos z]; unfold sd_pt; rw [if_pos hp]; done) | (exfalso; omega) | (simp only [if_pos z]; unfold sd_pt; simp [hp])); (rw [if_neg z, if_neg z]), sd_goE (by omega) hpzi144.2 hpzi198.2 (by rw [hm1]; first | exact esl.no (fun q => q (by omega)) | exact esl.old (by omega) | exact esl.new (by omega) (show ¬ sd_lk x zi144 (sd_wr x (sd_ad k (sd_hrk x k zi53)) zi144) = -1 by omega) (by rw [em194, sd_up_ne (by omega), em186, sd_up_eq]) (by rw [em194, sd_up_eq]; rfl)) (fun v hv6 hvz => by rw [hm1]; first | exact ⟨rfl, rfl⟩ | exact ⟨by rw [em194, sd_up_ne (by omega), em186, sd_up_ne (by omega)], by rw [em194, sd_up_ne (by omega), em186, sd_up_ne (by omega)]⟩)⟩)) (sd_cg rfl (sd_cg rfl (sd_cg rfl (sd_cg (sd_ce (show (((zi144 : Int) + 1) : Int) = ((zi144 + 1 : Nat) : Int) from by omega)) (sd_cg rfl (sd_cg rfl rfl)))))) rfl
                  ·
                    refine sd_aload_n sD11_goesOn_210 rfl ?_
                    refine sd_getfr sD11_goesOn_211 sF11_22 sGM15_6 ?_
                    refine sd_iload sD11_goesOn_214 rfl ?_
                    refine sd_dup2 sD11_goesOn_216 ?_
                    refine sd_iald (a := (5400 + zi198)) sD11_goesOn_217 sAM4 (by omega) ?_
                    rw [show m (5400 + zi198) = (sd_wr x (sd_ad k (sd_hrk x k zi53)) zi144) zi198 from (by rw [hpzi198.1 zi198 (by omega), if_pos (by omega)]; unfold sd_pt; rw [if_neg (by omega)])]
                    refine sd_aload_n sD11_goesOn_218 rfl ?_
                    refine sd_getfr sD11_goesOn_219 sF11_7 sGM15_0 ?_
                    refine sd_sipush sD11_goesOn_222 rfl (by decide) ?_
                    refine sd_bipush sD11_goesOn_225 rfl (by decide) ?_
                    refine sd_iload_n sD11_goesOn_227 rfl ?_
                    refine sd_imul (z := (6 * (zi144 : Int))) sD11_goesOn_228 (by omega) (by omega) ?_
                    refine sd_iadd (z := (392 + (6 * (zi144 : Int)))) sD11_goesOn_229 (by omega) (by omega) ?_
                    refine sd_iload sD11_goesOn_230 rfl ?_
                    refine sd_iadd (z := ((392 + (6 * (zi144 : Int))) + (zi198 : Int))) sD11_goesOn_232 (by omega) (by omega) ?_
                    refine sd_ialdx (a := (392 + (6 * zi144 + zi198))) (v := x (392 + (6 * zi144 + zi198))) hx sD11_goesOn_233 sAM0 (by omega) rfl ?_
                    refine sd_isub (z := ((sd_wr x (sd_ad k (sd_hrk x k zi53)) zi144) zi198 - (x (392 + (6 * zi144 + zi198))))) sD11_goesOn_234 (by omega) (by omega) ?_
                    refine sd_iastc (a := (5400 + zi198)) sd_sokM hx sD11_goesOn_235 sAM4 (by omega) (fun m hx em235 => ?_)
                    refine sd_iinc (y := ((zi198 : Int) + 1)) (ls' := [some (.inr 15), some (.inl M), some (.inl (zi53 : Int)), some (.inl (zi144 : Int)), some (.inl (sd_lk x zi144 (sd_wr x (sd_ad k (sd_hrk x k zi53)) zi144))), some (.inl ((zi198 : Int) + 1))]) sD11_goesOn_236 rfl (by omega) (by omega) (by decide) rfl ?_
                    refine sd_goto (tgt := 198) sD11_goesOn_239 (by decide) ?_
                    exact sd_eqw (ls' := [some (.inr 15), some (.inl M), some (.inl (zi53 : Int)), some (.inl (zi144 : Int)), some (.inl (sd_lk x zi144 (sd_wr x (sd_ad k (sd_hrk x k zi53)) zi144))), some (.inl ((zi198 + 1 : Nat) : Int))]) (ihzi198 m (by exact hx) (by exact ⟨fun p hp => by rw [if_pos (by omega)]; exact sd_row_F (f := sd_pt (sd_wr x (sd_ad k (sd_hrk x k zi53)) zi144) (sd_tk x zi144 (sd_wr x (sd_ad k (sd_hrk x k zi53)) zi144)) zi198) (fun g hg => by rw [hpzi198.1 g hg, if_pos (by omega)]) em235 (by unfold sd_pt sd_tk; rw [if_pos (by omega)]) (fun g hg hn => by unfold sd_pt; rw [sd_itec (show g < zi198 + 1 ↔ g < zi198 by omega)]) p hp, fun j hj => by rw [em235, sd_up_ne (by omega)]; exact hpzi198.2 j hj⟩)) (sd_cg rfl (sd_cg rfl (sd_cg rfl (sd_cg rfl (sd_cg rfl (sd_cg (sd_ce (show (((zi198 : Int) + 1) : Int) = ((zi198 + 1 : Nat) : Int) from by omega)) rfl)))))) rfl
                ·
                  show sd_Wp sd_SM 1 sY11_goesOn 198 [some (.inr 15), some (.inl M), some (.inl (zi53 : Int)), some (.inl (zi144 : Int)), some (.inl (sd_lk x zi144 (sd_wr x (sd_ad k (sd_hrk x k zi53)) zi144))), some (.inl (6 : Int))] [] m _
                  refine sd_iload sD11_goesOn_198 rfl ?_
                  refine sd_bipush sD11_goesOn_200 rfl (by decide) ?_
                  refine sd_icmp_ge (tgt := 242) sD11_goesOn_202 (by decide) (fun zc202 => ?_) (fun zc202 => (by exfalso; omega))
                  refine sd_iinc (y := ((zi144 : Int) + 1)) (ls' := [some (.inr 15), some (.inl M), some (.inl (zi53 : Int)), some (.inl ((zi144 : Int) + 1)), some (.inl (sd_lk x zi144 (sd_wr x (sd_ad k (sd_hrk x k zi53)) zi144))), some (.inl (6 : Int))]) sD11_goesOn_242 rfl (by omega) (by omega) (by decide) rfl ?_
                  refine sd_goto (tgt := 144) sD11_goesOn_245 (by decide) ?_
                  refine sd_less (ls' := [some (.inr 15), some (.inl M), some (.inl (zi53 : Int)), some (.inl ((zi144 : Int) + 1)), none, none]) ?_ rfl (by intro zi zv zh; rcases zi with _ | _ | _ | _ | _ | _ | zi <;> first | exact zh | cases zh)
                  exact sd_eqw (ls' := [some (.inr 15), some (.inl M), some (.inl (zi53 : Int)), some (.inl ((zi144 + 1 : Nat) : Int)), none, none]) (ihzi144 m (by exact hx) (by exact ⟨fun p hp => by rw [hpzi198.1 p hp]; simp only [sd_wr]; (by_cases z : sd_lk x zi144 (sd_wr x (sd_ad k (sd_hrk x k zi53)) zi144) = -1); (first | (rw [if_pos z, if_pos z]; unfold sd_pt; rw [if_pos hp]; done) | (exfalso; omega) | (simp only [if_pos z]; unfold sd_pt; simp [hp])); (rw [if_neg z, if_neg z]), sd_goE (by omega) hpzi144.2 hpzi198.2 (by rw [hm1]; first | exact esl.no (fun q => q (by omega)) | exact esl.old (by omega) | exact esl.new (by omega) (show ¬ sd_lk x zi144 (sd_wr x (sd_ad k (sd_hrk x k zi53)) zi144) = -1 by omega) (by rw [em194, sd_up_ne (by omega), em186, sd_up_eq]) (by rw [em194, sd_up_eq]; rfl)) (fun v hv6 hvz => by rw [hm1]; first | exact ⟨rfl, rfl⟩ | exact ⟨by rw [em194, sd_up_ne (by omega), em186, sd_up_ne (by omega)], by rw [em194, sd_up_ne (by omega), em186, sd_up_ne (by omega)]⟩)⟩)) (sd_cg rfl (sd_cg rfl (sd_cg rfl (sd_cg (sd_ce (show (((zi144 : Int) + 1) : Int) = ((zi144 + 1 : Nat) : Int) from by omega)) (sd_cg rfl (sd_cg rfl rfl)))))) rfl
          ·
            show sd_Wp sd_SM 1 sY11_goesOn 144 [some (.inr 15), some (.inl M), some (.inl (zi53 : Int)), some (.inl ((((x 4).toNat) : Nat) : Int)), none, none] [] m _
            refine sd_iload_n sD11_goesOn_144 rfl ?_
            refine sd_aload_n sD11_goesOn_145 rfl ?_
            refine sd_getfr sD11_goesOn_146 sF11_7 sGM15_0 ?_
            refine sd_iconst sD11_goesOn_149 (by decide) ?_
            refine sd_ialdx (a := 4) (v := x 4) hx sD11_goesOn_150 sAM0 (by omega) rfl ?_
            refine sd_icmp_ge (tgt := 248) sD11_goesOn_151 (by decide) (fun zc151 => ?_) (fun zc151 => (by exfalso; omega))
            refine sd_iinc (y := ((zi53 : Int) + 1)) (ls' := [some (.inr 15), some (.inl M), some (.inl ((zi53 : Int) + 1)), some (.inl ((((x 4).toNat) : Nat) : Int)), none, none]) sD11_goesOn_248 rfl (by omega) (by omega) (by decide) rfl ?_
            refine sd_goto (tgt := 53) sD11_goesOn_251 (by decide) ?_
            refine sd_less (ls' := [some (.inr 15), some (.inl M), some (.inl ((zi53 : Int) + 1)), none, none, none]) ?_ rfl (by intro zi zv zh; rcases zi with _ | _ | _ | _ | _ | _ | zi <;> first | exact zh | cases zh)
            exact sd_eqw (ls' := [some (.inr 15), some (.inl M), some (.inl ((zi53 + 1 : Nat) : Int)), none, none, none]) (ihzi53 m (by exact hx) (by exact ⟨hpzi144.1, fun w hw => by have := hpzi144.2 w hw; rw [if_pos hw] at this; exact this⟩)) (sd_cg rfl (sd_cg rfl (sd_cg (sd_ce (show (((zi53 : Int) + 1) : Int) = ((zi53 + 1 : Nat) : Int) from by omega)) (sd_cg rfl (sd_cg rfl (sd_cg rfl rfl)))))) rfl
      ·
        show sd_Wp sd_SM 1 sY11_goesOn 53 [some (.inr 15), some (.inl M), some (.inl (48 : Int)), none, none, none] [] m _
        refine sd_iload_n sD11_goesOn_53 rfl ?_
        refine sd_bipush sD11_goesOn_54 rfl (by decide) ?_
        refine sd_icmp_ge (tgt := 254) sD11_goesOn_56 (by decide) (fun zc56 => ?_) (fun zc56 => (by exfalso; omega))
        refine sd_vreturn sD11_goesOn_254 rfl (fun hm => ?_)
        exact ⟨rfl, hx, hpzi53.2⟩
