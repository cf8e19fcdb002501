set_option maxRecDepth 100000 in
set_option maxHeartbeats 4000000 in
theorem cM_sets (M : Int) (x m : sd_M) (hx : sd_ns x m) (h1 : sd_I1 x) (h2 : sd_I2 x) (h7 : sd_I7 x) : sd_Ct sd_SM 0 sY11_sets [.inr 15, .inl M] m (fun r m' => r = none ∧ sd_ns x m' ∧ ∀ g, g < 24 → m' (5550 + g) = sd_sqd x (sd_or (sd_tho x) M) g) := by
  obtain ⟨cr, hcr⟩ : ∃ cr, cr = sd_crk x (sd_or (sd_tho x) M) (x 6).toNat := ⟨_, rfl⟩
  unfold sd_sqd
  rw [← hcr]
  refine sd_ct rfl (Nat.le_of_ble_eq_true rfl) (fun hok hm => ?_)
  obtain ⟨⟨i0, j0⟩, ⟨i1, j1⟩, ⟨i2, j2⟩, ⟨i3, j3⟩, ⟨i4, j4⟩, ⟨i5, j5⟩, ⟨i6, j6⟩, ⟨i7, j7⟩, ⟨i8, j8⟩⟩ := id h1
  show sd_Wp sd_SM 0 sY11_sets 0 [some (.inr 15), some (.inl M), none, none, none, none] [] m _
  refine sd_iconst sD11_sets_0 (by decide) ?_
  refine sd_istore_n (ls' := [some (.inr 15), some (.inl M), some (.inl 0), none, none, none]) sD11_sets_1 (by decide) rfl ?_
  refine sd_forX (24) (fun zi2 : Nat => [some (.inr 15), some (.inl M), some (.inl (zi2 : Int)), none, none, none]) (fun zi2 : Nat => x) (fun (zi2 : Nat) (m : sd_M) => (∀ g, g < zi2 → m (5520 + g) = 0) ∧ ∀ g, g < zi2 → m (5550 + g) = 0) (by rfl) (fun zi2 hizi2 m hx hpzi2 ihzi2 => ?_) (fun m hx hpzi2 => ?_) (by exact hx) (by exact ⟨fun g hg => by omega, fun g hg => by omega⟩)
  ·
    refine sd_iload_n sD11_sets_2 rfl ?_
    refine sd_bipush sD11_sets_3 rfl (by decide) ?_
    refine sd_icmp_ge (tgt := 28) sD11_sets_5 (by decide) (fun zc5 => (by exfalso; omega)) (fun zc5 => ?_)
    refine sd_aload_n sD11_sets_8 rfl ?_
    refine sd_getfr sD11_sets_9 sF11_37 sGM15_18 ?_
    refine sd_iload_n sD11_sets_12 rfl ?_
    refine sd_iconst sD11_sets_13 (by decide) ?_
    refine sd_iastc (a := (5520 + zi2)) sd_sokM hx sD11_sets_14 sAM9 (by omega) (fun m hx em14 => ?_)
    refine sd_aload_n sD11_sets_15 rfl ?_
    refine sd_getfr sD11_sets_16 sF11_40 sGM15_19 ?_
    refine sd_iload_n sD11_sets_19 rfl ?_
    refine sd_iconst sD11_sets_20 (by decide) ?_
    refine sd_iastc (a := (5550 + zi2)) sd_sokM hx sD11_sets_21 sAM10 (by omega) (fun m hx em21 => ?_)
    refine sd_iinc (y := ((zi2 : Int) + 1)) (ls' := [some (.inr 15), some (.inl M), some (.inl ((zi2 : Int) + 1)), none, none, none]) sD11_sets_22 rfl (by omega) (by omega) (by decide) rfl ?_
    refine sd_goto (tgt := 2) sD11_sets_25 (by decide) ?_
    exact sd_eqw (ls' := [some (.inr 15), some (.inl M), some (.inl ((zi2 + 1 : Nat) : Int)), none, none, none]) (ihzi2 m (by exact hx) (by refine ⟨fun g hg => ?_, fun g hg => ?_⟩; (rw [em21, em14]; unfold sd_up; rw [if_neg (by omega)]; by_cases q : g = zi2; (rw [if_pos (by omega)]); (rw [if_neg (by omega)]; exact hpzi2.1 g (by omega))); (rw [em21, em14]; unfold sd_up; by_cases q : g = zi2; (rw [if_pos (by omega)]); (rw [if_neg (by omega), if_neg (by omega)]; exact hpzi2.2 g (by omega))))) (sd_cg rfl (sd_cg rfl (sd_cg (sd_ce (show (((zi2 : Int) + 1) : Int) = ((zi2 + 1 : Nat) : Int) from by omega)) (sd_cg rfl (sd_cg rfl (sd_cg rfl rfl)))))) rfl
  ·
    show sd_Wp sd_SM 0 sY11_sets 2 [some (.inr 15), some (.inl M), some (.inl (24 : Int)), none, none, none] [] m _
    refine sd_iload_n sD11_sets_2 rfl ?_
    refine sd_bipush sD11_sets_3 rfl (by decide) ?_
    refine sd_icmp_ge (tgt := 28) sD11_sets_5 (by decide) (fun zc5 => ?_) (fun zc5 => (by exfalso; omega))
    refine sd_iconst sD11_sets_28 (by decide) ?_
    refine sd_istore_n (ls' := [some (.inr 15), some (.inl M), some (.inl 0), none, none, none]) sD11_sets_29 (by decide) rfl ?_
    refine sd_forX ((x 6).toNat) (fun zi30 : Nat => [some (.inr 15), some (.inl M), some (.inl (zi30 : Int)), none, none, none]) (fun zi30 : Nat => x) (fun (zi30 : Nat) (m : sd_M) => (∀ g, g < 24 → m (5550 + g) = 0) ∧ ∀ g, g < 24 → m (5520 + g) = sd_crk x (sd_or (sd_tho x) M) zi30 g) (by rfl) (fun zi30 hizi30 m hx hpzi30 ihzi30 => ?_) (fun m hx hpzi30 => ?_) (by exact hx) (by exact ⟨hpzi2.2, hpzi2.1⟩)
    ·
      refine sd_iload_n sD11_sets_30 rfl ?_
      refine sd_aload_n sD11_sets_31 rfl ?_
      refine sd_getfr sD11_sets_32 sF11_7 sGM15_0 ?_
      refine sd_bipush sD11_sets_35 rfl (by decide) ?_
      refine sd_ialdx (a := 6) (v := x 6) hx sD11_sets_37 sAM0 (by omega) rfl ?_
      refine sd_icmp_ge (tgt := 130) sD11_sets_38 (by decide) (fun zc38 => (by exfalso; omega)) (fun zc38 => ?_)
      refine sd_aload_n sD11_sets_41 rfl ?_
      refine sd_getfr sD11_sets_42 sF11_7 sGM15_0 ?_
      refine sd_sipush sD11_sets_45 rfl (by decide) ?_
      refine sd_iload_n sD11_sets_48 rfl ?_
      refine sd_iadd (z := (1284 + (zi30 : Int))) sD11_sets_49 (by omega) (by omega) ?_
      refine sd_ialdx (a := (1284 + zi30)) (v := x (1284 + zi30)) hx sD11_sets_50 sAM0 (by omega) rfl ?_
      refine sd_iconst sD11_sets_51 (by decide) ?_
      refine sd_cut (J := 69) (ls := [some (.inr 15), some (.inl M), some (.inl (zi30 : Int)), none, none, none]) (st := []) (fun zv => zv = (sd_b ((x (1284 + zi30) = 1) ∨ ((¬ x (1284 + zi30) = 1) ∧ (sd_and (sd_shr M (zi30 : Int)) 1 = 1))))) (fun zv hzv => ?_) (fun K52 => ?_)
      ·
        subst hzv
        refine sd_istore_n (ls' := [some (.inr 15), some (.inl M), some (.inl (zi30 : Int)), some (.inl (sd_b ((x (1284 + zi30) = 1) ∨ ((¬ x (1284 + zi30) = 1) ∧ (sd_and (sd_shr M (zi30 : Int)) 1 = 1))))), none, none]) sD11_sets_69 (by decide) rfl ?_
        refine sd_aload_n sD11_sets_70 rfl ?_
        refine sd_getfr sD11_sets_71 sF11_7 sGM15_0 ?_
        refine sd_sipush sD11_sets_74 rfl (by decide) ?_
        refine sd_iload_n sD11_sets_77 rfl ?_
        refine sd_iadd (z := (1272 + (zi30 : Int))) sD11_sets_78 (by omega) (by omega) ?_
        refine sd_ialdx (a := (1272 + zi30)) (v := x (1272 + zi30)) hx sD11_sets_79 sAM0 (by omega) rfl ?_
        refine sd_istore (ls' := [some (.inr 15), some (.inl M), some (.inl (zi30 : Int)), some (.inl (sd_b ((x (1284 + zi30) = 1) ∨ ((¬ x (1284 + zi30) = 1) ∧ (sd_and (sd_shr M (zi30 : Int)) 1 = 1))))), some (.inl (x (1272 + zi30))), none]) sD11_sets_80 (by decide) rfl ?_
        have e7 := h7 zi30 (by omega)
        have e8 := e7.2.2.2 (by omega)
        have e9 := hpzi30.2 (x (1272 + zi30)).toNat (by omega)
        have e10 := sd_crk_le h7 (sd_or (sd_tho x) M) (x (1272 + zi30)).toNat zi30 (by omega)
        have e11 := sd_tho_bit h1 M (r := zi30) (by omega)
        refine sd_aload_n sD11_sets_82 rfl ?_
        refine sd_getfr sD11_sets_83 sF11_37 sGM15_18 ?_
        refine sd_iload sD11_sets_86 rfl ?_
        refine sd_dup2 sD11_sets_88 ?_
        refine sd_iald (a := (5520 + ((x (1272 + zi30)).toNat))) sD11_sets_89 sAM9 (by omega) ?_
        refine sd_iload_n sD11_sets_90 rfl ?_
        refine sd_bif_eq (tgt := 121) sD11_sets_91 (by decide) (fun zc91 => ?_) (fun zc91 => ?_)
        ·
          refine sd_iconst sD11_sets_121 (by decide) ?_
          refine sd_iadd (z := m (5520 + ((x (1272 + zi30)).toNat))) sD11_sets_122 (by omega) (by omega) ?_
          refine sd_iastc (a := (5520 + ((x (1272 + zi30)).toNat))) sd_sokM hx sD11_sets_123 sAM9 (by omega) (fun m hx em123 => ?_)
          refine sd_iinc (y := ((zi30 : Int) + 1)) (ls' := [some (.inr 15), some (.inl M), some (.inl ((zi30 : Int) + 1)), some (.inl (sd_b ((x (1284 + zi30) = 1) ∨ ((¬ x (1284 + zi30) = 1) ∧ (sd_and (sd_shr M (zi30 : Int)) 1 = 1))))), some (.inl (x (1272 + zi30))), none]) sD11_sets_124 rfl (by omega) (by omega) (by decide) rfl ?_
          refine sd_goto (tgt := 30) sD11_sets_127 (by decide) ?_
          refine sd_less (ls' := [some (.inr 15), some (.inl M), some (.inl ((zi30 : Int) + 1)), none, none, none]) ?_ rfl (by intro zi zv zh; rcases zi with _ | _ | _ | _ | _ | _ | zi <;> first | exact zh | cases zh)
          exact sd_eqw (ls' := [some (.inr 15), some (.inl M), some (.inl ((zi30 + 1 : Nat) : Int)), none, none, none]) (ihzi30 m (by exact hx) (by refine ⟨sd_row_ke hpzi30.1 em123 (by omega), sd_row_up hpzi30.2 em123 (fun g hg => ?_)⟩; unfold sd_crk; simp only [sd_sum]; (by_cases q : g = (x (1272 + zi30)).toNat); (subst q; rw [if_pos rfl, e9]; first | (rw [show sd_fcr x (sd_or (sd_tho x) M) (x (1272 + zi30)).toNat zi30 = x (1278 + zi30) from by unfold sd_fcr; rw [if_pos ⟨⟨e11.mpr (by omega), by omega⟩, rfl⟩]]; rfl) | (rw [show sd_fcr x (sd_or (sd_tho x) M) (x (1272 + zi30)).toNat zi30 = 0 from by unfold sd_fcr; rw [if_neg (fun qq => by have qa := e11.mp qq.1.1; have qb := qq.1.2.2; omega)]]; unfold sd_crk; omega)); (rw [if_neg q]; unfold sd_fcr; rw [if_neg (fun qq => q qq.2.symm)]; omega))) (sd_cg rfl (sd_cg rfl (sd_cg (sd_ce (show (((zi30 : Int) + 1) : Int) = ((zi30 + 1 : Nat) : Int) from by omega)) (sd_cg rfl (sd_cg rfl (sd_cg rfl rfl)))))) rfl
        ·
          refine sd_aload_n sD11_sets_94 rfl ?_
          refine sd_getfr sD11_sets_95 sF11_7 sGM15_0 ?_
          refine sd_sipush sD11_sets_98 rfl (by decide) ?_
          refine sd_iload sD11_sets_101 rfl ?_
          refine sd_iadd (z := (202 + x (1272 + zi30))) sD11_sets_103 (by omega) (by omega) ?_
          refine sd_ialdx (a := (202 + (x (1272 + zi30)).toNat)) (v := x (202 + (x (1272 + zi30)).toNat)) hx sD11_sets_104 sAM0 (by omega) rfl ?_
          refine sd_if_ne (tgt := 121) sD11_sets_105 (by decide) (fun zc105 => ?_) (fun zc105 => ?_)
          ·
            refine sd_iconst sD11_sets_121 (by decide) ?_
            refine sd_iadd (z := m (5520 + ((x (1272 + zi30)).toNat))) sD11_sets_122 (by omega) (by omega) ?_
            refine sd_iastc (a := (5520 + ((x (1272 + zi30)).toNat))) sd_sokM hx sD11_sets_123 sAM9 (by omega) (fun m hx em123 => ?_)
            refine sd_iinc (y := ((zi30 : Int) + 1)) (ls' := [some (.inr 15), some (.inl M), some (.inl ((zi30 : Int) + 1)), some (.inl (sd_b ((x (1284 + zi30) = 1) ∨ ((¬ x (1284 + zi30) = 1) ∧ (sd_and (sd_shr M (zi30 : Int)) 1 = 1))))), some (.inl (x (1272 + zi30))), none]) sD11_sets_124 rfl (by omega) (by omega) (by decide) rfl ?_
            refine sd_goto (tgt := 30) sD11_sets_127 (by decide) ?_
            refine sd_less (ls' := [some (.inr 15), some (.inl M), some (.inl ((zi30 : Int) + 1)), none, none, none]) ?_ rfl (by intro zi zv zh; rcases zi with _ | _ | _ | _ | _ | _ | zi <;> first | exact zh | cases zh)
            exact sd_eqw (ls' := [some (.inr 15), some (.inl M), some (.inl ((zi30 + 1 : Nat) : Int)), none, none, none]) (ihzi30 m (by exact hx) (by refine ⟨sd_row_ke hpzi30.1 em123 (by omega), sd_row_up hpzi30.2 em123 (fun g hg => ?_)⟩; unfold sd_crk; simp only [sd_sum]; (by_cases q : g = (x (1272 + zi30)).toNat); (subst q; rw [if_pos rfl, e9]; first | (rw [show sd_fcr x (sd_or (sd_tho x) M) (x (1272 + zi30)).toNat zi30 = x (1278 + zi30) from by unfold sd_fcr; rw [if_pos ⟨⟨e11.mpr (by omega), by omega⟩, rfl⟩]]; rfl) | (rw [show sd_fcr x (sd_or (sd_tho x) M) (x (1272 + zi30)).toNat zi30 = 0 from by unfold sd_fcr; rw [if_neg (fun qq => by have qa := e11.mp qq.1.1; have qb := qq.1.2.2; omega)]]; unfold sd_crk; omega)); (rw [if_neg q]; unfold sd_fcr; rw [if_neg (fun qq => q qq.2.symm)]; omega))) (sd_cg rfl (sd_cg rfl (sd_cg (sd_ce (show (((zi30 : Int) + 1) : Int) = ((zi30 + 1 : Nat) : Int) from by omega)) (sd_cg rfl (sd_cg rfl (sd_cg rfl rfl)))))) rfl
          ·
            refine sd_aload_n sD11_sets_108 rfl ?_
            refine sd_getfr sD11_sets_109 sF11_7 sGM15_0 ?_
            refine sd_sipush sD11_sets_112 rfl (by decide) ?_
            refine sd_iload_n sD11_sets_115 rfl ?_
            refine sd_iadd (z := (1278 + (zi30 : Int))) sD11_sets_116 (by omega) (by omega) ?_
            refine sd_ialdx (a := (1278 + zi30)) (v := x (1278 + zi30)) hx sD11_sets_117 sAM0 (by omega) rfl ?_
            refine sd_goto (tgt := 122) sD11_sets_118 (by decide) ?_
            refine sd_iadd (z := (m (5520 + ((x (1272 + zi30)).toNat)) + x (1278 + zi30))) sD11_sets_122 (by omega) (by omega) ?_
            refine sd_iastc (a := (5520 + ((x (1272 + zi30)).toNat))) sd_sokM hx sD11_sets_123 sAM9 (by omega) (fun m hx em123 => ?_)
            refine sd_iinc (y := ((zi30 : Int) + 1)) (ls' := [some (.inr 15), some (.inl M), some (.inl ((zi30 : Int) + 1)), some (.inl (sd_b ((x (1284 + zi30) = 1) ∨ ((¬ x (1284 + zi30) = 1) ∧ (sd_and (sd_shr M (zi30 : Int)) 1 = 1))))), some (.inl (x (1272 + zi30))), none]) sD11_sets_124 rfl (by omega) (by omega) (by decide) rfl ?_
            refine sd_goto (tgt := 30) sD11_sets_127 (by decide) ?_
            refine sd_less (ls' := [some (.inr 15), some (.inl M), some (.inl ((zi30 : Int) + 1)), none, none, none]) ?_ rfl (by intro zi zv zh; rcases zi with _ | _ | _ | _ | _ | _ | zi <;> first | exact zh | cases zh)
            exact sd_eqw (ls' := [some (.inr 15), some (.inl M), some (.inl ((zi30 + 1 : Nat) : Int)), none, none, none]) (ihzi30 m (by exact hx) (by refine ⟨sd_row_ke hpzi30.1 em123 (by omega), sd_row_up hpzi30.2 em123 (fun g hg => ?_)⟩; unfold sd_crk; simp only [sd_sum]; (by_cases q : g = (x (1272 + zi30)).toNat); (subst q; rw [if_pos rfl, e9]; first | (rw [show sd_fcr x (sd_or (sd_tho x) M) (x (1272 + zi30)).toNat zi30 = x (1278 + zi30) from by unfold sd_fcr; rw [if_pos ⟨⟨e11.mpr (by omega), by omega⟩, rfl⟩]]; rfl) | (rw [show sd_fcr x (sd_or (sd_tho x) M) (x (1272 + zi30)).toNat zi30 = 0 from by unfold sd_fcr; rw [if_neg (fun qq => by have qa := e11.mp qq.1.1; have qb := qq.1.2.2; omega)]]; unfold sd_crk; omega)); (rw [if_neg q]; unfold sd_fcr; rw [if_neg (fun qq => q qq.2.symm)]; omega))) (sd_cg rfl (sd_cg rfl (sd_cg (sd_ce (show (((zi30 : Int) + 1) : Int) = ((zi30 + 1 : Nat) : Int) from by omega)) (sd_cg rfl (sd_cg rfl (sd_cg rfl rfl)))))) rfl
      ·
        refine sd_icmp_eq (tgt := 64) sD11_sets_52 (by decide) (fun zc52 => ?_) (fun zc52 => ?_)
        ·
          refine sd_iconst sD11_sets_64 (by decide) ?_
          refine sd_goto (tgt := 69) sD11_sets_65 (by decide) ?_
          exact K52 _ (by exact (sd_b1 (by omega)).symm)
        ·
          refine sd_iload_n sD11_sets_55 rfl ?_
          refine sd_iload_n sD11_sets_56 rfl ?_
          refine sd_ishr sD11_sets_57 ?_
          refine sd_iconst sD11_sets_58 (by decide) ?_
          refine sd_iand sD11_sets_59 ?_
          refine sd_iconst sD11_sets_60 (by decide) ?_
          refine sd_icmp_ne (tgt := 68) sD11_sets_61 (by decide) (fun zc61 => ?_) (fun zc61 => ?_)
          ·
            refine sd_iconst sD11_sets_68 (by decide) ?_
            exact K52 _ (by exact (sd_b0 (by omega)).symm)
          ·
            refine sd_iconst sD11_sets_64 (by decide) ?_
            refine sd_goto (tgt := 69) sD11_sets_65 (by decide) ?_
            exact K52 _ (by exact (sd_b1 (by omega)).symm)
    ·
      show sd_Wp sd_SM 0 sY11_sets 30 [some (.inr 15), some (.inl M), some (.inl ((((x 6).toNat) : Nat) : Int)), none, none, none] [] m _
      refine sd_iload_n sD11_sets_30 rfl ?_
      refine sd_aload_n sD11_sets_31 rfl ?_
      refine sd_getfr sD11_sets_32 sF11_7 sGM15_0 ?_
      refine sd_bipush sD11_sets_35 rfl (by decide) ?_
      refine sd_ialdx (a := 6) (v := x 6) hx sD11_sets_37 sAM0 (by omega) rfl ?_
      refine sd_icmp_ge (tgt := 130) sD11_sets_38 (by decide) (fun zc38 => ?_) (fun zc38 => (by exfalso; omega))
      refine sd_iconst sD11_sets_130 (by decide) ?_
      refine sd_istore_n (ls' := [some (.inr 15), some (.inl M), some (.inl 0), none, none, none]) sD11_sets_131 (by decide) rfl ?_
      refine sd_forX ((x 7).toNat) (fun zi132 : Nat => [some (.inr 15), some (.inl M), some (.inl (zi132 : Int)), none, none, none]) (fun zi132 : Nat => x) (fun (zi132 : Nat) (m : sd_M) => (∀ g, g < 24 → m (5520 + g) = cr g) ∧ ∀ g, g < 24 → m (5550 + g) = sd_sqa x cr zi132 g) (by rfl) (fun zi132 hizi132 m hx hpzi132 ihzi132 => ?_) (fun m hx hpzi132 => ?_) (by exact hx) (by rw [hcr]; exact ⟨hpzi30.2, hpzi30.1⟩)
      ·
        have hsab : ∀ g, 0 ≤ sd_sqa x cr zi132 g ∧ sd_sqa x cr zi132 g ≤ 9 := fun g => by have := sd_sqa_rng (x := x) (cr := cr) zi132 g; omega
        have hcrb : ∀ g, 0 ≤ cr g ∧ cr g ≤ 54 := fun g => by rw [hcr]; exact sd_crk_le h7 (sd_or (sd_tho x) M) g _ (by omega)
        refine sd_iload_n sD11_sets_132 rfl ?_
        refine sd_aload_n sD11_sets_133 rfl ?_
        refine sd_getfr sD11_sets_134 sF11_7 sGM15_0 ?_
        refine sd_bipush sD11_sets_137 rfl (by decide) ?_
        refine sd_ialdx (a := 7) (v := x 7) hx sD11_sets_139 sAM0 (by omega) rfl ?_
        refine sd_icmp_ge (tgt := 253) sD11_sets_140 (by decide) (fun zc140 => (by exfalso; omega)) (fun zc140 => ?_)
        refine sd_iconst sD11_sets_143 (by decide) ?_
        refine sd_istore_n (ls' := [some (.inr 15), some (.inl M), some (.inl (zi132 : Int)), some (.inl (-1)), none, none]) sD11_sets_144 (by decide) rfl ?_
        refine sd_iconst sD11_sets_145 (by decide) ?_
        refine sd_istore (ls' := [some (.inr 15), some (.inl M), some (.inl (zi132 : Int)), some (.inl (-1)), some (.inl 0), none]) sD11_sets_146 (by decide) rfl ?_
        refine sd_forE ((x 2).toNat) (fun zi148 : Nat => [some (.inr 15), some (.inl M), some (.inl (zi132 : Int)), some (.inl (sd_mbk cr (sd_sqa x cr zi132) zi148)), some (.inl (zi148 : Int)), none]) (by rfl) (fun zi148 hizi148 ihzi148 => ?_) ?_
        ·
          have e2 := sd_mbk_rng cr (sd_sqa x cr zi132) zi148
          have eA := hpzi132.1 zi148 (by omega)
          have eB := hpzi132.2 zi148 (by omega)
          have eP := sd_mbP_m (c := 5520) (s := 5550) (b := sd_mbk cr (sd_sqa x cr zi132) zi148) (k := zi148) hpzi132.1 hpzi132.2 (by omega) (by omega)
          refine sd_iload sD11_sets_148 rfl ?_
          refine sd_aload_n sD11_sets_150 rfl ?_
          refine sd_getfr sD11_sets_151 sF11_7 sGM15_0 ?_
          refine sd_iconst sD11_sets_154 (by decide) ?_
          refine sd_ialdx (a := 2) (v := x 2) hx sD11_sets_155 sAM0 (by omega) rfl ?_
          refine sd_icmp_ge (tgt := 233) sD11_sets_156 (by decide) (fun zc156 => (by exfalso; omega)) (fun zc156 => ?_)
          refine sd_aload_n sD11_sets_159 rfl ?_
          refine sd_getfr sD11_sets_160 sF11_37 sGM15_18 ?_
          refine sd_iload sD11_sets_163 rfl ?_
          refine sd_iald (a := (5520 + zi148)) sD11_sets_165 sAM9 (by omega) ?_
          refine sd_cut (J := 213) (ls := [some (.inr 15), some (.inl M), some (.inl (zi132 : Int)), some (.inl (sd_mbk cr (sd_sqa x cr zi132) zi148)), some (.inl (zi148 : Int)), none]) (st := []) (fun zv => zv = (sd_b (((0 < m (5520 + zi148)) ∧ (sd_mbk cr (sd_sqa x cr zi132) zi148 < 0)) ∨ ((0 < m (5520 + zi148)) ∧ (0 ≤ sd_mbk cr (sd_sqa x cr zi132) zi148) ∧ (((m (5520 + ((sd_mbk cr (sd_sqa x cr zi132) zi148).toNat))) * (m (5550 + zi148) + 1)) < ((m (5520 + zi148)) * (m (5550 + ((sd_mbk cr (sd_sqa x cr zi132) zi148).toNat)) + 1))))))) (fun zv hzv => ?_) (fun K166 => ?_)
          ·
            subst hzv
            refine sd_istore (ls' := [some (.inr 15), some (.inl M), some (.inl (zi132 : Int)), some (.inl (sd_mbk cr (sd_sqa x cr zi132) zi148)), some (.inl (zi148 : Int)), some (.inl (sd_b (((0 < m (5520 + zi148)) ∧ (sd_mbk cr (sd_sqa x cr zi132) zi148 < 0)) ∨ ((0 < m (5520 + zi148)) ∧ (0 ≤ sd_mbk cr (sd_sqa x cr zi132) zi148) ∧ (((m (5520 + ((sd_mbk cr (sd_sqa x cr zi132) zi148).toNat))) * (m (5550 + zi148) + 1)) < ((m (5520 + zi148)) * (m (5550 + ((sd_mbk cr (sd_sqa x cr zi132) zi148).toNat)) + 1)))))))]) sD11_sets_213 (by decide) rfl ?_
            refine sd_iload sD11_sets_215 rfl ?_
            refine sd_bif_eq (tgt := 225) sD11_sets_217 (by decide) (fun zc217 => ?_) (fun zc217 => ?_)
            ·
              refine sd_iload_n sD11_sets_225 rfl ?_
              refine sd_istore_n (ls' := [some (.inr 15), some (.inl M), some (.inl (zi132 : Int)), some (.inl (sd_mbk cr (sd_sqa x cr zi132) zi148)), some (.inl (zi148 : Int)), some (.inl (sd_b (((0 < m (5520 + zi148)) ∧ (sd_mbk cr (sd_sqa x cr zi132) zi148 < 0)) ∨ ((0 < m (5520 + zi148)) ∧ (0 ≤ sd_mbk cr (sd_sqa x cr zi132) zi148) ∧ (((m (5520 + ((sd_mbk cr (sd_sqa x cr zi132) zi148).toNat))) * (m (5550 + zi148) + 1)) < ((m (5520 + zi148)) * (m (5550 + ((sd_mbk cr (sd_sqa x cr zi132) zi148).toNat)) + 1)))))))]) sD11_sets_226 (by decide) rfl ?_
              refine sd_iinc (y := ((zi148 : Int) + 1)) (ls' := [some (.inr 15), some (.inl M), some (.inl (zi132 : Int)), some (.inl (sd_mbk cr (sd_sqa x cr zi132) zi148)), some (.inl ((zi148 : Int) + 1)), some (.inl (sd_b (((0 < m (5520 + zi148)) ∧ (sd_mbk cr (sd_sqa x cr zi132) zi148 < 0)) ∨ ((0 < m (5520 + zi148)) ∧ (0 ≤ sd_mbk cr (sd_sqa x cr zi132) zi148) ∧ (((m (5520 + ((sd_mbk cr (sd_sqa x cr zi132) zi148).toNat))) * (m (5550 + zi148) + 1)) < ((m (5520 + zi148)) * (m (5550 + ((sd_mbk cr (sd_sqa x cr zi132) zi148).toNat)) + 1)))))))]) sD11_sets_227 rfl (by omega) (by omega) (by decide) rfl ?_
              refine sd_goto (tgt := 148) sD11_sets_230 (by decide) ?_
              refine sd_less (ls' := [some (.inr 15), some (.inl M), some (.inl (zi132 : Int)), some (.inl (sd_mbk cr (sd_sqa x cr zi132) zi148)), some (.inl ((zi148 : Int) + 1)), none]) ?_ rfl (by intro zi zv zh; rcases zi with _ | _ | _ | _ | _ | _ | zi <;> first | exact zh | cases zh)
              exact sd_eqw (ls' := [some (.inr 15), some (.inl M), some (.inl (zi132 : Int)), some (.inl (sd_mbk cr (sd_sqa x cr zi132) (zi148 + 1))), some (.inl ((zi148 + 1 : Nat) : Int)), none]) ihzi148 (sd_cg rfl (sd_cg rfl (sd_cg rfl (sd_cg (sd_ce (show (sd_mbk cr (sd_sqa x cr zi132) zi148 : Int) = sd_mbk cr (sd_sqa x cr zi132) (zi148 + 1) from by simp only [sd_mbk]; first | (rw [if_pos (eP.mpr (by omega))]; done) | (rw [if_neg (fun q => by have q2 := eP.mp q; omega)]; done))) (sd_cg (sd_ce (show (((zi148 : Int) + 1) : Int) = ((zi148 + 1 : Nat) : Int) from by omega)) (sd_cg rfl rfl)))))) rfl
            ·
              refine sd_iload sD11_sets_220 rfl ?_
              refine sd_goto (tgt := 226) sD11_sets_222 (by decide) ?_
              refine sd_istore_n (ls' := [some (.inr 15), some (.inl M), some (.inl (zi132 : Int)), some (.inl (zi148 : Int)), some (.inl (zi148 : Int)), some (.inl (sd_b (((0 < m (5520 + zi148)) ∧ (sd_mbk cr (sd_sqa x cr zi132) zi148 < 0)) ∨ ((0 < m (5520 + zi148)) ∧ (0 ≤ sd_mbk cr (sd_sqa x cr zi132) zi148) ∧ (((m (5520 + ((sd_mbk cr (sd_sqa x cr zi132) zi148).toNat))) * (m (5550 + zi148) + 1)) < ((m (5520 + zi148)) * (m (5550 + ((sd_mbk cr (sd_sqa x cr zi132) zi148).toNat)) + 1)))))))]) sD11_sets_226 (by decide) rfl ?_
              refine sd_iinc (y := ((zi148 : Int) + 1)) (ls' := [some (.inr 15), some (.inl M), some (.inl (zi132 : Int)), some (.inl (zi148 : Int)), some (.inl ((zi148 : Int) + 1)), some (.inl (sd_b (((0 < m (5520 + zi148)) ∧ (sd_mbk cr (sd_sqa x cr zi132) zi148 < 0)) ∨ ((0 < m (5520 + zi148)) ∧ (0 ≤ sd_mbk cr (sd_sqa x cr zi132) zi148) ∧ (((m (5520 + ((sd_mbk cr (sd_sqa x cr zi132) zi148).toNat))) * (m (5550 + zi148) + 1)) < ((m (5520 + zi148)) * (m (5550 + ((sd_mbk cr (sd_sqa x cr zi132) zi148).toNat)) + 1)))))))]) sD11_sets_227 rfl (by omega) (by omega) (by decide) rfl ?_
              refine sd_goto (tgt := 148) sD11_sets_230 (by decide) ?_
              refine sd_less (ls' := [some (.inr 15), some (.inl M), some (.inl (zi132 : Int)), some (.inl (zi148 : Int)), some (.inl ((zi148 : Int) + 1)), none]) ?_ rfl (by intro zi zv zh; rcases zi with _ | _ | _ | _ | _ | _ | zi <;> first | exact zh | cases zh)
              exact sd_eqw (ls' := [some (.inr 15), some (.inl M), some (.inl (zi132 : Int)), some (.inl (sd_mbk cr (sd_sqa x cr zi132) (zi148 + 1))), some (.inl ((zi148 + 1 : Nat) : Int)), none]) ihzi148 (sd_cg rfl (sd_cg rfl (sd_cg rfl (sd_cg (sd_ce (show ((zi148 : Int) : Int) = sd_mbk cr (sd_sqa x cr zi132) (zi148 + 1) from by simp only [sd_mbk]; first | (rw [if_pos (eP.mpr (by omega))]; done) | (rw [if_neg (fun q => by have q2 := eP.mp q; omega)]; done))) (sd_cg (sd_ce (show (((zi148 : Int) + 1) : Int) = ((zi148 + 1 : Nat) : Int) from by omega)) (sd_cg rfl rfl)))))) rfl
          ·
            refine sd_if_le (tgt := 212) sD11_sets_166 (by decide) (fun zc166 => ?_) (fun zc166 => ?_)
            ·
              refine sd_iconst sD11_sets_212 (by decide) ?_
              exact K166 _ (by exact (sd_b0 (by omega)).symm)
            ·
              refine sd_iload_n sD11_sets_169 rfl ?_
              refine sd_if_lt (tgt := 208) sD11_sets_170 (by decide) (fun zc170 => ?_) (fun zc170 => ?_)
              ·
                refine sd_iconst sD11_sets_208 (by decide) ?_
                refine sd_goto (tgt := 213) sD11_sets_209 (by decide) ?_
                exact K166 _ (by exact (sd_b1 (by omega)).symm)
              ·
                have q0 := hpzi132.1 (sd_mbk cr (sd_sqa x cr zi132) zi148).toNat (by omega)
                have q3 := hpzi132.2 (sd_mbk cr (sd_sqa x cr zi132) zi148).toNat (by omega)
                have q1 : 0 ≤ m (5520 + zi148) * (m (5550 + (sd_mbk cr (sd_sqa x cr zi132) zi148).toNat) + 1) ∧ m (5520 + zi148) * (m (5550 + (sd_mbk cr (sd_sqa x cr zi132) zi148).toNat) + 1) ≤ 540 := by rw [eA, q3]; exact sd_mulb (hcrb _) (hsab _)
                have q2 : 0 ≤ m (5520 + (sd_mbk cr (sd_sqa x cr zi132) zi148).toNat) * (m (5550 + zi148) + 1) ∧ m (5520 + (sd_mbk cr (sd_sqa x cr zi132) zi148).toNat) * (m (5550 + zi148) + 1) ≤ 540 := by rw [eB, q0]; exact sd_mulb (hcrb _) (hsab _)
                have q4 := hsab (sd_mbk cr (sd_sqa x cr zi132) zi148).toNat
                have q5 := hsab zi148
                refine sd_aload_n sD11_sets_173 rfl ?_
                refine sd_getfr sD11_sets_174 sF11_37 sGM15_18 ?_
                refine sd_iload sD11_sets_177 rfl ?_
                refine sd_iald (a := (5520 + zi148)) sD11_sets_179 sAM9 (by omega) ?_
                refine sd_aload_n sD11_sets_180 rfl ?_
                refine sd_getfr sD11_sets_181 sF11_40 sGM15_19 ?_
                refine sd_iload_n sD11_sets_184 rfl ?_
                refine sd_iald (a := (5550 + ((sd_mbk cr (sd_sqa x cr zi132) zi148).toNat))) sD11_sets_185 sAM10 (by omega) ?_
                refine sd_iconst sD11_sets_186 (by decide) ?_
                refine sd_iadd (z := (m (5550 + ((sd_mbk cr (sd_sqa x cr zi132) zi148).toNat)) + 1)) sD11_sets_187 (by omega) (by omega) ?_
                refine sd_imul (z := ((m (5520 + zi148)) * (m (5550 + ((sd_mbk cr (sd_sqa x cr zi132) zi148).toNat)) + 1))) sD11_sets_188 (by omega) (by omega) ?_
                refine sd_aload_n sD11_sets_189 rfl ?_
                refine sd_getfr sD11_sets_190 sF11_37 sGM15_18 ?_
                refine sd_iload_n sD11_sets_193 rfl ?_
                refine sd_iald (a := (5520 + ((sd_mbk cr (sd_sqa x cr zi132) zi148).toNat))) sD11_sets_194 sAM9 (by omega) ?_
                refine sd_aload_n sD11_sets_195 rfl ?_
                refine sd_getfr sD11_sets_196 sF11_40 sGM15_19 ?_
                refine sd_iload sD11_sets_199 rfl ?_
                refine sd_iald (a := (5550 + zi148)) sD11_sets_201 sAM10 (by omega) ?_
                refine sd_iconst sD11_sets_202 (by decide) ?_
                refine sd_iadd (z := (m (5550 + zi148) + 1)) sD11_sets_203 (by omega) (by omega) ?_
                refine sd_imul (z := ((m (5520 + ((sd_mbk cr (sd_sqa x cr zi132) zi148).toNat))) * (m (5550 + zi148) + 1))) sD11_sets_204 (by omega) (by omega) ?_
                refine sd_icmp_le (tgt := 212) sD11_sets_205 (by decide) (fun zc205 => ?_) (fun zc205 => ?_)
                ·
                  refine sd_iconst sD11_sets_212 (by decide) ?_
                  exact K166 _ (by exact (sd_b0 (by omega)).symm)
                ·
                  refine sd_iconst sD11_sets_208 (by decide) ?_
                  refine sd_goto (tgt := 213) sD11_sets_209 (by decide) ?_
                  exact K166 _ (by exact (sd_b1 (by omega)).symm)
        ·
          show sd_Wp sd_SM 0 sY11_sets 148 [some (.inr 15), some (.inl M), some (.inl (zi132 : Int)), some (.inl (sd_mbk cr (sd_sqa x cr zi132) ((x 2).toNat))), some (.inl ((((x 2).toNat) : Nat) : Int)), none] [] m _
          refine sd_iload sD11_sets_148 rfl ?_
          refine sd_aload_n sD11_sets_150 rfl ?_
          refine sd_getfr sD11_sets_151 sF11_7 sGM15_0 ?_
          refine sd_iconst sD11_sets_154 (by decide) ?_
          refine sd_ialdx (a := 2) (v := x 2) hx sD11_sets_155 sAM0 (by omega) rfl ?_
          refine sd_icmp_ge (tgt := 233) sD11_sets_156 (by decide) (fun zc156 => ?_) (fun zc156 => (by exfalso; omega))
          have e4 := sd_mbk_rng cr (sd_sqa x cr zi132) (x 2).toNat
          refine sd_iload_n sD11_sets_233 rfl ?_
          refine sd_if_lt (tgt := 247) sD11_sets_234 (by decide) (fun zc234 => ?_) (fun zc234 => ?_)
          ·
            refine sd_iinc (y := ((zi132 : Int) + 1)) (ls' := [some (.inr 15), some (.inl M), some (.inl ((zi132 : Int) + 1)), some (.inl (sd_mbk cr (sd_sqa x cr zi132) ((x 2).toNat))), some (.inl ((((x 2).toNat) : Nat) : Int)), none]) sD11_sets_247 rfl (by omega) (by omega) (by decide) rfl ?_
            refine sd_goto (tgt := 132) sD11_sets_250 (by decide) ?_
            refine sd_less (ls' := [some (.inr 15), some (.inl M), some (.inl ((zi132 : Int) + 1)), none, none, none]) ?_ rfl (by intro zi zv zh; rcases zi with _ | _ | _ | _ | _ | _ | zi <;> first | exact zh | cases zh)
            exact sd_eqw (ls' := [some (.inr 15), some (.inl M), some (.inl ((zi132 + 1 : Nat) : Int)), none, none, none]) (ihzi132 m (by exact hx) (by first | exact ⟨sd_row_ke hpzi132.1 em246 (by omega), sd_row_up hpzi132.2 em246 (fun g hg => by simp only [sd_sqa, sd_add1]; rw [if_neg (by omega)]; by_cases q : g = (sd_mbk cr (sd_sqa x cr zi132) (x 2).toNat).toNat; (rw [if_pos q, if_pos q, e5, q]); (rw [if_neg q, if_neg q]))⟩ | exact ⟨hpzi132.1, fun g hg => by rw [hpzi132.2 g hg]; simp only [sd_sqa, sd_add1]; rw [if_pos (by omega)]⟩)) (sd_cg rfl (sd_cg rfl (sd_cg (sd_ce (show (((zi132 : Int) + 1) : Int) = ((zi132 + 1 : Nat) : Int) from by omega)) (sd_cg rfl (sd_cg rfl (sd_cg rfl rfl)))))) rfl
          ·
            have e5 := hpzi132.2 (sd_mbk cr (sd_sqa x cr zi132) (x 2).toNat).toNat (by omega)
            have e6 := sd_sqa_rng (x := x) (cr := cr) zi132 (sd_mbk cr (sd_sqa x cr zi132) (x 2).toNat).toNat
            refine sd_aload_n sD11_sets_237 rfl ?_
            refine sd_getfr sD11_sets_238 sF11_40 sGM15_19 ?_
            refine sd_iload_n sD11_sets_241 rfl ?_
            refine sd_dup2 sD11_sets_242 ?_
            refine sd_iald (a := (5550 + ((sd_mbk cr (sd_sqa x cr zi132) ((x 2).toNat)).toNat))) sD11_sets_243 sAM10 (by omega) ?_
            refine sd_iconst sD11_sets_244 (by decide) ?_
            refine sd_iadd (z := (m (5550 + ((sd_mbk cr (sd_sqa x cr zi132) ((x 2).toNat)).toNat)) + 1)) sD11_sets_245 (by omega) (by omega) ?_
            refine sd_iastc (a := (5550 + ((sd_mbk cr (sd_sqa x cr zi132) ((x 2).toNat)).toNat))) sd_sokM hx sD11_sets_246 sAM10 (by omega) (fun m hx em246 => ?_)
            refine sd_iinc (y := ((zi132 : Int) + 1)) (ls' := [some (.inr 15), some (.inl M), some (.inl ((zi132 : Int) + 1)), some (.inl (sd_mbk cr (sd_sqa x cr zi132) ((x 2).toNat))), some (.inl ((((x 2).toNat) : Nat) : Int)), none]) sD11_sets_247 rfl (by omega) (by omega) (by decide) rfl ?_
            refine sd_goto (tgt := 132) sD11_sets_250 (by decide) ?_
            refine sd_less (ls' := [some (.inr 15), some (.inl M), some (.inl ((zi132 : Int) + 1)), none, none, none]) ?_ rfl (by intro zi zv zh; rcases zi with _ | _ | _ | _ | _ | _ | zi <;> first | exact zh | cases zh)
            exact sd_eqw (ls' := [some (.inr 15), some (.inl M), some (.inl ((zi132 + 1 : Nat) : Int)), none, none, none]) (ihzi132 m (by exact hx) (by first | exact ⟨sd_row_ke hpzi132.1 em246 (by omega), sd_row_up hpzi132.2 em246 (fun g hg => by simp only [sd_sqa, sd_add1]; rw [if_neg (by omega)]; by_cases q : g = (sd_mbk cr (sd_sqa x cr zi132) (x 2).toNat).toNat; (rw [if_pos q, if_pos q, e5, q]); (rw [if_neg q, if_neg q]))⟩ | exact ⟨hpzi132.1, fun g hg => by rw [hpzi132.2 g hg]; simp only [sd_sqa, sd_add1]; rw [if_pos (by omega)]⟩)) (sd_cg rfl (sd_cg rfl (sd_cg (sd_ce (show (((zi132 : Int) + 1) : Int) = ((zi132 + 1 : Nat) : Int) from by omega)) (sd_cg rfl (sd_cg rfl (sd_cg rfl rfl)))))) rfl
      ·
        show sd_Wp sd_SM 0 sY11_sets 132 [some (.inr 15), some (.inl M), some (.inl ((((x 7).toNat) : Nat) : Int)), none, none, none] [] m _
        refine sd_iload_n sD11_sets_132 rfl ?_
        refine sd_aload_n sD11_sets_133 rfl ?_
        refine sd_getfr sD11_sets_134 sF11_7 sGM15_0 ?_
        refine sd_bipush sD11_sets_137 rfl (by decide) ?_
        refine sd_ialdx (a := 7) (v := x 7) hx sD11_sets_139 sAM0 (by omega) rfl ?_
        refine sd_icmp_ge (tgt := 253) sD11_sets_140 (by decide) (fun zc140 => ?_) (fun zc140 => (by exfalso; omega))
        refine sd_vreturn sD11_sets_253 rfl (fun hm => ?_)
        exact ⟨rfl, hx, fun g hg => hpzi132.2 g hg⟩
