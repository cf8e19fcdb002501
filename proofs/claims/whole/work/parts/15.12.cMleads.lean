set_option maxRecDepth 100000 in
set_option maxHeartbeats 4000000 in
theorem cM_leads (s : Int) (w : Int) (x m : sd_M) (hx : sd_ns x m) (h1 : sd_I1 x) (h2 : sd_I2 x) : sd_Cp sd_SM 1 sY11_leads [.inr 15, .inl s, .inl w] m (.inl (sd_b (sd_pip x s w))) := by
  refine sd_ct rfl (Nat.le_of_ble_eq_true rfl) (fun hok hm => ?_)
  obtain ⟨⟨i0, j0⟩, ⟨i1, j1⟩, ⟨i2, j2⟩, ⟨i3, j3⟩, ⟨i4, j4⟩, ⟨i5, j5⟩, ⟨i6, j6⟩, ⟨i7, j7⟩, ⟨i8, j8⟩⟩ := id h1
  have r_s : sd_R s := hok (.inl s) (by simp)
  have r_w : sd_R w := hok (.inl w) (by simp)
  show sd_Wp sd_SM 1 sY11_leads 0 [some (.inr 15), some (.inl s), some (.inl w), none, none, none] [] m _
  refine sd_iconst sD11_leads_0 (by decide) ?_
  refine sd_istore_n (ls' := [some (.inr 15), some (.inl s), some (.inl w), some (.inl 0), none, none]) sD11_leads_1 (by decide) rfl ?_
  refine sd_iconst sD11_leads_2 (by decide) ?_
  refine sd_istore (ls' := [some (.inr 15), some (.inl s), some (.inl w), some (.inl 0), some (.inl 0), none]) sD11_leads_3 (by decide) rfl ?_
  refine sd_forE ((x 2).toNat) (fun zi5 : Nat => [some (.inr 15), some (.inl s), some (.inl w), some (.inl (sd_b (∃ j, j < zi5 ∧ sd_Pp x s w j))), some (.inl (zi5 : Int)), none]) (by rw [sd_b0 (by rintro ⟨j, hj, _⟩; omega)]; rfl) (fun zi5 hizi5 ihzi5 => ?_) ?_
  ·
    have e2 := h2 zi5 (by omega)
    refine sd_iload sD11_leads_5 rfl ?_
    refine sd_aload_n sD11_leads_7 rfl ?_
    refine sd_getfr sD11_leads_8 sF11_7 sGM15_0 ?_
    refine sd_iconst sD11_leads_11 (by decide) ?_
    refine sd_ialdx (a := 2) (v := x 2) hx sD11_leads_12 sAM0 (by omega) rfl ?_
    refine sd_icmp_ge (tgt := 105) sD11_leads_13 (by decide) (fun zc13 => (by exfalso; omega)) (fun zc13 => ?_)
    refine sd_aload_n sD11_leads_16 rfl ?_
    refine sd_iload sD11_leads_17 rfl ?_
    refine sd_callVp (as := [.inl (zi5 : Int)]) (st := []) (v := .inl (x (10 + zi5))) sD11_leads_19 sM11_64 sOM15 rfl rfl rfl (by decide) (Nat.le_of_ble_eq_true rfl) (cM_kindOf (zi5 : Int) _ m hx  (by omega)) (fun ho19 => ?_)
    refine sd_iconst sD11_leads_22 (by decide) ?_
    refine sd_cut (J := 55) (ls := [some (.inr 15), some (.inl s), some (.inl w), some (.inl (sd_b (∃ j, j < zi5 ∧ sd_Pp x s w j))), some (.inl (zi5 : Int)), none]) (st := []) (fun zv => zv = (sd_b ((x (10 + zi5) = 5) ∨ ((¬ x (10 + zi5) = 5) ∧ (x (10 + zi5) = 4) ∧ (x (34 + zi5) = s))))) (fun zv hzv => ?_) (fun K23 => ?_)
    ·
      subst hzv
      refine sd_istore (ls' := [some (.inr 15), some (.inl s), some (.inl w), some (.inl (sd_b (∃ j, j < zi5 ∧ sd_Pp x s w j))), some (.inl (zi5 : Int)), some (.inl (sd_b ((x (10 + zi5) = 5) ∨ ((¬ x (10 + zi5) = 5) ∧ (x (10 + zi5) = 4) ∧ (x (34 + zi5) = s)))))]) sD11_leads_55 (by decide) rfl ?_
      refine sd_iload_n sD11_leads_57 rfl ?_
      refine sd_iload sD11_leads_58 rfl ?_
      refine sd_cut (J := 97) (ls := [some (.inr 15), some (.inl s), some (.inl w), some (.inl (sd_b (∃ j, j < zi5 ∧ sd_Pp x s w j))), some (.inl (zi5 : Int)), some (.inl (sd_b ((x (10 + zi5) = 5) ∨ ((¬ x (10 + zi5) = 5) ∧ (x (10 + zi5) = 4) ∧ (x (34 + zi5) = s)))))]) (st := [.inl (sd_b (∃ j, j < zi5 ∧ sd_Pp x s w j))]) (fun zv => zv = (sd_b (((x (10 + zi5) = 5) ∨ ((¬ x (10 + zi5) = 5) ∧ (x (10 + zi5) = 4) ∧ (x (34 + zi5) = s))) ∧ (x (58 + zi5) = w) ∧ (x (250 + zi5) = 1)))) (fun zv hzv => ?_) (fun K60 => ?_)
      ·
        subst hzv
        refine sd_ior sD11_leads_97 ?_
        rw [sd_or_b]
        refine sd_istore_n (ls' := [some (.inr 15), some (.inl s), some (.inl w), some (.inl (sd_b ((∃ j, j < zi5 ∧ sd_Pp x s w j) ∨ (((x (10 + zi5) = 5) ∨ ((¬ x (10 + zi5) = 5) ∧ (x (10 + zi5) = 4) ∧ (x (34 + zi5) = s))) ∧ (x (58 + zi5) = w) ∧ (x (250 + zi5) = 1))))), some (.inl (zi5 : Int)), some (.inl (sd_b ((x (10 + zi5) = 5) ∨ ((¬ x (10 + zi5) = 5) ∧ (x (10 + zi5) = 4) ∧ (x (34 + zi5) = s)))))]) sD11_leads_98 (by decide) rfl ?_
        refine sd_iinc (y := ((zi5 : Int) + 1)) (ls' := [some (.inr 15), some (.inl s), some (.inl w), some (.inl (sd_b ((∃ j, j < zi5 ∧ sd_Pp x s w j) ∨ (((x (10 + zi5) = 5) ∨ ((¬ x (10 + zi5) = 5) ∧ (x (10 + zi5) = 4) ∧ (x (34 + zi5) = s))) ∧ (x (58 + zi5) = w) ∧ (x (250 + zi5) = 1))))), some (.inl ((zi5 : Int) + 1)), some (.inl (sd_b ((x (10 + zi5) = 5) ∨ ((¬ x (10 + zi5) = 5) ∧ (x (10 + zi5) = 4) ∧ (x (34 + zi5) = s)))))]) sD11_leads_99 rfl (by omega) (by omega) (by decide) rfl ?_
        refine sd_goto (tgt := 5) sD11_leads_102 (by decide) ?_
        refine sd_less (ls' := [some (.inr 15), some (.inl s), some (.inl w), some (.inl (sd_b ((∃ j, j < zi5 ∧ sd_Pp x s w j) ∨ (((x (10 + zi5) = 5) ∨ ((¬ x (10 + zi5) = 5) ∧ (x (10 + zi5) = 4) ∧ (x (34 + zi5) = s))) ∧ (x (58 + zi5) = w) ∧ (x (250 + zi5) = 1))))), some (.inl ((zi5 : Int) + 1)), none]) ?_ rfl (by intro zi zv zh; rcases zi with _ | _ | _ | _ | _ | _ | zi <;> first | exact zh | cases zh)
        exact sd_eqw (ls' := [some (.inr 15), some (.inl s), some (.inl w), some (.inl (sd_b (∃ j, j < zi5 + 1 ∧ sd_Pp x s w j))), some (.inl ((zi5 + 1 : Nat) : Int)), none]) ihzi5 (by rw [show (sd_b ((∃ j, j < zi5 ∧ sd_Pp x s w j) ∨ (((x (10 + zi5) = 5) ∨ ((¬ x (10 + zi5) = 5) ∧ (x (10 + zi5) = 4) ∧ (x (34 + zi5) = s))) ∧ (x (58 + zi5) = w) ∧ (x (250 + zi5) = 1))) : Int) = sd_b (∃ j, j < zi5 + 1 ∧ sd_Pp x s w j) from by exact sd_bc (sd_ex_succ (by omega)), show (((zi5 : Int) + 1) : Int) = ((zi5 + 1 : Nat) : Int) from by omega]) rfl
      ·
        refine sd_bif_eq (tgt := 96) sD11_leads_60 (by decide) (fun zc60 => ?_) (fun zc60 => ?_)
        ·
          refine sd_iconst sD11_leads_96 (by decide) ?_
          exact K60 _ (by exact (sd_b0 (by omega)).symm)
        ·
          refine sd_aload_n sD11_leads_63 rfl ?_
          refine sd_getfr sD11_leads_64 sF11_7 sGM15_0 ?_
          refine sd_bipush sD11_leads_67 rfl (by decide) ?_
          refine sd_iload sD11_leads_69 rfl ?_
          refine sd_iadd (z := (58 + (zi5 : Int))) sD11_leads_71 (by omega) (by omega) ?_
          refine sd_ialdx (a := (58 + zi5)) (v := x (58 + zi5)) hx sD11_leads_72 sAM0 (by omega) rfl ?_
          refine sd_iload_n sD11_leads_73 rfl ?_
          refine sd_icmp_ne (tgt := 96) sD11_leads_74 (by decide) (fun zc74 => ?_) (fun zc74 => ?_)
          ·
            refine sd_iconst sD11_leads_96 (by decide) ?_
            exact K60 _ (by exact (sd_b0 (by omega)).symm)
          ·
            refine sd_aload_n sD11_leads_77 rfl ?_
            refine sd_getfr sD11_leads_78 sF11_7 sGM15_0 ?_
            refine sd_sipush sD11_leads_81 rfl (by decide) ?_
            refine sd_iload sD11_leads_84 rfl ?_
            refine sd_iadd (z := (250 + (zi5 : Int))) sD11_leads_86 (by omega) (by omega) ?_
            refine sd_ialdx (a := (250 + zi5)) (v := x (250 + zi5)) hx sD11_leads_87 sAM0 (by omega) rfl ?_
            refine sd_iconst sD11_leads_88 (by decide) ?_
            refine sd_icmp_ne (tgt := 96) sD11_leads_89 (by decide) (fun zc89 => ?_) (fun zc89 => ?_)
            ·
              refine sd_iconst sD11_leads_96 (by decide) ?_
              exact K60 _ (by exact (sd_b0 (by omega)).symm)
            ·
              refine sd_iconst sD11_leads_92 (by decide) ?_
              refine sd_goto (tgt := 97) sD11_leads_93 (by decide) ?_
              exact K60 _ (by exact (sd_b1 (by omega)).symm)
    ·
      refine sd_icmp_eq (tgt := 50) sD11_leads_23 (by decide) (fun zc23 => ?_) (fun zc23 => ?_)
      ·
        refine sd_iconst sD11_leads_50 (by decide) ?_
        refine sd_goto (tgt := 55) sD11_leads_51 (by decide) ?_
        exact K23 _ (by exact (sd_b1 (by omega)).symm)
      ·
        refine sd_aload_n sD11_leads_26 rfl ?_
        refine sd_iload sD11_leads_27 rfl ?_
        refine sd_callVp (as := [.inl (zi5 : Int)]) (st := []) (v := .inl (x (10 + zi5))) sD11_leads_29 sM11_64 sOM15 rfl rfl rfl (by decide) (Nat.le_of_ble_eq_true rfl) (cM_kindOf (zi5 : Int) _ m hx  (by omega)) (fun ho29 => ?_)
        refine sd_iconst sD11_leads_32 (by decide) ?_
        refine sd_icmp_ne (tgt := 54) sD11_leads_33 (by decide) (fun zc33 => ?_) (fun zc33 => ?_)
        ·
          refine sd_iconst sD11_leads_54 (by decide) ?_
          exact K23 _ (by exact (sd_b0 (by omega)).symm)
        ·
          refine sd_aload_n sD11_leads_36 rfl ?_
          refine sd_getfr sD11_leads_37 sF11_7 sGM15_0 ?_
          refine sd_bipush sD11_leads_40 rfl (by decide) ?_
          refine sd_iload sD11_leads_42 rfl ?_
          refine sd_iadd (z := (34 + (zi5 : Int))) sD11_leads_44 (by omega) (by omega) ?_
          refine sd_ialdx (a := (34 + zi5)) (v := x (34 + zi5)) hx sD11_leads_45 sAM0 (by omega) rfl ?_
          refine sd_iload_n sD11_leads_46 rfl ?_
          refine sd_icmp_ne (tgt := 54) sD11_leads_47 (by decide) (fun zc47 => ?_) (fun zc47 => ?_)
          ·
            refine sd_iconst sD11_leads_54 (by decide) ?_
            exact K23 _ (by exact (sd_b0 (by omega)).symm)
          ·
            refine sd_iconst sD11_leads_50 (by decide) ?_
            refine sd_goto (tgt := 55) sD11_leads_51 (by decide) ?_
            exact K23 _ (by exact (sd_b1 (by omega)).symm)
  ·
    show sd_Wp sd_SM 1 sY11_leads 5 [some (.inr 15), some (.inl s), some (.inl w), some (.inl (sd_b (∃ j, j < ((x 2).toNat) ∧ sd_Pp x s w j))), some (.inl ((((x 2).toNat) : Nat) : Int)), none] [] m _
    refine sd_iload sD11_leads_5 rfl ?_
    refine sd_aload_n sD11_leads_7 rfl ?_
    refine sd_getfr sD11_leads_8 sF11_7 sGM15_0 ?_
    refine sd_iconst sD11_leads_11 (by decide) ?_
    refine sd_ialdx (a := 2) (v := x 2) hx sD11_leads_12 sAM0 (by omega) rfl ?_
    refine sd_icmp_ge (tgt := 105) sD11_leads_13 (by decide) (fun zc13 => ?_) (fun zc13 => (by exfalso; omega))
    refine sd_iload_n sD11_leads_105 rfl ?_
    refine sd_zretp sD11_leads_106 rfl (sd_b01 _) ?_
    exact sd_bc Iff.rfl
