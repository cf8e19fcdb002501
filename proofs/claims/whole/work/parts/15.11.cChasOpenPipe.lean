set_option maxRecDepth 100000 in
set_option maxHeartbeats 4000000 in
theorem cC_hasOpenPipe (s : Int) (w : Int) (x m : sd_M) (hx : sd_ns x m) (h1 : sd_I1 x) (h2 : sd_I2 x) : sd_Cp sd_SC 0 sY1_hasOpenPipe [.inr 13, .inl s, .inl w] m (.inl (sd_b (sd_pip x s w))) := by
  refine sd_ct rfl (Nat.le_of_ble_eq_true rfl) (fun hok hm => ?_)
  obtain ⟨⟨i0, j0⟩, ⟨i1, j1⟩, ⟨i2, j2⟩, ⟨i3, j3⟩, ⟨i4, j4⟩, ⟨i5, j5⟩, ⟨i6, j6⟩, ⟨i7, j7⟩, ⟨i8, j8⟩⟩ := id h1
  have r_s : sd_R s := hok (.inl s) (by simp)
  have r_w : sd_R w := hok (.inl w) (by simp)
  show sd_Wp sd_SC 0 sY1_hasOpenPipe 0 [some (.inr 13), some (.inl s), some (.inl w), none, none] [] m _
  refine sd_iconst sD1_hasOpenPipe_0 (by decide) ?_
  refine sd_istore_n (ls' := [some (.inr 13), some (.inl s), some (.inl w), some (.inl 0), none]) sD1_hasOpenPipe_1 (by decide) rfl ?_
  refine sd_forH ((x 2).toNat) (fun zi2 : Nat => [some (.inr 13), some (.inl s), some (.inl w), some (.inl (zi2 : Int)), none]) (fun zi2 : Nat => ∀ j, j < zi2 → ¬ sd_Pp x s w j) (by rfl) (fun zi2 hizi2 hhzi2 ihzi2 => ?_) (fun hhzi2 => ?_) (by intro j hj; omega)
  ·
    have e2 := h2 zi2 (by omega)
    refine sd_iload_n sD1_hasOpenPipe_2 rfl ?_
    refine sd_aload_n sD1_hasOpenPipe_3 rfl ?_
    refine sd_getfx (v := x 2) hx sD1_hasOpenPipe_4 sF1_9 sGC13_0 (by decide) rfl ?_
    refine sd_icmp_ge (tgt := 80) sD1_hasOpenPipe_7 (by decide) (fun zc7 => (by exfalso; omega)) (fun zc7 => ?_)
    refine sd_aload_n sD1_hasOpenPipe_10 rfl ?_
    refine sd_getfr sD1_hasOpenPipe_11 sF1_18 sGC13_2 ?_
    refine sd_iload_n sD1_hasOpenPipe_14 rfl ?_
    refine sd_ialdx (a := (10 + zi2)) (v := x (10 + zi2)) hx sD1_hasOpenPipe_15 sAC0 (by omega) rfl ?_
    refine sd_iconst sD1_hasOpenPipe_16 (by decide) ?_
    refine sd_cut (J := 45) (ls := [some (.inr 13), some (.inl s), some (.inl w), some (.inl (zi2 : Int)), none]) (st := []) (fun zv => zv = (sd_b ((x (10 + zi2) = 5) ∨ ((¬ x (10 + zi2) = 5) ∧ (x (10 + zi2) = 4) ∧ (x (34 + zi2) = s))))) (fun zv hzv => ?_) (fun K17 => ?_)
    ·
      subst hzv
      refine sd_istore (ls' := [some (.inr 13), some (.inl s), some (.inl w), some (.inl (zi2 : Int)), some (.inl (sd_b ((x (10 + zi2) = 5) ∨ ((¬ x (10 + zi2) = 5) ∧ (x (10 + zi2) = 4) ∧ (x (34 + zi2) = s)))))]) sD1_hasOpenPipe_45 (by decide) rfl ?_
      refine sd_iload sD1_hasOpenPipe_47 rfl ?_
      refine sd_bif_eq (tgt := 74) sD1_hasOpenPipe_49 (by decide) (fun zc49 => ?_) (fun zc49 => ?_)
      ·
        refine sd_iinc (y := ((zi2 : Int) + 1)) (ls' := [some (.inr 13), some (.inl s), some (.inl w), some (.inl ((zi2 : Int) + 1)), some (.inl (sd_b ((x (10 + zi2) = 5) ∨ ((¬ x (10 + zi2) = 5) ∧ (x (10 + zi2) = 4) ∧ (x (34 + zi2) = s)))))]) sD1_hasOpenPipe_74 rfl (by omega) (by omega) (by decide) rfl ?_
        refine sd_goto (tgt := 2) sD1_hasOpenPipe_77 (by decide) ?_
        refine sd_less (ls' := [some (.inr 13), some (.inl s), some (.inl w), some (.inl ((zi2 : Int) + 1)), none]) ?_ rfl (by intro zi zv zh; rcases zi with _ | _ | _ | _ | _ | zi <;> first | exact zh | cases zh)
        exact sd_eqw (ls' := [some (.inr 13), some (.inl s), some (.inl w), some (.inl ((zi2 + 1 : Nat) : Int)), none]) (ihzi2 (by exact sd_all_succ hhzi2 (by omega))) (by rw [show (((zi2 : Int) + 1) : Int) = ((zi2 + 1 : Nat) : Int) from by omega]) rfl
      ·
        refine sd_aload_n sD1_hasOpenPipe_52 rfl ?_
        refine sd_getfr sD1_hasOpenPipe_53 sF1_25 sGC13_4 ?_
        refine sd_iload_n sD1_hasOpenPipe_56 rfl ?_
        refine sd_ialdx (a := (58 + zi2)) (v := x (58 + zi2)) hx sD1_hasOpenPipe_57 sAC2 (by omega) rfl ?_
        refine sd_iload_n sD1_hasOpenPipe_58 rfl ?_
        refine sd_icmp_ne (tgt := 74) sD1_hasOpenPipe_59 (by decide) (fun zc59 => ?_) (fun zc59 => ?_)
        ·
          refine sd_iinc (y := ((zi2 : Int) + 1)) (ls' := [some (.inr 13), some (.inl s), some (.inl w), some (.inl ((zi2 : Int) + 1)), some (.inl (sd_b ((x (10 + zi2) = 5) ∨ ((¬ x (10 + zi2) = 5) ∧ (x (10 + zi2) = 4) ∧ (x (34 + zi2) = s)))))]) sD1_hasOpenPipe_74 rfl (by omega) (by omega) (by decide) rfl ?_
          refine sd_goto (tgt := 2) sD1_hasOpenPipe_77 (by decide) ?_
          refine sd_less (ls' := [some (.inr 13), some (.inl s), some (.inl w), some (.inl ((zi2 : Int) + 1)), none]) ?_ rfl (by intro zi zv zh; rcases zi with _ | _ | _ | _ | _ | zi <;> first | exact zh | cases zh)
          exact sd_eqw (ls' := [some (.inr 13), some (.inl s), some (.inl w), some (.inl ((zi2 + 1 : Nat) : Int)), none]) (ihzi2 (by exact sd_all_succ hhzi2 (by omega))) (by rw [show (((zi2 : Int) + 1) : Int) = ((zi2 + 1 : Nat) : Int) from by omega]) rfl
        ·
          refine sd_aload_n sD1_hasOpenPipe_62 rfl ?_
          refine sd_getfr sD1_hasOpenPipe_63 sF1_49 sGC13_12 ?_
          refine sd_iload_n sD1_hasOpenPipe_66 rfl ?_
          refine sd_ialdx (a := (250 + zi2)) (v := x (250 + zi2)) hx sD1_hasOpenPipe_67 sAC10 (by omega) rfl ?_
          refine sd_iconst sD1_hasOpenPipe_68 (by decide) ?_
          refine sd_icmp_ne (tgt := 74) sD1_hasOpenPipe_69 (by decide) (fun zc69 => ?_) (fun zc69 => ?_)
          ·
            refine sd_iinc (y := ((zi2 : Int) + 1)) (ls' := [some (.inr 13), some (.inl s), some (.inl w), some (.inl ((zi2 : Int) + 1)), some (.inl (sd_b ((x (10 + zi2) = 5) ∨ ((¬ x (10 + zi2) = 5) ∧ (x (10 + zi2) = 4) ∧ (x (34 + zi2) = s)))))]) sD1_hasOpenPipe_74 rfl (by omega) (by omega) (by decide) rfl ?_
            refine sd_goto (tgt := 2) sD1_hasOpenPipe_77 (by decide) ?_
            refine sd_less (ls' := [some (.inr 13), some (.inl s), some (.inl w), some (.inl ((zi2 : Int) + 1)), none]) ?_ rfl (by intro zi zv zh; rcases zi with _ | _ | _ | _ | _ | zi <;> first | exact zh | cases zh)
            exact sd_eqw (ls' := [some (.inr 13), some (.inl s), some (.inl w), some (.inl ((zi2 + 1 : Nat) : Int)), none]) (ihzi2 (by exact sd_all_succ hhzi2 (by omega))) (by rw [show (((zi2 : Int) + 1) : Int) = ((zi2 + 1 : Nat) : Int) from by omega]) rfl
          ·
            refine sd_iconst sD1_hasOpenPipe_72 (by decide) ?_
            refine sd_zretp sD1_hasOpenPipe_73 rfl (by decide) ?_
            first | exact (sd_b1 ⟨zi2, by omega, by omega⟩).symm | exact (sd_b0 (fun hh => by obtain ⟨i, hi1, hi2⟩ := hh; exact hhzi2 i hi1 hi2)).symm
    ·
      refine sd_icmp_eq (tgt := 40) sD1_hasOpenPipe_17 (by decide) (fun zc17 => ?_) (fun zc17 => ?_)
      ·
        refine sd_iconst sD1_hasOpenPipe_40 (by decide) ?_
        refine sd_goto (tgt := 45) sD1_hasOpenPipe_41 (by decide) ?_
        exact K17 _ (by exact (sd_b1 (by omega)).symm)
      ·
        refine sd_aload_n sD1_hasOpenPipe_20 rfl ?_
        refine sd_getfr sD1_hasOpenPipe_21 sF1_18 sGC13_2 ?_
        refine sd_iload_n sD1_hasOpenPipe_24 rfl ?_
        refine sd_ialdx (a := (10 + zi2)) (v := x (10 + zi2)) hx sD1_hasOpenPipe_25 sAC0 (by omega) rfl ?_
        refine sd_iconst sD1_hasOpenPipe_26 (by decide) ?_
        refine sd_icmp_ne (tgt := 44) sD1_hasOpenPipe_27 (by decide) (fun zc27 => ?_) (fun zc27 => ?_)
        ·
          refine sd_iconst sD1_hasOpenPipe_44 (by decide) ?_
          exact K17 _ (by exact (sd_b0 (by omega)).symm)
        ·
          refine sd_aload_n sD1_hasOpenPipe_30 rfl ?_
          refine sd_getfr sD1_hasOpenPipe_31 sF1_22 sGC13_3 ?_
          refine sd_iload_n sD1_hasOpenPipe_34 rfl ?_
          refine sd_ialdx (a := (34 + zi2)) (v := x (34 + zi2)) hx sD1_hasOpenPipe_35 sAC1 (by omega) rfl ?_
          refine sd_iload_n sD1_hasOpenPipe_36 rfl ?_
          refine sd_icmp_ne (tgt := 44) sD1_hasOpenPipe_37 (by decide) (fun zc37 => ?_) (fun zc37 => ?_)
          ·
            refine sd_iconst sD1_hasOpenPipe_44 (by decide) ?_
            exact K17 _ (by exact (sd_b0 (by omega)).symm)
          ·
            refine sd_iconst sD1_hasOpenPipe_40 (by decide) ?_
            refine sd_goto (tgt := 45) sD1_hasOpenPipe_41 (by decide) ?_
            exact K17 _ (by exact (sd_b1 (by omega)).symm)
  ·
    show sd_Wp sd_SC 0 sY1_hasOpenPipe 2 [some (.inr 13), some (.inl s), some (.inl w), some (.inl ((((x 2).toNat) : Nat) : Int)), none] [] m _
    refine sd_iload_n sD1_hasOpenPipe_2 rfl ?_
    refine sd_aload_n sD1_hasOpenPipe_3 rfl ?_
    refine sd_getfx (v := x 2) hx sD1_hasOpenPipe_4 sF1_9 sGC13_0 (by decide) rfl ?_
    refine sd_icmp_ge (tgt := 80) sD1_hasOpenPipe_7 (by decide) (fun zc7 => ?_) (fun zc7 => (by exfalso; omega))
    refine sd_iconst sD1_hasOpenPipe_80 (by decide) ?_
    refine sd_zretp sD1_hasOpenPipe_81 rfl (by decide) ?_
    first | exact (sd_b1 ⟨zi2, by omega, by omega⟩).symm | exact (sd_b0 (fun hh => by obtain ⟨i, hi1, hi2⟩ := hh; exact hhzi2 i hi1 hi2)).symm
