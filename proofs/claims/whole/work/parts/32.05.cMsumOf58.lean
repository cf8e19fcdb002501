set_option maxRecDepth 100000 in
set_option maxHeartbeats 4000000 in
theorem cM_sumOf58 (t : Int) (x m : sd_M) (hx : sd_ns x m) (h1 : sd_I1 x) (h2 : sd_I2 x) : sd_Cp sd_SM 0 sY11_sumOf [.inr 15, .inl t, .inl 58] m (.inl (sd_smi x t 58)) := by
  refine sd_ct rfl (Nat.le_of_ble_eq_true rfl) (fun hok hm => ?_)
  obtain ⟨⟨i0, j0⟩, ⟨i1, j1⟩, ⟨i2, j2⟩, ⟨i3, j3⟩, ⟨i4, j4⟩, ⟨i5, j5⟩, ⟨i6, j6⟩, ⟨i7, j7⟩, ⟨i8, j8⟩⟩ := id h1
  show sd_Wp sd_SM 0 sY11_sumOf 0 [some (.inr 15), some (.inl t), some (.inl 58), none, none] [] m _
  refine sd_iconst sD11_sumOf_0 (by decide) ?_
  refine sd_istore_n (ls' := [some (.inr 15), some (.inl t), some (.inl 58), some (.inl 0), none]) sD11_sumOf_1 (by decide) rfl ?_
  refine sd_iconst sD11_sumOf_2 (by decide) ?_
  refine sd_istore (ls' := [some (.inr 15), some (.inl t), some (.inl 58), some (.inl 0), some (.inl 0)]) sD11_sumOf_3 (by decide) rfl ?_
  refine sd_forE ((x 2).toNat) (fun zi5 : Nat => [some (.inr 15), some (.inl t), some (.inl 58), some (.inl (sd_sum (sd_fsi x t 58) zi5)), some (.inl (zi5 : Int))]) (by rfl) (fun zi5 hizi5 ihzi5 => ?_) ?_
  ·
    have e2 := h2 zi5 (by omega)
    have e5 := sd_sum_le (f := sd_fsi x t 58) (n := zi5) (B := 99) (fun i hi => sd_fsi_le h2 t (by omega) i (by omega))
    refine sd_iload sD11_sumOf_5 rfl ?_
    refine sd_aload_n sD11_sumOf_7 rfl ?_
    refine sd_getfr sD11_sumOf_8 sF11_7 sGM15_0 ?_
    refine sd_iconst sD11_sumOf_11 (by decide) ?_
    refine sd_ialdx (a := 2) (v := x 2) hx sD11_sumOf_12 sAM0 (by omega) rfl ?_
    refine sd_icmp_ge (tgt := 48) sD11_sumOf_13 (by decide) (fun zc13 => (by exfalso; omega)) (fun zc13 => ?_)
    refine sd_iload_n sD11_sumOf_16 rfl ?_
    refine sd_iload_n sD11_sumOf_17 rfl ?_
    refine sd_iload sD11_sumOf_18 rfl ?_
    refine sd_ishr sD11_sumOf_20 ?_
    refine sd_iconst sD11_sumOf_21 (by decide) ?_
    refine sd_iand sD11_sumOf_22 ?_
    refine sd_iconst sD11_sumOf_23 (by decide) ?_
    refine sd_icmp_ne (tgt := 39) sD11_sumOf_24 (by decide) (fun zc24 => ?_) (fun zc24 => ?_)
    ·
      refine sd_iconst sD11_sumOf_39 (by decide) ?_
      refine sd_iadd (z := sd_sum (sd_fsi x t 58) zi5) sD11_sumOf_40 (by omega) (by omega) ?_
      refine sd_istore_n (ls' := [some (.inr 15), some (.inl t), some (.inl 58), some (.inl (sd_sum (sd_fsi x t 58) zi5)), some (.inl (zi5 : Int))]) sD11_sumOf_41 (by decide) rfl ?_
      refine sd_iinc (y := ((zi5 : Int) + 1)) (ls' := [some (.inr 15), some (.inl t), some (.inl 58), some (.inl (sd_sum (sd_fsi x t 58) zi5)), some (.inl ((zi5 : Int) + 1))]) sD11_sumOf_42 rfl (by omega) (by omega) (by decide) rfl ?_
      refine sd_goto (tgt := 5) sD11_sumOf_45 (by decide) ?_
      exact sd_eqw (ls' := [some (.inr 15), some (.inl t), some (.inl 58), some (.inl (sd_sum (sd_fsi x t 58) (zi5 + 1))), some (.inl ((zi5 + 1 : Nat) : Int))]) ihzi5 (sd_cg rfl (sd_cg rfl (sd_cg rfl (sd_cg (sd_ce (show (sd_sum (sd_fsi x t 58) zi5 : Int) = sd_sum (sd_fsi x t 58) (zi5 + 1) from by (simp only [sd_sum]; unfold sd_fsi; first | (rw [if_pos (by assumption)]; done) | (rw [if_neg (by assumption)]; omega)))) (sd_cg (sd_ce (show (((zi5 : Int) + 1) : Int) = ((zi5 + 1 : Nat) : Int) from by omega)) rfl))))) rfl
    ·
      refine sd_aload_n sD11_sumOf_27 rfl ?_
      refine sd_getfr sD11_sumOf_28 sF11_7 sGM15_0 ?_
      refine sd_iload_n sD11_sumOf_31 rfl ?_
      refine sd_iload sD11_sumOf_32 rfl ?_
      refine sd_iadd (z := (58 + (zi5 : Int))) sD11_sumOf_34 (by omega) (by omega) ?_
      refine sd_ialdx (a := (58 + zi5)) (v := x (58 + zi5)) hx sD11_sumOf_35 sAM0 (by omega) rfl ?_
      refine sd_goto (tgt := 40) sD11_sumOf_36 (by decide) ?_
      refine sd_iadd (z := (sd_sum (sd_fsi x t 58) zi5 + x (58 + zi5))) sD11_sumOf_40 (by omega) (by omega) ?_
      refine sd_istore_n (ls' := [some (.inr 15), some (.inl t), some (.inl 58), some (.inl (sd_sum (sd_fsi x t 58) zi5 + x (58 + zi5))), some (.inl (zi5 : Int))]) sD11_sumOf_41 (by decide) rfl ?_
      refine sd_iinc (y := ((zi5 : Int) + 1)) (ls' := [some (.inr 15), some (.inl t), some (.inl 58), some (.inl (sd_sum (sd_fsi x t 58) zi5 + x (58 + zi5))), some (.inl ((zi5 : Int) + 1))]) sD11_sumOf_42 rfl (by omega) (by omega) (by decide) rfl ?_
      refine sd_goto (tgt := 5) sD11_sumOf_45 (by decide) ?_
      exact sd_eqw (ls' := [some (.inr 15), some (.inl t), some (.inl 58), some (.inl (sd_sum (sd_fsi x t 58) (zi5 + 1))), some (.inl ((zi5 + 1 : Nat) : Int))]) ihzi5 (sd_cg rfl (sd_cg rfl (sd_cg rfl (sd_cg (sd_ce (show ((sd_sum (sd_fsi x t 58) zi5 + x (58 + zi5)) : Int) = sd_sum (sd_fsi x t 58) (zi5 + 1) from by (simp only [sd_sum]; unfold sd_fsi; first | (rw [if_pos (by assumption)]; done) | (rw [if_neg (by assumption)]; omega)))) (sd_cg (sd_ce (show (((zi5 : Int) + 1) : Int) = ((zi5 + 1 : Nat) : Int) from by omega)) rfl))))) rfl
  ·
    show sd_Wp sd_SM 0 sY11_sumOf 5 [some (.inr 15), some (.inl t), some (.inl 58), some (.inl (sd_sum (sd_fsi x t 58) ((x 2).toNat))), some (.inl ((((x 2).toNat) : Nat) : Int))] [] m _
    refine sd_iload sD11_sumOf_5 rfl ?_
    refine sd_aload_n sD11_sumOf_7 rfl ?_
    refine sd_getfr sD11_sumOf_8 sF11_7 sGM15_0 ?_
    refine sd_iconst sD11_sumOf_11 (by decide) ?_
    refine sd_ialdx (a := 2) (v := x 2) hx sD11_sumOf_12 sAM0 (by omega) rfl ?_
    refine sd_icmp_ge (tgt := 48) sD11_sumOf_13 (by decide) (fun zc13 => ?_) (fun zc13 => (by exfalso; omega))
    refine sd_iload_n sD11_sumOf_48 rfl ?_
    refine sd_iretp sD11_sumOf_49 rfl ?_
    rfl
