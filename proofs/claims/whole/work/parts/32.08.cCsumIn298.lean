set_option maxRecDepth 100000 in
set_option maxHeartbeats 4000000 in
theorem cC_sumIn298 (t : Int) (x m : sd_M) (hx : sd_ns x m) (h1 : sd_I1 x) (h2 : sd_I2 x) : sd_Cp sd_SC 1 sY1_sumIn [.inr 13, .inl t, .inr 12] m (.inl (sd_smi x t 298)) := by
  refine sd_ct rfl (Nat.le_of_ble_eq_true rfl) (fun hok hm => ?_)
  obtain ⟨⟨i0, j0⟩, ⟨i1, j1⟩, ⟨i2, j2⟩, ⟨i3, j3⟩, ⟨i4, j4⟩, ⟨i5, j5⟩, ⟨i6, j6⟩, ⟨i7, j7⟩, ⟨i8, j8⟩⟩ := id h1
  show sd_Wp sd_SC 1 sY1_sumIn 0 [some (.inr 13), some (.inl t), some (.inr 12), none, none] [] m _
  refine sd_iconst sD1_sumIn_0 (by decide) ?_
  refine sd_istore_n (ls' := [some (.inr 13), some (.inl t), some (.inr 12), some (.inl 0), none]) sD1_sumIn_1 (by decide) rfl ?_
  refine sd_iconst sD1_sumIn_2 (by decide) ?_
  refine sd_istore (ls' := [some (.inr 13), some (.inl t), some (.inr 12), some (.inl 0), some (.inl 0)]) sD1_sumIn_3 (by decide) rfl ?_
  refine sd_forE ((x 2).toNat) (fun zi5 : Nat => [some (.inr 13), some (.inl t), some (.inr 12), some (.inl (sd_sum (sd_fsi x t 298) zi5)), some (.inl (zi5 : Int))]) (by rfl) (fun zi5 hizi5 ihzi5 => ?_) ?_
  ·
    have e2 := h2 zi5 (by omega)
    have e5 := sd_sum_le (f := sd_fsi x t 298) (n := zi5) (B := 99) (fun i hi => sd_fsi_le h2 t (by omega) i (by omega))
    refine sd_iload sD1_sumIn_5 rfl ?_
    refine sd_aload_n sD1_sumIn_7 rfl ?_
    refine sd_getfx (v := x 2) hx sD1_sumIn_8 sF1_9 sGC13_0 (by decide) rfl ?_
    refine sd_icmp_ge (tgt := 36) sD1_sumIn_11 (by decide) (fun zc11 => (by exfalso; omega)) (fun zc11 => ?_)
    refine sd_iload_n sD1_sumIn_14 rfl ?_
    refine sd_iload sD1_sumIn_15 rfl ?_
    refine sd_callNp (as := [.inl t, .inl (zi5 : Int)]) (st := []) (v := .inl (sd_b (sd_bit t (zi5 : Int)))) sD1_sumIn_17 sM1_96 rfl rfl (by decide) (Nat.le_of_ble_eq_true rfl) (cC_isIn t (zi5 : Int) m) (fun ho17 => ?_)
    refine sd_bif_eq (tgt := 30) sD1_sumIn_20 (by decide) (fun zc20 => ?_) (fun zc20 => ?_)
    ·
      refine sd_iinc (y := ((zi5 : Int) + 1)) (ls' := [some (.inr 13), some (.inl t), some (.inr 12), some (.inl (sd_sum (sd_fsi x t 298) zi5)), some (.inl ((zi5 : Int) + 1))]) sD1_sumIn_30 rfl (by omega) (by omega) (by decide) rfl ?_
      refine sd_goto (tgt := 5) sD1_sumIn_33 (by decide) ?_
      exact sd_eqw (ls' := [some (.inr 13), some (.inl t), some (.inr 12), some (.inl (sd_sum (sd_fsi x t 298) (zi5 + 1))), some (.inl ((zi5 + 1 : Nat) : Int))]) ihzi5 (sd_cg rfl (sd_cg rfl (sd_cg rfl (sd_cg (sd_ce (show (sd_sum (sd_fsi x t 298) zi5 : Int) = sd_sum (sd_fsi x t 298) (zi5 + 1) from by (simp only [sd_sum]; unfold sd_fsi; first | (rw [if_pos (by assumption)]; done) | (rw [if_neg (by assumption)]; omega)))) (sd_cg (sd_ce (show (((zi5 : Int) + 1) : Int) = ((zi5 + 1 : Nat) : Int) from by omega)) rfl))))) rfl
    ·
      refine sd_iload_n sD1_sumIn_23 rfl ?_
      refine sd_aload_n sD1_sumIn_24 rfl ?_
      refine sd_iload sD1_sumIn_25 rfl ?_
      refine sd_ialdx (a := (298 + zi5)) (v := x (298 + zi5)) hx sD1_sumIn_27 sAC12 (by omega) rfl ?_
      refine sd_iadd (z := (sd_sum (sd_fsi x t 298) zi5 + x (298 + zi5))) sD1_sumIn_28 (by omega) (by omega) ?_
      refine sd_istore_n (ls' := [some (.inr 13), some (.inl t), some (.inr 12), some (.inl (sd_sum (sd_fsi x t 298) zi5 + x (298 + zi5))), some (.inl (zi5 : Int))]) sD1_sumIn_29 (by decide) rfl ?_
      refine sd_iinc (y := ((zi5 : Int) + 1)) (ls' := [some (.inr 13), some (.inl t), some (.inr 12), some (.inl (sd_sum (sd_fsi x t 298) zi5 + x (298 + zi5))), some (.inl ((zi5 : Int) + 1))]) sD1_sumIn_30 rfl (by omega) (by omega) (by decide) rfl ?_
      refine sd_goto (tgt := 5) sD1_sumIn_33 (by decide) ?_
      exact sd_eqw (ls' := [some (.inr 13), some (.inl t), some (.inr 12), some (.inl (sd_sum (sd_fsi x t 298) (zi5 + 1))), some (.inl ((zi5 + 1 : Nat) : Int))]) ihzi5 (sd_cg rfl (sd_cg rfl (sd_cg rfl (sd_cg (sd_ce (show ((sd_sum (sd_fsi x t 298) zi5 + x (298 + zi5)) : Int) = sd_sum (sd_fsi x t 298) (zi5 + 1) from by (simp only [sd_sum]; unfold sd_fsi; first | (rw [if_pos (by assumption)]; done) | (rw [if_neg (by assumption)]; omega)))) (sd_cg (sd_ce (show (((zi5 : Int) + 1) : Int) = ((zi5 + 1 : Nat) : Int) from by omega)) rfl))))) rfl
  ·
    show sd_Wp sd_SC 1 sY1_sumIn 5 [some (.inr 13), some (.inl t), some (.inr 12), some (.inl (sd_sum (sd_fsi x t 298) ((x 2).toNat))), some (.inl ((((x 2).toNat) : Nat) : Int))] [] m _
    refine sd_iload sD1_sumIn_5 rfl ?_
    refine sd_aload_n sD1_sumIn_7 rfl ?_
    refine sd_getfx (v := x 2) hx sD1_sumIn_8 sF1_9 sGC13_0 (by decide) rfl ?_
    refine sd_icmp_ge (tgt := 36) sD1_sumIn_11 (by decide) (fun zc11 => ?_) (fun zc11 => (by exfalso; omega))
    refine sd_iload_n sD1_sumIn_36 rfl ?_
    refine sd_iretp sD1_sumIn_37 rfl ?_
    rfl
