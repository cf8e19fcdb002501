set_option maxRecDepth 100000 in
set_option maxHeartbeats 4000000 in
theorem cM_heldGates (x m : sd_M) (hx : sd_ns x m) (h1 : sd_I1 x) (h2 : sd_I2 x) (h3 : sd_I3 x) : sd_Cp sd_SM 1 sY11_heldGates [.inr 15] m (.inl (sd_hgt x)) := by
  refine sd_ct rfl (Nat.le_of_ble_eq_true rfl) (fun hok hm => ?_)
  obtain ⟨⟨i0, j0⟩, ⟨i1, j1⟩, ⟨i2, j2⟩, ⟨i3, j3⟩, ⟨i4, j4⟩, ⟨i5, j5⟩, ⟨i6, j6⟩, ⟨i7, j7⟩, ⟨i8, j8⟩⟩ := id h1
  show sd_Wp sd_SM 1 sY11_heldGates 0 [some (.inr 15), none, none] [] m _
  refine sd_iconst sD11_heldGates_0 (by decide) ?_
  refine sd_istore_n (ls' := [some (.inr 15), some (.inl 0), none]) sD11_heldGates_1 (by decide) rfl ?_
  refine sd_iconst sD11_heldGates_2 (by decide) ?_
  refine sd_istore_n (ls' := [some (.inr 15), some (.inl 0), some (.inl 0)]) sD11_heldGates_3 (by decide) rfl ?_
  refine sd_forE ((x 2).toNat) (fun zi4 : Nat => [some (.inr 15), some (.inl (sd_sum (fun i => x (202 + i)) zi4)), some (.inl (zi4 : Int))]) (by rfl) (fun zi4 hizi4 ihzi4 => ?_) ?_
  ·
    have e2 := h2 zi4 (by omega)
    have e5 := sd_sum_le (f := fun i => x (202 + i)) (n := zi4) (B := 1) (fun i hi => by have := h2 i (by omega); omega)
    refine sd_iload_n sD11_heldGates_4 rfl ?_
    refine sd_aload_n sD11_heldGates_5 rfl ?_
    refine sd_getfr sD11_heldGates_6 sF11_7 sGM15_0 ?_
    refine sd_iconst sD11_heldGates_9 (by decide) ?_
    refine sd_ialdx (a := 2) (v := x 2) hx sD11_heldGates_10 sAM0 (by omega) rfl ?_
    refine sd_icmp_ge (tgt := 46) sD11_heldGates_11 (by decide) (fun zc11 => (by exfalso; omega)) (fun zc11 => ?_)
    refine sd_iload_n sD11_heldGates_14 rfl ?_
    refine sd_aload_n sD11_heldGates_15 rfl ?_
    refine sd_iload_n sD11_heldGates_16 rfl ?_
    refine sd_callVp (as := [.inl (zi4 : Int)]) (st := [.inl (sd_sum (fun i => x (202 + i)) zi4)]) (v := .inl (x (10 + zi4))) sD11_heldGates_17 sM11_64 sOM15 rfl rfl rfl (by decide) (Nat.le_of_ble_eq_true rfl) (cM_kindOf (zi4 : Int) _ m hx  (by omega)) (fun ho17 => ?_)
    refine sd_iconst sD11_heldGates_20 (by decide) ?_
    refine sd_icmp_ne (tgt := 37) sD11_heldGates_21 (by decide) (fun zc21 => ?_) (fun zc21 => ?_)
    ·
      have e3 := sd_hz h3 (by omega) zc21
      refine sd_iconst sD11_heldGates_37 (by decide) ?_
      refine sd_iadd (z := sd_sum (fun i => x (202 + i)) zi4) sD11_heldGates_38 (by omega) (by omega) ?_
      refine sd_istore_n (ls' := [some (.inr 15), some (.inl (sd_sum (fun i => x (202 + i)) zi4)), some (.inl (zi4 : Int))]) sD11_heldGates_39 (by decide) rfl ?_
      refine sd_iinc (y := ((zi4 : Int) + 1)) (ls' := [some (.inr 15), some (.inl (sd_sum (fun i => x (202 + i)) zi4)), some (.inl ((zi4 : Int) + 1))]) sD11_heldGates_40 rfl (by omega) (by omega) (by decide) rfl ?_
      refine sd_goto (tgt := 4) sD11_heldGates_43 (by decide) ?_
      exact sd_eqw (ls' := [some (.inr 15), some (.inl (sd_sum (fun i => x (202 + i)) (zi4 + 1))), some (.inl ((zi4 + 1 : Nat) : Int))]) ihzi4 (by rw [show (sd_sum (fun i => x (202 + i)) zi4 : Int) = sd_sum (fun i => x (202 + i)) (zi4 + 1) from by first | (simp only [sd_sum]; done) | (simp only [sd_sum]; omega), show (((zi4 : Int) + 1) : Int) = ((zi4 + 1 : Nat) : Int) from by omega]) rfl
    ·
      refine sd_aload_n sD11_heldGates_24 rfl ?_
      refine sd_getfr sD11_heldGates_25 sF11_7 sGM15_0 ?_
      refine sd_sipush sD11_heldGates_28 rfl (by decide) ?_
      refine sd_iload_n sD11_heldGates_31 rfl ?_
      refine sd_iadd (z := (202 + (zi4 : Int))) sD11_heldGates_32 (by omega) (by omega) ?_
      refine sd_ialdx (a := (202 + zi4)) (v := x (202 + zi4)) hx sD11_heldGates_33 sAM0 (by omega) rfl ?_
      refine sd_goto (tgt := 38) sD11_heldGates_34 (by decide) ?_
      refine sd_iadd (z := (sd_sum (fun i => x (202 + i)) zi4 + x (202 + zi4))) sD11_heldGates_38 (by omega) (by omega) ?_
      refine sd_istore_n (ls' := [some (.inr 15), some (.inl (sd_sum (fun i => x (202 + i)) zi4 + x (202 + zi4))), some (.inl (zi4 : Int))]) sD11_heldGates_39 (by decide) rfl ?_
      refine sd_iinc (y := ((zi4 : Int) + 1)) (ls' := [some (.inr 15), some (.inl (sd_sum (fun i => x (202 + i)) zi4 + x (202 + zi4))), some (.inl ((zi4 : Int) + 1))]) sD11_heldGates_40 rfl (by omega) (by omega) (by decide) rfl ?_
      refine sd_goto (tgt := 4) sD11_heldGates_43 (by decide) ?_
      exact sd_eqw (ls' := [some (.inr 15), some (.inl (sd_sum (fun i => x (202 + i)) (zi4 + 1))), some (.inl ((zi4 + 1 : Nat) : Int))]) ihzi4 (by rw [show ((sd_sum (fun i => x (202 + i)) zi4 + x (202 + zi4)) : Int) = sd_sum (fun i => x (202 + i)) (zi4 + 1) from by first | (simp only [sd_sum]; done) | (simp only [sd_sum]; omega), show (((zi4 : Int) + 1) : Int) = ((zi4 + 1 : Nat) : Int) from by omega]) rfl
  ·
    show sd_Wp sd_SM 1 sY11_heldGates 4 [some (.inr 15), some (.inl (sd_sum (fun i => x (202 + i)) ((x 2).toNat))), some (.inl ((((x 2).toNat) : Nat) : Int))] [] m _
    refine sd_iload_n sD11_heldGates_4 rfl ?_
    refine sd_aload_n sD11_heldGates_5 rfl ?_
    refine sd_getfr sD11_heldGates_6 sF11_7 sGM15_0 ?_
    refine sd_iconst sD11_heldGates_9 (by decide) ?_
    refine sd_ialdx (a := 2) (v := x 2) hx sD11_heldGates_10 sAM0 (by omega) rfl ?_
    refine sd_icmp_ge (tgt := 46) sD11_heldGates_11 (by decide) (fun zc11 => ?_) (fun zc11 => (by exfalso; omega))
    refine sd_iload_n sD11_heldGates_46 rfl ?_
    refine sd_iretp sD11_heldGates_47 rfl ?_
    first | rfl | omega | (congr 1; omega)
