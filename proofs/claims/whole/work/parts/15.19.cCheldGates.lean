set_option maxRecDepth 100000 in
set_option maxHeartbeats 4000000 in
theorem cC_heldGates (x m : sd_M) (hx : sd_ns x m) (h1 : sd_I1 x) (h2 : sd_I2 x) : sd_Cp sd_SC 0 sY1_heldGates [.inr 13] m (.inl (sd_hgt x)) := by
  refine sd_ct rfl (Nat.le_of_ble_eq_true rfl) (fun hok hm => ?_)
  obtain ⟨⟨i0, j0⟩, ⟨i1, j1⟩, ⟨i2, j2⟩, ⟨i3, j3⟩, ⟨i4, j4⟩, ⟨i5, j5⟩, ⟨i6, j6⟩, ⟨i7, j7⟩, ⟨i8, j8⟩⟩ := id h1
  show sd_Wp sd_SC 0 sY1_heldGates 0 [some (.inr 13), none, none] [] m _
  refine sd_iconst sD1_heldGates_0 (by decide) ?_
  refine sd_istore_n (ls' := [some (.inr 13), some (.inl 0), none]) sD1_heldGates_1 (by decide) rfl ?_
  refine sd_iconst sD1_heldGates_2 (by decide) ?_
  refine sd_istore_n (ls' := [some (.inr 13), some (.inl 0), some (.inl 0)]) sD1_heldGates_3 (by decide) rfl ?_
  refine sd_forE ((x 2).toNat) (fun zi4 : Nat => [some (.inr 13), some (.inl (sd_sum (fun i => x (202 + i)) zi4)), some (.inl (zi4 : Int))]) (by rfl) (fun zi4 hizi4 ihzi4 => ?_) ?_
  ·
    have e2 := h2 zi4 (by omega)
    have e5 := sd_sum_le (f := fun i => x (202 + i)) (n := zi4) (B := 1) (fun i hi => by have := h2 i (by omega); omega)
    refine sd_iload_n sD1_heldGates_4 rfl ?_
    refine sd_aload_n sD1_heldGates_5 rfl ?_
    refine sd_getfx (v := x 2) hx sD1_heldGates_6 sF1_9 sGC13_0 (by decide) rfl ?_
    refine sd_icmp_ge (tgt := 27) sD1_heldGates_9 (by decide) (fun zc9 => (by exfalso; omega)) (fun zc9 => ?_)
    refine sd_iload_n sD1_heldGates_12 rfl ?_
    refine sd_aload_n sD1_heldGates_13 rfl ?_
    refine sd_getfr sD1_heldGates_14 sF1_43 sGC13_10 ?_
    refine sd_iload_n sD1_heldGates_17 rfl ?_
    refine sd_ialdx (a := (202 + zi4)) (v := x (202 + zi4)) hx sD1_heldGates_18 sAC8 (by omega) rfl ?_
    refine sd_iadd (z := (sd_sum (fun i => x (202 + i)) zi4 + x (202 + zi4))) sD1_heldGates_19 (by omega) (by omega) ?_
    refine sd_istore_n (ls' := [some (.inr 13), some (.inl (sd_sum (fun i => x (202 + i)) zi4 + x (202 + zi4))), some (.inl (zi4 : Int))]) sD1_heldGates_20 (by decide) rfl ?_
    refine sd_iinc (y := ((zi4 : Int) + 1)) (ls' := [some (.inr 13), some (.inl (sd_sum (fun i => x (202 + i)) zi4 + x (202 + zi4))), some (.inl ((zi4 : Int) + 1))]) sD1_heldGates_21 rfl (by omega) (by omega) (by decide) rfl ?_
    refine sd_goto (tgt := 4) sD1_heldGates_24 (by decide) ?_
    exact sd_eqw (ls' := [some (.inr 13), some (.inl (sd_sum (fun i => x (202 + i)) (zi4 + 1))), some (.inl ((zi4 + 1 : Nat) : Int))]) ihzi4 (by rw [show ((sd_sum (fun i => x (202 + i)) zi4 + x (202 + zi4)) : Int) = sd_sum (fun i => x (202 + i)) (zi4 + 1) from by rfl, show (((zi4 : Int) + 1) : Int) = ((zi4 + 1 : Nat) : Int) from by omega]) rfl
  ·
    show sd_Wp sd_SC 0 sY1_heldGates 4 [some (.inr 13), some (.inl (sd_sum (fun i => x (202 + i)) ((x 2).toNat))), some (.inl ((((x 2).toNat) : Nat) : Int))] [] m _
    refine sd_iload_n sD1_heldGates_4 rfl ?_
    refine sd_aload_n sD1_heldGates_5 rfl ?_
    refine sd_getfx (v := x 2) hx sD1_heldGates_6 sF1_9 sGC13_0 (by decide) rfl ?_
    refine sd_icmp_ge (tgt := 27) sD1_heldGates_9 (by decide) (fun zc9 => ?_) (fun zc9 => (by exfalso; omega))
    refine sd_iload_n sD1_heldGates_27 rfl ?_
    refine sd_iretp sD1_heldGates_28 rfl ?_
    first | rfl | omega | (congr 1; omega)
