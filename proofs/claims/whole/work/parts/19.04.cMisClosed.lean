set_option maxRecDepth 100000 in
set_option maxHeartbeats 4000000 in
theorem cM_isClosed (d : Int) (x m : sd_M) (hx : sd_ns x m) (h1 : sd_I1 x) (hd : 0 ≤ d ∧ d ≤ 39) : sd_Cp sd_SM 0 sY11_isClosed [.inr 15, .inl d] m (.inl (sd_b (d < x 0 / 24))) := by
  refine sd_ct rfl (Nat.le_of_ble_eq_true rfl) (fun hok hm => ?_)
  obtain ⟨⟨i0, j0⟩, ⟨i1, j1⟩, ⟨i2, j2⟩, ⟨i3, j3⟩, ⟨i4, j4⟩, ⟨i5, j5⟩, ⟨i6, j6⟩, ⟨i7, j7⟩, ⟨i8, j8⟩⟩ := id h1
  have r_d : sd_R d := hok (.inl d) (by simp)
  show sd_Wp sd_SM 0 sY11_isClosed 0 [some (.inr 15), some (.inl d)] [] m _
  refine sd_aload_n sD11_isClosed_0 rfl ?_
  refine sd_getfr sD11_isClosed_1 sF11_7 sGM15_0 ?_
  refine sd_iconst sD11_isClosed_4 (by decide) ?_
  refine sd_ialdx (a := 0) (v := x 0) hx sD11_isClosed_5 sAM0 (by omega) rfl ?_
  refine sd_bipush sD11_isClosed_6 rfl (by decide) ?_
  refine sd_iload_n sD11_isClosed_8 rfl ?_
  refine sd_imul (z := (24 * d)) sD11_isClosed_9 (by omega) (by omega) ?_
  refine sd_bipush sD11_isClosed_10 rfl (by decide) ?_
  refine sd_iadd (z := ((24 * d) + 24)) sD11_isClosed_12 (by omega) (by omega) ?_
  refine sd_icmp_lt (tgt := 20) sD11_isClosed_13 (by decide) (fun zc13 => ?_) (fun zc13 => ?_)
  ·
    refine sd_iconst sD11_isClosed_20 (by decide) ?_
    refine sd_zretp sD11_isClosed_21 rfl (by decide) ?_
    exact (sd_b0 (by omega)).symm
  ·
    refine sd_iconst sD11_isClosed_16 (by decide) ?_
    refine sd_goto (tgt := 21) sD11_isClosed_17 (by decide) ?_
    refine sd_zretp sD11_isClosed_21 rfl (by decide) ?_
    exact (sd_b1 (by omega)).symm
