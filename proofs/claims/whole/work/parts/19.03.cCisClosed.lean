set_option maxRecDepth 100000 in
set_option maxHeartbeats 4000000 in
theorem cC_isClosed (d : Int) (x m : sd_M) (hx : sd_ns x m) (h1 : sd_I1 x) (hd : 0 ≤ d ∧ d ≤ 39) : sd_Cp sd_SC 0 sY6_isClosed [.inr 53, .inl d] m (.inl (sd_b (d < x 0 / 24))) := by
  refine sd_ct rfl (Nat.le_of_ble_eq_true rfl) (fun hok hm => ?_)
  obtain ⟨⟨i0, j0⟩, ⟨i1, j1⟩, ⟨i2, j2⟩, ⟨i3, j3⟩, ⟨i4, j4⟩, ⟨i5, j5⟩, ⟨i6, j6⟩, ⟨i7, j7⟩, ⟨i8, j8⟩⟩ := id h1
  have r_d : sd_R d := hok (.inl d) (by simp)
  show sd_Wp sd_SC 0 sY6_isClosed 0 [some (.inr 53), some (.inl d)] [] m _
  refine sd_iload_n sD6_isClosed_0 rfl ?_
  refine sd_aload_n sD6_isClosed_1 rfl ?_
  refine sd_getfx (v := x 0) hx sD6_isClosed_2 sF6_9 sGC53_0 (by decide) rfl ?_
  refine sd_bipush sD6_isClosed_5 rfl (by decide) ?_
  refine sd_idiv (z := (x 0 / 24)) sD6_isClosed_7 (by decide) (by exact Int.tdiv_eq_ediv_of_nonneg (by omega)) (by omega) ?_
  refine sd_icmp_ge (tgt := 15) sD6_isClosed_8 (by decide) (fun zc8 => ?_) (fun zc8 => ?_)
  ·
    refine sd_iconst sD6_isClosed_15 (by decide) ?_
    refine sd_zretp sD6_isClosed_16 rfl (by decide) ?_
    exact (sd_b0 (by omega)).symm
  ·
    refine sd_iconst sD6_isClosed_11 (by decide) ?_
    refine sd_goto (tgt := 16) sD6_isClosed_12 (by decide) ?_
    refine sd_zretp sD6_isClosed_16 rfl (by decide) ?_
    exact (sd_b1 (by omega)).symm
