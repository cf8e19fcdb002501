set_option maxRecDepth 100000 in
set_option maxHeartbeats 4000000 in
theorem cC_makers (x m : sd_M) (hx : sd_ns x m) (h1 : sd_I1 x) (h2 : sd_I2 x) (h4 : sd_I4 x) (h6 : sd_I6 x) (hR : sd_IR x) : sd_Ct sd_SC 4 sY6_makers [.inr 53] m (fun r m' => r = some (.inl (sd_mks x)) ∧ sd_ns x m') := by
  refine sd_ct rfl (Nat.le_of_ble_eq_true rfl) (fun hok hm => ?_)
  obtain ⟨⟨i0, j0⟩, ⟨i1, j1⟩, ⟨i2, j2⟩, ⟨i3, j3⟩, ⟨i4, j4⟩, ⟨i5, j5⟩, ⟨i6, j6⟩, ⟨i7, j7⟩, ⟨i8, j8⟩⟩ := id h1
  show sd_Wp sd_SC 4 sY6_makers 0 [some (.inr 53), none, none] [] m _
  refine sd_iconst sD6_makers_0 (by decide) ?_
  refine sd_istore_n (ls' := [some (.inr 53), some (.inl 0), none]) sD6_makers_1 (by decide) rfl ?_
  refine sd_iconst sD6_makers_2 (by decide) ?_
  refine sd_istore_n (ls' := [some (.inr 53), some (.inl 0), some (.inl 0)]) sD6_makers_3 (by decide) rfl ?_
  refine sd_forX ((x 2).toNat) (fun zi4 : Nat => [some (.inr 53), some (.inl (sd_set (sd_Pmk x) zi4)), some (.inl (zi4 : Int))]) (fun zi4 : Nat => x) (fun (zi4 : Nat) (m : sd_M) => True) (by rfl) (fun zi4 hizi4 m hx hpzi4 ihzi4 => ?_) (fun m hx hpzi4 => ?_) (by exact hx) (by trivial)
  ·
    refine sd_iload_n sD6_makers_4 rfl ?_
    refine sd_aload_n sD6_makers_5 rfl ?_
    refine sd_getfr sD6_makers_6 sF6_21 sGC53_2 ?_
    refine sd_getfx (v := x 2) hx sD6_makers_9 sF6_143 sGC13_0 (by decide) rfl ?_
    refine sd_icmp_ge (tgt := 35) sD6_makers_12 (by decide) (fun zc12 => (by exfalso; omega)) (fun zc12 => ?_)
    refine sd_aload_n sD6_makers_15 rfl ?_
    refine sd_iload_n sD6_makers_16 rfl ?_
    refine sd_callV (as := [.inl (zi4 : Int)]) (st := []) sD6_makers_17 sM6_146 rfl rfl sOC53 rfl (by decide) (Nat.le_of_ble_eq_true rfl) (cC_makes (zi4 : Int) _ m hx (by omega) h1 h2 h4 h6 hR) (fun r m hq ho17 hm => ?_)
    obtain ⟨rfl, hx⟩ := hq
    show sd_Wp sd_SC 4 sY6_makers 20 [some (.inr 53), some (.inl (sd_set (sd_Pmk x) zi4)), some (.inl (zi4 : Int))] [.inl (sd_b (sd_mk x (zi4 : Int)))] m _
    refine sd_bif_eq (tgt := 29) sD6_makers_20 (by decide) (fun zc20 => ?_) (fun zc20 => ?_)
    ·
      refine sd_iinc (y := ((zi4 : Int) + 1)) (ls' := [some (.inr 53), some (.inl (sd_set (sd_Pmk x) zi4)), some (.inl ((zi4 : Int) + 1))]) sD6_makers_29 rfl (by omega) (by omega) (by decide) rfl ?_
      refine sd_goto (tgt := 4) sD6_makers_32 (by decide) ?_
      exact sd_eqw (ls' := [some (.inr 53), some (.inl (sd_set (sd_Pmk x) (zi4 + 1))), some (.inl ((zi4 + 1 : Nat) : Int))]) (ihzi4 m (by exact hx) (by trivial)) (sd_cg rfl (sd_cg (sd_ce (show (sd_set (sd_Pmk x) zi4 : Int) = sd_set (sd_Pmk x) (zi4 + 1) from by simp only [sd_set]; first | (rw [if_pos (by assumption)]; done) | (rw [if_neg (by assumption)]; done))) (sd_cg (sd_ce (show (((zi4 : Int) + 1) : Int) = ((zi4 + 1 : Nat) : Int) from by omega)) rfl))) rfl
    ·
      refine sd_iload_n sD6_makers_23 rfl ?_
      refine sd_iconst sD6_makers_24 (by decide) ?_
      refine sd_iload_n sD6_makers_25 rfl ?_
      refine sd_ishl sD6_makers_26 ?_
      refine sd_ior sD6_makers_27 ?_
      refine sd_istore_n (ls' := [some (.inr 53), some (.inl (sd_or (sd_set (sd_Pmk x) zi4) (sd_shl 1 (zi4 : Int)))), some (.inl (zi4 : Int))]) sD6_makers_28 (by decide) rfl ?_
      refine sd_iinc (y := ((zi4 : Int) + 1)) (ls' := [some (.inr 53), some (.inl (sd_or (sd_set (sd_Pmk x) zi4) (sd_shl 1 (zi4 : Int)))), some (.inl ((zi4 : Int) + 1))]) sD6_makers_29 rfl (by omega) (by omega) (by decide) rfl ?_
      refine sd_goto (tgt := 4) sD6_makers_32 (by decide) ?_
      exact sd_eqw (ls' := [some (.inr 53), some (.inl (sd_set (sd_Pmk x) (zi4 + 1))), some (.inl ((zi4 + 1 : Nat) : Int))]) (ihzi4 m (by exact hx) (by trivial)) (sd_cg rfl (sd_cg (sd_ce (show (sd_or (sd_set (sd_Pmk x) zi4) (sd_shl 1 (zi4 : Int)) : Int) = sd_set (sd_Pmk x) (zi4 + 1) from by simp only [sd_set]; first | (rw [if_pos (by assumption)]; done) | (rw [if_neg (by assumption)]; done))) (sd_cg (sd_ce (show (((zi4 : Int) + 1) : Int) = ((zi4 + 1 : Nat) : Int) from by omega)) rfl))) rfl
  ·
    show sd_Wp sd_SC 4 sY6_makers 4 [some (.inr 53), some (.inl (sd_set (sd_Pmk x) ((x 2).toNat))), some (.inl ((((x 2).toNat) : Nat) : Int))] [] m _
    refine sd_iload_n sD6_makers_4 rfl ?_
    refine sd_aload_n sD6_makers_5 rfl ?_
    refine sd_getfr sD6_makers_6 sF6_21 sGC53_2 ?_
    refine sd_getfx (v := x 2) hx sD6_makers_9 sF6_143 sGC13_0 (by decide) rfl ?_
    refine sd_icmp_ge (tgt := 35) sD6_makers_12 (by decide) (fun zc12 => ?_) (fun zc12 => (by exfalso; omega))
    refine sd_iload_n sD6_makers_35 rfl ?_
    refine sd_ireturn sD6_makers_36 rfl (fun hr hm => ?_)
    exact ⟨rfl, hx⟩
