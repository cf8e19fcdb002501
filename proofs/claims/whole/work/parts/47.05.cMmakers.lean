set_option maxRecDepth 100000 in
set_option maxHeartbeats 4000000 in
theorem cM_makers (x m : sd_M) (hx : sd_ns x m) (h1 : sd_I1 x) (h2 : sd_I2 x) (h4 : sd_I4 x) (h6 : sd_I6 x) (hR : sd_IR x) (hI : sd_IT x) (hL : sd_LT x) : sd_Ct sd_SM 7 sY11_makers [.inr 15] m (fun r m' => r = some (.inl (sd_mks x)) ∧ sd_ns x m') := by
  refine sd_ct rfl (Nat.le_of_ble_eq_true rfl) (fun hok hm => ?_)
  obtain ⟨⟨i0, j0⟩, ⟨i1, j1⟩, ⟨i2, j2⟩, ⟨i3, j3⟩, ⟨i4, j4⟩, ⟨i5, j5⟩, ⟨i6, j6⟩, ⟨i7, j7⟩, ⟨i8, j8⟩⟩ := id h1
  show sd_Wp sd_SM 7 sY11_makers 0 [some (.inr 15), none, none] [] m _
  refine sd_iconst sD11_makers_0 (by decide) ?_
  refine sd_istore_n (ls' := [some (.inr 15), some (.inl 0), none]) sD11_makers_1 (by decide) rfl ?_
  refine sd_iconst sD11_makers_2 (by decide) ?_
  refine sd_istore_n (ls' := [some (.inr 15), some (.inl 0), some (.inl 0)]) sD11_makers_3 (by decide) rfl ?_
  refine sd_forX ((x 2).toNat) (fun zi4 : Nat => [some (.inr 15), some (.inl (sd_set (sd_Pmk x) zi4)), some (.inl (zi4 : Int))]) (fun zi4 : Nat => x) (fun (zi4 : Nat) (m : sd_M) => True) (by rfl) (fun zi4 hizi4 m hx hpzi4 ihzi4 => ?_) (fun m hx hpzi4 => ?_) (by exact hx) (by trivial)
  ·
    refine sd_iload_n sD11_makers_4 rfl ?_
    refine sd_aload_n sD11_makers_5 rfl ?_
    refine sd_getfr sD11_makers_6 sF11_7 sGM15_0 ?_
    refine sd_iconst sD11_makers_9 (by decide) ?_
    refine sd_ialdx (a := 2) (v := x 2) hx sD11_makers_10 sAM0 (by omega) rfl ?_
    refine sd_icmp_ge (tgt := 38) sD11_makers_11 (by decide) (fun zc11 => (by exfalso; omega)) (fun zc11 => ?_)
    refine sd_iload_n sD11_makers_14 rfl ?_
    refine sd_aload_n sD11_makers_15 rfl ?_
    refine sd_iload_n sD11_makers_16 rfl ?_
    refine sd_callV (as := [.inl (zi4 : Int)]) (st := [.inl (sd_set (sd_Pmk x) zi4)]) sD11_makers_17 sM11_90 rfl rfl sOM15 rfl (by decide) (Nat.le_of_ble_eq_true rfl) (cM_makes (zi4 : Int) _ m hx (by omega) h1 h2 h4 h6 hR hI hL) (fun r m hq ho17 hm => ?_)
    obtain ⟨rfl, hx⟩ := hq
    show sd_Wp sd_SM 7 sY11_makers 20 [some (.inr 15), some (.inl (sd_set (sd_Pmk x) zi4)), some (.inl (zi4 : Int))] [.inl (sd_b (sd_mk x (zi4 : Int))), .inl (sd_set (sd_Pmk x) zi4)] m _
    refine sd_bif_eq (tgt := 29) sD11_makers_20 (by decide) (fun zc20 => ?_) (fun zc20 => ?_)
    ·
      refine sd_iconst sD11_makers_29 (by decide) ?_
      refine sd_ior sD11_makers_30 ?_
      refine sd_istore_n (ls' := [some (.inr 15), some (.inl (sd_or (sd_set (sd_Pmk x) zi4) 0)), some (.inl (zi4 : Int))]) sD11_makers_31 (by decide) rfl ?_
      refine sd_iinc (y := ((zi4 : Int) + 1)) (ls' := [some (.inr 15), some (.inl (sd_or (sd_set (sd_Pmk x) zi4) 0)), some (.inl ((zi4 : Int) + 1))]) sD11_makers_32 rfl (by omega) (by omega) (by decide) rfl ?_
      refine sd_goto (tgt := 4) sD11_makers_35 (by decide) ?_
      exact sd_eqw (ls' := [some (.inr 15), some (.inl (sd_set (sd_Pmk x) (zi4 + 1))), some (.inl ((zi4 + 1 : Nat) : Int))]) (ihzi4 m (by exact hx) (by trivial)) (sd_cg rfl (sd_cg (sd_ce (show (sd_or (sd_set (sd_Pmk x) zi4) 0 : Int) = sd_set (sd_Pmk x) (zi4 + 1) from by simp only [sd_set]; first | (rw [if_pos (by assumption)]; done) | (rw [if_neg (by assumption)]; exact sd_or_0 (sd_setR _ _)))) (sd_cg (sd_ce (show (((zi4 : Int) + 1) : Int) = ((zi4 + 1 : Nat) : Int) from by omega)) rfl))) rfl
    ·
      refine sd_iconst sD11_makers_23 (by decide) ?_
      refine sd_iload_n sD11_makers_24 rfl ?_
      refine sd_ishl sD11_makers_25 ?_
      refine sd_goto (tgt := 30) sD11_makers_26 (by decide) ?_
      refine sd_ior sD11_makers_30 ?_
      refine sd_istore_n (ls' := [some (.inr 15), some (.inl (sd_or (sd_set (sd_Pmk x) zi4) (sd_shl 1 (zi4 : Int)))), some (.inl (zi4 : Int))]) sD11_makers_31 (by decide) rfl ?_
      refine sd_iinc (y := ((zi4 : Int) + 1)) (ls' := [some (.inr 15), some (.inl (sd_or (sd_set (sd_Pmk x) zi4) (sd_shl 1 (zi4 : Int)))), some (.inl ((zi4 : Int) + 1))]) sD11_makers_32 rfl (by omega) (by omega) (by decide) rfl ?_
      refine sd_goto (tgt := 4) sD11_makers_35 (by decide) ?_
      exact sd_eqw (ls' := [some (.inr 15), some (.inl (sd_set (sd_Pmk x) (zi4 + 1))), some (.inl ((zi4 + 1 : Nat) : Int))]) (ihzi4 m (by exact hx) (by trivial)) (sd_cg rfl (sd_cg (sd_ce (show (sd_or (sd_set (sd_Pmk x) zi4) (sd_shl 1 (zi4 : Int)) : Int) = sd_set (sd_Pmk x) (zi4 + 1) from by simp only [sd_set]; first | (rw [if_pos (by assumption)]; done) | (rw [if_neg (by assumption)]; exact sd_or_0 (sd_setR _ _)))) (sd_cg (sd_ce (show (((zi4 : Int) + 1) : Int) = ((zi4 + 1 : Nat) : Int) from by omega)) rfl))) rfl
  ·
    show sd_Wp sd_SM 7 sY11_makers 4 [some (.inr 15), some (.inl (sd_set (sd_Pmk x) ((x 2).toNat))), some (.inl ((((x 2).toNat) : Nat) : Int))] [] m _
    refine sd_iload_n sD11_makers_4 rfl ?_
    refine sd_aload_n sD11_makers_5 rfl ?_
    refine sd_getfr sD11_makers_6 sF11_7 sGM15_0 ?_
    refine sd_iconst sD11_makers_9 (by decide) ?_
    refine sd_ialdx (a := 2) (v := x 2) hx sD11_makers_10 sAM0 (by omega) rfl ?_
    refine sd_icmp_ge (tgt := 38) sD11_makers_11 (by decide) (fun zc11 => ?_) (fun zc11 => (by exfalso; omega))
    refine sd_iload_n sD11_makers_38 rfl ?_
    refine sd_ireturn sD11_makers_39 rfl (fun hr hm => ?_)
    exact ⟨rfl, hx⟩
