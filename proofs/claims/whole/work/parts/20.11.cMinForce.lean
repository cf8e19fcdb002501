set_option maxRecDepth 100000 in
set_option maxHeartbeats 4000000 in
theorem cM_inForce (x m : sd_M) (hx : sd_ns x m) (h1 : sd_I1 x) (h6 : sd_I6 x) : sd_Cp sd_SM 2 sY11_inForce [.inr 15] m (.inl (sd_cF x)) := by
  refine sd_ct rfl (Nat.le_of_ble_eq_true rfl) (fun hok hm => ?_)
  obtain ⟨⟨i0, j0⟩, ⟨i1, j1⟩, ⟨i2, j2⟩, ⟨i3, j3⟩, ⟨i4, j4⟩, ⟨i5, j5⟩, ⟨i6, j6⟩, ⟨i7, j7⟩, ⟨i8, j8⟩⟩ := id h1
  show sd_Wp sd_SM 2 sY11_inForce 0 [some (.inr 15), none, none] [] m _
  refine sd_iconst sD11_inForce_0 (by decide) ?_
  refine sd_istore_n (ls' := [some (.inr 15), some (.inl 0), none]) sD11_inForce_1 (by decide) rfl ?_
  refine sd_iconst sD11_inForce_2 (by decide) ?_
  refine sd_istore_n (ls' := [some (.inr 15), some (.inl 0), some (.inl 0)]) sD11_inForce_3 (by decide) rfl ?_
  refine sd_forE ((x 5).toNat) (fun zi4 : Nat => [some (.inr 15), some (.inl (sd_cnt (sd_Pf x) zi4)), some (.inl (zi4 : Int))]) (by rfl) (fun zi4 hizi4 ihzi4 => ?_) ?_
  ·
    have e5 := sd_cnt_le (sd_Pf x) zi4
    refine sd_iload_n sD11_inForce_4 rfl ?_
    refine sd_aload_n sD11_inForce_5 rfl ?_
    refine sd_getfr sD11_inForce_6 sF11_7 sGM15_0 ?_
    refine sd_iconst sD11_inForce_9 (by decide) ?_
    refine sd_ialdx (a := 5) (v := x 5) hx sD11_inForce_10 sAM0 (by omega) rfl ?_
    refine sd_icmp_ge (tgt := 42) sD11_inForce_11 (by decide) (fun zc11 => (by exfalso; omega)) (fun zc11 => ?_)
    refine sd_iload_n sD11_inForce_14 rfl ?_
    refine sd_aload_n sD11_inForce_15 rfl ?_
    refine sd_iload_n sD11_inForce_16 rfl ?_
    refine sd_aload_n sD11_inForce_17 rfl ?_
    refine sd_getfr sD11_inForce_18 sF11_7 sGM15_0 ?_
    refine sd_iconst sD11_inForce_21 (by decide) ?_
    refine sd_ialdx (a := 0) (v := x 0) hx sD11_inForce_22 sAM0 (by omega) rfl ?_
    refine sd_callVp (as := [.inl (zi4 : Int), .inl (x 0)]) (st := [.inl (sd_cnt (sd_Pf x) zi4)]) (v := .inl (sd_b (sd_inF x zi4 (x 0)))) sD11_inForce_23 sM11_193 sOM15 rfl rfl rfl (by decide) (Nat.le_of_ble_eq_true rfl) (cM_isInForce (zi4 : Int) (x 0) _ m hx h6 (by omega)) (fun ho23 => ?_)
    refine sd_cut (J := 34) (ls := [some (.inr 15), some (.inl (sd_cnt (sd_Pf x) zi4)), some (.inl (zi4 : Int))]) (st := [.inl (sd_cnt (sd_Pf x) zi4)]) (fun zv => zv = (sd_b (sd_inF x zi4 (x 0)))) (fun zv hzv => ?_) (fun K26 => ?_)
    ·
      subst hzv
      have zb34 := sd_b01 (sd_inF x zi4 (x 0))
      refine sd_iadd (z := (sd_cnt (sd_Pf x) zi4 + sd_b (sd_inF x zi4 (x 0)))) sD11_inForce_34 (by omega) (by omega) ?_
      refine sd_istore_n (ls' := [some (.inr 15), some (.inl (sd_cnt (sd_Pf x) zi4 + sd_b (sd_inF x zi4 (x 0)))), some (.inl (zi4 : Int))]) sD11_inForce_35 (by decide) rfl ?_
      refine sd_iinc (y := ((zi4 : Int) + 1)) (ls' := [some (.inr 15), some (.inl (sd_cnt (sd_Pf x) zi4 + sd_b (sd_inF x zi4 (x 0)))), some (.inl ((zi4 : Int) + 1))]) sD11_inForce_36 rfl (by omega) (by omega) (by decide) rfl ?_
      refine sd_goto (tgt := 4) sD11_inForce_39 (by decide) ?_
      exact sd_eqw (ls' := [some (.inr 15), some (.inl (sd_cnt (sd_Pf x) (zi4 + 1))), some (.inl ((zi4 + 1 : Nat) : Int))]) ihzi4 (by rw [show ((sd_cnt (sd_Pf x) zi4 + sd_b (sd_inF x zi4 (x 0))) : Int) = sd_cnt (sd_Pf x) (zi4 + 1) from by (simp only [sd_cnt, sd_b]), show (((zi4 : Int) + 1) : Int) = ((zi4 + 1 : Nat) : Int) from by omega]) rfl
    ·
      refine sd_bif_eq (tgt := 33) sD11_inForce_26 (by decide) (fun zc26 => ?_) (fun zc26 => ?_)
      ·
        refine sd_iconst sD11_inForce_33 (by decide) ?_
        exact K26 _ (by exact (sd_b0 (by omega)).symm)
      ·
        refine sd_iconst sD11_inForce_29 (by decide) ?_
        refine sd_goto (tgt := 34) sD11_inForce_30 (by decide) ?_
        exact K26 _ (by exact (sd_b1 (by omega)).symm)
  ·
    show sd_Wp sd_SM 2 sY11_inForce 4 [some (.inr 15), some (.inl (sd_cnt (sd_Pf x) ((x 5).toNat))), some (.inl ((((x 5).toNat) : Nat) : Int))] [] m _
    refine sd_iload_n sD11_inForce_4 rfl ?_
    refine sd_aload_n sD11_inForce_5 rfl ?_
    refine sd_getfr sD11_inForce_6 sF11_7 sGM15_0 ?_
    refine sd_iconst sD11_inForce_9 (by decide) ?_
    refine sd_ialdx (a := 5) (v := x 5) hx sD11_inForce_10 sAM0 (by omega) rfl ?_
    refine sd_icmp_ge (tgt := 42) sD11_inForce_11 (by decide) (fun zc11 => ?_) (fun zc11 => (by exfalso; omega))
    refine sd_iload_n sD11_inForce_42 rfl ?_
    refine sd_iretp sD11_inForce_43 rfl ?_
    first | rfl | omega | (congr 1; omega)
