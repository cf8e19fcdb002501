set_option maxRecDepth 100000 in
set_option maxHeartbeats 4000000 in
theorem cM_manyOf (k : Int) (x m : sd_M) (hx : sd_ns x m) (h1 : sd_I1 x) : sd_Cp sd_SM 2 sY11_manyOf [.inr 15, .inl k] m (.inl (sd_cnt (sd_Pk x k) (x 2).toNat)) := by
  refine sd_ct rfl (Nat.le_of_ble_eq_true rfl) (fun hok hm => ?_)
  obtain ⟨⟨i0, j0⟩, ⟨i1, j1⟩, ⟨i2, j2⟩, ⟨i3, j3⟩, ⟨i4, j4⟩, ⟨i5, j5⟩, ⟨i6, j6⟩, ⟨i7, j7⟩, ⟨i8, j8⟩⟩ := id h1
  have r_k : sd_R k := hok (.inl k) (by simp)
  show sd_Wp sd_SM 2 sY11_manyOf 0 [some (.inr 15), some (.inl k), none, none] [] m _
  refine sd_iconst sD11_manyOf_0 (by decide) ?_
  refine sd_istore_n (ls' := [some (.inr 15), some (.inl k), some (.inl 0), none]) sD11_manyOf_1 (by decide) rfl ?_
  refine sd_iconst sD11_manyOf_2 (by decide) ?_
  refine sd_istore_n (ls' := [some (.inr 15), some (.inl k), some (.inl 0), some (.inl 0)]) sD11_manyOf_3 (by decide) rfl ?_
  refine sd_forE ((x 2).toNat) (fun zi4 : Nat => [some (.inr 15), some (.inl k), some (.inl (sd_cnt (sd_Pk x k) zi4)), some (.inl (zi4 : Int))]) (by rfl) (fun zi4 hizi4 ihzi4 => ?_) ?_
  ·
    have e5 := sd_cnt_le (sd_Pk x k) zi4
    refine sd_iload_n sD11_manyOf_4 rfl ?_
    refine sd_aload_n sD11_manyOf_5 rfl ?_
    refine sd_getfr sD11_manyOf_6 sF11_7 sGM15_0 ?_
    refine sd_iconst sD11_manyOf_9 (by decide) ?_
    refine sd_ialdx (a := 2) (v := x 2) hx sD11_manyOf_10 sAM0 (by omega) rfl ?_
    refine sd_icmp_ge (tgt := 37) sD11_manyOf_11 (by decide) (fun zc11 => (by exfalso; omega)) (fun zc11 => ?_)
    refine sd_iload_n sD11_manyOf_14 rfl ?_
    refine sd_aload_n sD11_manyOf_15 rfl ?_
    refine sd_iload_n sD11_manyOf_16 rfl ?_
    refine sd_iload_n sD11_manyOf_17 rfl ?_
    refine sd_callVp (as := [.inl (zi4 : Int), .inl k]) (st := [.inl (sd_cnt (sd_Pk x k) zi4)]) (v := .inl (sd_b (sd_isK (x (10 + zi4)) k))) sD11_manyOf_18 sM11_68 sOM15 rfl rfl rfl (by decide) (Nat.le_of_ble_eq_true rfl) (cM_isOf (zi4 : Int) k _ m hx h1 (by omega)) (fun ho18 => ?_)
    refine sd_cut (J := 29) (ls := [some (.inr 15), some (.inl k), some (.inl (sd_cnt (sd_Pk x k) zi4)), some (.inl (zi4 : Int))]) (st := [.inl (sd_cnt (sd_Pk x k) zi4)]) (fun zv => zv = (sd_b (sd_isK (x (10 + zi4)) k))) (fun zv hzv => ?_) (fun K21 => ?_)
    ·
      subst hzv
      have zb29 := sd_b01 (sd_isK (x (10 + zi4)) k)
      refine sd_iadd (z := (sd_cnt (sd_Pk x k) zi4 + sd_b (sd_isK (x (10 + zi4)) k))) sD11_manyOf_29 (by omega) (by omega) ?_
      refine sd_istore_n (ls' := [some (.inr 15), some (.inl k), some (.inl (sd_cnt (sd_Pk x k) zi4 + sd_b (sd_isK (x (10 + zi4)) k))), some (.inl (zi4 : Int))]) sD11_manyOf_30 (by decide) rfl ?_
      refine sd_iinc (y := ((zi4 : Int) + 1)) (ls' := [some (.inr 15), some (.inl k), some (.inl (sd_cnt (sd_Pk x k) zi4 + sd_b (sd_isK (x (10 + zi4)) k))), some (.inl ((zi4 : Int) + 1))]) sD11_manyOf_31 rfl (by omega) (by omega) (by decide) rfl ?_
      refine sd_goto (tgt := 4) sD11_manyOf_34 (by decide) ?_
      exact sd_eqw (ls' := [some (.inr 15), some (.inl k), some (.inl (sd_cnt (sd_Pk x k) (zi4 + 1))), some (.inl ((zi4 + 1 : Nat) : Int))]) ihzi4 (by rw [show ((sd_cnt (sd_Pk x k) zi4 + sd_b (sd_isK (x (10 + zi4)) k)) : Int) = sd_cnt (sd_Pk x k) (zi4 + 1) from by (simp only [sd_cnt, sd_b]), show (((zi4 : Int) + 1) : Int) = ((zi4 + 1 : Nat) : Int) from by omega]) rfl
    ·
      refine sd_bif_eq (tgt := 28) sD11_manyOf_21 (by decide) (fun zc21 => ?_) (fun zc21 => ?_)
      ·
        refine sd_iconst sD11_manyOf_28 (by decide) ?_
        exact K21 _ (by exact (sd_b0 (by omega)).symm)
      ·
        refine sd_iconst sD11_manyOf_24 (by decide) ?_
        refine sd_goto (tgt := 29) sD11_manyOf_25 (by decide) ?_
        exact K21 _ (by exact (sd_b1 (by omega)).symm)
  ·
    show sd_Wp sd_SM 2 sY11_manyOf 4 [some (.inr 15), some (.inl k), some (.inl (sd_cnt (sd_Pk x k) ((x 2).toNat))), some (.inl ((((x 2).toNat) : Nat) : Int))] [] m _
    refine sd_iload_n sD11_manyOf_4 rfl ?_
    refine sd_aload_n sD11_manyOf_5 rfl ?_
    refine sd_getfr sD11_manyOf_6 sF11_7 sGM15_0 ?_
    refine sd_iconst sD11_manyOf_9 (by decide) ?_
    refine sd_ialdx (a := 2) (v := x 2) hx sD11_manyOf_10 sAM0 (by omega) rfl ?_
    refine sd_icmp_ge (tgt := 37) sD11_manyOf_11 (by decide) (fun zc11 => ?_) (fun zc11 => (by exfalso; omega))
    refine sd_iload_n sD11_manyOf_37 rfl ?_
    refine sd_iretp sD11_manyOf_38 rfl ?_
    first | rfl | omega | (congr 1; omega)
