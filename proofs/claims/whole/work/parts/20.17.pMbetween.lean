set_option maxRecDepth 100000 in
set_option maxHeartbeats 4000000 in
theorem pM_between (t : Int) (x m : sd_M) (hx : sd_ns x m) (h1 : sd_I1 x) (h6 : sd_I6 x) (hF : ∀ k : Nat, k < 7 → 0 ≤ x (4101 + k) ∧ x (4101 + k) ≤ 1000000) : sd_Ct sd_SM 2 sY11_between [.inr 15, .inl t] m (sd_Qp (sp_between x t)) := by
  refine sd_ct rfl (Nat.le_of_ble_eq_true rfl) (fun hok hm => ?_)
  obtain ⟨⟨i0, j0⟩, ⟨i1, j1⟩, ⟨i2, j2⟩, ⟨i3, j3⟩, ⟨i4, j4⟩, ⟨i5, j5⟩, ⟨i6, j6⟩, ⟨i7, j7⟩, ⟨i8, j8⟩⟩ := id h1
  have r_t : sd_R t := hok (.inl t) (by simp)
  show sd_Wp sd_SM 2 sY11_between 0 [some (.inr 15), some (.inl t), none, none] [] m _
  refine sd_iload_n sD11_between_0 rfl ?_
  refine sd_iconst sD11_between_1 (by decide) ?_
  refine sd_aload_n sD11_between_2 rfl ?_
  refine sd_getfr sD11_between_3 sF11_7 sGM15_0 ?_
  refine sd_iconst sD11_between_6 (by decide) ?_
  refine sd_ialdx (a := 5) (v := x 5) hx sD11_between_7 sAM0 (by omega) rfl ?_
  refine sd_iconst sD11_between_8 (by decide) ?_
  refine sd_isub (z := (x 5 - 1)) sD11_between_9 (by omega) (by omega) ?_
  refine sd_callSp (as := [.inl t, .inl 0, .inl (x 5 - 1)]) (st := []) (v := .inl (sd_b (0 ≤ t ∧ t ≤ (x 5 - 1)))) sD11_between_10 sM11_56 rfl rfl (by decide) (Nat.le_of_ble_eq_true rfl) (cM_in t 0 (x 5 - 1) m) (fun ho10 => ?_)
  refine sd_bif_ne (tgt := 22) sD11_between_13 (by decide) (fun zc13 => ?_) (fun zc13 => ?_)
  ·
    have e6 := h6.1 t.toNat (by omega)
    have e8 := e6.2.2.2.2 (by omega)
    clear e6
    have e6 := (h6.1 t.toNat (by omega)).2.2.2.1
    refine sd_iconst sD11_between_22 (by decide) ?_
    refine sd_istore_n (ls' := [some (.inr 15), some (.inl t), some (.inl 0), none]) sD11_between_23 (by decide) rfl ?_
    refine sd_aload_n sD11_between_24 rfl ?_
    refine sd_getfr sD11_between_25 sF11_7 sGM15_0 ?_
    refine sd_sipush sD11_between_28 rfl (by decide) ?_
    refine sd_iload_n sD11_between_31 rfl ?_
    refine sd_iadd (z := (452 + t)) sD11_between_32 (by omega) (by omega) ?_
    refine sd_ialdx (a := (452 + t.toNat)) (v := x (452 + t.toNat)) hx sD11_between_33 sAM0 (by omega) rfl ?_
    refine sd_istore_n (ls' := [some (.inr 15), some (.inl t), some (.inl 0), some (.inl (x (452 + t.toNat)))]) sD11_between_34 (by decide) rfl ?_
    refine sd_forE ((x 0 - x (452 + t.toNat)).toNat) (fun zi35 : Nat => [some (.inr 15), some (.inl t), some (.inl (sd_cnt (sd_Pb x t.toNat) zi35)), some (.inl (x (452 + t.toNat) + (zi35 : Int)))]) (by rw [show x (452 + t.toNat) + ((0 : Nat) : Int) = x (452 + t.toNat) from by omega]; rfl) (fun zi35 hizi35 ihzi35 => ?_) ?_
    ·
      have e5 := sd_cnt_le (sd_Pb x t.toNat) zi35
      refine sd_iload_n sD11_between_35 rfl ?_
      refine sd_aload_n sD11_between_36 rfl ?_
      refine sd_getfr sD11_between_37 sF11_7 sGM15_0 ?_
      refine sd_iconst sD11_between_40 (by decide) ?_
      refine sd_ialdx (a := 0) (v := x 0) hx sD11_between_41 sAM0 (by omega) rfl ?_
      refine sd_icmp_ge (tgt := 68) sD11_between_42 (by decide) (fun zc42 => (by exfalso; omega)) (fun zc42 => ?_)
      refine sd_iload_n sD11_between_45 rfl ?_
      refine sd_aload_n sD11_between_46 rfl ?_
      refine sd_iload_n sD11_between_47 rfl ?_
      refine sd_iload_n sD11_between_48 rfl ?_
      refine sd_callVp (as := [.inl t, .inl (x (452 + t.toNat) + (zi35 : Int))]) (st := [.inl (sd_cnt (sd_Pb x t.toNat) zi35)]) (v := .inl (sd_b (sd_inF x t.toNat (x (452 + t.toNat) + (zi35 : Int))))) sD11_between_49 sM11_193 sOM15 rfl rfl rfl (by decide) (Nat.le_of_ble_eq_true rfl) (cM_isInForce t (x (452 + t.toNat) + (zi35 : Int)) _ m hx h6 (by omega)) (fun ho49 => ?_)
      refine sd_cut (J := 60) (ls := [some (.inr 15), some (.inl t), some (.inl (sd_cnt (sd_Pb x t.toNat) zi35)), some (.inl (x (452 + t.toNat) + (zi35 : Int)))]) (st := [.inl (sd_cnt (sd_Pb x t.toNat) zi35)]) (fun zv => zv = (sd_b (sd_inF x t.toNat (x (452 + t.toNat) + (zi35 : Int))))) (fun zv hzv => ?_) (fun K52 => ?_)
      ·
        subst hzv
        have zb60 := sd_b01 (sd_inF x t.toNat (x (452 + t.toNat) + (zi35 : Int)))
        refine sd_iadd (z := (sd_cnt (sd_Pb x t.toNat) zi35 + sd_b (sd_inF x t.toNat (x (452 + t.toNat) + (zi35 : Int))))) sD11_between_60 (by omega) (by omega) ?_
        refine sd_istore_n (ls' := [some (.inr 15), some (.inl t), some (.inl (sd_cnt (sd_Pb x t.toNat) zi35 + sd_b (sd_inF x t.toNat (x (452 + t.toNat) + (zi35 : Int))))), some (.inl (x (452 + t.toNat) + (zi35 : Int)))]) sD11_between_61 (by decide) rfl ?_
        refine sd_iinc (y := ((x (452 + t.toNat) + (zi35 : Int)) + 1)) (ls' := [some (.inr 15), some (.inl t), some (.inl (sd_cnt (sd_Pb x t.toNat) zi35 + sd_b (sd_inF x t.toNat (x (452 + t.toNat) + (zi35 : Int))))), some (.inl ((x (452 + t.toNat) + (zi35 : Int)) + 1))]) sD11_between_62 rfl (by omega) (by omega) (by decide) rfl ?_
        refine sd_goto (tgt := 35) sD11_between_65 (by decide) ?_
        exact sd_eqw (ls' := [some (.inr 15), some (.inl t), some (.inl (sd_cnt (sd_Pb x t.toNat) (zi35 + 1))), some (.inl (x (452 + t.toNat) + ((zi35 + 1 : Nat) : Int)))]) ihzi35 (by rw [show ((sd_cnt (sd_Pb x t.toNat) zi35 + sd_b (sd_inF x t.toNat (x (452 + t.toNat) + (zi35 : Int)))) : Int) = sd_cnt (sd_Pb x t.toNat) (zi35 + 1) from by (simp only [sd_cnt, sd_b]), show (((x (452 + t.toNat) + (zi35 : Int)) + 1) : Int) = (x (452 + t.toNat) + ((zi35 + 1 : Nat) : Int)) from by omega]) rfl
      ·
        refine sd_bif_eq (tgt := 59) sD11_between_52 (by decide) (fun zc52 => ?_) (fun zc52 => ?_)
        ·
          refine sd_iconst sD11_between_59 (by decide) ?_
          exact K52 _ (by exact (sd_b0 (by omega)).symm)
        ·
          refine sd_iconst sD11_between_55 (by decide) ?_
          refine sd_goto (tgt := 60) sD11_between_56 (by decide) ?_
          exact K52 _ (by exact (sd_b1 (by omega)).symm)
    ·
      show sd_Wp sd_SM 2 sY11_between 35 [some (.inr 15), some (.inl t), some (.inl (sd_cnt (sd_Pb x t.toNat) ((x 0 - x (452 + t.toNat)).toNat))), some (.inl (x (452 + t.toNat) + ((((x 0 - x (452 + t.toNat)).toNat) : Nat) : Int)))] [] m _
      refine sd_iload_n sD11_between_35 rfl ?_
      refine sd_aload_n sD11_between_36 rfl ?_
      refine sd_getfr sD11_between_37 sF11_7 sGM15_0 ?_
      refine sd_iconst sD11_between_40 (by decide) ?_
      refine sd_ialdx (a := 0) (v := x 0) hx sD11_between_41 sAM0 (by omega) rfl ?_
      refine sd_icmp_ge (tgt := 68) sD11_between_42 (by decide) (fun zc42 => ?_) (fun zc42 => (by exfalso; omega))
      refine sd_iload_n sD11_between_68 rfl ?_
      refine sd_ireturn sD11_between_69 rfl (fun hr hm => ?_)
      exact sd_done (by unfold sp_between; ((repeat (first | rw [if_pos (by first | assumption | omega)] | rw [if_neg (by first | assumption | omega)])); try rfl)) hx
  ·
    refine sd_aload_n sD11_between_16 rfl ?_
    refine sd_iconst sD11_between_17 (by decide) ?_
    refine sd_callV (as := [.inl 0]) (st := []) sD11_between_18 sM11_78 rfl rfl sOM15 rfl (by decide) (Nat.le_of_ble_eq_true rfl) (cM_finding 0 (by decide) _ m hx (hF 0 (by decide))) (fun r m hq ho18 hm => ?_)
    obtain ⟨rfl, hx⟩ := hq
    show sd_Wp sd_SM 2 sY11_between 21 [some (.inr 15), some (.inl t), none, none] [.inl (-1000001)] m _
    refine sd_ireturn sD11_between_21 rfl (fun hr hm => ?_)
    exact sd_done (by unfold sp_between; ((repeat (first | rw [if_pos (by first | assumption | omega)] | rw [if_neg (by first | assumption | omega)])); try rfl)) hx
