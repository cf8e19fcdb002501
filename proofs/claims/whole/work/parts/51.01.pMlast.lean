set_option maxRecDepth 100000 in
set_option maxHeartbeats 4000000 in
theorem pM_last (w : Int) (v : Int) (x m : sd_M) (hx : sd_ns x m) (h1 : sd_I1 x) (h2 : sd_I2 x) (h3 : sd_I3 x) (h4 : sd_I4 x) (h5 : sd_I5 x) (h6 : sd_I6 x) (hR : sd_IR x) (hI : sd_IT x) (hL : sd_LT x) (hF : ∀ k : Nat, k < 7 → 0 ≤ x (4101 + k) ∧ x (4101 + k) ≤ 1000000) : sd_Ct sd_SM 8 sY11_last [.inr 15, .inl w, .inl v] m (sd_Qp (sp_last x w v)) := by
  refine sd_ct rfl (Nat.le_of_ble_eq_true rfl) (fun hok hm => ?_)
  obtain ⟨⟨i0, j0⟩, ⟨i1, j1⟩, ⟨i2, j2⟩, ⟨i3, j3⟩, ⟨i4, j4⟩, ⟨i5, j5⟩, ⟨i6, j6⟩, ⟨i7, j7⟩, ⟨i8, j8⟩⟩ := id h1
  have r_w : sd_R w := hok (.inl w) (by simp)
  have r_v : sd_R v := hok (.inl v) (by simp)
  show sd_Wp sd_SM 8 sY11_last 0 [some (.inr 15), some (.inl w), some (.inl v)] [] m _
  refine sd_iload_n sD11_last_0 rfl ?_
  refine sd_iconst sD11_last_1 (by decide) ?_
  refine sd_aload_n sD11_last_2 rfl ?_
  refine sd_getfr sD11_last_3 sF11_7 sGM15_0 ?_
  refine sd_iconst sD11_last_6 (by decide) ?_
  refine sd_ialdx (a := 4) (v := x 4) hx sD11_last_7 sAM0 (by omega) rfl ?_
  refine sd_iconst sD11_last_8 (by decide) ?_
  refine sd_isub (z := (x 4 - 1)) sD11_last_9 (by omega) (by omega) ?_
  refine sd_callSp (as := [.inl w, .inl 0, .inl (x 4 - 1)]) (st := []) (v := .inl (sd_b (0 ≤ w ∧ w ≤ (x 4 - 1)))) sD11_last_10 sM11_56 rfl rfl (by decide) (Nat.le_of_ble_eq_true rfl) (cM_in w 0 (x 4 - 1) m) (fun ho10 => ?_)
  refine sd_bif_eq (tgt := 25) sD11_last_13 (by decide) (fun zc13 => ?_) (fun zc13 => ?_)
  ·
    refine sd_aload_n sD11_last_25 rfl ?_
    refine sd_iconst sD11_last_26 (by decide) ?_
    refine sd_callV (as := [.inl 0]) (st := []) sD11_last_27 sM11_78 rfl rfl sOM15 rfl (by decide) (Nat.le_of_ble_eq_true rfl) (cM_finding 0 (by decide) _ m hx (hF 0 (by decide))) (fun r m hq ho27 hm => ?_)
    obtain ⟨rfl, hx⟩ := hq
    show sd_Wp sd_SM 8 sY11_last 30 [some (.inr 15), some (.inl w), some (.inl v)] [.inl (-1000001)] m _
    refine sd_ireturn sD11_last_30 rfl (fun hr hm => ?_)
    exact sd_done (by unfold sp_last; ((repeat (first | rw [if_pos (by first | assumption | omega)] | rw [if_neg (by first | assumption | omega)])); try rfl)) hx
  ·
    refine sd_iload_n sD11_last_16 rfl ?_
    refine sd_iconst sD11_last_17 (by decide) ?_
    refine sd_iconst sD11_last_18 (by decide) ?_
    refine sd_callSp (as := [.inl v, .inl 0, .inl 1]) (st := []) (v := .inl (sd_b (0 ≤ v ∧ v ≤ 1))) sD11_last_19 sM11_56 rfl rfl (by decide) (Nat.le_of_ble_eq_true rfl) (cM_in v 0 1 m) (fun ho19 => ?_)
    refine sd_bif_ne (tgt := 31) sD11_last_22 (by decide) (fun zc22 => ?_) (fun zc22 => ?_)
    ·
      refine sd_aload_n sD11_last_31 rfl ?_
      refine sd_aload_n sD11_last_32 rfl ?_
      refine sd_callV (as := []) (st := [.inr 15]) sD11_last_33 sM11_133 rfl rfl sOM15 rfl (by decide) (Nat.le_of_ble_eq_true rfl) (cM_makers _ m hx h1 h2 h4 h6 hR hI hL) (fun r m hq ho33 hm => ?_)
      obtain ⟨rfl, hx⟩ := hq
      have zm33 := sd_mks_rng h1
      show sd_Wp sd_SM 8 sY11_last 36 [some (.inr 15), some (.inl w), some (.inl v)] [.inl (sd_mks x), .inr 15] m _
      refine sd_callV (as := [.inl (sd_mks x)]) (st := []) sD11_last_36 sM11_137 rfl rfl sOM15 rfl (by decide) (Nat.le_of_ble_eq_true rfl) (cM_goesOn (sd_mks x) _ m hx h1 h2 h5 (sd_mks_A h1 h3 h2 (fun h hh hb => hb)) _ rfl (sd_mka_kr h1 h2 _)) (fun r m hq ho36 hm => ?_)
      obtain ⟨rfl, hx, hsl36⟩ := hq
      show sd_Wp sd_SM 8 sY11_last 39 [some (.inr 15), some (.inl w), some (.inl v)] [] m _
      have e9 := sd_fh_rng x (sd_kN x) w.toNat
      refine sd_aload_n sD11_last_39 rfl ?_
      refine sd_getfr sD11_last_40 sF11_25 sGM15_7 ?_
      refine sd_iload_n sD11_last_43 rfl ?_
      refine sd_iald (a := (5410 + w.toNat)) sD11_last_44 sAM5 (by omega) ?_
      rw [show m (5410 + w.toNat) = sd_fh x (sd_kN x) w.toNat from (hsl36 w.toNat (by omega)).1]
      refine sd_if_ge (tgt := 54) sD11_last_45 (by decide) (fun zc45 => ?_) (fun zc45 => ?_)
      ·
        refine sd_iload_n sD11_last_54 rfl ?_
        refine sd_if_ne (tgt := 74) sD11_last_55 (by decide) (fun zc55 => ?_) (fun zc55 => ?_)
        ·
          refine sd_aload_n sD11_last_74 rfl ?_
          refine sd_getfr sD11_last_75 sF11_28 sGM15_8 ?_
          refine sd_iload_n sD11_last_78 rfl ?_
          refine sd_iald (a := (5420 + w.toNat)) sD11_last_79 sAM6 (by omega) ?_
          rw [show m (5420 + w.toNat) = sd_lkA x (sd_kN x) w.toNat (sd_fh x (sd_kN x) w.toNat).toNat from (hsl36 w.toNat (by omega)).2 (by show ¬ sd_fh x (sd_kN x) w.toNat = -1; omega)]
          refine sd_ireturn sD11_last_80 rfl (fun hr hm => ?_)
          exact sd_done (by unfold sp_last; ((repeat (first | rw [if_pos (by first | assumption | omega)] | rw [if_neg (by first | assumption | omega)])); try rfl)) hx
        ·
          refine sd_aload_n sD11_last_58 rfl ?_
          refine sd_getfr sD11_last_59 sF11_7 sGM15_0 ?_
          refine sd_iconst sD11_last_62 (by decide) ?_
          refine sd_ialdx (a := 0) (v := x 0) hx sD11_last_63 sAM0 (by omega) rfl ?_
          refine sd_aload_n sD11_last_64 rfl ?_
          refine sd_getfr sD11_last_65 sF11_25 sGM15_7 ?_
          refine sd_iload_n sD11_last_68 rfl ?_
          refine sd_iald (a := (5410 + w.toNat)) sD11_last_69 sAM5 (by omega) ?_
          rw [show m (5410 + w.toNat) = sd_fh x (sd_kN x) w.toNat from (hsl36 w.toNat (by omega)).1]
          refine sd_iadd (z := (x 0 + sd_fh x (sd_kN x) w.toNat)) sD11_last_70 (by omega) (by omega) ?_
          refine sd_goto (tgt := 80) sD11_last_71 (by decide) ?_
          refine sd_ireturn sD11_last_80 rfl (fun hr hm => ?_)
          exact sd_done (by unfold sp_last; ((repeat (first | rw [if_pos (by first | assumption | omega)] | rw [if_neg (by first | assumption | omega)])); try rfl)) hx
      ·
        refine sd_aload_n sD11_last_48 rfl ?_
        refine sd_iconst sD11_last_49 (by decide) ?_
        refine sd_callV (as := [.inl 3]) (st := []) sD11_last_50 sM11_78 rfl rfl sOM15 rfl (by decide) (Nat.le_of_ble_eq_true rfl) (cM_finding 3 (by decide) _ m hx (hF 3 (by decide))) (fun r m hq ho50 hm => ?_)
        obtain ⟨rfl, hx⟩ := hq
        show sd_Wp sd_SM 8 sY11_last 53 [some (.inr 15), some (.inl w), some (.inl v)] [.inl (-1000004)] m _
        refine sd_ireturn sD11_last_53 rfl (fun hr hm => ?_)
        exact sd_done (by unfold sp_last; ((repeat (first | rw [if_pos (by first | assumption | omega)] | rw [if_neg (by first | assumption | omega)])); try rfl)) hx
    ·
      refine sd_aload_n sD11_last_25 rfl ?_
      refine sd_iconst sD11_last_26 (by decide) ?_
      refine sd_callV (as := [.inl 0]) (st := []) sD11_last_27 sM11_78 rfl rfl sOM15 rfl (by decide) (Nat.le_of_ble_eq_true rfl) (cM_finding 0 (by decide) _ m hx (hF 0 (by decide))) (fun r m hq ho27 hm => ?_)
      obtain ⟨rfl, hx⟩ := hq
      show sd_Wp sd_SM 8 sY11_last 30 [some (.inr 15), some (.inl w), some (.inl v)] [.inl (-1000001)] m _
      refine sd_ireturn sD11_last_30 rfl (fun hr hm => ?_)
      exact sd_done (by unfold sp_last; ((repeat (first | rw [if_pos (by first | assumption | omega)] | rw [if_neg (by first | assumption | omega)])); try rfl)) hx
