set_option maxRecDepth 100000 in
set_option maxHeartbeats 4000000 in
theorem pM_go (i : Int) (h : Int) (x m : sd_M) (hx : sd_ns x m) (h1 : sd_I1 x) (h2 : sd_I2 x) (h3 : sd_I3 x) (h4 : sd_I4 x) (hF : ∀ k : Nat, k < 7 → 0 ≤ x (4101 + k) ∧ x (4101 + k) ≤ 1000000) : sd_Ct sd_SM 3 sY11_go [.inr 15, .inl i, .inl h] m (sd_Qp (sp_go x i h)) := by
  refine sd_ct rfl (Nat.le_of_ble_eq_true rfl) (fun hok hm => ?_)
  obtain ⟨⟨i0, j0⟩, ⟨i1, j1⟩, ⟨i2, j2⟩, ⟨i3, j3⟩, ⟨i4, j4⟩, ⟨i5, j5⟩, ⟨i6, j6⟩, ⟨i7, j7⟩, ⟨i8, j8⟩⟩ := id h1
  have r_i : sd_R i := hok (.inl i) (by simp)
  have r_h : sd_R h := hok (.inl h) (by simp)
  show sd_Wp sd_SM 3 sY11_go 0 [some (.inr 15), some (.inl i), some (.inl h)] [] m _
  refine sd_aload_n sD11_go_0 rfl ?_
  refine sd_iload_n sD11_go_1 rfl ?_
  refine sd_callVp (as := [.inl i]) (st := []) (v := .inl (sd_b (sd_isM x i))) sD11_go_2 sM11_103 sOM15 rfl rfl rfl (by decide) (Nat.le_of_ble_eq_true rfl) (cM_isMan i _ m hx h1 ) (fun ho2 => ?_)
  refine sd_bif_eq (tgt := 16) sD11_go_5 (by decide) (fun zc5 => ?_) (fun zc5 => ?_)
  ·
    refine sd_aload_n sD11_go_16 rfl ?_
    refine sd_iconst sD11_go_17 (by decide) ?_
    refine sd_callV (as := [.inl 0]) (st := []) sD11_go_18 sM11_78 rfl rfl sOM15 rfl (by decide) (Nat.le_of_ble_eq_true rfl) (cM_finding 0 (by decide) _ m hx (hF 0 (by decide))) (fun r m hq ho18 hm => ?_)
    obtain ⟨rfl, hx⟩ := hq
    show sd_Wp sd_SM 3 sY11_go 21 [some (.inr 15), some (.inl i), some (.inl h)] [.inl (-1000001)] m _
    refine sd_ireturn sD11_go_21 rfl (fun hr hm => ?_)
    exact sd_done (by unfold sp_go; ((repeat (first | rw [if_pos (by first | assumption | omega)] | rw [if_neg (by first | assumption | omega)])); try rfl)) hx
  ·
    refine sd_aload_n sD11_go_8 rfl ?_
    refine sd_iload_n sD11_go_9 rfl ?_
    refine sd_callVp (as := [.inl h]) (st := []) (v := .inl (sd_b (sd_isH x h))) sD11_go_10 sM11_60 sOM15 rfl rfl rfl (by decide) (Nat.le_of_ble_eq_true rfl) (cM_isHold h _ m hx h1 ) (fun ho10 => ?_)
    refine sd_bif_ne (tgt := 22) sD11_go_13 (by decide) (fun zc13 => ?_) (fun zc13 => ?_)
    ·
      refine sd_aload_n sD11_go_22 rfl ?_
      refine sd_iload_n sD11_go_23 rfl ?_
      refine sd_callVp (as := [.inl h]) (st := []) (v := .inl (sd_b (sd_isA x h 1))) sD11_go_24 sM11_72 sOM15 rfl rfl rfl (by decide) (Nat.le_of_ble_eq_true rfl) (cM_isShop h _ m hx h1 h2 ) (fun ho24 => ?_)
      refine sd_bif_ne (tgt := 36) sD11_go_27 (by decide) (fun zc27 => ?_) (fun zc27 => ?_)
      ·
        have e4 := (h4 i.toNat (by omega)).1
        refine sd_aload_n sD11_go_36 rfl ?_
        refine sd_getfr sD11_go_37 sF11_7 sGM15_0 ?_
        refine sd_sipush sD11_go_40 rfl (by decide) ?_
        refine sd_iload_n sD11_go_43 rfl ?_
        refine sd_iadd (z := (322 + i)) sD11_go_44 (by omega) (by omega) ?_
        refine sd_ialdx (a := (322 + i.toNat)) (v := x (322 + i.toNat)) hx sD11_go_45 sAM0 (by omega) rfl ?_
        refine sd_if_ge (tgt := 55) sD11_go_46 (by decide) (fun zc46 => ?_) (fun zc46 => ?_)
        ·
          have e4 := (h4 i.toNat (by omega)).1
          have e9 := sd_and1 (sd_shr (sd_rch x (sd_shl 1 (x (322 + i.toNat))) 8) h)
          refine sd_aload_n sD11_go_55 rfl ?_
          refine sd_aload_n sD11_go_56 rfl ?_
          refine sd_getfr sD11_go_57 sF11_7 sGM15_0 ?_
          refine sd_sipush sD11_go_60 rfl (by decide) ?_
          refine sd_iload_n sD11_go_63 rfl ?_
          refine sd_iadd (z := (322 + i)) sD11_go_64 (by omega) (by omega) ?_
          refine sd_ialdx (a := (322 + i.toNat)) (v := x (322 + i.toNat)) hx sD11_go_65 sAM0 (by omega) rfl ?_
          refine sd_callVp (as := [.inl (x (322 + i.toNat))]) (st := []) (v := .inl (sd_rch x (sd_shl 1 (x (322 + i.toNat))) 8)) sD11_go_66 sM11_109 sOM15 rfl rfl rfl (by decide) (Nat.le_of_ble_eq_true rfl) (cM_reachOf (x (322 + i.toNat)) _ m hx h1 h2 h3 ) (fun ho66 => ?_)
          refine sd_iload_n sD11_go_69 rfl ?_
          refine sd_ishr sD11_go_70 ?_
          refine sd_iconst sD11_go_71 (by decide) ?_
          refine sd_iand sD11_go_72 ?_
          refine sd_if_ne (tgt := 82) sD11_go_73 (by decide) (fun zc73 => ?_) (fun zc73 => ?_)
          ·
            refine sd_aload_n sD11_go_82 rfl ?_
            refine sd_sipush sD11_go_83 rfl (by decide) ?_
            refine sd_iload_n sD11_go_86 rfl ?_
            refine sd_iadd (z := (322 + i)) sD11_go_87 (by omega) (by omega) ?_
            refine sd_iload_n sD11_go_88 rfl ?_
            refine sd_callV (as := [.inl (322 + i), .inl h]) (st := []) sD11_go_89 sM11_93 rfl rfl sOM15 rfl (by decide) (Nat.le_of_ble_eq_true rfl) (cM_become (322 + i) h _ m hx (by omega)) (fun r m hq ho89 hm => ?_)
            have hq2 : r = some (.inl (sd_b (¬ x (322 + i.toNat) = h))) ∧ sd_ns (sd_up x (322 + i.toNat) h) m := by rw [show ((322 + i)).toNat = (322 + i.toNat) from by omega] at hq; exact hq
            obtain ⟨rfl, hx⟩ := hq2
            show sd_Wp sd_SM 3 sY11_go 92 [some (.inr 15), some (.inl i), some (.inl h)] [.inl (sd_b (¬ x (322 + i.toNat) = h))] m _
            refine sd_ireturn sD11_go_92 rfl (fun hr hm => ?_)
            exact sd_done (by unfold sp_go; ((repeat (first | rw [if_pos (by first | assumption | omega)] | rw [if_neg (by first | assumption | omega)])); try rfl)) hx
          ·
            refine sd_aload_n sD11_go_76 rfl ?_
            refine sd_iconst sD11_go_77 (by decide) ?_
            refine sd_callV (as := [.inl 3]) (st := []) sD11_go_78 sM11_78 rfl rfl sOM15 rfl (by decide) (Nat.le_of_ble_eq_true rfl) (cM_finding 3 (by decide) _ m hx (hF 3 (by decide))) (fun r m hq ho78 hm => ?_)
            obtain ⟨rfl, hx⟩ := hq
            show sd_Wp sd_SM 3 sY11_go 81 [some (.inr 15), some (.inl i), some (.inl h)] [.inl (-1000004)] m _
            refine sd_ireturn sD11_go_81 rfl (fun hr hm => ?_)
            exact sd_done (by unfold sp_go; ((repeat (first | rw [if_pos (by first | assumption | omega)] | rw [if_neg (by first | assumption | omega)])); try rfl)) hx
        ·
          refine sd_aload_n sD11_go_49 rfl ?_
          refine sd_iconst sD11_go_50 (by decide) ?_
          refine sd_callV (as := [.inl 4]) (st := []) sD11_go_51 sM11_78 rfl rfl sOM15 rfl (by decide) (Nat.le_of_ble_eq_true rfl) (cM_finding 4 (by decide) _ m hx (hF 4 (by decide))) (fun r m hq ho51 hm => ?_)
          obtain ⟨rfl, hx⟩ := hq
          show sd_Wp sd_SM 3 sY11_go 54 [some (.inr 15), some (.inl i), some (.inl h)] [.inl (-1000005)] m _
          refine sd_ireturn sD11_go_54 rfl (fun hr hm => ?_)
          exact sd_done (by unfold sp_go; ((repeat (first | rw [if_pos (by first | assumption | omega)] | rw [if_neg (by first | assumption | omega)])); try rfl)) hx
      ·
        refine sd_aload_n sD11_go_30 rfl ?_
        refine sd_iconst sD11_go_31 (by decide) ?_
        refine sd_callV (as := [.inl 2]) (st := []) sD11_go_32 sM11_78 rfl rfl sOM15 rfl (by decide) (Nat.le_of_ble_eq_true rfl) (cM_finding 2 (by decide) _ m hx (hF 2 (by decide))) (fun r m hq ho32 hm => ?_)
        obtain ⟨rfl, hx⟩ := hq
        show sd_Wp sd_SM 3 sY11_go 35 [some (.inr 15), some (.inl i), some (.inl h)] [.inl (-1000003)] m _
        refine sd_ireturn sD11_go_35 rfl (fun hr hm => ?_)
        exact sd_done (by unfold sp_go; ((repeat (first | rw [if_pos (by first | assumption | omega)] | rw [if_neg (by first | assumption | omega)])); try rfl)) hx
    ·
      refine sd_aload_n sD11_go_16 rfl ?_
      refine sd_iconst sD11_go_17 (by decide) ?_
      refine sd_callV (as := [.inl 0]) (st := []) sD11_go_18 sM11_78 rfl rfl sOM15 rfl (by decide) (Nat.le_of_ble_eq_true rfl) (cM_finding 0 (by decide) _ m hx (hF 0 (by decide))) (fun r m hq ho18 hm => ?_)
      obtain ⟨rfl, hx⟩ := hq
      show sd_Wp sd_SM 3 sY11_go 21 [some (.inr 15), some (.inl i), some (.inl h)] [.inl (-1000001)] m _
      refine sd_ireturn sD11_go_21 rfl (fun hr hm => ?_)
      exact sd_done (by unfold sp_go; ((repeat (first | rw [if_pos (by first | assumption | omega)] | rw [if_neg (by first | assumption | omega)])); try rfl)) hx
