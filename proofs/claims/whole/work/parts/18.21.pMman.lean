set_option maxRecDepth 100000 in
set_option maxHeartbeats 4000000 in
theorem pM_man (h : Int) (s : Int) (x m : sd_M) (hx : sd_ns x m) (h1 : sd_I1 x) (h2 : sd_I2 x) (hF : ∀ k : Nat, k < 7 → 0 ≤ x (4101 + k) ∧ x (4101 + k) ≤ 1000000) : sd_Ct sd_SM 3 sY11_man [.inr 15, .inl h, .inl s] m (sd_Qp (sp_man x h s)) := by
  refine sd_ct rfl (Nat.le_of_ble_eq_true rfl) (fun hok hm => ?_)
  obtain ⟨⟨i0, j0⟩, ⟨i1, j1⟩, ⟨i2, j2⟩, ⟨i3, j3⟩, ⟨i4, j4⟩, ⟨i5, j5⟩, ⟨i6, j6⟩, ⟨i7, j7⟩, ⟨i8, j8⟩⟩ := id h1
  have r_h : sd_R h := hok (.inl h) (by simp)
  have r_s : sd_R s := hok (.inl s) (by simp)
  show sd_Wp sd_SM 3 sY11_man 0 [some (.inr 15), some (.inl h), some (.inl s), none] [] m _
  refine sd_aload_n sD11_man_0 rfl ?_
  refine sd_iload_n sD11_man_1 rfl ?_
  refine sd_callVp (as := [.inl h]) (st := []) (v := .inl (sd_b (sd_isH x h))) sD11_man_2 sM11_60 sOM15 rfl rfl rfl (by decide) (Nat.le_of_ble_eq_true rfl) (cM_isHold h _ m hx h1 ) (fun ho2 => ?_)
  refine sd_bif_eq (tgt := 19) sD11_man_5 (by decide) (fun zc5 => ?_) (fun zc5 => ?_)
  ·
    refine sd_aload_n sD11_man_19 rfl ?_
    refine sd_iconst sD11_man_20 (by decide) ?_
    refine sd_callV (as := [.inl 0]) (st := []) sD11_man_21 sM11_78 rfl rfl sOM15 rfl (by decide) (Nat.le_of_ble_eq_true rfl) (cM_finding 0 (by decide) _ m hx (hF 0 (by decide))) (fun r m hq ho21 hm => ?_)
    obtain ⟨rfl, hx⟩ := hq
    show sd_Wp sd_SM 3 sY11_man 24 [some (.inr 15), some (.inl h), some (.inl s), none] [.inl (-1000001)] m _
    refine sd_ireturn sD11_man_24 rfl (fun hr hm => ?_)
    exact sd_done2 (by unfold sp_man; ((repeat (first | rw [if_pos (by first | assumption | omega)] | rw [if_neg (by first | assumption | omega)])); try rfl)) (by intro j; simp only [sd_up]; (repeat' (first | rfl | split)); all_goals omega) hx
  ·
    refine sd_iload_n sD11_man_8 rfl ?_
    refine sd_iconst sD11_man_9 (by decide) ?_
    refine sd_sipush sD11_man_10 rfl (by decide) ?_
    refine sd_callSp (as := [.inl s, .inl 0, .inl 9999]) (st := []) (v := .inl (sd_b (0 ≤ s ∧ s ≤ 9999))) sD11_man_13 sM11_56 rfl rfl (by decide) (Nat.le_of_ble_eq_true rfl) (cM_in s 0 9999 m) (fun ho13 => ?_)
    refine sd_bif_ne (tgt := 25) sD11_man_16 (by decide) (fun zc16 => ?_) (fun zc16 => ?_)
    ·
      refine sd_aload_n sD11_man_25 rfl ?_
      refine sd_iload_n sD11_man_26 rfl ?_
      refine sd_callVp (as := [.inl h]) (st := []) (v := .inl (sd_b (sd_isA x h 1))) sD11_man_27 sM11_72 sOM15 rfl rfl rfl (by decide) (Nat.le_of_ble_eq_true rfl) (cM_isShop h _ m hx h1 h2 ) (fun ho27 => ?_)
      refine sd_bif_ne (tgt := 39) sD11_man_30 (by decide) (fun zc30 => ?_) (fun zc30 => ?_)
      ·
        refine sd_aload_n sD11_man_39 rfl ?_
        refine sd_getfr sD11_man_40 sF11_7 sGM15_0 ?_
        refine sd_iconst sD11_man_43 (by decide) ?_
        refine sd_ialdx (a := 3) (v := x 3) hx sD11_man_44 sAM0 (by omega) rfl ?_
        refine sd_bipush sD11_man_45 rfl (by decide) ?_
        refine sd_icmp_ne (tgt := 56) sD11_man_47 (by decide) (fun zc47 => ?_) (fun zc47 => ?_)
        ·
          refine sd_aload_n sD11_man_56 rfl ?_
          refine sd_getfr sD11_man_57 sF11_7 sGM15_0 ?_
          refine sd_iconst sD11_man_60 (by decide) ?_
          refine sd_ialdx (a := 3) (v := x 3) hx sD11_man_61 sAM0 (by omega) rfl ?_
          refine sd_istore_n (ls' := [some (.inr 15), some (.inl h), some (.inl s), some (.inl (x 3))]) sD11_man_62 (by decide) rfl ?_
          refine sd_aload_n sD11_man_63 rfl ?_
          refine sd_getfr sD11_man_64 sF11_7 sGM15_0 ?_
          refine sd_sipush sD11_man_67 rfl (by decide) ?_
          refine sd_iload_n sD11_man_70 rfl ?_
          refine sd_iadd (z := (322 + x 3)) sD11_man_71 (by omega) (by omega) ?_
          refine sd_iload_n sD11_man_72 rfl ?_
          refine sd_iastx (a := (322 + (x 3).toNat)) sd_sokM hx sD11_man_73 sAM0 (by omega) (fun m hx em73 => ?_)
          refine sd_aload_n sD11_man_74 rfl ?_
          refine sd_getfr sD11_man_75 sF11_7 sGM15_0 ?_
          refine sd_sipush sD11_man_78 rfl (by decide) ?_
          refine sd_iload_n sD11_man_81 rfl ?_
          refine sd_iadd (z := (338 + x 3)) sD11_man_82 (by omega) (by omega) ?_
          refine sd_iload_n sD11_man_83 rfl ?_
          refine sd_bipush sD11_man_84 rfl (by decide) ?_
          refine sd_idiv (z := (s / 100)) sD11_man_86 (by decide) (by exact Int.tdiv_eq_ediv_of_nonneg (by omega)) (by omega) ?_
          refine sd_iastx (a := (338 + (x 3).toNat)) sd_sokM hx sD11_man_87 sAM0 (by omega) (fun m hx em87 => ?_)
          refine sd_aload_n sD11_man_88 rfl ?_
          refine sd_getfr sD11_man_89 sF11_7 sGM15_0 ?_
          refine sd_sipush sD11_man_92 rfl (by decide) ?_
          refine sd_iload_n sD11_man_95 rfl ?_
          refine sd_iadd (z := (354 + x 3)) sD11_man_96 (by omega) (by omega) ?_
          refine sd_iload_n sD11_man_97 rfl ?_
          refine sd_bipush sD11_man_98 rfl (by decide) ?_
          refine sd_irem (z := (s % 100)) sD11_man_100 (by decide) (by exact Int.tmod_eq_emod_of_nonneg (by omega)) (by omega) ?_
          refine sd_iastx (a := (354 + (x 3).toNat)) sd_sokM hx sD11_man_101 sAM0 (by omega) (fun m hx em101 => ?_)
          refine sd_aload_n sD11_man_102 rfl ?_
          refine sd_getfr sD11_man_103 sF11_7 sGM15_0 ?_
          refine sd_sipush sD11_man_106 rfl (by decide) ?_
          refine sd_iload_n sD11_man_109 rfl ?_
          refine sd_iadd (z := (370 + x 3)) sD11_man_110 (by omega) (by omega) ?_
          refine sd_iconst sD11_man_111 (by decide) ?_
          refine sd_iastx (a := (370 + (x 3).toNat)) sd_sokM hx sD11_man_112 sAM0 (by omega) (fun m hx em112 => ?_)
          refine sd_aload_n sD11_man_113 rfl ?_
          refine sd_getfr sD11_man_114 sF11_7 sGM15_0 ?_
          refine sd_iconst sD11_man_117 (by decide) ?_
          refine sd_dup2 sD11_man_118 ?_
          refine sd_ialdx (a := 3) (v := x 3) hx sD11_man_119 sAM0 (by omega) (by simp only [sd_up]; repeat rw [if_neg (by omega)]) ?_
          refine sd_iconst sD11_man_120 (by decide) ?_
          refine sd_iadd (z := (x 3 + 1)) sD11_man_121 (by omega) (by omega) ?_
          refine sd_iastx (a := 3) sd_sokM hx sD11_man_122 sAM0 (by omega) (fun m hx em122 => ?_)
          refine sd_iload_n sD11_man_123 rfl ?_
          refine sd_ireturn sD11_man_124 rfl (fun hr hm => ?_)
          exact sd_done2 (by unfold sp_man; ((repeat (first | rw [if_pos (by first | assumption | omega)] | rw [if_neg (by first | assumption | omega)])); try rfl)) (by intro j; simp only [sd_up]; (repeat' (first | rfl | split)); all_goals omega) hx
        ·
          refine sd_aload_n sD11_man_50 rfl ?_
          refine sd_iconst sD11_man_51 (by decide) ?_
          refine sd_callV (as := [.inl 1]) (st := []) sD11_man_52 sM11_78 rfl rfl sOM15 rfl (by decide) (Nat.le_of_ble_eq_true rfl) (cM_finding 1 (by decide) _ m hx (hF 1 (by decide))) (fun r m hq ho52 hm => ?_)
          obtain ⟨rfl, hx⟩ := hq
          show sd_Wp sd_SM 3 sY11_man 55 [some (.inr 15), some (.inl h), some (.inl s), none] [.inl (-1000002)] m _
          refine sd_ireturn sD11_man_55 rfl (fun hr hm => ?_)
          exact sd_done2 (by unfold sp_man; ((repeat (first | rw [if_pos (by first | assumption | omega)] | rw [if_neg (by first | assumption | omega)])); try rfl)) (by intro j; simp only [sd_up]; (repeat' (first | rfl | split)); all_goals omega) hx
      ·
        refine sd_aload_n sD11_man_33 rfl ?_
        refine sd_iconst sD11_man_34 (by decide) ?_
        refine sd_callV (as := [.inl 2]) (st := []) sD11_man_35 sM11_78 rfl rfl sOM15 rfl (by decide) (Nat.le_of_ble_eq_true rfl) (cM_finding 2 (by decide) _ m hx (hF 2 (by decide))) (fun r m hq ho35 hm => ?_)
        obtain ⟨rfl, hx⟩ := hq
        show sd_Wp sd_SM 3 sY11_man 38 [some (.inr 15), some (.inl h), some (.inl s), none] [.inl (-1000003)] m _
        refine sd_ireturn sD11_man_38 rfl (fun hr hm => ?_)
        exact sd_done2 (by unfold sp_man; ((repeat (first | rw [if_pos (by first | assumption | omega)] | rw [if_neg (by first | assumption | omega)])); try rfl)) (by intro j; simp only [sd_up]; (repeat' (first | rfl | split)); all_goals omega) hx
    ·
      refine sd_aload_n sD11_man_19 rfl ?_
      refine sd_iconst sD11_man_20 (by decide) ?_
      refine sd_callV (as := [.inl 0]) (st := []) sD11_man_21 sM11_78 rfl rfl sOM15 rfl (by decide) (Nat.le_of_ble_eq_true rfl) (cM_finding 0 (by decide) _ m hx (hF 0 (by decide))) (fun r m hq ho21 hm => ?_)
      obtain ⟨rfl, hx⟩ := hq
      show sd_Wp sd_SM 3 sY11_man 24 [some (.inr 15), some (.inl h), some (.inl s), none] [.inl (-1000001)] m _
      refine sd_ireturn sD11_man_24 rfl (fun hr hm => ?_)
      exact sd_done2 (by unfold sp_man; ((repeat (first | rw [if_pos (by first | assumption | omega)] | rw [if_neg (by first | assumption | omega)])); try rfl)) (by intro j; simp only [sd_up]; (repeat' (first | rfl | split)); all_goals omega) hx
