set_option maxRecDepth 100000 in
set_option maxHeartbeats 4000000 in
theorem pM_rumour (g : Int) (c : Int) (x m : sd_M) (hx : sd_ns x m) (h1 : sd_I1 x) (h2 : sd_I2 x) (hF : ∀ k : Nat, k < 7 → 0 ≤ x (4101 + k) ∧ x (4101 + k) ≤ 1000000) : sd_Ct sd_SM 3 sY11_rumour [.inr 15, .inl g, .inl c] m (sd_Qp (sp_rumour x g c)) := by
  refine sd_ct rfl (Nat.le_of_ble_eq_true rfl) (fun hok hm => ?_)
  obtain ⟨⟨i0, j0⟩, ⟨i1, j1⟩, ⟨i2, j2⟩, ⟨i3, j3⟩, ⟨i4, j4⟩, ⟨i5, j5⟩, ⟨i6, j6⟩, ⟨i7, j7⟩, ⟨i8, j8⟩⟩ := id h1
  have r_g : sd_R g := hok (.inl g) (by simp)
  have r_c : sd_R c := hok (.inl c) (by simp)
  show sd_Wp sd_SM 3 sY11_rumour 0 [some (.inr 15), some (.inl g), some (.inl c), none] [] m _
  refine sd_aload_n sD11_rumour_0 rfl ?_
  refine sd_iload_n sD11_rumour_1 rfl ?_
  refine sd_callVp (as := [.inl g]) (st := []) (v := .inl (sd_b (sd_isH x g))) sD11_rumour_2 sM11_60 sOM15 rfl rfl rfl (by decide) (Nat.le_of_ble_eq_true rfl) (cM_isHold g _ m hx h1 ) (fun ho2 => ?_)
  refine sd_bif_eq (tgt := 18) sD11_rumour_5 (by decide) (fun zc5 => ?_) (fun zc5 => ?_)
  ·
    refine sd_aload_n sD11_rumour_18 rfl ?_
    refine sd_iconst sD11_rumour_19 (by decide) ?_
    refine sd_callV (as := [.inl 0]) (st := []) sD11_rumour_20 sM11_78 rfl rfl sOM15 rfl (by decide) (Nat.le_of_ble_eq_true rfl) (cM_finding 0 (by decide) _ m hx (hF 0 (by decide))) (fun r m hq ho20 hm => ?_)
    obtain ⟨rfl, hx⟩ := hq
    show sd_Wp sd_SM 3 sY11_rumour 23 [some (.inr 15), some (.inl g), some (.inl c), none] [.inl (-1000001)] m _
    refine sd_ireturn sD11_rumour_23 rfl (fun hr hm => ?_)
    exact sd_done2 (by unfold sp_rumour; ((repeat (first | rw [if_pos (by first | assumption | omega)] | rw [if_neg (by first | assumption | omega)])); try rfl)) (by intro j; simp only [sd_up]; (repeat' (first | rfl | split)); all_goals omega) hx
  ·
    refine sd_iload_n sD11_rumour_8 rfl ?_
    refine sd_iconst sD11_rumour_9 (by decide) ?_
    refine sd_bipush sD11_rumour_10 rfl (by decide) ?_
    refine sd_callSp (as := [.inl c, .inl 1, .inl 9]) (st := []) (v := .inl (sd_b (1 ≤ c ∧ c ≤ 9))) sD11_rumour_12 sM11_56 rfl rfl (by decide) (Nat.le_of_ble_eq_true rfl) (cM_in c 1 9 m) (fun ho12 => ?_)
    refine sd_bif_ne (tgt := 24) sD11_rumour_15 (by decide) (fun zc15 => ?_) (fun zc15 => ?_)
    ·
      refine sd_aload_n sD11_rumour_24 rfl ?_
      refine sd_iload_n sD11_rumour_25 rfl ?_
      refine sd_callVp (as := [.inl g]) (st := []) (v := .inl (x (10 + g.toNat))) sD11_rumour_26 sM11_64 sOM15 rfl rfl rfl (by decide) (Nat.le_of_ble_eq_true rfl) (cM_kindOf g _ m hx  (by omega)) (fun ho26 => ?_)
      refine sd_iconst sD11_rumour_29 (by decide) ?_
      refine sd_icmp_eq (tgt := 39) sD11_rumour_30 (by decide) (fun zc30 => ?_) (fun zc30 => ?_)
      ·
        refine sd_aload_n sD11_rumour_39 rfl ?_
        refine sd_getfr sD11_rumour_40 sF11_7 sGM15_0 ?_
        refine sd_bipush sD11_rumour_43 rfl (by decide) ?_
        refine sd_ialdx (a := 6) (v := x 6) hx sD11_rumour_45 sAM0 (by omega) rfl ?_
        refine sd_bipush sD11_rumour_46 rfl (by decide) ?_
        refine sd_icmp_ne (tgt := 57) sD11_rumour_48 (by decide) (fun zc48 => ?_) (fun zc48 => ?_)
        ·
          refine sd_aload_n sD11_rumour_57 rfl ?_
          refine sd_getfr sD11_rumour_58 sF11_7 sGM15_0 ?_
          refine sd_bipush sD11_rumour_61 rfl (by decide) ?_
          refine sd_ialdx (a := 6) (v := x 6) hx sD11_rumour_63 sAM0 (by omega) rfl ?_
          refine sd_istore_n (ls' := [some (.inr 15), some (.inl g), some (.inl c), some (.inl (x 6))]) sD11_rumour_64 (by decide) rfl ?_
          refine sd_aload_n sD11_rumour_65 rfl ?_
          refine sd_getfr sD11_rumour_66 sF11_7 sGM15_0 ?_
          refine sd_sipush sD11_rumour_69 rfl (by decide) ?_
          refine sd_iload_n sD11_rumour_72 rfl ?_
          refine sd_iadd (z := (1272 + x 6)) sD11_rumour_73 (by omega) (by omega) ?_
          refine sd_iload_n sD11_rumour_74 rfl ?_
          refine sd_iastx (a := (1272 + (x 6).toNat)) sd_sokM hx sD11_rumour_75 sAM0 (by omega) (fun m hx em75 => ?_)
          refine sd_aload_n sD11_rumour_76 rfl ?_
          refine sd_getfr sD11_rumour_77 sF11_7 sGM15_0 ?_
          refine sd_sipush sD11_rumour_80 rfl (by decide) ?_
          refine sd_iload_n sD11_rumour_83 rfl ?_
          refine sd_iadd (z := (1278 + x 6)) sD11_rumour_84 (by omega) (by omega) ?_
          refine sd_iload_n sD11_rumour_85 rfl ?_
          refine sd_iastx (a := (1278 + (x 6).toNat)) sd_sokM hx sD11_rumour_86 sAM0 (by omega) (fun m hx em86 => ?_)
          refine sd_aload_n sD11_rumour_87 rfl ?_
          refine sd_getfr sD11_rumour_88 sF11_7 sGM15_0 ?_
          refine sd_sipush sD11_rumour_91 rfl (by decide) ?_
          refine sd_iload_n sD11_rumour_94 rfl ?_
          refine sd_iadd (z := (1284 + x 6)) sD11_rumour_95 (by omega) (by omega) ?_
          refine sd_iconst sD11_rumour_96 (by decide) ?_
          refine sd_iastx (a := (1284 + (x 6).toNat)) sd_sokM hx sD11_rumour_97 sAM0 (by omega) (fun m hx em97 => ?_)
          refine sd_aload_n sD11_rumour_98 rfl ?_
          refine sd_getfr sD11_rumour_99 sF11_7 sGM15_0 ?_
          refine sd_bipush sD11_rumour_102 rfl (by decide) ?_
          refine sd_dup2 sD11_rumour_104 ?_
          refine sd_ialdx (a := 6) (v := x 6) hx sD11_rumour_105 sAM0 (by omega) (by simp only [sd_up]; repeat rw [if_neg (by omega)]) ?_
          refine sd_iconst sD11_rumour_106 (by decide) ?_
          refine sd_iadd (z := (x 6 + 1)) sD11_rumour_107 (by omega) (by omega) ?_
          refine sd_iastx (a := 6) sd_sokM hx sD11_rumour_108 sAM0 (by omega) (fun m hx em108 => ?_)
          refine sd_iload_n sD11_rumour_109 rfl ?_
          refine sd_ireturn sD11_rumour_110 rfl (fun hr hm => ?_)
          exact sd_done2 (by unfold sp_rumour; ((repeat (first | rw [if_pos (by first | assumption | omega)] | rw [if_neg (by first | assumption | omega)])); try rfl)) (by intro j; simp only [sd_up]; (repeat' (first | rfl | split)); all_goals omega) hx
        ·
          refine sd_aload_n sD11_rumour_51 rfl ?_
          refine sd_iconst sD11_rumour_52 (by decide) ?_
          refine sd_callV (as := [.inl 1]) (st := []) sD11_rumour_53 sM11_78 rfl rfl sOM15 rfl (by decide) (Nat.le_of_ble_eq_true rfl) (cM_finding 1 (by decide) _ m hx (hF 1 (by decide))) (fun r m hq ho53 hm => ?_)
          obtain ⟨rfl, hx⟩ := hq
          show sd_Wp sd_SM 3 sY11_rumour 56 [some (.inr 15), some (.inl g), some (.inl c), none] [.inl (-1000002)] m _
          refine sd_ireturn sD11_rumour_56 rfl (fun hr hm => ?_)
          exact sd_done2 (by unfold sp_rumour; ((repeat (first | rw [if_pos (by first | assumption | omega)] | rw [if_neg (by first | assumption | omega)])); try rfl)) (by intro j; simp only [sd_up]; (repeat' (first | rfl | split)); all_goals omega) hx
      ·
        refine sd_aload_n sD11_rumour_33 rfl ?_
        refine sd_iconst sD11_rumour_34 (by decide) ?_
        refine sd_callV (as := [.inl 2]) (st := []) sD11_rumour_35 sM11_78 rfl rfl sOM15 rfl (by decide) (Nat.le_of_ble_eq_true rfl) (cM_finding 2 (by decide) _ m hx (hF 2 (by decide))) (fun r m hq ho35 hm => ?_)
        obtain ⟨rfl, hx⟩ := hq
        show sd_Wp sd_SM 3 sY11_rumour 38 [some (.inr 15), some (.inl g), some (.inl c), none] [.inl (-1000003)] m _
        refine sd_ireturn sD11_rumour_38 rfl (fun hr hm => ?_)
        exact sd_done2 (by unfold sp_rumour; ((repeat (first | rw [if_pos (by first | assumption | omega)] | rw [if_neg (by first | assumption | omega)])); try rfl)) (by intro j; simp only [sd_up]; (repeat' (first | rfl | split)); all_goals omega) hx
    ·
      refine sd_aload_n sD11_rumour_18 rfl ?_
      refine sd_iconst sD11_rumour_19 (by decide) ?_
      refine sd_callV (as := [.inl 0]) (st := []) sD11_rumour_20 sM11_78 rfl rfl sOM15 rfl (by decide) (Nat.le_of_ble_eq_true rfl) (cM_finding 0 (by decide) _ m hx (hF 0 (by decide))) (fun r m hq ho20 hm => ?_)
      obtain ⟨rfl, hx⟩ := hq
      show sd_Wp sd_SM 3 sY11_rumour 23 [some (.inr 15), some (.inl g), some (.inl c), none] [.inl (-1000001)] m _
      refine sd_ireturn sD11_rumour_23 rfl (fun hr hm => ?_)
      exact sd_done2 (by unfold sp_rumour; ((repeat (first | rw [if_pos (by first | assumption | omega)] | rw [if_neg (by first | assumption | omega)])); try rfl)) (by intro j; simp only [sd_up]; (repeat' (first | rfl | split)); all_goals omega) hx
