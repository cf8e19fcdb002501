set_option maxRecDepth 100000 in
set_option maxHeartbeats 4000000 in
theorem pM_guard (g : Int) (n : Int) (x m : sd_M) (hx : sd_ns x m) (h1 : sd_I1 x) (h2 : sd_I2 x) (h3 : sd_I3 x) (h4 : sd_I4 x) (hF : ∀ k : Nat, k < 7 → 0 ≤ x (4101 + k) ∧ x (4101 + k) ≤ 1000000) : sd_Ct sd_SM 4 sY11_guard [.inr 15, .inl g, .inl n] m (sd_Qp (sp_guard x g n)) := by
  refine sd_ct rfl (Nat.le_of_ble_eq_true rfl) (fun hok hm => ?_)
  obtain ⟨⟨i0, j0⟩, ⟨i1, j1⟩, ⟨i2, j2⟩, ⟨i3, j3⟩, ⟨i4, j4⟩, ⟨i5, j5⟩, ⟨i6, j6⟩, ⟨i7, j7⟩, ⟨i8, j8⟩⟩ := id h1
  have r_g : sd_R g := hok (.inl g) (by simp)
  have r_n : sd_R n := hok (.inl n) (by simp)
  show sd_Wp sd_SM 4 sY11_guard 0 [some (.inr 15), some (.inl g), some (.inl n)] [] m _
  refine sd_aload_n sD11_guard_0 rfl ?_
  refine sd_iload_n sD11_guard_1 rfl ?_
  refine sd_callVp (as := [.inl g]) (st := []) (v := .inl (sd_b (sd_isH x g))) sD11_guard_2 sM11_60 sOM15 rfl rfl rfl (by decide) (Nat.le_of_ble_eq_true rfl) (cM_isHold g _ m hx h1 ) (fun ho2 => ?_)
  refine sd_bif_eq (tgt := 18) sD11_guard_5 (by decide) (fun zc5 => ?_) (fun zc5 => ?_)
  ·
    refine sd_aload_n sD11_guard_18 rfl ?_
    refine sd_iconst sD11_guard_19 (by decide) ?_
    refine sd_callV (as := [.inl 0]) (st := []) sD11_guard_20 sM11_78 rfl rfl sOM15 rfl (by decide) (Nat.le_of_ble_eq_true rfl) (cM_finding 0 (by decide) _ m hx (hF 0 (by decide))) (fun r m hq ho20 hm => ?_)
    obtain ⟨rfl, hx⟩ := hq
    show sd_Wp sd_SM 4 sY11_guard 23 [some (.inr 15), some (.inl g), some (.inl n)] [.inl (-1000001)] m _
    refine sd_ireturn sD11_guard_23 rfl (fun hr hm => ?_)
    exact sd_done (by unfold sp_guard; ((repeat (first | rw [if_pos (by first | assumption | omega)] | rw [if_neg (by first | assumption | omega)])); try rfl)) hx
  ·
    refine sd_iload_n sD11_guard_8 rfl ?_
    refine sd_iconst sD11_guard_9 (by decide) ?_
    refine sd_bipush sD11_guard_10 rfl (by decide) ?_
    refine sd_callSp (as := [.inl n, .inl 0, .inl 99]) (st := []) (v := .inl (sd_b (0 ≤ n ∧ n ≤ 99))) sD11_guard_12 sM11_56 rfl rfl (by decide) (Nat.le_of_ble_eq_true rfl) (cM_in n 0 99 m) (fun ho12 => ?_)
    refine sd_bif_ne (tgt := 24) sD11_guard_15 (by decide) (fun zc15 => ?_) (fun zc15 => ?_)
    ·
      refine sd_aload_n sD11_guard_24 rfl ?_
      refine sd_iload_n sD11_guard_25 rfl ?_
      refine sd_callVp (as := [.inl g]) (st := []) (v := .inl (x (10 + g.toNat))) sD11_guard_26 sM11_64 sOM15 rfl rfl rfl (by decide) (Nat.le_of_ble_eq_true rfl) (cM_kindOf g _ m hx  (by omega)) (fun ho26 => ?_)
      refine sd_iconst sD11_guard_29 (by decide) ?_
      refine sd_icmp_eq (tgt := 39) sD11_guard_30 (by decide) (fun zc30 => ?_) (fun zc30 => ?_)
      ·
        have e2 := (h2 g.toNat (by omega)).2.2.2.2.2.2.2.2.1
        refine sd_aload_n sD11_guard_39 rfl ?_
        refine sd_getfr sD11_guard_40 sF11_7 sGM15_0 ?_
        refine sd_sipush sD11_guard_43 rfl (by decide) ?_
        refine sd_iload_n sD11_guard_46 rfl ?_
        refine sd_iadd (z := (202 + g)) sD11_guard_47 (by omega) (by omega) ?_
        refine sd_ialdx (a := (202 + g.toNat)) (v := x (202 + g.toNat)) hx sD11_guard_48 sAM0 (by omega) rfl ?_
        refine sd_iconst sD11_guard_49 (by decide) ?_
        refine sd_icmp_ne (tgt := 64) sD11_guard_50 (by decide) (fun zc50 => ?_) (fun zc50 => ?_)
        ·
          refine sd_aload_n sD11_guard_64 rfl ?_
          refine sd_getfr sD11_guard_65 sF11_7 sGM15_0 ?_
          refine sd_sipush sD11_guard_68 rfl (by decide) ?_
          refine sd_iload_n sD11_guard_71 rfl ?_
          refine sd_iadd (z := (202 + g)) sD11_guard_72 (by omega) (by omega) ?_
          refine sd_iconst sD11_guard_73 (by decide) ?_
          refine sd_iastx (a := (202 + g.toNat)) sd_sokM hx sD11_guard_74 sAM0 (by omega) (fun m hx em74 => ?_)
          refine sd_aload_n sD11_guard_75 rfl ?_
          refine sd_getfr sD11_guard_76 sF11_7 sGM15_0 ?_
          refine sd_sipush sD11_guard_79 rfl (by decide) ?_
          refine sd_iload_n sD11_guard_82 rfl ?_
          refine sd_iadd (z := (226 + g)) sD11_guard_83 (by omega) (by omega) ?_
          refine sd_iload_n sD11_guard_84 rfl ?_
          refine sd_iastx (a := (226 + g.toNat)) sd_sokM hx sD11_guard_85 sAM0 (by omega) (fun m hx em85 => ?_)
          refine sd_iconst sD11_guard_86 (by decide) ?_
          refine sd_ireturn sD11_guard_87 rfl (fun hr hm => ?_)
          exact sd_done (by unfold sp_guard; ((repeat (first | rw [if_pos (by first | assumption | omega)] | rw [if_neg (by first | assumption | omega)])); try rfl)) hx
        ·
          refine sd_iload_n sD11_guard_53 rfl ?_
          refine sd_aload_n sD11_guard_54 rfl ?_
          refine sd_iload_n sD11_guard_55 rfl ?_
          refine sd_callVp (as := [.inl g]) (st := [.inl n]) (v := .inl (sd_frc x g.toNat)) sD11_guard_56 sM11_122 sOM15 rfl rfl rfl (by decide) (Nat.le_of_ble_eq_true rfl) (cM_forceAt g _ m hx h1 h2 h3 h4 (by omega)) (fun ho56 => ?_)
          refine sd_icmp_gt (tgt := 64) sD11_guard_59 (by decide) (fun zc59 => ?_) (fun zc59 => ?_)
          ·
            refine sd_aload_n sD11_guard_64 rfl ?_
            refine sd_getfr sD11_guard_65 sF11_7 sGM15_0 ?_
            refine sd_sipush sD11_guard_68 rfl (by decide) ?_
            refine sd_iload_n sD11_guard_71 rfl ?_
            refine sd_iadd (z := (202 + g)) sD11_guard_72 (by omega) (by omega) ?_
            refine sd_iconst sD11_guard_73 (by decide) ?_
            refine sd_iastx (a := (202 + g.toNat)) sd_sokM hx sD11_guard_74 sAM0 (by omega) (fun m hx em74 => ?_)
            refine sd_aload_n sD11_guard_75 rfl ?_
            refine sd_getfr sD11_guard_76 sF11_7 sGM15_0 ?_
            refine sd_sipush sD11_guard_79 rfl (by decide) ?_
            refine sd_iload_n sD11_guard_82 rfl ?_
            refine sd_iadd (z := (226 + g)) sD11_guard_83 (by omega) (by omega) ?_
            refine sd_iload_n sD11_guard_84 rfl ?_
            refine sd_iastx (a := (226 + g.toNat)) sd_sokM hx sD11_guard_85 sAM0 (by omega) (fun m hx em85 => ?_)
            refine sd_iconst sD11_guard_86 (by decide) ?_
            refine sd_ireturn sD11_guard_87 rfl (fun hr hm => ?_)
            exact sd_done (by unfold sp_guard; ((repeat (first | rw [if_pos (by first | assumption | omega)] | rw [if_neg (by first | assumption | omega)])); try rfl)) hx
          ·
            refine sd_iconst sD11_guard_62 (by decide) ?_
            refine sd_ireturn sD11_guard_63 rfl (fun hr hm => ?_)
            exact sd_done (by unfold sp_guard; ((repeat (first | rw [if_pos (by first | assumption | omega)] | rw [if_neg (by first | assumption | omega)])); try rfl)) hx
      ·
        refine sd_aload_n sD11_guard_33 rfl ?_
        refine sd_iconst sD11_guard_34 (by decide) ?_
        refine sd_callV (as := [.inl 2]) (st := []) sD11_guard_35 sM11_78 rfl rfl sOM15 rfl (by decide) (Nat.le_of_ble_eq_true rfl) (cM_finding 2 (by decide) _ m hx (hF 2 (by decide))) (fun r m hq ho35 hm => ?_)
        obtain ⟨rfl, hx⟩ := hq
        show sd_Wp sd_SM 4 sY11_guard 38 [some (.inr 15), some (.inl g), some (.inl n)] [.inl (-1000003)] m _
        refine sd_ireturn sD11_guard_38 rfl (fun hr hm => ?_)
        exact sd_done (by unfold sp_guard; ((repeat (first | rw [if_pos (by first | assumption | omega)] | rw [if_neg (by first | assumption | omega)])); try rfl)) hx
    ·
      refine sd_aload_n sD11_guard_18 rfl ?_
      refine sd_iconst sD11_guard_19 (by decide) ?_
      refine sd_callV (as := [.inl 0]) (st := []) sD11_guard_20 sM11_78 rfl rfl sOM15 rfl (by decide) (Nat.le_of_ble_eq_true rfl) (cM_finding 0 (by decide) _ m hx (hF 0 (by decide))) (fun r m hq ho20 hm => ?_)
      obtain ⟨rfl, hx⟩ := hq
      show sd_Wp sd_SM 4 sY11_guard 23 [some (.inr 15), some (.inl g), some (.inl n)] [.inl (-1000001)] m _
      refine sd_ireturn sD11_guard_23 rfl (fun hr hm => ?_)
      exact sd_done (by unfold sp_guard; ((repeat (first | rw [if_pos (by first | assumption | omega)] | rw [if_neg (by first | assumption | omega)])); try rfl)) hx
