set_option maxRecDepth 100000 in
set_option maxHeartbeats 4000000 in
theorem pM_take (g : Int) (x m : sd_M) (hx : sd_ns x m) (h1 : sd_I1 x) (h2 : sd_I2 x) (h3 : sd_I3 x) (h4 : sd_I4 x) (h6 : sd_I6 x) (hR : sd_IR x) (hI : sd_IT x) (hL : sd_LT x) (hF : ∀ k : Nat, k < 7 → 0 ≤ x (4101 + k) ∧ x (4101 + k) ≤ 1000000) : sd_Ct sd_SM 6 sY11_take [.inr 15, .inl g] m (sd_Qp (sp_take x g)) := by
  refine sd_ct rfl (Nat.le_of_ble_eq_true rfl) (fun hok hm => ?_)
  obtain ⟨⟨i0, j0⟩, ⟨i1, j1⟩, ⟨i2, j2⟩, ⟨i3, j3⟩, ⟨i4, j4⟩, ⟨i5, j5⟩, ⟨i6, j6⟩, ⟨i7, j7⟩, ⟨i8, j8⟩⟩ := id h1
  have r_g : sd_R g := hok (.inl g) (by simp)
  show sd_Wp sd_SM 6 sY11_take 0 [some (.inr 15), some (.inl g), none] [] m _
  refine sd_aload_n sD11_take_0 rfl ?_
  refine sd_iload_n sD11_take_1 rfl ?_
  refine sd_callVp (as := [.inl g]) (st := []) (v := .inl (sd_b (sd_isH x g))) sD11_take_2 sM11_60 sOM15 rfl rfl rfl (by decide) (Nat.le_of_ble_eq_true rfl) (cM_isHold g _ m hx h1 ) (fun ho2 => ?_)
  refine sd_bif_ne (tgt := 14) sD11_take_5 (by decide) (fun zc5 => ?_) (fun zc5 => ?_)
  ·
    refine sd_aload_n sD11_take_14 rfl ?_
    refine sd_iload_n sD11_take_15 rfl ?_
    refine sd_callVp (as := [.inl g]) (st := []) (v := .inl (x (10 + g.toNat))) sD11_take_16 sM11_64 sOM15 rfl rfl rfl (by decide) (Nat.le_of_ble_eq_true rfl) (cM_kindOf g _ m hx  (by omega)) (fun ho16 => ?_)
    refine sd_iconst sD11_take_19 (by decide) ?_
    refine sd_icmp_eq (tgt := 29) sD11_take_20 (by decide) (fun zc20 => ?_) (fun zc20 => ?_)
    ·
      refine sd_aload_n sD11_take_29 rfl ?_
      refine sd_getfr sD11_take_30 sF11_7 sGM15_0 ?_
      refine sd_sipush sD11_take_33 rfl (by decide) ?_
      refine sd_iload_n sD11_take_36 rfl ?_
      refine sd_iadd (z := (202 + g)) sD11_take_37 (by omega) (by omega) ?_
      refine sd_ialdx (a := (202 + g.toNat)) (v := x (202 + g.toNat)) hx sD11_take_38 sAM0 (by omega) rfl ?_
      refine sd_iconst sD11_take_39 (by decide) ?_
      refine sd_icmp_eq (tgt := 60) sD11_take_40 (by decide) (fun zc40 => ?_) (fun zc40 => ?_)
      ·
        refine sd_aload_n sD11_take_60 rfl ?_
        refine sd_iconst sD11_take_61 (by decide) ?_
        refine sd_callV (as := [.inl 4]) (st := []) sD11_take_62 sM11_78 rfl rfl sOM15 rfl (by decide) (Nat.le_of_ble_eq_true rfl) (cM_finding 4 (by decide) _ m hx (hF 4 (by decide))) (fun r m hq ho62 hm => ?_)
        obtain ⟨rfl, hx⟩ := hq
        show sd_Wp sd_SM 6 sY11_take 65 [some (.inr 15), some (.inl g), none] [.inl (-1000005)] m _
        refine sd_ireturn sD11_take_65 rfl (fun hr hm => ?_)
        exact sd_done (by unfold sp_take; ((repeat (first | rw [if_pos (by first | assumption | omega)] | rw [if_neg (by first | assumption | omega)] | rw [if_pos (by first | exact Or.inl (by assumption) | exact Or.inr (by assumption))] | rw [if_neg (fun q => by rcases q with q | q; omega; contradiction)])); try rfl)) hx
      ·
        have e3 := sd_gA h1 h3 (i := g.toNat) (by omega) (by omega)
        refine sd_aload_n sD11_take_43 rfl ?_
        refine sd_iconst sD11_take_44 (by decide) ?_
        refine sd_aload_n sD11_take_45 rfl ?_
        refine sd_getfr sD11_take_46 sF11_7 sGM15_0 ?_
        refine sd_bipush sD11_take_49 rfl (by decide) ?_
        refine sd_iload_n sD11_take_51 rfl ?_
        refine sd_iadd (z := (34 + g)) sD11_take_52 (by omega) (by omega) ?_
        refine sd_ialdx (a := (34 + g.toNat)) (v := x (34 + g.toNat)) hx sD11_take_53 sAM0 (by omega) rfl ?_
        refine sd_callV (as := [.inl 2, .inl (x (34 + g.toNat))]) (st := []) sD11_take_54 sM11_87 rfl rfl sOM15 rfl (by decide) (Nat.le_of_ble_eq_true rfl) (cM_isBarred 2 (x (34 + g.toNat)) _ m hx (by omega) h1 h2 h4 h6 hR hI hL) (fun r m hq ho54 hm => ?_)
        obtain ⟨rfl, hx, hwy54⟩ := hq
        have zk54 := sd_clx_rng h1 hR 2 (x (34 + g.toNat))
        show sd_Wp sd_SM 6 sY11_take 57 [some (.inr 15), some (.inl g), none] [.inl (sd_b (sd_brs x (sd_clx x 2 (x (34 + g.toNat)))))] m _
        refine sd_bif_eq (tgt := 66) sD11_take_57 (by decide) (fun zc57 => ?_) (fun zc57 => ?_)
        ·
          refine sd_aload_n sD11_take_66 rfl ?_
          refine sd_iload_n sD11_take_67 rfl ?_
          refine sd_callVp (as := [.inl g]) (st := []) (v := .inl (sd_frc x g.toNat)) sD11_take_68 sM11_122 sOM15 rfl rfl rfl (by decide) (Nat.le_of_ble_eq_true rfl) (cM_forceAt g _ m hx h1 h2 h3 h4 (by omega)) (fun ho68 => ?_)
          refine sd_istore_n (ls' := [some (.inr 15), some (.inl g), some (.inl (sd_frc x g.toNat))]) sD11_take_71 (by decide) rfl ?_
          refine sd_iload_n sD11_take_72 rfl ?_
          refine sd_if_eq (tgt := 90) sD11_take_73 (by decide) (fun zc73 => ?_) (fun zc73 => ?_)
          ·
            refine sd_aload_n sD11_take_90 rfl ?_
            refine sd_iconst sD11_take_91 (by decide) ?_
            refine sd_callV (as := [.inl 3]) (st := []) sD11_take_92 sM11_78 rfl rfl sOM15 rfl (by decide) (Nat.le_of_ble_eq_true rfl) (cM_finding 3 (by decide) _ m hx (hF 3 (by decide))) (fun r m hq ho92 hm => ?_)
            obtain ⟨rfl, hx⟩ := hq
            show sd_Wp sd_SM 6 sY11_take 95 [some (.inr 15), some (.inl g), some (.inl (sd_frc x g.toNat))] [.inl (-1000004)] m _
            refine sd_ireturn sD11_take_95 rfl (fun hr hm => ?_)
            exact sd_done (by unfold sp_take; ((repeat (first | rw [if_pos (by first | assumption | omega)] | rw [if_neg (by first | assumption | omega)] | rw [if_pos (by first | exact Or.inl (by assumption) | exact Or.inr (by assumption))] | rw [if_neg (fun q => by rcases q with q | q; omega; contradiction)])); try rfl)) hx
          ·
            refine sd_iload_n sD11_take_76 rfl ?_
            refine sd_aload_n sD11_take_77 rfl ?_
            refine sd_getfr sD11_take_78 sF11_7 sGM15_0 ?_
            refine sd_sipush sD11_take_81 rfl (by decide) ?_
            refine sd_iload_n sD11_take_84 rfl ?_
            refine sd_iadd (z := (226 + g)) sD11_take_85 (by omega) (by omega) ?_
            refine sd_ialdx (a := (226 + g.toNat)) (v := x (226 + g.toNat)) hx sD11_take_86 sAM0 (by omega) rfl ?_
            refine sd_icmp_ge (tgt := 96) sD11_take_87 (by decide) (fun zc87 => ?_) (fun zc87 => ?_)
            ·
              refine sd_aload_n sD11_take_96 rfl ?_
              refine sd_getfr sD11_take_97 sF11_7 sGM15_0 ?_
              refine sd_sipush sD11_take_100 rfl (by decide) ?_
              refine sd_iload_n sD11_take_103 rfl ?_
              refine sd_iadd (z := (202 + g)) sD11_take_104 (by omega) (by omega) ?_
              refine sd_iconst sD11_take_105 (by decide) ?_
              refine sd_iastx (a := (202 + g.toNat)) sd_sokM hx sD11_take_106 sAM0 (by omega) (fun m hx em106 => ?_)
              refine sd_aload_n sD11_take_107 rfl ?_
              refine sd_getfr sD11_take_108 sF11_7 sGM15_0 ?_
              refine sd_sipush sD11_take_111 rfl (by decide) ?_
              refine sd_iload_n sD11_take_114 rfl ?_
              refine sd_iadd (z := (226 + g)) sD11_take_115 (by omega) (by omega) ?_
              refine sd_iconst sD11_take_116 (by decide) ?_
              refine sd_iastx (a := (226 + g.toNat)) sd_sokM hx sD11_take_117 sAM0 (by omega) (fun m hx em117 => ?_)
              refine sd_iload_n sD11_take_118 rfl ?_
              refine sd_ireturn sD11_take_119 rfl (fun hr hm => ?_)
              exact sd_done (by unfold sp_take; ((repeat (first | rw [if_pos (by first | assumption | omega)] | rw [if_neg (by first | assumption | omega)] | rw [if_pos (by first | exact Or.inl (by assumption) | exact Or.inr (by assumption))] | rw [if_neg (fun q => by rcases q with q | q; omega; contradiction)])); try rfl)) hx
            ·
              refine sd_aload_n sD11_take_90 rfl ?_
              refine sd_iconst sD11_take_91 (by decide) ?_
              refine sd_callV (as := [.inl 3]) (st := []) sD11_take_92 sM11_78 rfl rfl sOM15 rfl (by decide) (Nat.le_of_ble_eq_true rfl) (cM_finding 3 (by decide) _ m hx (hF 3 (by decide))) (fun r m hq ho92 hm => ?_)
              obtain ⟨rfl, hx⟩ := hq
              show sd_Wp sd_SM 6 sY11_take 95 [some (.inr 15), some (.inl g), some (.inl (sd_frc x g.toNat))] [.inl (-1000004)] m _
              refine sd_ireturn sD11_take_95 rfl (fun hr hm => ?_)
              exact sd_done (by unfold sp_take; ((repeat (first | rw [if_pos (by first | assumption | omega)] | rw [if_neg (by first | assumption | omega)] | rw [if_pos (by first | exact Or.inl (by assumption) | exact Or.inr (by assumption))] | rw [if_neg (fun q => by rcases q with q | q; omega; contradiction)])); try rfl)) hx
        ·
          refine sd_aload_n sD11_take_60 rfl ?_
          refine sd_iconst sD11_take_61 (by decide) ?_
          refine sd_callV (as := [.inl 4]) (st := []) sD11_take_62 sM11_78 rfl rfl sOM15 rfl (by decide) (Nat.le_of_ble_eq_true rfl) (cM_finding 4 (by decide) _ m hx (hF 4 (by decide))) (fun r m hq ho62 hm => ?_)
          obtain ⟨rfl, hx⟩ := hq
          show sd_Wp sd_SM 6 sY11_take 65 [some (.inr 15), some (.inl g), none] [.inl (-1000005)] m _
          refine sd_ireturn sD11_take_65 rfl (fun hr hm => ?_)
          exact sd_done (by unfold sp_take; ((repeat (first | rw [if_pos (by first | assumption | omega)] | rw [if_neg (by first | assumption | omega)] | rw [if_pos (by first | exact Or.inl (by assumption) | exact Or.inr (by assumption))] | rw [if_neg (fun q => by rcases q with q | q; omega; contradiction)])); try rfl)) hx
    ·
      refine sd_aload_n sD11_take_23 rfl ?_
      refine sd_iconst sD11_take_24 (by decide) ?_
      refine sd_callV (as := [.inl 2]) (st := []) sD11_take_25 sM11_78 rfl rfl sOM15 rfl (by decide) (Nat.le_of_ble_eq_true rfl) (cM_finding 2 (by decide) _ m hx (hF 2 (by decide))) (fun r m hq ho25 hm => ?_)
      obtain ⟨rfl, hx⟩ := hq
      show sd_Wp sd_SM 6 sY11_take 28 [some (.inr 15), some (.inl g), none] [.inl (-1000003)] m _
      refine sd_ireturn sD11_take_28 rfl (fun hr hm => ?_)
      exact sd_done (by unfold sp_take; ((repeat (first | rw [if_pos (by first | assumption | omega)] | rw [if_neg (by first | assumption | omega)] | rw [if_pos (by first | exact Or.inl (by assumption) | exact Or.inr (by assumption))] | rw [if_neg (fun q => by rcases q with q | q; omega; contradiction)])); try rfl)) hx
  ·
    refine sd_aload_n sD11_take_8 rfl ?_
    refine sd_iconst sD11_take_9 (by decide) ?_
    refine sd_callV (as := [.inl 0]) (st := []) sD11_take_10 sM11_78 rfl rfl sOM15 rfl (by decide) (Nat.le_of_ble_eq_true rfl) (cM_finding 0 (by decide) _ m hx (hF 0 (by decide))) (fun r m hq ho10 hm => ?_)
    obtain ⟨rfl, hx⟩ := hq
    show sd_Wp sd_SM 6 sY11_take 13 [some (.inr 15), some (.inl g), none] [.inl (-1000001)] m _
    refine sd_ireturn sD11_take_13 rfl (fun hr hm => ?_)
    exact sd_done (by unfold sp_take; ((repeat (first | rw [if_pos (by first | assumption | omega)] | rw [if_neg (by first | assumption | omega)] | rw [if_pos (by first | exact Or.inl (by assumption) | exact Or.inr (by assumption))] | rw [if_neg (fun q => by rcases q with q | q; omega; contradiction)])); try rfl)) hx
