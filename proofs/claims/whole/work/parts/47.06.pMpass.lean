set_option maxRecDepth 100000 in
set_option maxHeartbeats 4000000 in
theorem pM_pass (h : Int) (n : Int) (x m : sd_M) (hx : sd_ns x m) (h1 : sd_I1 x) (h2 : sd_I2 x) (h4 : sd_I4 x) (h6 : sd_I6 x) (hR : sd_IR x) (hI : sd_IT x) (hL : sd_LT x) (hF : ∀ k : Nat, k < 7 → 0 ≤ x (4101 + k) ∧ x (4101 + k) ≤ 1000000) : sd_Ct sd_SM 6 sY11_pass [.inr 15, .inl h, .inl n] m (sd_Qp (sp_pass x h n)) := by
  refine sd_ct rfl (Nat.le_of_ble_eq_true rfl) (fun hok hm => ?_)
  obtain ⟨⟨i0, j0⟩, ⟨i1, j1⟩, ⟨i2, j2⟩, ⟨i3, j3⟩, ⟨i4, j4⟩, ⟨i5, j5⟩, ⟨i6, j6⟩, ⟨i7, j7⟩, ⟨i8, j8⟩⟩ := id h1
  have r_h : sd_R h := hok (.inl h) (by simp)
  have r_n : sd_R n := hok (.inl n) (by simp)
  show sd_Wp sd_SM 6 sY11_pass 0 [some (.inr 15), some (.inl h), some (.inl n)] [] m _
  refine sd_aload_n sD11_pass_0 rfl ?_
  refine sd_iload_n sD11_pass_1 rfl ?_
  refine sd_callVp (as := [.inl h]) (st := []) (v := .inl (sd_b (sd_isH x h))) sD11_pass_2 sM11_60 sOM15 rfl rfl rfl (by decide) (Nat.le_of_ble_eq_true rfl) (cM_isHold h _ m hx h1 ) (fun ho2 => ?_)
  refine sd_bif_eq (tgt := 18) sD11_pass_5 (by decide) (fun zc5 => ?_) (fun zc5 => ?_)
  ·
    refine sd_aload_n sD11_pass_18 rfl ?_
    refine sd_iconst sD11_pass_19 (by decide) ?_
    refine sd_callV (as := [.inl 0]) (st := []) sD11_pass_20 sM11_78 rfl rfl sOM15 rfl (by decide) (Nat.le_of_ble_eq_true rfl) (cM_finding 0 (by decide) _ m hx (hF 0 (by decide))) (fun r m hq ho20 hm => ?_)
    obtain ⟨rfl, hx⟩ := hq
    show sd_Wp sd_SM 6 sY11_pass 23 [some (.inr 15), some (.inl h), some (.inl n)] [.inl (-1000001)] m _
    refine sd_ireturn sD11_pass_23 rfl (fun hr hm => ?_)
    exact sd_done2 (by unfold sp_pass; ((repeat (first | rw [if_pos (by first | assumption | omega)] | rw [if_neg (by first | assumption | omega)] | rw [if_pos (by first | exact Or.inl (by assumption) | exact Or.inr (by assumption))] | rw [if_neg (fun q => by rcases q with q | q; omega; contradiction)])); try rfl)) (by intro j; simp only [sd_up]; (repeat' (first | rfl | split)); all_goals omega) hx
  ·
    refine sd_iload_n sD11_pass_8 rfl ?_
    refine sd_iconst sD11_pass_9 (by decide) ?_
    refine sd_bipush sD11_pass_10 rfl (by decide) ?_
    refine sd_callSp (as := [.inl n, .inl 0, .inl 9]) (st := []) (v := .inl (sd_b (0 ≤ n ∧ n ≤ 9))) sD11_pass_12 sM11_56 rfl rfl (by decide) (Nat.le_of_ble_eq_true rfl) (cM_in n 0 9 m) (fun ho12 => ?_)
    refine sd_bif_ne (tgt := 24) sD11_pass_15 (by decide) (fun zc15 => ?_) (fun zc15 => ?_)
    ·
      refine sd_aload_n sD11_pass_24 rfl ?_
      refine sd_iload_n sD11_pass_25 rfl ?_
      refine sd_callVp (as := [.inl h]) (st := []) (v := .inl (x (10 + h.toNat))) sD11_pass_26 sM11_64 sOM15 rfl rfl rfl (by decide) (Nat.le_of_ble_eq_true rfl) (cM_kindOf h _ m hx  (by omega)) (fun ho26 => ?_)
      refine sd_iconst sD11_pass_29 (by decide) ?_
      refine sd_icmp_eq (tgt := 39) sD11_pass_30 (by decide) (fun zc30 => ?_) (fun zc30 => ?_)
      ·
        refine sd_aload_n sD11_pass_39 rfl ?_
        refine sd_iconst sD11_pass_40 (by decide) ?_
        refine sd_iload_n sD11_pass_41 rfl ?_
        refine sd_callV (as := [.inl 1, .inl h]) (st := []) sD11_pass_42 sM11_87 rfl rfl sOM15 rfl (by decide) (Nat.le_of_ble_eq_true rfl) (cM_isBarred 1 h _ m hx (by omega) h1 h2 h4 h6 hR hI hL) (fun r m hq ho42 hm => ?_)
        obtain ⟨rfl, hx, hwy42⟩ := hq
        have zk42 := sd_clx_rng h1 hR 1 h
        show sd_Wp sd_SM 6 sY11_pass 45 [some (.inr 15), some (.inl h), some (.inl n)] [.inl (sd_b (sd_brs x (sd_clx x 1 h)))] m _
        refine sd_bif_eq (tgt := 54) sD11_pass_45 (by decide) (fun zc45 => ?_) (fun zc45 => ?_)
        ·
          have e2 := h2 h.toNat (by omega)
          refine sd_aload_n sD11_pass_54 rfl ?_
          refine sd_getfr sD11_pass_55 sF11_7 sGM15_0 ?_
          refine sd_sipush sD11_pass_58 rfl (by decide) ?_
          refine sd_iload_n sD11_pass_61 rfl ?_
          refine sd_iadd (z := (178 + h)) sD11_pass_62 (by omega) (by omega) ?_
          refine sd_ialdx (a := (178 + h.toNat)) (v := x (178 + h.toNat)) hx sD11_pass_63 sAM0 (by omega) rfl ?_
          refine sd_iload_n sD11_pass_64 rfl ?_
          refine sd_iadd (z := (x (178 + h.toNat) + n)) sD11_pass_65 (by omega) (by omega) ?_
          refine sd_aload_n sD11_pass_66 rfl ?_
          refine sd_getfr sD11_pass_67 sF11_7 sGM15_0 ?_
          refine sd_bipush sD11_pass_70 rfl (by decide) ?_
          refine sd_iload_n sD11_pass_72 rfl ?_
          refine sd_iadd (z := (34 + h)) sD11_pass_73 (by omega) (by omega) ?_
          refine sd_ialdx (a := (34 + h.toNat)) (v := x (34 + h.toNat)) hx sD11_pass_74 sAM0 (by omega) rfl ?_
          refine sd_icmp_gt (tgt := 95) sD11_pass_75 (by decide) (fun zc75 => ?_) (fun zc75 => ?_)
          ·
            refine sd_aload_n sD11_pass_95 rfl ?_
            refine sd_bipush sD11_pass_96 rfl (by decide) ?_
            refine sd_callV (as := [.inl 6]) (st := []) sD11_pass_98 sM11_78 rfl rfl sOM15 rfl (by decide) (Nat.le_of_ble_eq_true rfl) (cM_finding 6 (by decide) _ m hx (hF 6 (by decide))) (fun r m hq ho98 hm => ?_)
            obtain ⟨rfl, hx⟩ := hq
            show sd_Wp sd_SM 6 sY11_pass 101 [some (.inr 15), some (.inl h), some (.inl n)] [.inl (-1000007)] m _
            refine sd_ireturn sD11_pass_101 rfl (fun hr hm => ?_)
            exact sd_done2 (by unfold sp_pass; ((repeat (first | rw [if_pos (by first | assumption | omega)] | rw [if_neg (by first | assumption | omega)] | rw [if_pos (by first | exact Or.inl (by assumption) | exact Or.inr (by assumption))] | rw [if_neg (fun q => by rcases q with q | q; omega; contradiction)])); try rfl)) (by intro j; simp only [sd_up]; (repeat' (first | rfl | split)); all_goals omega) hx
          ·
            refine sd_aload_n sD11_pass_78 rfl ?_
            refine sd_getfr sD11_pass_79 sF11_7 sGM15_0 ?_
            refine sd_sipush sD11_pass_82 rfl (by decide) ?_
            refine sd_iload_n sD11_pass_85 rfl ?_
            refine sd_iadd (z := (154 + h)) sD11_pass_86 (by omega) (by omega) ?_
            refine sd_ialdx (a := (154 + h.toNat)) (v := x (154 + h.toNat)) hx sD11_pass_87 sAM0 (by omega) rfl ?_
            refine sd_iload_n sD11_pass_88 rfl ?_
            refine sd_iadd (z := (x (154 + h.toNat) + n)) sD11_pass_89 (by omega) (by omega) ?_
            refine sd_bipush sD11_pass_90 rfl (by decide) ?_
            refine sd_icmp_le (tgt := 102) sD11_pass_92 (by decide) (fun zc92 => ?_) (fun zc92 => ?_)
            ·
              refine sd_aload_n sD11_pass_102 rfl ?_
              refine sd_getfr sD11_pass_103 sF11_7 sGM15_0 ?_
              refine sd_sipush sD11_pass_106 rfl (by decide) ?_
              refine sd_iload_n sD11_pass_109 rfl ?_
              refine sd_iadd (z := (178 + h)) sD11_pass_110 (by omega) (by omega) ?_
              refine sd_dup2 sD11_pass_111 ?_
              refine sd_ialdx (a := (178 + h.toNat)) (v := x (178 + h.toNat)) hx sD11_pass_112 sAM0 (by omega) rfl ?_
              refine sd_iload_n sD11_pass_113 rfl ?_
              refine sd_iadd (z := (x (178 + h.toNat) + n)) sD11_pass_114 (by omega) (by omega) ?_
              refine sd_iastx (a := (178 + h.toNat)) sd_sokM hx sD11_pass_115 sAM0 (by omega) (fun m hx em115 => ?_)
              refine sd_aload_n sD11_pass_116 rfl ?_
              refine sd_getfr sD11_pass_117 sF11_7 sGM15_0 ?_
              refine sd_sipush sD11_pass_120 rfl (by decide) ?_
              refine sd_iload_n sD11_pass_123 rfl ?_
              refine sd_iadd (z := (154 + h)) sD11_pass_124 (by omega) (by omega) ?_
              refine sd_dup2 sD11_pass_125 ?_
              refine sd_ialdx (a := (154 + h.toNat)) (v := x (154 + h.toNat)) hx sD11_pass_126 sAM0 (by omega) (by simp only [sd_up]; repeat rw [if_neg (by omega)]) ?_
              refine sd_iload_n sD11_pass_127 rfl ?_
              refine sd_iadd (z := (x (154 + h.toNat) + n)) sD11_pass_128 (by omega) (by omega) ?_
              refine sd_iastx (a := (154 + h.toNat)) sd_sokM hx sD11_pass_129 sAM0 (by omega) (fun m hx em129 => ?_)
              refine sd_aload_n sD11_pass_130 rfl ?_
              refine sd_getfr sD11_pass_131 sF11_7 sGM15_0 ?_
              refine sd_sipush sD11_pass_134 rfl (by decide) ?_
              refine sd_iload_n sD11_pass_137 rfl ?_
              refine sd_iadd (z := (154 + h)) sD11_pass_138 (by omega) (by omega) ?_
              refine sd_ialdx (a := (154 + h.toNat)) (v := (x (154 + h.toNat) + n)) hx sD11_pass_139 sAM0 (by omega) (by simp only [sd_up]; first | (simp; done) | (repeat (first | rw [if_pos (by first | trivial | omega)] | rw [if_neg (by omega)]))) ?_
              refine sd_ireturn sD11_pass_140 rfl (fun hr hm => ?_)
              exact sd_done2 (by unfold sp_pass; ((repeat (first | rw [if_pos (by first | assumption | omega)] | rw [if_neg (by first | assumption | omega)] | rw [if_pos (by first | exact Or.inl (by assumption) | exact Or.inr (by assumption))] | rw [if_neg (fun q => by rcases q with q | q; omega; contradiction)])); try rfl)) (by intro j; simp only [sd_up]; (repeat' (first | rfl | split)); all_goals omega) hx
            ·
              refine sd_aload_n sD11_pass_95 rfl ?_
              refine sd_bipush sD11_pass_96 rfl (by decide) ?_
              refine sd_callV (as := [.inl 6]) (st := []) sD11_pass_98 sM11_78 rfl rfl sOM15 rfl (by decide) (Nat.le_of_ble_eq_true rfl) (cM_finding 6 (by decide) _ m hx (hF 6 (by decide))) (fun r m hq ho98 hm => ?_)
              obtain ⟨rfl, hx⟩ := hq
              show sd_Wp sd_SM 6 sY11_pass 101 [some (.inr 15), some (.inl h), some (.inl n)] [.inl (-1000007)] m _
              refine sd_ireturn sD11_pass_101 rfl (fun hr hm => ?_)
              exact sd_done2 (by unfold sp_pass; ((repeat (first | rw [if_pos (by first | assumption | omega)] | rw [if_neg (by first | assumption | omega)] | rw [if_pos (by first | exact Or.inl (by assumption) | exact Or.inr (by assumption))] | rw [if_neg (fun q => by rcases q with q | q; omega; contradiction)])); try rfl)) (by intro j; simp only [sd_up]; (repeat' (first | rfl | split)); all_goals omega) hx
        ·
          refine sd_aload_n sD11_pass_48 rfl ?_
          refine sd_iconst sD11_pass_49 (by decide) ?_
          refine sd_callV (as := [.inl 4]) (st := []) sD11_pass_50 sM11_78 rfl rfl sOM15 rfl (by decide) (Nat.le_of_ble_eq_true rfl) (cM_finding 4 (by decide) _ m hx (hF 4 (by decide))) (fun r m hq ho50 hm => ?_)
          obtain ⟨rfl, hx⟩ := hq
          show sd_Wp sd_SM 6 sY11_pass 53 [some (.inr 15), some (.inl h), some (.inl n)] [.inl (-1000005)] m _
          refine sd_ireturn sD11_pass_53 rfl (fun hr hm => ?_)
          exact sd_done2 (by unfold sp_pass; ((repeat (first | rw [if_pos (by first | assumption | omega)] | rw [if_neg (by first | assumption | omega)] | rw [if_pos (by first | exact Or.inl (by assumption) | exact Or.inr (by assumption))] | rw [if_neg (fun q => by rcases q with q | q; omega; contradiction)])); try rfl)) (by intro j; simp only [sd_up]; (repeat' (first | rfl | split)); all_goals omega) hx
      ·
        refine sd_aload_n sD11_pass_33 rfl ?_
        refine sd_iconst sD11_pass_34 (by decide) ?_
        refine sd_callV (as := [.inl 2]) (st := []) sD11_pass_35 sM11_78 rfl rfl sOM15 rfl (by decide) (Nat.le_of_ble_eq_true rfl) (cM_finding 2 (by decide) _ m hx (hF 2 (by decide))) (fun r m hq ho35 hm => ?_)
        obtain ⟨rfl, hx⟩ := hq
        show sd_Wp sd_SM 6 sY11_pass 38 [some (.inr 15), some (.inl h), some (.inl n)] [.inl (-1000003)] m _
        refine sd_ireturn sD11_pass_38 rfl (fun hr hm => ?_)
        exact sd_done2 (by unfold sp_pass; ((repeat (first | rw [if_pos (by first | assumption | omega)] | rw [if_neg (by first | assumption | omega)] | rw [if_pos (by first | exact Or.inl (by assumption) | exact Or.inr (by assumption))] | rw [if_neg (fun q => by rcases q with q | q; omega; contradiction)])); try rfl)) (by intro j; simp only [sd_up]; (repeat' (first | rfl | split)); all_goals omega) hx
    ·
      refine sd_aload_n sD11_pass_18 rfl ?_
      refine sd_iconst sD11_pass_19 (by decide) ?_
      refine sd_callV (as := [.inl 0]) (st := []) sD11_pass_20 sM11_78 rfl rfl sOM15 rfl (by decide) (Nat.le_of_ble_eq_true rfl) (cM_finding 0 (by decide) _ m hx (hF 0 (by decide))) (fun r m hq ho20 hm => ?_)
      obtain ⟨rfl, hx⟩ := hq
      show sd_Wp sd_SM 6 sY11_pass 23 [some (.inr 15), some (.inl h), some (.inl n)] [.inl (-1000001)] m _
      refine sd_ireturn sD11_pass_23 rfl (fun hr hm => ?_)
      exact sd_done2 (by unfold sp_pass; ((repeat (first | rw [if_pos (by first | assumption | omega)] | rw [if_neg (by first | assumption | omega)] | rw [if_pos (by first | exact Or.inl (by assumption) | exact Or.inr (by assumption))] | rw [if_neg (fun q => by rcases q with q | q; omega; contradiction)])); try rfl)) (by intro j; simp only [sd_up]; (repeat' (first | rfl | split)); all_goals omega) hx
