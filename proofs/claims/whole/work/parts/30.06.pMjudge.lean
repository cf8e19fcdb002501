set_option maxRecDepth 100000 in
set_option maxHeartbeats 4000000 in
theorem pM_judge (s : Int) (w : Int) (v : Int) (x m : sd_M) (hx : sd_ns x m) (h9 : sd_L9 x) (hF : ∀ k : Nat, k < 7 → 0 ≤ x (4101 + k) ∧ x (4101 + k) ≤ 1000000) (hB : sd_IB x) : sd_Ct sd_SM 6 sY11_judge [.inr 15, .inl s, .inl w, .inl v] m (sd_Qp (sp_judge x s w v)) := by
  refine sd_ct rfl (Nat.le_of_ble_eq_true rfl) (fun hok hm => ?_)
  have r_s : sd_R s := hok (.inl s) (by simp)
  have r_w : sd_R w := hok (.inl w) (by simp)
  have r_v : sd_R v := hok (.inl v) (by simp)
  show sd_Wp sd_SM 6 sY11_judge 0 [some (.inr 15), some (.inl s), some (.inl w), some (.inl v), none] [] m _
  refine sd_iload_n sD11_judge_0 rfl ?_
  refine sd_callSp (as := [.inl s]) (st := []) (v := .inl (sd_b (0 ≤ s ∧ s ≤ 3))) sD11_judge_1 sM11_126 rfl rfl (by decide) (Nat.le_of_ble_eq_true rfl) (cM_isSheet s _ m hx  ) (fun ho1 => ?_)
  refine sd_bif_eq (tgt := 15) sD11_judge_4 (by decide) (fun zc4 => ?_) (fun zc4 => ?_)
  ·
    refine sd_aload_n sD11_judge_15 rfl ?_
    refine sd_iconst sD11_judge_16 (by decide) ?_
    refine sd_callV (as := [.inl 0]) (st := []) sD11_judge_17 sM11_78 rfl rfl sOM15 rfl (by decide) (Nat.le_of_ble_eq_true rfl) (cM_finding 0 (by decide) _ m hx (hF 0 (by decide))) (fun r m hq ho17 hm => ?_)
    obtain ⟨rfl, hx⟩ := hq
    show sd_Wp sd_SM 6 sY11_judge 20 [some (.inr 15), some (.inl s), some (.inl w), some (.inl v), none] [.inl (-1000001)] m _
    refine sd_ireturn sD11_judge_20 rfl (fun hr hm => ?_)
    exact sd_done (by unfold sp_judge; ((repeat (first | rw [if_pos (by first | assumption | omega)] | rw [if_neg (by first | assumption | omega)])); try rfl)) hx
  ·
    refine sd_iload_n sD11_judge_7 rfl ?_
    refine sd_iload_n sD11_judge_8 rfl ?_
    refine sd_callSp (as := [.inl w, .inl v]) (st := []) (v := .inl (sd_b ((1 ≤ w ∧ w ≤ 99) ∧ 1 ≤ v ∧ v ≤ 99))) sD11_judge_9 sM11_221 rfl rfl (by decide) (Nat.le_of_ble_eq_true rfl) (cM_isGame w v _ m hx  ) (fun ho9 => ?_)
    refine sd_bif_ne (tgt := 21) sD11_judge_12 (by decide) (fun zc12 => ?_) (fun zc12 => ?_)
    ·
      have e0 := hB s.toNat (by omega)
      refine sd_aload_n sD11_judge_21 rfl ?_
      refine sd_getfr sD11_judge_22 sF11_43 sGM15_20 ?_
      refine sd_iload_n sD11_judge_25 rfl ?_
      refine sd_ialdx (a := (4250 + s.toNat)) (v := x (4250 + s.toNat)) hx sD11_judge_26 sAM11 (by omega) rfl ?_
      refine sd_if_ne (tgt := 36) sD11_judge_27 (by decide) (fun zc27 => ?_) (fun zc27 => ?_)
      ·
        have e1 := (e0.2.2.2 zc27).1
        have e2 := (e0.2.2.2 zc27).2
        clear e0
        refine sd_aload_n sD11_judge_36 rfl ?_
        refine sd_getfr sD11_judge_37 sF11_46 sGM15_21 ?_
        refine sd_iload_n sD11_judge_40 rfl ?_
        refine sd_ialdx (a := (4254 + s.toNat)) (v := x (4254 + s.toNat)) hx sD11_judge_41 sAM12 (by omega) rfl ?_
        refine sd_iconst sD11_judge_42 (by decide) ?_
        refine sd_iconst sD11_judge_43 (by decide) ?_
        refine sd_callSp (as := [.inl (x (4254 + s.toNat)), .inl 1, .inl 5]) (st := []) (v := .inl (sd_b (1 ≤ x (4254 + s.toNat) ∧ x (4254 + s.toNat) ≤ 5))) sD11_judge_44 sM11_56 rfl rfl (by decide) (Nat.le_of_ble_eq_true rfl) (cM_in (x (4254 + s.toNat)) 1 5 m) (fun ho44 => ?_)
        refine sd_bif_ne (tgt := 57) sD11_judge_47 (by decide) (fun zc47 => ?_) (fun zc47 => ?_)
        ·
          refine sd_iconst sD11_judge_57 (by decide) ?_
          refine sd_istore (ls' := [some (.inr 15), some (.inl s), some (.inl w), some (.inl v), some (.inl 0)]) sD11_judge_58 (by decide) rfl ?_
          refine sd_forH ((x (8100 + s.toNat)).toNat) (fun zi60 : Nat => [some (.inr 15), some (.inl s), some (.inl w), some (.inl v), some (.inl (zi60 : Int))]) (fun zi60 : Nat => ∀ q, q < zi60 → 0 ≤ sd_pl8 x s.toNat q ∧ sd_pl8 x s.toNat q ≤ 2) (by rfl) (fun zi60 hizi60 hhzi60 ihzi60 => ?_) (fun hhzi60 => ?_) (by intro q hq; omega)
          ·
            refine sd_iload sD11_judge_60 rfl ?_
            refine sd_aload_n sD11_judge_62 rfl ?_
            refine sd_getfr sD11_judge_63 sF11_46 sGM15_21 ?_
            refine sd_iload_n sD11_judge_66 rfl ?_
            refine sd_ialdx (a := (4254 + s.toNat)) (v := x (4254 + s.toNat)) hx sD11_judge_67 sAM12 (by omega) rfl ?_
            refine sd_icmp_ge (tgt := 103) sD11_judge_68 (by decide) (fun zc68 => (by exfalso; omega)) (fun zc68 => ?_)
            refine sd_aload_n sD11_judge_71 rfl ?_
            refine sd_getfr sD11_judge_72 sF11_49 sGM15_22 ?_
            refine sd_bipush sD11_judge_75 rfl (by decide) ?_
            refine sd_iload_n sD11_judge_77 rfl ?_
            refine sd_imul (z := (12 * s)) sD11_judge_78 (by omega) (by omega) ?_
            refine sd_iload sD11_judge_79 rfl ?_
            refine sd_iadd (z := ((12 * s) + (zi60 : Int))) sD11_judge_81 (by omega) (by omega) ?_
            refine sd_ialdx (a := (4200 + ((12 * s.toNat) + zi60))) (v := x (4200 + ((12 * s.toNat) + zi60))) hx sD11_judge_82 sAM13 (by omega) rfl ?_
            refine sd_iconst sD11_judge_83 (by decide) ?_
            refine sd_iconst sD11_judge_84 (by decide) ?_
            refine sd_callSp (as := [.inl (x (4200 + ((12 * s.toNat) + zi60))), .inl 0, .inl 2]) (st := []) (v := .inl (sd_b (0 ≤ x (4200 + ((12 * s.toNat) + zi60)) ∧ x (4200 + ((12 * s.toNat) + zi60)) ≤ 2))) sD11_judge_85 sM11_56 rfl rfl (by decide) (Nat.le_of_ble_eq_true rfl) (cM_in (x (4200 + ((12 * s.toNat) + zi60))) 0 2 m) (fun ho85 => ?_)
            refine sd_bif_ne (tgt := 97) sD11_judge_88 (by decide) (fun zc88 => ?_) (fun zc88 => ?_)
            ·
              refine sd_iinc (y := ((zi60 : Int) + 1)) (ls' := [some (.inr 15), some (.inl s), some (.inl w), some (.inl v), some (.inl ((zi60 : Int) + 1))]) sD11_judge_97 rfl (by omega) (by omega) (by decide) rfl ?_
              refine sd_goto (tgt := 60) sD11_judge_100 (by decide) ?_
              exact sd_eqw (ls' := [some (.inr 15), some (.inl s), some (.inl w), some (.inl v), some (.inl ((zi60 + 1 : Nat) : Int))]) (ihzi60 (by intro q hq; by_cases hqe : q = zi60; (subst hqe; unfold sd_pl8; rw [← e2 q (by omega)]; omega); exact hhzi60 q (by omega))) (by rw [show (((zi60 : Int) + 1) : Int) = ((zi60 + 1 : Nat) : Int) from by omega]) rfl
            ·
              have zz : sd_bdp x s.toNat (x (8100 + s.toNat)).toNat := ⟨zi60, by omega, by unfold sd_pl8; rw [← e2 zi60 (by omega)]; omega⟩
              refine sd_aload_n sD11_judge_91 rfl ?_
              refine sd_iconst sD11_judge_92 (by decide) ?_
              refine sd_callV (as := [.inl 0]) (st := []) sD11_judge_93 sM11_78 rfl rfl sOM15 rfl (by decide) (Nat.le_of_ble_eq_true rfl) (cM_finding 0 (by decide) _ m hx (hF 0 (by decide))) (fun r m hq ho93 hm => ?_)
              obtain ⟨rfl, hx⟩ := hq
              show sd_Wp sd_SM 6 sY11_judge 96 [some (.inr 15), some (.inl s), some (.inl w), some (.inl v), some (.inl (zi60 : Int))] [.inl (-1000001)] m _
              refine sd_ireturn sD11_judge_96 rfl (fun hr hm => ?_)
              exact sd_done (by unfold sp_judge; ((repeat (first | rw [if_pos (by first | assumption | omega)] | rw [if_neg (by first | assumption | omega)])); try rfl)) hx
          ·
            show sd_Wp sd_SM 6 sY11_judge 60 [some (.inr 15), some (.inl s), some (.inl w), some (.inl v), some (.inl ((((x (8100 + s.toNat)).toNat) : Nat) : Int))] [] m _
            refine sd_iload sD11_judge_60 rfl ?_
            refine sd_aload_n sD11_judge_62 rfl ?_
            refine sd_getfr sD11_judge_63 sF11_46 sGM15_21 ?_
            refine sd_iload_n sD11_judge_66 rfl ?_
            refine sd_ialdx (a := (4254 + s.toNat)) (v := x (4254 + s.toNat)) hx sD11_judge_67 sAM12 (by omega) rfl ?_
            refine sd_icmp_ge (tgt := 103) sD11_judge_68 (by decide) (fun zc68 => ?_) (fun zc68 => (by exfalso; omega))
            have zz : ¬ sd_bdp x s.toNat (x (8100 + s.toNat)).toNat := fun ⟨q, h1, h2⟩ => h2 (hhzi60 q h1)
            refine sd_aload_n sD11_judge_103 rfl ?_
            refine sd_iload_n sD11_judge_104 rfl ?_
            refine sd_iconst sD11_judge_105 (by decide) ?_
            refine sd_iload_n sD11_judge_106 rfl ?_
            refine sd_iload_n sD11_judge_107 rfl ?_
            refine sd_callVp (as := [.inl s, .inl 0, .inl w, .inl v]) (st := []) (v := .inl (sd_pv x (sd_pl8 x s.toNat) (x (8100 + s.toNat)).toNat (x (8100 + s.toNat)).toNat w v)) sD11_judge_108 sM11_224 sOM15 rfl rfl rfl (by decide) (Nat.le_of_ble_eq_true rfl) (cM_fixTop s (x (8100 + s.toNat)).toNat (by omega) (by omega) x m hx h9 (by omega) e2 hhzi60 w v (by omega) (by omega)) (fun ho108 => ?_)
            refine sd_ireturn sD11_judge_111 rfl (fun hr hm => ?_)
            exact sd_done (by unfold sp_judge; ((repeat (first | rw [if_pos (by first | assumption | omega)] | rw [if_neg (by first | assumption | omega)])); try rfl)) hx
        ·
          refine sd_aload_n sD11_judge_50 rfl ?_
          refine sd_bipush sD11_judge_51 rfl (by decide) ?_
          refine sd_callV (as := [.inl 6]) (st := []) sD11_judge_53 sM11_78 rfl rfl sOM15 rfl (by decide) (Nat.le_of_ble_eq_true rfl) (cM_finding 6 (by decide) _ m hx (hF 6 (by decide))) (fun r m hq ho53 hm => ?_)
          obtain ⟨rfl, hx⟩ := hq
          show sd_Wp sd_SM 6 sY11_judge 56 [some (.inr 15), some (.inl s), some (.inl w), some (.inl v), none] [.inl (-1000007)] m _
          refine sd_ireturn sD11_judge_56 rfl (fun hr hm => ?_)
          exact sd_done (by unfold sp_judge; ((repeat (first | rw [if_pos (by first | assumption | omega)] | rw [if_neg (by first | assumption | omega)])); try rfl)) hx
      ·
        refine sd_aload_n sD11_judge_30 rfl ?_
        refine sd_iconst sD11_judge_31 (by decide) ?_
        refine sd_callV (as := [.inl 5]) (st := []) sD11_judge_32 sM11_78 rfl rfl sOM15 rfl (by decide) (Nat.le_of_ble_eq_true rfl) (cM_finding 5 (by decide) _ m hx (hF 5 (by decide))) (fun r m hq ho32 hm => ?_)
        obtain ⟨rfl, hx⟩ := hq
        show sd_Wp sd_SM 6 sY11_judge 35 [some (.inr 15), some (.inl s), some (.inl w), some (.inl v), none] [.inl (-1000006)] m _
        refine sd_ireturn sD11_judge_35 rfl (fun hr hm => ?_)
        exact sd_done (by unfold sp_judge; ((repeat (first | rw [if_pos (by first | assumption | omega)] | rw [if_neg (by first | assumption | omega)])); try rfl)) hx
    ·
      refine sd_aload_n sD11_judge_15 rfl ?_
      refine sd_iconst sD11_judge_16 (by decide) ?_
      refine sd_callV (as := [.inl 0]) (st := []) sD11_judge_17 sM11_78 rfl rfl sOM15 rfl (by decide) (Nat.le_of_ble_eq_true rfl) (cM_finding 0 (by decide) _ m hx (hF 0 (by decide))) (fun r m hq ho17 hm => ?_)
      obtain ⟨rfl, hx⟩ := hq
      show sd_Wp sd_SM 6 sY11_judge 20 [some (.inr 15), some (.inl s), some (.inl w), some (.inl v), none] [.inl (-1000001)] m _
      refine sd_ireturn sD11_judge_20 rfl (fun hr hm => ?_)
      exact sd_done (by unfold sp_judge; ((repeat (first | rw [if_pos (by first | assumption | omega)] | rw [if_neg (by first | assumption | omega)])); try rfl)) hx
