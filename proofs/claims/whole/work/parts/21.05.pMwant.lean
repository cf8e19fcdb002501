set_option maxRecDepth 100000 in
set_option maxHeartbeats 4000000 in
theorem pM_want (w : Int) (x m : sd_M) (hx : sd_ns x m) (h8 : sd_L8 x) (hF : ∀ k : Nat, k < 7 → 0 ≤ x (4101 + k) ∧ x (4101 + k) ≤ 1000000) : sd_Ct sd_SM 2 sY11_want [.inr 15, .inl w] m (sd_Qp (sp_want x w)) := by
  refine sd_ct rfl (Nat.le_of_ble_eq_true rfl) (fun hok hm => ?_)
  have r_w : sd_R w := hok (.inl w) (by simp)
  show sd_Wp sd_SM 2 sY11_want 0 [some (.inr 15), some (.inl w), none, none, none, none] [] m _
  refine sd_iload_n sD11_want_0 rfl ?_
  refine sd_iconst sD11_want_1 (by decide) ?_
  refine sd_iconst sD11_want_2 (by decide) ?_
  refine sd_callSp (as := [.inl w, .inl 0, .inl 1]) (st := []) (v := .inl (sd_b (0 ≤ w ∧ w ≤ 1))) sD11_want_3 sM11_56 rfl rfl (by decide) (Nat.le_of_ble_eq_true rfl) (cM_in w 0 1 m) (fun ho3 => ?_)
  refine sd_bif_ne (tgt := 15) sD11_want_6 (by decide) (fun zc6 => ?_) (fun zc6 => ?_)
  ·
    refine sd_iconst sD11_want_15 (by decide) ?_
    refine sd_istore_n (ls' := [some (.inr 15), some (.inl w), some (.inl 0), none, none, none]) sD11_want_16 (by decide) rfl ?_
    refine sd_iconst sD11_want_17 (by decide) ?_
    refine sd_istore_n (ls' := [some (.inr 15), some (.inl w), some (.inl 0), some (.inl 0), none, none]) sD11_want_18 (by decide) rfl ?_
    refine sd_iconst sD11_want_19 (by decide) ?_
    refine sd_istore (ls' := [some (.inr 15), some (.inl w), some (.inl 0), some (.inl 0), some (.inl 0), none]) sD11_want_20 (by decide) rfl ?_
    refine sd_forE (6) (fun zi22 : Nat => [some (.inr 15), some (.inl w), some (.inl (sd_mx x zi22)), some (.inl (sd_sum (fun i => x (6500 + i)) zi22)), some (.inl (zi22 : Int)), none]) (by rfl) (fun zi22 hizi22 ihzi22 => ?_) ?_
    ·
      have e8 := h8 zi22 (by omega)
      have e9 := sd_mx_rng h8 (n := zi22) (by omega)
      have e5 := sd_sum_le (f := fun i => x (6500 + i)) (n := zi22) (B := 999) (fun i hi => (h8 i (by omega)).1)
      refine sd_iload sD11_want_22 rfl ?_
      refine sd_bipush sD11_want_24 rfl (by decide) ?_
      refine sd_icmp_ge (tgt := 95) sD11_want_26 (by decide) (fun zc26 => (by exfalso; omega)) (fun zc26 => ?_)
      refine sd_aload_n sD11_want_29 rfl ?_
      refine sd_getfr sD11_want_30 sF11_7 sGM15_0 ?_
      refine sd_sipush sD11_want_33 rfl (by decide) ?_
      refine sd_iconst sD11_want_36 (by decide) ?_
      refine sd_iload sD11_want_37 rfl ?_
      refine sd_imul (z := (2 * (zi22 : Int))) sD11_want_39 (by omega) (by omega) ?_
      refine sd_iadd (z := (1290 + (2 * (zi22 : Int)))) sD11_want_40 (by omega) (by omega) ?_
      refine sd_ialdx (a := (1290 + (2 * zi22))) (v := x (1290 + (2 * zi22))) hx sD11_want_41 sAM0 (by omega) rfl ?_
      refine sd_aload_n sD11_want_42 rfl ?_
      refine sd_getfr sD11_want_43 sF11_7 sGM15_0 ?_
      refine sd_sipush sD11_want_46 rfl (by decide) ?_
      refine sd_iconst sD11_want_49 (by decide) ?_
      refine sd_iload sD11_want_50 rfl ?_
      refine sd_imul (z := (2 * (zi22 : Int))) sD11_want_52 (by omega) (by omega) ?_
      refine sd_iadd (z := (1290 + (2 * (zi22 : Int)))) sD11_want_53 (by omega) (by omega) ?_
      refine sd_iconst sD11_want_54 (by decide) ?_
      refine sd_iadd (z := ((1290 + (2 * (zi22 : Int))) + 1)) sD11_want_55 (by omega) (by omega) ?_
      refine sd_ialdx (a := ((1290 + (2 * zi22)) + 1)) (v := x ((1290 + (2 * zi22)) + 1)) hx sD11_want_56 sAM0 (by omega) rfl ?_
      refine sd_isub (z := (x (1290 + (2 * zi22)) - (x ((1290 + (2 * zi22)) + 1)))) sD11_want_57 (by omega) (by omega) ?_
      refine sd_istore (ls' := [some (.inr 15), some (.inl w), some (.inl (sd_mx x zi22)), some (.inl (sd_sum (fun i => x (6500 + i)) zi22)), some (.inl (zi22 : Int)), some (.inl (x (1290 + (2 * zi22)) - (x ((1290 + (2 * zi22)) + 1))))]) sD11_want_58 (by decide) rfl ?_
      refine sd_iload sD11_want_60 rfl ?_
      refine sd_iload_n sD11_want_62 rfl ?_
      refine sd_cut (J := 72) (ls := [some (.inr 15), some (.inl w), some (.inl (sd_mx x zi22)), some (.inl (sd_sum (fun i => x (6500 + i)) zi22)), some (.inl (zi22 : Int)), some (.inl (x (1290 + (2 * zi22)) - (x ((1290 + (2 * zi22)) + 1))))]) (st := []) (fun zv => zv = (sd_mx x (zi22 + 1))) (fun zv hzv => ?_) (fun K63 => ?_)
      ·
        subst hzv
        refine sd_istore_n (ls' := [some (.inr 15), some (.inl w), some (.inl (sd_mx x (zi22 + 1))), some (.inl (sd_sum (fun i => x (6500 + i)) zi22)), some (.inl (zi22 : Int)), some (.inl (x (1290 + (2 * zi22)) - (x ((1290 + (2 * zi22)) + 1))))]) sD11_want_72 (by decide) rfl ?_
        refine sd_iload_n sD11_want_73 rfl ?_
        refine sd_aload_n sD11_want_74 rfl ?_
        refine sd_getfr sD11_want_75 sF11_7 sGM15_0 ?_
        refine sd_sipush sD11_want_78 rfl (by decide) ?_
        refine sd_iconst sD11_want_81 (by decide) ?_
        refine sd_iload sD11_want_82 rfl ?_
        refine sd_imul (z := (2 * (zi22 : Int))) sD11_want_84 (by omega) (by omega) ?_
        refine sd_iadd (z := (1290 + (2 * (zi22 : Int)))) sD11_want_85 (by omega) (by omega) ?_
        refine sd_ialdx (a := (1290 + (2 * zi22))) (v := x (1290 + (2 * zi22))) hx sD11_want_86 sAM0 (by omega) rfl ?_
        refine sd_iadd (z := (sd_sum (fun i => x (6500 + i)) zi22 + x (1290 + (2 * zi22)))) sD11_want_87 (by omega) (by omega) ?_
        refine sd_istore_n (ls' := [some (.inr 15), some (.inl w), some (.inl (sd_mx x (zi22 + 1))), some (.inl (sd_sum (fun i => x (6500 + i)) zi22 + x (1290 + (2 * zi22)))), some (.inl (zi22 : Int)), some (.inl (x (1290 + (2 * zi22)) - (x ((1290 + (2 * zi22)) + 1))))]) sD11_want_88 (by decide) rfl ?_
        refine sd_iinc (y := ((zi22 : Int) + 1)) (ls' := [some (.inr 15), some (.inl w), some (.inl (sd_mx x (zi22 + 1))), some (.inl (sd_sum (fun i => x (6500 + i)) zi22 + x (1290 + (2 * zi22)))), some (.inl ((zi22 : Int) + 1)), some (.inl (x (1290 + (2 * zi22)) - (x ((1290 + (2 * zi22)) + 1))))]) sD11_want_89 rfl (by omega) (by omega) (by decide) rfl ?_
        refine sd_goto (tgt := 22) sD11_want_92 (by decide) ?_
        refine sd_less (ls' := [some (.inr 15), some (.inl w), some (.inl (sd_mx x (zi22 + 1))), some (.inl (sd_sum (fun i => x (6500 + i)) zi22 + x (1290 + (2 * zi22)))), some (.inl ((zi22 : Int) + 1)), none]) ?_ rfl (by intro zi zv zh; rcases zi with _ | _ | _ | _ | _ | _ | zi <;> first | exact zh | cases zh)
        exact sd_eqw (ls' := [some (.inr 15), some (.inl w), some (.inl (sd_mx x (zi22 + 1))), some (.inl (sd_sum (fun i => x (6500 + i)) (zi22 + 1))), some (.inl ((zi22 + 1 : Nat) : Int)), none]) ihzi22 (by rw [show ((sd_sum (fun i => x (6500 + i)) zi22 + x (1290 + (2 * zi22))) : Int) = sd_sum (fun i => x (6500 + i)) (zi22 + 1) from by (simp only [sd_sum]; omega), show (((zi22 : Int) + 1) : Int) = ((zi22 + 1 : Nat) : Int) from by omega]) rfl
      ·
        refine sd_icmp_le (tgt := 71) sD11_want_63 (by decide) (fun zc63 => ?_) (fun zc63 => ?_)
        ·
          refine sd_iload_n sD11_want_71 rfl ?_
          exact K63 _ (by (simp only [sd_mx]; omega))
        ·
          refine sd_iload sD11_want_66 rfl ?_
          refine sd_goto (tgt := 72) sD11_want_68 (by decide) ?_
          exact K63 _ (by (simp only [sd_mx]; omega))
    ·
      show sd_Wp sd_SM 2 sY11_want 22 [some (.inr 15), some (.inl w), some (.inl (sd_mx x 6)), some (.inl (sd_sum (fun i => x (6500 + i)) 6)), some (.inl (6 : Int)), none] [] m _
      refine sd_iload sD11_want_22 rfl ?_
      refine sd_bipush sD11_want_24 rfl (by decide) ?_
      refine sd_icmp_ge (tgt := 95) sD11_want_26 (by decide) (fun zc26 => ?_) (fun zc26 => (by exfalso; omega))
      refine sd_iload_n sD11_want_95 rfl ?_
      refine sd_if_ne (tgt := 103) sD11_want_96 (by decide) (fun zc96 => ?_) (fun zc96 => ?_)
      ·
        refine sd_iload_n sD11_want_103 rfl ?_
        refine sd_sipush sD11_want_104 rfl (by decide) ?_
        refine sd_icmp_le (tgt := 116) sD11_want_107 (by decide) (fun zc107 => ?_) (fun zc107 => ?_)
        ·
          refine sd_iload_n sD11_want_116 rfl ?_
          refine sd_ireturn sD11_want_117 rfl (fun hr hm => ?_)
          exact sd_done (by unfold sp_want; ((repeat (first | rw [if_pos (by first | assumption | omega)] | rw [if_neg (by first | assumption | omega)])); try rfl); try (simp only [Prod.mk.injEq, and_true]; omega)) hx
        ·
          refine sd_sipush sD11_want_110 rfl (by decide) ?_
          refine sd_goto (tgt := 117) sD11_want_113 (by decide) ?_
          refine sd_ireturn sD11_want_117 rfl (fun hr hm => ?_)
          exact sd_done (by unfold sp_want; ((repeat (first | rw [if_pos (by first | assumption | omega)] | rw [if_neg (by first | assumption | omega)])); try rfl); try (simp only [Prod.mk.injEq, and_true]; omega)) hx
      ·
        refine sd_iload_n sD11_want_99 rfl ?_
        refine sd_goto (tgt := 117) sD11_want_100 (by decide) ?_
        refine sd_ireturn sD11_want_117 rfl (fun hr hm => ?_)
        exact sd_done (by unfold sp_want; ((repeat (first | rw [if_pos (by first | assumption | omega)] | rw [if_neg (by first | assumption | omega)])); try rfl); try (simp only [Prod.mk.injEq, and_true]; omega)) hx
  ·
    refine sd_aload_n sD11_want_9 rfl ?_
    refine sd_iconst sD11_want_10 (by decide) ?_
    refine sd_callV (as := [.inl 0]) (st := []) sD11_want_11 sM11_78 rfl rfl sOM15 rfl (by decide) (Nat.le_of_ble_eq_true rfl) (cM_finding 0 (by decide) _ m hx (hF 0 (by decide))) (fun r m hq ho11 hm => ?_)
    obtain ⟨rfl, hx⟩ := hq
    show sd_Wp sd_SM 2 sY11_want 14 [some (.inr 15), some (.inl w), none, none, none, none] [.inl (-1000001)] m _
    refine sd_ireturn sD11_want_14 rfl (fun hr hm => ?_)
    exact sd_done (by unfold sp_want; ((repeat (first | rw [if_pos (by first | assumption | omega)] | rw [if_neg (by first | assumption | omega)])); try rfl); try (simp only [Prod.mk.injEq, and_true]; omega)) hx
