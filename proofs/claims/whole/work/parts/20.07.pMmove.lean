set_option maxRecDepth 100000 in
set_option maxHeartbeats 4000000 in
theorem pM_move (s : Int) (k : Int) (w : Int) (v : Int) (x m : sd_M) (hx : sd_ns x m)  (hF : ∀ k : Nat, k < 7 → 0 ≤ x (4101 + k) ∧ x (4101 + k) ≤ 1000000) : sd_Ct sd_SM 2 sY11_move [.inr 15, .inl s, .inl k, .inl w, .inl v] m (sd_Qp (spM_move x s k w v)) := by
  refine sd_ct rfl (Nat.le_of_ble_eq_true rfl) (fun hok hm => ?_)
  have r_s : sd_R s := hok (.inl s) (by simp)
  have r_k : sd_R k := hok (.inl k) (by simp)
  have r_w : sd_R w := hok (.inl w) (by simp)
  have r_v : sd_R v := hok (.inl v) (by simp)
  show sd_Wp sd_SM 2 sY11_move 0 [some (.inr 15), some (.inl s), some (.inl k), some (.inl w), some (.inl v)] [] m _
  refine sd_iload_n sD11_move_0 rfl ?_
  refine sd_iconst sD11_move_1 (by decide) ?_
  refine sd_iconst sD11_move_2 (by decide) ?_
  refine sd_callSp (as := [.inl s, .inl 0, .inl 1]) (st := []) (v := .inl (sd_b (0 ≤ s ∧ s ≤ 1))) sD11_move_3 sM11_56 rfl rfl (by decide) (Nat.le_of_ble_eq_true rfl) (cM_in s 0 1 m) (fun ho3 => ?_)
  refine sd_bif_eq (tgt := 41) sD11_move_6 (by decide) (fun zc6 => ?_) (fun zc6 => ?_)
  ·
    refine sd_aload_n sD11_move_41 rfl ?_
    refine sd_iconst sD11_move_42 (by decide) ?_
    refine sd_callV (as := [.inl 0]) (st := []) sD11_move_43 sM11_78 rfl rfl sOM15 rfl (by decide) (Nat.le_of_ble_eq_true rfl) (cM_finding 0 (by decide) _ m hx (hF 0 (by decide))) (fun r m hq ho43 hm => ?_)
    obtain ⟨rfl, hx⟩ := hq
    show sd_Wp sd_SM 2 sY11_move 46 [some (.inr 15), some (.inl s), some (.inl k), some (.inl w), some (.inl v)] [.inl (-1000001)] m _
    refine sd_ireturn sD11_move_46 rfl (fun hr hm => ?_)
    exact sd_done2 (by unfold spM_move; ((repeat (first | rw [if_pos (by first | assumption | omega)] | rw [if_neg (by first | assumption | omega)])); try rfl)) (by intro j; simp only [sd_up]; (repeat' (first | rfl | split)); all_goals omega) hx
  ·
    refine sd_iload_n sD11_move_9 rfl ?_
    refine sd_iconst sD11_move_10 (by decide) ?_
    refine sd_iconst sD11_move_11 (by decide) ?_
    refine sd_callSp (as := [.inl k, .inl 0, .inl 2]) (st := []) (v := .inl (sd_b (0 ≤ k ∧ k ≤ 2))) sD11_move_12 sM11_56 rfl rfl (by decide) (Nat.le_of_ble_eq_true rfl) (cM_in k 0 2 m) (fun ho12 => ?_)
    refine sd_bif_eq (tgt := 41) sD11_move_15 (by decide) (fun zc15 => ?_) (fun zc15 => ?_)
    ·
      refine sd_aload_n sD11_move_41 rfl ?_
      refine sd_iconst sD11_move_42 (by decide) ?_
      refine sd_callV (as := [.inl 0]) (st := []) sD11_move_43 sM11_78 rfl rfl sOM15 rfl (by decide) (Nat.le_of_ble_eq_true rfl) (cM_finding 0 (by decide) _ m hx (hF 0 (by decide))) (fun r m hq ho43 hm => ?_)
      obtain ⟨rfl, hx⟩ := hq
      show sd_Wp sd_SM 2 sY11_move 46 [some (.inr 15), some (.inl s), some (.inl k), some (.inl w), some (.inl v)] [.inl (-1000001)] m _
      refine sd_ireturn sD11_move_46 rfl (fun hr hm => ?_)
      exact sd_done2 (by unfold spM_move; ((repeat (first | rw [if_pos (by first | assumption | omega)] | rw [if_neg (by first | assumption | omega)])); try rfl)) (by intro j; simp only [sd_up]; (repeat' (first | rfl | split)); all_goals omega) hx
    ·
      refine sd_iload_n sD11_move_18 rfl ?_
      refine sd_bipush sD11_move_19 rfl (by decide) ?_
      refine sd_bipush sD11_move_21 rfl (by decide) ?_
      refine sd_callSp (as := [.inl w, .inl (-9), .inl 9]) (st := []) (v := .inl (sd_b ((-9) ≤ w ∧ w ≤ 9))) sD11_move_23 sM11_56 rfl rfl (by decide) (Nat.le_of_ble_eq_true rfl) (cM_in w (-9) 9 m) (fun ho23 => ?_)
      refine sd_bif_eq (tgt := 41) sD11_move_26 (by decide) (fun zc26 => ?_) (fun zc26 => ?_)
      ·
        refine sd_aload_n sD11_move_41 rfl ?_
        refine sd_iconst sD11_move_42 (by decide) ?_
        refine sd_callV (as := [.inl 0]) (st := []) sD11_move_43 sM11_78 rfl rfl sOM15 rfl (by decide) (Nat.le_of_ble_eq_true rfl) (cM_finding 0 (by decide) _ m hx (hF 0 (by decide))) (fun r m hq ho43 hm => ?_)
        obtain ⟨rfl, hx⟩ := hq
        show sd_Wp sd_SM 2 sY11_move 46 [some (.inr 15), some (.inl s), some (.inl k), some (.inl w), some (.inl v)] [.inl (-1000001)] m _
        refine sd_ireturn sD11_move_46 rfl (fun hr hm => ?_)
        exact sd_done2 (by unfold spM_move; ((repeat (first | rw [if_pos (by first | assumption | omega)] | rw [if_neg (by first | assumption | omega)])); try rfl)) (by intro j; simp only [sd_up]; (repeat' (first | rfl | split)); all_goals omega) hx
      ·
        refine sd_iload sD11_move_29 rfl ?_
        refine sd_bipush sD11_move_31 rfl (by decide) ?_
        refine sd_bipush sD11_move_33 rfl (by decide) ?_
        refine sd_callSp (as := [.inl v, .inl (-9), .inl 9]) (st := []) (v := .inl (sd_b ((-9) ≤ v ∧ v ≤ 9))) sD11_move_35 sM11_56 rfl rfl (by decide) (Nat.le_of_ble_eq_true rfl) (cM_in v (-9) 9 m) (fun ho35 => ?_)
        refine sd_bif_ne (tgt := 47) sD11_move_38 (by decide) (fun zc38 => ?_) (fun zc38 => ?_)
        ·
          refine sd_aload_n sD11_move_47 rfl ?_
          refine sd_getfr sD11_move_48 sF11_7 sGM15_0 ?_
          refine sd_sipush sD11_move_51 rfl (by decide) ?_
          refine sd_bipush sD11_move_54 rfl (by decide) ?_
          refine sd_iload_n sD11_move_56 rfl ?_
          refine sd_imul (z := (6 * s)) sD11_move_57 (by omega) (by omega) ?_
          refine sd_iadd (z := (1302 + (6 * s))) sD11_move_58 (by omega) (by omega) ?_
          refine sd_iconst sD11_move_59 (by decide) ?_
          refine sd_iload_n sD11_move_60 rfl ?_
          refine sd_imul (z := (2 * k)) sD11_move_61 (by omega) (by omega) ?_
          refine sd_iadd (z := ((1302 + (6 * s)) + (2 * k))) sD11_move_62 (by omega) (by omega) ?_
          refine sd_iload_n sD11_move_63 rfl ?_
          refine sd_iastx (a := ((1302 + (6 * s.toNat)) + (2 * k.toNat))) sd_sokM hx sD11_move_64 sAM0 (by omega) (fun m hx em64 => ?_)
          refine sd_aload_n sD11_move_65 rfl ?_
          refine sd_getfr sD11_move_66 sF11_7 sGM15_0 ?_
          refine sd_sipush sD11_move_69 rfl (by decide) ?_
          refine sd_bipush sD11_move_72 rfl (by decide) ?_
          refine sd_iload_n sD11_move_74 rfl ?_
          refine sd_imul (z := (6 * s)) sD11_move_75 (by omega) (by omega) ?_
          refine sd_iadd (z := (1302 + (6 * s))) sD11_move_76 (by omega) (by omega) ?_
          refine sd_iconst sD11_move_77 (by decide) ?_
          refine sd_iload_n sD11_move_78 rfl ?_
          refine sd_imul (z := (2 * k)) sD11_move_79 (by omega) (by omega) ?_
          refine sd_iadd (z := ((1302 + (6 * s)) + (2 * k))) sD11_move_80 (by omega) (by omega) ?_
          refine sd_iconst sD11_move_81 (by decide) ?_
          refine sd_iadd (z := (((1302 + (6 * s)) + (2 * k)) + 1)) sD11_move_82 (by omega) (by omega) ?_
          refine sd_iload sD11_move_83 rfl ?_
          refine sd_iastx (a := (((1302 + (6 * s.toNat)) + (2 * k.toNat)) + 1)) sd_sokM hx sD11_move_85 sAM0 (by omega) (fun m hx em85 => ?_)
          refine sd_iconst sD11_move_86 (by decide) ?_
          refine sd_ireturn sD11_move_87 rfl (fun hr hm => ?_)
          exact sd_done2 (by unfold spM_move; ((repeat (first | rw [if_pos (by first | assumption | omega)] | rw [if_neg (by first | assumption | omega)])); try rfl)) (by intro j; simp only [sd_up]; (repeat' (first | rfl | split)); all_goals omega) hx
        ·
          refine sd_aload_n sD11_move_41 rfl ?_
          refine sd_iconst sD11_move_42 (by decide) ?_
          refine sd_callV (as := [.inl 0]) (st := []) sD11_move_43 sM11_78 rfl rfl sOM15 rfl (by decide) (Nat.le_of_ble_eq_true rfl) (cM_finding 0 (by decide) _ m hx (hF 0 (by decide))) (fun r m hq ho43 hm => ?_)
          obtain ⟨rfl, hx⟩ := hq
          show sd_Wp sd_SM 2 sY11_move 46 [some (.inr 15), some (.inl s), some (.inl k), some (.inl w), some (.inl v)] [.inl (-1000001)] m _
          refine sd_ireturn sD11_move_46 rfl (fun hr hm => ?_)
          exact sd_done2 (by unfold spM_move; ((repeat (first | rw [if_pos (by first | assumption | omega)] | rw [if_neg (by first | assumption | omega)])); try rfl)) (by intro j; simp only [sd_up]; (repeat' (first | rfl | split)); all_goals omega) hx
