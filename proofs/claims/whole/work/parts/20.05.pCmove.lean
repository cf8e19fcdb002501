set_option maxRecDepth 100000 in
set_option maxHeartbeats 4000000 in
theorem pC_move (s : Int) (k : Int) (w : Int) (v : Int) (x m : sd_M) (hx : sd_ns x m)  (hF : ∀ k : Nat, k < 7 → 0 ≤ x (4101 + k) ∧ x (4101 + k) ≤ 1000000) : sd_Ct sd_SC 2 sY10_move [.inr 120, .inl s, .inl k, .inl w, .inl v] m (sd_Qp (spC_move x s k w v)) := by
  refine sd_ct rfl (Nat.le_of_ble_eq_true rfl) (fun hok hm => ?_)
  have r_s : sd_R s := hok (.inl s) (by simp)
  have r_k : sd_R k := hok (.inl k) (by simp)
  have r_w : sd_R w := hok (.inl w) (by simp)
  have r_v : sd_R v := hok (.inl v) (by simp)
  show sd_Wp sd_SC 2 sY10_move 0 [some (.inr 120), some (.inl s), some (.inl k), some (.inl w), some (.inl v)] [] m _
  refine sd_iload_n sD10_move_0 rfl ?_
  refine sd_iconst sD10_move_1 (by decide) ?_
  refine sd_iconst sD10_move_2 (by decide) ?_
  refine sd_callSp (as := [.inl s, .inl 0, .inl 1]) (st := []) (v := .inl (sd_b (0 ≤ s ∧ s ≤ 1))) sD10_move_3 sM10_65 rfl rfl (by decide) (Nat.le_of_ble_eq_true rfl) (cC_isWithin s 0 1 m) (fun ho3 => ?_)
  refine sd_bif_eq (tgt := 18) sD10_move_6 (by decide) (fun zc6 => ?_) (fun zc6 => ?_)
  ·
    refine sd_aload_n sD10_move_18 rfl ?_
    refine sd_ldc (z := -1000001) sD10_move_19 sK10_51 (by decide) ?_
    refine sd_callV (as := [.inl (-1000001)]) (st := []) sD10_move_21 sM10_52 rfl rfl sOC120 rfl (by decide) (Nat.le_of_ble_eq_true rfl) (cC_found (-1000001) 0 (by decide) (by decide) _ m hx (hF 0 (by decide))) (fun r m hq ho21 hm => ?_)
    obtain ⟨rfl, hx⟩ := hq
    show sd_Wp sd_SC 2 sY10_move 24 [some (.inr 120), some (.inl s), some (.inl k), some (.inl w), some (.inl v)] [.inl (-1000001)] m _
    refine sd_ireturn sD10_move_24 rfl (fun hr hm => ?_)
    exact sd_done2 (by unfold spC_move; ((repeat (first | rw [if_pos (by first | assumption | omega)] | rw [if_neg (by first | assumption | omega)])); try rfl)) (by intro j; simp only [sd_up]; (repeat' (first | rfl | split)); all_goals omega) hx
  ·
    refine sd_iload_n sD10_move_9 rfl ?_
    refine sd_iconst sD10_move_10 (by decide) ?_
    refine sd_iconst sD10_move_11 (by decide) ?_
    refine sd_callSp (as := [.inl k, .inl 0, .inl 2]) (st := []) (v := .inl (sd_b (0 ≤ k ∧ k ≤ 2))) sD10_move_12 sM10_65 rfl rfl (by decide) (Nat.le_of_ble_eq_true rfl) (cC_isWithin k 0 2 m) (fun ho12 => ?_)
    refine sd_bif_ne (tgt := 25) sD10_move_15 (by decide) (fun zc15 => ?_) (fun zc15 => ?_)
    ·
      refine sd_iload_n sD10_move_25 rfl ?_
      refine sd_bipush sD10_move_26 rfl (by decide) ?_
      refine sd_bipush sD10_move_28 rfl (by decide) ?_
      refine sd_callSp (as := [.inl w, .inl (-9), .inl 9]) (st := []) (v := .inl (sd_b ((-9) ≤ w ∧ w ≤ 9))) sD10_move_30 sM10_65 rfl rfl (by decide) (Nat.le_of_ble_eq_true rfl) (cC_isWithin w (-9) 9 m) (fun ho30 => ?_)
      refine sd_bif_eq (tgt := 48) sD10_move_33 (by decide) (fun zc33 => ?_) (fun zc33 => ?_)
      ·
        refine sd_aload_n sD10_move_48 rfl ?_
        refine sd_ldc (z := -1000001) sD10_move_49 sK10_51 (by decide) ?_
        refine sd_callV (as := [.inl (-1000001)]) (st := []) sD10_move_51 sM10_52 rfl rfl sOC120 rfl (by decide) (Nat.le_of_ble_eq_true rfl) (cC_found (-1000001) 0 (by decide) (by decide) _ m hx (hF 0 (by decide))) (fun r m hq ho51 hm => ?_)
        obtain ⟨rfl, hx⟩ := hq
        show sd_Wp sd_SC 2 sY10_move 54 [some (.inr 120), some (.inl s), some (.inl k), some (.inl w), some (.inl v)] [.inl (-1000001)] m _
        refine sd_ireturn sD10_move_54 rfl (fun hr hm => ?_)
        exact sd_done2 (by unfold spC_move; ((repeat (first | rw [if_pos (by first | assumption | omega)] | rw [if_neg (by first | assumption | omega)])); try rfl)) (by intro j; simp only [sd_up]; (repeat' (first | rfl | split)); all_goals omega) hx
      ·
        refine sd_iload sD10_move_36 rfl ?_
        refine sd_bipush sD10_move_38 rfl (by decide) ?_
        refine sd_bipush sD10_move_40 rfl (by decide) ?_
        refine sd_callSp (as := [.inl v, .inl (-9), .inl 9]) (st := []) (v := .inl (sd_b ((-9) ≤ v ∧ v ≤ 9))) sD10_move_42 sM10_65 rfl rfl (by decide) (Nat.le_of_ble_eq_true rfl) (cC_isWithin v (-9) 9 m) (fun ho42 => ?_)
        refine sd_bif_ne (tgt := 55) sD10_move_45 (by decide) (fun zc45 => ?_) (fun zc45 => ?_)
        ·
          refine sd_aload_n sD10_move_55 rfl ?_
          refine sd_getfr sD10_move_56 sF10_10 sGC120_0 ?_
          refine sd_getfr sD10_move_59 sF10_324 sGC53_8 ?_
          refine sd_getfr sD10_move_62 sF10_328 sGC49_0 ?_
          refine sd_iload_n sD10_move_65 rfl ?_
          refine sd_iconst sD10_move_66 (by decide) ?_
          refine sd_imul (z := (s * 3)) sD10_move_67 (by omega) (by omega) ?_
          refine sd_iload_n sD10_move_68 rfl ?_
          refine sd_iadd (z := ((s * 3) + k)) sD10_move_69 (by omega) (by omega) ?_
          refine sd_iload_n sD10_move_70 rfl ?_
          refine sd_iastx (a := (6520 + ((s.toNat * 3) + k.toNat))) sd_sokC hx sD10_move_71 sAC46 (by omega) (fun m hx em71 => ?_)
          refine sd_aload_n sD10_move_72 rfl ?_
          refine sd_getfr sD10_move_73 sF10_10 sGC120_0 ?_
          refine sd_getfr sD10_move_76 sF10_324 sGC53_8 ?_
          refine sd_getfr sD10_move_79 sF10_331 sGC49_1 ?_
          refine sd_iload_n sD10_move_82 rfl ?_
          refine sd_iconst sD10_move_83 (by decide) ?_
          refine sd_imul (z := (s * 3)) sD10_move_84 (by omega) (by omega) ?_
          refine sd_iload_n sD10_move_85 rfl ?_
          refine sd_iadd (z := ((s * 3) + k)) sD10_move_86 (by omega) (by omega) ?_
          refine sd_iload sD10_move_87 rfl ?_
          refine sd_iastx (a := (6526 + ((s.toNat * 3) + k.toNat))) sd_sokC hx sD10_move_89 sAC47 (by omega) (fun m hx em89 => ?_)
          refine sd_iconst sD10_move_90 (by decide) ?_
          refine sd_ireturn sD10_move_91 rfl (fun hr hm => ?_)
          exact sd_done2 (by unfold spC_move; ((repeat (first | rw [if_pos (by first | assumption | omega)] | rw [if_neg (by first | assumption | omega)])); try rfl)) (by intro j; simp only [sd_up]; (repeat' (first | rfl | split)); all_goals omega) hx
        ·
          refine sd_aload_n sD10_move_48 rfl ?_
          refine sd_ldc (z := -1000001) sD10_move_49 sK10_51 (by decide) ?_
          refine sd_callV (as := [.inl (-1000001)]) (st := []) sD10_move_51 sM10_52 rfl rfl sOC120 rfl (by decide) (Nat.le_of_ble_eq_true rfl) (cC_found (-1000001) 0 (by decide) (by decide) _ m hx (hF 0 (by decide))) (fun r m hq ho51 hm => ?_)
          obtain ⟨rfl, hx⟩ := hq
          show sd_Wp sd_SC 2 sY10_move 54 [some (.inr 120), some (.inl s), some (.inl k), some (.inl w), some (.inl v)] [.inl (-1000001)] m _
          refine sd_ireturn sD10_move_54 rfl (fun hr hm => ?_)
          exact sd_done2 (by unfold spC_move; ((repeat (first | rw [if_pos (by first | assumption | omega)] | rw [if_neg (by first | assumption | omega)])); try rfl)) (by intro j; simp only [sd_up]; (repeat' (first | rfl | split)); all_goals omega) hx
    ·
      refine sd_aload_n sD10_move_18 rfl ?_
      refine sd_ldc (z := -1000001) sD10_move_19 sK10_51 (by decide) ?_
      refine sd_callV (as := [.inl (-1000001)]) (st := []) sD10_move_21 sM10_52 rfl rfl sOC120 rfl (by decide) (Nat.le_of_ble_eq_true rfl) (cC_found (-1000001) 0 (by decide) (by decide) _ m hx (hF 0 (by decide))) (fun r m hq ho21 hm => ?_)
      obtain ⟨rfl, hx⟩ := hq
      show sd_Wp sd_SC 2 sY10_move 24 [some (.inr 120), some (.inl s), some (.inl k), some (.inl w), some (.inl v)] [.inl (-1000001)] m _
      refine sd_ireturn sD10_move_24 rfl (fun hr hm => ?_)
      exact sd_done2 (by unfold spC_move; ((repeat (first | rw [if_pos (by first | assumption | omega)] | rw [if_neg (by first | assumption | omega)])); try rfl)) (by intro j; simp only [sd_up]; (repeat' (first | rfl | split)); all_goals omega) hx
