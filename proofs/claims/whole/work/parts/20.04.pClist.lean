set_option maxRecDepth 100000 in
set_option maxHeartbeats 4000000 in
theorem pC_list (k : Int) (n : Int) (f : Int) (x m : sd_M) (hx : sd_ns x m)  (hF : ∀ k : Nat, k < 7 → 0 ≤ x (4101 + k) ∧ x (4101 + k) ≤ 1000000) : sd_Ct sd_SC 2 sY10_list [.inr 120, .inl k, .inl n, .inl f] m (sd_Qp (spC_list x k n f)) := by
  refine sd_ct rfl (Nat.le_of_ble_eq_true rfl) (fun hok hm => ?_)
  have r_k : sd_R k := hok (.inl k) (by simp)
  have r_n : sd_R n := hok (.inl n) (by simp)
  have r_f : sd_R f := hok (.inl f) (by simp)
  show sd_Wp sd_SC 2 sY10_list 0 [some (.inr 120), some (.inl k), some (.inl n), some (.inl f)] [] m _
  refine sd_iload_n sD10_list_0 rfl ?_
  refine sd_iconst sD10_list_1 (by decide) ?_
  refine sd_iconst sD10_list_2 (by decide) ?_
  refine sd_callSp (as := [.inl k, .inl 0, .inl 5]) (st := []) (v := .inl (sd_b (0 ≤ k ∧ k ≤ 5))) sD10_list_3 sM10_65 rfl rfl (by decide) (Nat.le_of_ble_eq_true rfl) (cC_isWithin k 0 5 m) (fun ho3 => ?_)
  refine sd_bif_eq (tgt := 29) sD10_list_6 (by decide) (fun zc6 => ?_) (fun zc6 => ?_)
  ·
    refine sd_aload_n sD10_list_29 rfl ?_
    refine sd_ldc (z := -1000001) sD10_list_30 sK10_51 (by decide) ?_
    refine sd_callV (as := [.inl (-1000001)]) (st := []) sD10_list_32 sM10_52 rfl rfl sOC120 rfl (by decide) (Nat.le_of_ble_eq_true rfl) (cC_found (-1000001) 0 (by decide) (by decide) _ m hx (hF 0 (by decide))) (fun r m hq ho32 hm => ?_)
    obtain ⟨rfl, hx⟩ := hq
    show sd_Wp sd_SC 2 sY10_list 35 [some (.inr 120), some (.inl k), some (.inl n), some (.inl f)] [.inl (-1000001)] m _
    refine sd_ireturn sD10_list_35 rfl (fun hr hm => ?_)
    exact sd_done2 (by unfold spC_list; ((repeat (first | rw [if_pos (by first | assumption | omega)] | rw [if_neg (by first | assumption | omega)])); try rfl)) (by intro j; simp only [sd_up]; (repeat' (first | rfl | split)); all_goals omega) hx
  ·
    refine sd_iload_n sD10_list_9 rfl ?_
    refine sd_iconst sD10_list_10 (by decide) ?_
    refine sd_sipush sD10_list_11 rfl (by decide) ?_
    refine sd_callSp (as := [.inl n, .inl 0, .inl 999]) (st := []) (v := .inl (sd_b (0 ≤ n ∧ n ≤ 999))) sD10_list_14 sM10_65 rfl rfl (by decide) (Nat.le_of_ble_eq_true rfl) (cC_isWithin n 0 999 m) (fun ho14 => ?_)
    refine sd_bif_eq (tgt := 29) sD10_list_17 (by decide) (fun zc17 => ?_) (fun zc17 => ?_)
    ·
      refine sd_aload_n sD10_list_29 rfl ?_
      refine sd_ldc (z := -1000001) sD10_list_30 sK10_51 (by decide) ?_
      refine sd_callV (as := [.inl (-1000001)]) (st := []) sD10_list_32 sM10_52 rfl rfl sOC120 rfl (by decide) (Nat.le_of_ble_eq_true rfl) (cC_found (-1000001) 0 (by decide) (by decide) _ m hx (hF 0 (by decide))) (fun r m hq ho32 hm => ?_)
      obtain ⟨rfl, hx⟩ := hq
      show sd_Wp sd_SC 2 sY10_list 35 [some (.inr 120), some (.inl k), some (.inl n), some (.inl f)] [.inl (-1000001)] m _
      refine sd_ireturn sD10_list_35 rfl (fun hr hm => ?_)
      exact sd_done2 (by unfold spC_list; ((repeat (first | rw [if_pos (by first | assumption | omega)] | rw [if_neg (by first | assumption | omega)])); try rfl)) (by intro j; simp only [sd_up]; (repeat' (first | rfl | split)); all_goals omega) hx
    ·
      refine sd_iload_n sD10_list_20 rfl ?_
      refine sd_iconst sD10_list_21 (by decide) ?_
      refine sd_iload_n sD10_list_22 rfl ?_
      refine sd_callSp (as := [.inl f, .inl 0, .inl n]) (st := []) (v := .inl (sd_b (0 ≤ f ∧ f ≤ n))) sD10_list_23 sM10_65 rfl rfl (by decide) (Nat.le_of_ble_eq_true rfl) (cC_isWithin f 0 n m) (fun ho23 => ?_)
      refine sd_bif_ne (tgt := 36) sD10_list_26 (by decide) (fun zc26 => ?_) (fun zc26 => ?_)
      ·
        refine sd_aload_n sD10_list_36 rfl ?_
        refine sd_getfr sD10_list_37 sF10_10 sGC120_0 ?_
        refine sd_getfr sD10_list_40 sF10_306 sGC53_7 ?_
        refine sd_getfr sD10_list_43 sF10_310 sGC45_0 ?_
        refine sd_iload_n sD10_list_46 rfl ?_
        refine sd_iload_n sD10_list_47 rfl ?_
        refine sd_iastx (a := (6500 + k.toNat)) sd_sokC hx sD10_list_48 sAC43 (by omega) (fun m hx em48 => ?_)
        refine sd_aload_n sD10_list_49 rfl ?_
        refine sd_getfr sD10_list_50 sF10_10 sGC120_0 ?_
        refine sd_getfr sD10_list_53 sF10_306 sGC53_7 ?_
        refine sd_getfr sD10_list_56 sF10_315 sGC45_1 ?_
        refine sd_iload_n sD10_list_59 rfl ?_
        refine sd_iload_n sD10_list_60 rfl ?_
        refine sd_iastx (a := (6506 + k.toNat)) sd_sokC hx sD10_list_61 sAC44 (by omega) (fun m hx em61 => ?_)
        refine sd_iconst sD10_list_62 (by decide) ?_
        refine sd_ireturn sD10_list_63 rfl (fun hr hm => ?_)
        exact sd_done2 (by unfold spC_list; ((repeat (first | rw [if_pos (by first | assumption | omega)] | rw [if_neg (by first | assumption | omega)])); try rfl)) (by intro j; simp only [sd_up]; (repeat' (first | rfl | split)); all_goals omega) hx
      ·
        refine sd_aload_n sD10_list_29 rfl ?_
        refine sd_ldc (z := -1000001) sD10_list_30 sK10_51 (by decide) ?_
        refine sd_callV (as := [.inl (-1000001)]) (st := []) sD10_list_32 sM10_52 rfl rfl sOC120 rfl (by decide) (Nat.le_of_ble_eq_true rfl) (cC_found (-1000001) 0 (by decide) (by decide) _ m hx (hF 0 (by decide))) (fun r m hq ho32 hm => ?_)
        obtain ⟨rfl, hx⟩ := hq
        show sd_Wp sd_SC 2 sY10_list 35 [some (.inr 120), some (.inl k), some (.inl n), some (.inl f)] [.inl (-1000001)] m _
        refine sd_ireturn sD10_list_35 rfl (fun hr hm => ?_)
        exact sd_done2 (by unfold spC_list; ((repeat (first | rw [if_pos (by first | assumption | omega)] | rw [if_neg (by first | assumption | omega)])); try rfl)) (by intro j; simp only [sd_up]; (repeat' (first | rfl | split)); all_goals omega) hx
