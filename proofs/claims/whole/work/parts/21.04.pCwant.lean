set_option maxRecDepth 100000 in
set_option maxHeartbeats 4000000 in
theorem pC_want (w : Int) (x m : sd_M) (hx : sd_ns x m) (h8 : sd_L8 x) (hF : ∀ k : Nat, k < 7 → 0 ≤ x (4101 + k) ∧ x (4101 + k) ≤ 1000000) : sd_Ct sd_SC 2 sY10_want [.inr 120, .inl w] m (sd_Qp (sp_want x w)) := by
  refine sd_ct rfl (Nat.le_of_ble_eq_true rfl) (fun hok hm => ?_)
  have r_w : sd_R w := hok (.inl w) (by simp)
  show sd_Wp sd_SC 2 sY10_want 0 [some (.inr 120), some (.inl w)] [] m _
  refine sd_iload_n sD10_want_0 rfl ?_
  refine sd_iconst sD10_want_1 (by decide) ?_
  refine sd_iconst sD10_want_2 (by decide) ?_
  refine sd_callSp (as := [.inl w, .inl 0, .inl 1]) (st := []) (v := .inl (sd_b (0 ≤ w ∧ w ≤ 1))) sD10_want_3 sM10_65 rfl rfl (by decide) (Nat.le_of_ble_eq_true rfl) (cC_isWithin w 0 1 m) (fun ho3 => ?_)
  refine sd_bif_ne (tgt := 16) sD10_want_6 (by decide) (fun zc6 => ?_) (fun zc6 => ?_)
  ·
    refine sd_iload_n sD10_want_16 rfl ?_
    refine sd_if_ne (tgt := 33) sD10_want_17 (by decide) (fun zc17 => ?_) (fun zc17 => ?_)
    ·
      refine sd_aload_n sD10_want_33 rfl ?_
      refine sd_getfr sD10_want_34 sF10_10 sGC120_0 ?_
      refine sd_getfr sD10_want_37 sF10_306 sGC53_7 ?_
      refine sd_callVp (as := []) (st := []) (v := .inl (min 4000 (sd_sum (fun i => x (6500 + i)) 6))) sD10_want_40 sM10_321 sOC45 rfl rfl rfl (by decide) (Nat.le_of_ble_eq_true rfl) (cC_mostWho  _ m hx h8 ) (fun ho40 => ?_)
      refine sd_ireturn sD10_want_43 rfl (fun hr hm => ?_)
      exact sd_done (by unfold sp_want; ((repeat (first | rw [if_pos (by first | assumption | omega)] | rw [if_neg (by first | assumption | omega)])); try rfl)) hx
    ·
      refine sd_aload_n sD10_want_20 rfl ?_
      refine sd_getfr sD10_want_21 sF10_10 sGC120_0 ?_
      refine sd_getfr sD10_want_24 sF10_306 sGC53_7 ?_
      refine sd_callVp (as := []) (st := []) (v := .inl (sd_mx x 6)) sD10_want_27 sM10_318 sOC45 rfl rfl rfl (by decide) (Nat.le_of_ble_eq_true rfl) (cC_leastWho  _ m hx h8 ) (fun ho27 => ?_)
      refine sd_goto (tgt := 43) sD10_want_30 (by decide) ?_
      refine sd_ireturn sD10_want_43 rfl (fun hr hm => ?_)
      exact sd_done (by unfold sp_want; ((repeat (first | rw [if_pos (by first | assumption | omega)] | rw [if_neg (by first | assumption | omega)])); try rfl)) hx
  ·
    refine sd_aload_n sD10_want_9 rfl ?_
    refine sd_ldc (z := -1000001) sD10_want_10 sK10_51 (by decide) ?_
    refine sd_callV (as := [.inl (-1000001)]) (st := []) sD10_want_12 sM10_52 rfl rfl sOC120 rfl (by decide) (Nat.le_of_ble_eq_true rfl) (cC_found (-1000001) 0 (by decide) (by decide) _ m hx (hF 0 (by decide))) (fun r m hq ho12 hm => ?_)
    obtain ⟨rfl, hx⟩ := hq
    show sd_Wp sd_SC 2 sY10_want 15 [some (.inr 120), some (.inl w)] [.inl (-1000001)] m _
    refine sd_ireturn sD10_want_15 rfl (fun hr hm => ?_)
    exact sd_done (by unfold sp_want; ((repeat (first | rw [if_pos (by first | assumption | omega)] | rw [if_neg (by first | assumption | omega)])); try rfl)) hx
