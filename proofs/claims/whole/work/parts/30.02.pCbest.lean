set_option maxRecDepth 100000 in
set_option maxHeartbeats 4000000 in
theorem pC_best (w : Int) (v : Int) (n : Int) (x m : sd_M) (hx : sd_ns x m) (h9 : sd_L9 x) (hF : ∀ k : Nat, k < 7 → 0 ≤ x (4101 + k) ∧ x (4101 + k) ≤ 1000000) : sd_Ct sd_SC 18 sY10_best [.inr 120, .inl w, .inl v, .inl n] m (sd_Qp (sp_best x w v n)) := by
  refine sd_ct rfl (Nat.le_of_ble_eq_true rfl) (fun hok hm => ?_)
  have r_w : sd_R w := hok (.inl w) (by simp)
  have r_v : sd_R v := hok (.inl v) (by simp)
  have r_n : sd_R n := hok (.inl n) (by simp)
  show sd_Wp sd_SC 18 sY10_best 0 [some (.inr 120), some (.inl w), some (.inl v), some (.inl n)] [] m _
  refine sd_iload_n sD10_best_0 rfl ?_
  refine sd_iload_n sD10_best_1 rfl ?_
  refine sd_iload_n sD10_best_2 rfl ?_
  refine sd_callSp (as := [.inl w, .inl v, .inl n]) (st := []) (v := .inl (sd_b (((1 ≤ w ∧ w ≤ 99) ∧ 1 ≤ v ∧ v ≤ 99) ∧ 1 ≤ n ∧ n ≤ 5))) sD10_best_3 sM10_334 rfl rfl (by decide) (Nat.le_of_ble_eq_true rfl) (cC_areGame w v n m) (fun ho3 => ?_)
  refine sd_bif_eq (tgt := 25) sD10_best_6 (by decide) (fun zc6 => ?_) (fun zc6 => ?_)
  ·
    refine sd_aload_n sD10_best_25 rfl ?_
    refine sd_ldc (z := -1000001) sD10_best_26 sK10_51 (by decide) ?_
    refine sd_callV (as := [.inl (-1000001)]) (st := []) sD10_best_28 sM10_52 rfl rfl sOC120 rfl (by decide) (Nat.le_of_ble_eq_true rfl) (cC_found (-1000001) 0 (by decide) (by decide) _ m hx (hF 0 (by decide))) (fun r m hq ho28 hm => ?_)
    obtain ⟨rfl, hx⟩ := hq
    show sd_Wp sd_SC 18 sY10_best 31 [some (.inr 120), some (.inl w), some (.inl v), some (.inl n)] [.inl (-1000001)] m _
    refine sd_ireturn sD10_best_31 rfl (fun hr hm => ?_)
    exact sd_done (by unfold sp_best; ((repeat (first | rw [if_pos (by first | assumption | omega)] | rw [if_neg (by first | assumption | omega)])); try rfl)) hx
  ·
    refine sd_aload_n sD10_best_9 rfl ?_
    refine sd_getfr sD10_best_10 sF10_10 sGC120_0 ?_
    refine sd_getfr sD10_best_13 sF10_324 sGC53_8 ?_
    refine sd_iload_n sD10_best_16 rfl ?_
    refine sd_iload_n sD10_best_17 rfl ?_
    refine sd_iload_n sD10_best_18 rfl ?_
    refine sd_callV (as := [.inl w, .inl v, .inl n]) (st := []) sD10_best_19 sM10_340 rfl rfl sOC49 rfl (by decide) (Nat.le_of_ble_eq_true rfl) (cC_bestFirstI w v n _ m hx h9 (by omega) (by omega) (by omega)) (fun r m hq ho19 hm => ?_)
    obtain ⟨rfl, hx⟩ := hq
    show sd_Wp sd_SC 18 sY10_best 22 [some (.inr 120), some (.inl w), some (.inl v), some (.inl n)] [.inl (sd_bst x (2 * n.toNat - 1) w v)] m _
    refine sd_goto (tgt := 31) sD10_best_22 (by decide) ?_
    refine sd_ireturn sD10_best_31 rfl (fun hr hm => ?_)
    exact sd_done (by unfold sp_best; ((repeat (first | rw [if_pos (by first | assumption | omega)] | rw [if_neg (by first | assumption | omega)])); try rfl)) hx
