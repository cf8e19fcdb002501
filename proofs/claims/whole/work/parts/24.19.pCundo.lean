set_option maxRecDepth 100000 in
set_option maxHeartbeats 4000000 in
theorem pC_undo (x m : sd_M) (hx : sd_ns x m)  (hF : ∀ k : Nat, k < 7 → 0 ≤ x (4101 + k) ∧ x (4101 + k) ≤ 1000000) (hk : x 4260 = 0 ∨ x 4260 = 1) : sd_Ct sd_SC 4 sY10_undo [.inr 120] m (sd_Qp (spC_undo x)) := by
  refine sd_ct rfl (Nat.le_of_ble_eq_true rfl) (fun hok hm => ?_)
  show sd_Wp sd_SC 4 sY10_undo 0 [some (.inr 120)] [] m _
  refine sd_aload_n sD10_undo_0 rfl ?_
  refine sd_getfx (v := x 4260) hx sD10_undo_1 sF10_36 sGC120_5 (by decide) rfl ?_
  refine sd_if_ne (tgt := 14) sD10_undo_4 (by decide) (fun zc4 => ?_) (fun zc4 => ?_)
  ·
    refine sd_aload_n sD10_undo_14 rfl ?_
    refine sd_getfr sD10_undo_15 sF10_10 sGC120_0 ?_
    refine sd_aload_n sD10_undo_18 rfl ?_
    refine sd_getfr sD10_undo_19 sF10_16 sGC120_1 ?_
    refine sd_callV (as := [.inr 107]) (st := []) sD10_undo_22 sM10_375 rfl rfl sOC53 rfl (by decide) (Nat.le_of_ble_eq_true rfl) (cC_become_siteS _ m hx) (fun r m hq ho22 hm => ?_)
    obtain ⟨rfl, hx⟩ := hq
    have hx : sd_ns (sd_mov x sd_LS) m := hx
    show sd_Wp sd_SC 4 sY10_undo 25 [some (.inr 120)] [] m _
    refine sd_aload_n sD10_undo_25 rfl ?_
    refine sd_getfr sD10_undo_26 sF10_10 sGC120_0 ?_
    refine sd_getfx (v := (sd_mov x sd_LS) 0) hx sD10_undo_29 sF10_220 sGC53_0 (by decide) rfl ?_
    refine sd_ireturn sD10_undo_32 rfl (fun hr hm => ?_)
    exact sd_done (by unfold spC_undo; ((repeat (first | rw [if_pos (by first | assumption | omega)] | rw [if_neg (by first | assumption | omega)])); try rfl)) hx
  ·
    refine sd_aload_n sD10_undo_7 rfl ?_
    refine sd_ldc (z := -1000004) sD10_undo_8 sK10_130 (by decide) ?_
    refine sd_callV (as := [.inl (-1000004)]) (st := []) sD10_undo_10 sM10_52 rfl rfl sOC120 rfl (by decide) (Nat.le_of_ble_eq_true rfl) (cC_found (-1000004) 3 (by decide) (by decide) _ m hx (hF 3 (by decide))) (fun r m hq ho10 hm => ?_)
    obtain ⟨rfl, hx⟩ := hq
    show sd_Wp sd_SC 4 sY10_undo 13 [some (.inr 120)] [.inl (-1000004)] m _
    refine sd_ireturn sD10_undo_13 rfl (fun hr hm => ?_)
    exact sd_done (by unfold spC_undo; ((repeat (first | rw [if_pos (by first | assumption | omega)] | rw [if_neg (by first | assumption | omega)])); try rfl)) hx
