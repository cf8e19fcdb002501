set_option maxRecDepth 100000 in
set_option maxHeartbeats 4000000 in
theorem pC_wipe (x m : sd_M) (hx : sd_ns x m)  (hF : ∀ k : Nat, k < 7 → 0 ≤ x (4101 + k) ∧ x (4101 + k) ≤ 1000000) : sd_Ct sd_SC 0 sY10_wipe [.inr 120] m (sd_Qp (sp_wipe x)) := by
  refine sd_ct rfl (Nat.le_of_ble_eq_true rfl) (fun hok hm => ?_)
  show sd_Wp sd_SC 0 sY10_wipe 0 [some (.inr 120), none] [] m _
  refine sd_aload_n sD10_wipe_0 rfl ?_
  refine sd_getfr sD10_wipe_1 sF10_28 sGC120_3 ?_
  refine sd_getfx (v := x 4100) hx sD10_wipe_4 sF10_229 sGC118_0 (by decide) rfl ?_
  refine sd_istore_n (ls' := [some (.inr 120), some (.inl (x 4100))]) sD10_wipe_7 (by decide) rfl ?_
  refine sd_aload_n sD10_wipe_8 rfl ?_
  refine sd_getfr sD10_wipe_9 sF10_28 sGC120_3 ?_
  refine sd_iconst sD10_wipe_12 (by decide) ?_
  refine sd_putfx sd_sokC sd_oneC hx sD10_wipe_13 sF10_229 sGC118_0 (Or.inl rfl) (fun m hx em13 => ?_)
  refine sd_iload_n sD10_wipe_16 rfl ?_
  refine sd_ireturn sD10_wipe_17 rfl (fun hr hm => ?_)
  exact sd_done (by unfold sp_wipe; ((repeat (first | rw [if_pos (by first | assumption | omega)] | rw [if_neg (by first | assumption | omega)])); try rfl)) hx
