set_option maxRecDepth 100000 in
set_option maxHeartbeats 4000000 in
theorem pC_image (x m : sd_M) (hx : sd_ns x m)  (hF : ∀ k : Nat, k < 7 → 0 ≤ x (4101 + k) ∧ x (4101 + k) ≤ 1000000) : sd_Ct sd_SC 4 sY10_image [.inr 120] m (sd_Qp (spC_image x)) := by
  refine sd_ct rfl (Nat.le_of_ble_eq_true rfl) (fun hok hm => ?_)
  show sd_Wp sd_SC 4 sY10_image 0 [some (.inr 120)] [] m _
  refine sd_aload_n sD10_image_0 rfl ?_
  refine sd_getfr sD10_image_1 sF10_16 sGC120_1 ?_
  refine sd_aload_n sD10_image_4 rfl ?_
  refine sd_getfr sD10_image_5 sF10_10 sGC120_0 ?_
  refine sd_callV (as := [.inr 53]) (st := []) sD10_image_8 sM10_375 rfl rfl sOC107 rfl (by decide) (Nat.le_of_ble_eq_true rfl) (cC_become_siteK _ m hx) (fun r m hq ho8 hm => ?_)
  obtain ⟨rfl, hx⟩ := hq
  have hx : sd_ns (sd_mov x sd_LK) m := hx
  show sd_Wp sd_SC 4 sY10_image 11 [some (.inr 120)] [] m _
  refine sd_aload_n sD10_image_11 rfl ?_
  refine sd_iconst sD10_image_12 (by decide) ?_
  refine sd_putfx sd_sokC sd_oneC hx sD10_image_13 sF10_36 sGC120_5 (Or.inr ⟨rfl, by decide⟩) (fun m hx em13 => ?_)
  refine sd_iconst sD10_image_16 (by decide) ?_
  refine sd_ireturn sD10_image_17 rfl (fun hr hm => ?_)
  exact sd_done (by unfold spC_image; ((repeat (first | rw [if_pos (by first | assumption | omega)] | rw [if_neg (by first | assumption | omega)])); try rfl)) hx
