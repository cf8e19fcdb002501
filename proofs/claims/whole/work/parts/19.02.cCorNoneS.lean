set_option maxRecDepth 100000 in
set_option maxHeartbeats 4000000 in
theorem cC_orNoneS (a : Int) (ha : ¬ a = -1) (x m : sd_M) (hx : sd_ns x m) : sd_Ct sd_SC 2 sY10_orNone [.inr 120, .inl a] m (fun r m' => r = some (.inl a) ∧ sd_ns x m') := by
  refine sd_ct rfl (Nat.le_of_ble_eq_true rfl) (fun hok hm => ?_)
  show sd_Wp sd_SC 2 sY10_orNone 0 [some (.inr 120), some (.inl a)] [] m _
  refine sd_iload_n sD10_orNone_0 rfl ?_
  refine sd_iconst sD10_orNone_1 (by decide) ?_
  refine sd_icmp_ne (tgt := 14) sD10_orNone_2 (by decide) (fun zc2 => ?_) (fun zc2 => (by exfalso; omega))
  refine sd_iload_n sD10_orNone_14 rfl ?_
  refine sd_ireturn sD10_orNone_15 rfl (fun hr hm => ?_)
  exact ⟨rfl, hx⟩
