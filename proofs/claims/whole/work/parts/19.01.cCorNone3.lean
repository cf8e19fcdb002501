set_option maxRecDepth 100000 in
set_option maxHeartbeats 4000000 in
theorem cC_orNone3 (a : Int) (ha : a = -1) (x m : sd_M) (hx : sd_ns x m) (hF : ∀ k : Nat, k < 7 → 0 ≤ x (4101 + k) ∧ x (4101 + k) ≤ 1000000) : sd_Ct sd_SC 2 sY10_orNone [.inr 120, .inl a] m (fun r m' => r = some (.inl (-1000004)) ∧ sd_ns (sd_fnd x 3) m') := by
  refine sd_ct rfl (Nat.le_of_ble_eq_true rfl) (fun hok hm => ?_)
  show sd_Wp sd_SC 2 sY10_orNone 0 [some (.inr 120), some (.inl a)] [] m _
  refine sd_iload_n sD10_orNone_0 rfl ?_
  refine sd_iconst sD10_orNone_1 (by decide) ?_
  refine sd_icmp_ne (tgt := 14) sD10_orNone_2 (by decide) (fun zc2 => (by exfalso; omega)) (fun zc2 => ?_)
  refine sd_aload_n sD10_orNone_5 rfl ?_
  refine sd_ldc (z := -1000004) sD10_orNone_6 sK10_130 (by decide) ?_
  refine sd_callV (as := [.inl (-1000004)]) (st := []) sD10_orNone_8 sM10_52 rfl rfl sOC120 rfl (by decide) (Nat.le_of_ble_eq_true rfl) (cC_found (-1000004) 3 (by decide) (by decide) _ m hx (hF 3 (by decide))) (fun r m hq ho8 hm => ?_)
  obtain ⟨rfl, hx⟩ := hq
  show sd_Wp sd_SC 2 sY10_orNone 11 [some (.inr 120), some (.inl a)] [.inl (-1000004)] m _
  refine sd_goto (tgt := 15) sD10_orNone_11 (by decide) ?_
  refine sd_ireturn sD10_orNone_15 rfl (fun hr hm => ?_)
  exact ⟨rfl, hx⟩
