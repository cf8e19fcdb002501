set_option maxRecDepth 100000 in
set_option maxHeartbeats 4000000 in
theorem cC_gBase (q n : Nat) (hq : q = n) (hn5 : n ≤ 5) (w o lo hi : Int) (x m : sd_M) (hx : sd_ns x m) (hst : m 5110 = (n : Int)) : sd_Ct sd_SC 0 sY0_behindSteps [.inr 49, .inl (q : Int), .inl w, .inl o, .inl lo, .inl hi] m (fun ra m' => m' = m ∧ ∃ z, ra = some (.inl z) ∧ sd_Cl lo hi (0) z) := by
  refine sd_ct rfl (Nat.le_of_ble_eq_true rfl) (fun hok hm => ?_)
  show sd_Wp sd_SC 0 sY0_behindSteps 0 [some (.inr 49), some (.inl (q : Int)), some (.inl w), some (.inl o), some (.inl lo), some (.inl hi), none, none, none] [] m _
  refine sd_iload_n sD0_behindSteps_0 rfl ?_
  refine sd_aload_n sD0_behindSteps_1 rfl ?_
  refine sd_getfi sD0_behindSteps_2 sF0_21 sGC49_3 ?_
  refine sd_icmp_ge (tgt := 13) sD0_behindSteps_5 (by decide) (fun zc5 => ?_) (fun zc5 => (by exfalso; omega))
  refine sd_iconst sD0_behindSteps_13 (by decide) ?_
  refine sd_ireturn sD0_behindSteps_14 rfl (fun hr hm => ?_)
  (exact ⟨rfl, 0, rfl, ⟨by omega, by omega⟩, rfl⟩)
