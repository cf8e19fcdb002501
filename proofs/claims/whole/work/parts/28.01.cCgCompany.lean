set_option maxRecDepth 100000 in
set_option maxHeartbeats 4000000 in
theorem cC_gCompany (d q : Nat) (hq5 : q < 5) (g : Int → Int → Int) (w o lo hi : Int) (m : sd_M) (hw : -1000 ≤ w ∧ w ≤ 1000) (ho : -1000 ≤ o ∧ o ≤ 1000) (hlh : -1 ≤ lo ∧ lo < hi ∧ hi ≤ 1) (hs : 0 < w → 0 < o → sd_Ct sd_SC d sY0_behindSteps [.inr 49, .inl ((q + 1 : Nat) : Int), .inl w, .inl o, .inl lo, .inl hi] m (fun r m' => m' = m ∧ ∃ z, r = some (.inl z) ∧ sd_Cl lo hi (g w o) z)) : sd_Ct sd_SC (d + 1) sY0_behindCompany [.inr 49, .inl (q : Int), .inl w, .inl o, .inl lo, .inl hi] m (fun r m' => m' = m ∧ ∃ z, r = some (.inl z) ∧ sd_Cl lo hi (sd_pC g w o) z) := by
  refine sd_ct rfl (Nat.le_of_ble_eq_true rfl) (fun hok hm => ?_)
  show sd_Wp sd_SC (d + 1) sY0_behindCompany 0 [some (.inr 49), some (.inl (q : Int)), some (.inl w), some (.inl o), some (.inl lo), some (.inl hi)] [] m _
  refine sd_iload_n sD0_behindCompany_0 rfl ?_
  refine sd_if_gt (tgt := 6) sD0_behindCompany_1 (by decide) (fun zc1 => ?_) (fun zc1 => ?_)
  ·
    refine sd_iload_n sD0_behindCompany_6 rfl ?_
    refine sd_if_gt (tgt := 14) sD0_behindCompany_7 (by decide) (fun zc7 => ?_) (fun zc7 => ?_)
    ·
      refine sd_aload_n sD0_behindCompany_14 rfl ?_
      refine sd_iload_n sD0_behindCompany_15 rfl ?_
      refine sd_iconst sD0_behindCompany_16 (by decide) ?_
      refine sd_iadd (z := ((q + 1 : Nat) : Int)) sD0_behindCompany_17 (by omega) (by omega) ?_
      refine sd_iload_n sD0_behindCompany_18 rfl ?_
      refine sd_iload_n sD0_behindCompany_19 rfl ?_
      refine sd_iload sD0_behindCompany_20 rfl ?_
      refine sd_iload sD0_behindCompany_22 rfl ?_
      refine sd_callVx (as := [.inl ((q + 1 : Nat) : Int), .inl w, .inl o, .inl lo, .inl hi]) (st := []) sD0_behindCompany_24 sM0_33 sOC49 rfl rfl rfl (by omega) (Nat.le_of_ble_eq_true rfl) (hs (by omega) (by omega)) (fun z24_1 hz24_1 => ?_)
      refine sd_ireturn sD0_behindCompany_27 rfl (fun hr hm => ?_)
      (refine ⟨rfl, _, rfl, ?_⟩; unfold sd_pC; (repeat (first | rw [if_pos (by omega)] | rw [if_neg (by omega)])); first | assumption | omega)
    ·
      refine sd_iconst sD0_behindCompany_10 (by decide) ?_
      refine sd_goto (tgt := 27) sD0_behindCompany_11 (by decide) ?_
      refine sd_ireturn sD0_behindCompany_27 rfl (fun hr hm => ?_)
      (refine ⟨rfl, _, rfl, ?_⟩; unfold sd_pC; (repeat (first | rw [if_pos (by omega)] | rw [if_neg (by omega)])); first | assumption | omega)
  ·
    refine sd_iconst sD0_behindCompany_4 (by decide) ?_
    refine sd_ireturn sD0_behindCompany_5 rfl (fun hr hm => ?_)
    (refine ⟨rfl, _, rfl, ?_⟩; unfold sd_pC; (repeat (first | rw [if_pos (by omega)] | rw [if_neg (by omega)])); first | assumption | omega)
