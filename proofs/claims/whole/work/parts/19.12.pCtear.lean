set_option maxRecDepth 100000 in
set_option maxHeartbeats 4000000 in
theorem pC_tear (x m : sd_M) (hx : sd_ns x m)  (hF : ∀ k : Nat, k < 7 → 0 ≤ x (4101 + k) ∧ x (4101 + k) ≤ 1000000) (hk : x 4260 = 0 ∨ x 4260 = 1) : sd_Ct sd_SC 1 sY10_tear [.inr 120] m (sd_Qp (sp_tear x)) := by
  refine sd_ct rfl (Nat.le_of_ble_eq_true rfl) (fun hok hm => ?_)
  show sd_Wp sd_SC 1 sY10_tear 0 [some (.inr 120), none] [] m _
  refine sd_aload_n sD10_tear_0 rfl ?_
  refine sd_getfx (v := x 4260) hx sD10_tear_1 sF10_36 sGC120_5 (by decide) rfl ?_
  rcases (show x 4260 = 0 ∨ x 4260 = 1 by exact hk) with zs4 | zs4
  ·
    refine sd_eqs (ls' := [some (.inr 120), none]) (st' := [.inl 0]) ?_ rfl (by rw [zs4])
    refine sd_callSp (as := [.inl 0]) (st := []) (v := .inl (sd_b False)) sD10_tear_4 sM10_79 rfl rfl (by decide) (Nat.le_of_ble_eq_true rfl) (cC_asNumber (False) m) (fun ho4 => ?_)
    refine sd_istore_n (ls' := [some (.inr 120), some (.inl (sd_b False))]) sD10_tear_7 (by decide) rfl ?_
    refine sd_aload_n sD10_tear_8 rfl ?_
    refine sd_iconst sD10_tear_9 (by decide) ?_
    refine sd_putfx sd_sokC sd_oneC hx sD10_tear_10 sF10_36 sGC120_5 (Or.inr ⟨rfl, by decide⟩) (fun m hx em10 => ?_)
    refine sd_iload_n sD10_tear_13 rfl ?_
    refine sd_ireturn sD10_tear_14 rfl (fun hr hm => ?_)
    exact sd_done (by unfold sp_tear; first | rfl | (rw [zs4]; done) | (rw [zs4]; rfl)) hx
  ·
    refine sd_eqs (ls' := [some (.inr 120), none]) (st' := [.inl 1]) ?_ rfl (by rw [zs4])
    refine sd_callSp (as := [.inl 1]) (st := []) (v := .inl (sd_b True)) sD10_tear_4 sM10_79 rfl rfl (by decide) (Nat.le_of_ble_eq_true rfl) (cC_asNumber (True) m) (fun ho4 => ?_)
    refine sd_istore_n (ls' := [some (.inr 120), some (.inl (sd_b True))]) sD10_tear_7 (by decide) rfl ?_
    refine sd_aload_n sD10_tear_8 rfl ?_
    refine sd_iconst sD10_tear_9 (by decide) ?_
    refine sd_putfx sd_sokC sd_oneC hx sD10_tear_10 sF10_36 sGC120_5 (Or.inr ⟨rfl, by decide⟩) (fun m hx em10 => ?_)
    refine sd_iload_n sD10_tear_13 rfl ?_
    refine sd_ireturn sD10_tear_14 rfl (fun hr hm => ?_)
    exact sd_done (by unfold sp_tear; first | rfl | (rw [zs4]; done) | (rw [zs4]; rfl)) hx
