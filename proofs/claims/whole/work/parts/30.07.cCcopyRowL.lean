set_option maxRecDepth 100000 in
set_option maxHeartbeats 4000000 in
theorem cC_copyRowL {k0 k b0 b n0 nn : Nat} (hg0 : sd_ga sd_SC k0 b0 n0) (hg : sd_ga sd_SC k b nn) (hn : n0 ≤ 2000) (hl : nn ≤ n0) (m : sd_M) : sd_Ct sd_SC 1 sY10_copyRow [.inr k0, .inr k] m (fun r m' => r = none ∧ m' = sd_cpm m b0 b nn) := by
  refine sd_ct rfl (Nat.le_of_ble_eq_true rfl) (fun hok hm => ?_)
  show sd_Wp sd_SC 1 sY10_copyRow 0 [some (.inr k0), some (.inr k)] [] m _
  refine sd_aload_n sD10_copyRow_0 rfl ?_
  refine sd_iconst sD10_copyRow_1 (by decide) ?_
  refine sd_aload_n sD10_copyRow_2 rfl ?_
  refine sd_iconst sD10_copyRow_3 (by decide) ?_
  refine sd_aload_n sD10_copyRow_4 rfl ?_
  refine sd_alen sD10_copyRow_5 hg0 (by omega) ?_
  refine sd_aload_n sD10_copyRow_6 rfl ?_
  refine sd_alen sD10_copyRow_7 hg (by omega) ?_
  refine sd_mmin sD10_copyRow_8 sM10_134 (by decide) (Nat.le_of_ble_eq_true rfl) ?_
  refine sd_acopy (sa := b0) (da := b) (cnt := nn) sd_sokC sD10_copyRow_11 sK10_369_ac hg0 hg (by decide) (Nat.le_of_ble_eq_true rfl) (by omega) ?_
  refine sd_vreturn sD10_copyRow_14 rfl (fun hm => ?_)
  exact ⟨rfl, rfl⟩
theorem sd_ns.cpmc {x m : sd_M} (h : sd_ns x m) {sa da cnt : Nat} (ha : 5000 ≤ da ∧ da + cnt ≤ 6000) : sd_ns x (sd_cpm m sa da cnt) := by
  intro j hj
  unfold sd_cpm
  rw [if_neg (by omega)]
  exact h j hj
