set_option maxRecDepth 100000 in
set_option maxHeartbeats 4000000 in
theorem cC_plan2 (w v : Int) (n : Nat) (x m : sd_M) (hx : sd_ns x m) (h9 : sd_L9 x) (hw : 1 ≤ w ∧ w ≤ 99) (hv : 1 ≤ v ∧ v ≤ 99) (hn : 1 ≤ n ∧ n ≤ 5) (hk : ∀ q, q < n → 0 ≤ sd_pl8 x 2 q ∧ sd_pl8 x 2 q ≤ 2) : sd_Ct sd_SC 16 sY0_playAsPlanned [.inr 49, .inr 112, .inl (n : Int), .inl w, .inl v] m (fun r m' => r = some (.inl (sd_pv x (sd_pl8 x 2) n n w v)) ∧ sd_ns x m') := by
  refine sd_ct rfl (Nat.le_of_ble_eq_true rfl) (fun hok hm => ?_)
  show sd_Wp sd_SC 16 sY0_playAsPlanned 0 [some (.inr 49), some (.inr 112), some (.inl (n : Int)), some (.inl w), some (.inl v)] [] m _
  refine sd_aload_n sD0_playAsPlanned_0 rfl ?_
  refine sd_aload_n sD0_playAsPlanned_1 rfl ?_
  refine sd_getfr sD0_playAsPlanned_2 sF0_18 sGC49_2 ?_
  refine sd_callN (as := [.inr 112, .inr 48]) (st := []) sD0_playAsPlanned_5 sM0_25 rfl rfl (by decide) (Nat.le_of_ble_eq_true rfl) (cC_copyRowL sAC112 sAC48 (by decide) (by decide) m) (fun r m hq ho5 hm => ?_)
  have hx0 := hx
  obtain ⟨rfl, hcp⟩ := hq
  replace hx : sd_ns x m := by rw [hcp]; exact hx.cpmc (by decide)
  show sd_Wp sd_SC 16 sY0_playAsPlanned 8 [some (.inr 49), some (.inr 112), some (.inl (n : Int)), some (.inl w), some (.inl v)] [] m _
  refine sd_aload_n sD0_playAsPlanned_8 rfl ?_
  refine sd_iload_n sD0_playAsPlanned_9 rfl ?_
  refine sd_putfc sd_sokC sd_oneC hx sD0_playAsPlanned_10 sF0_21 sGC49_3 (by decide) (Or.inl rfl) (fun m hx em10 => ?_)
  refine sd_aload_n sD0_playAsPlanned_13 rfl ?_
  refine sd_iconst sD0_playAsPlanned_14 (by decide) ?_
  refine sd_iload_n sD0_playAsPlanned_15 rfl ?_
  refine sd_iload sD0_playAsPlanned_16 rfl ?_
  refine sd_iconst sD0_playAsPlanned_18 (by decide) ?_
  refine sd_iconst sD0_playAsPlanned_19 (by decide) ?_
  refine sd_callVp (as := [.inl 0, .inl w, .inl v, .inl (-1), .inl 1]) (st := []) (v := .inl (sd_pv x (sd_pl8 x 2) n n w v)) sD0_playAsPlanned_20 sM0_33 sOC49 rfl rfl rfl (by decide) (Nat.le_of_ble_eq_true rfl) (cC_gTop x m hx h9 n (by omega) (sd_pl8 x 2) (by rw [em10]; unfold sd_up; rw [if_pos rfl]) (fun q hq => ⟨by rw [em10, hcp]; unfold sd_up sd_cpm; rw [if_neg (by omega), if_pos (by omega), hx0 _ (by omega)]; unfold sd_pl8; congr 1; omega, by have := hk q hq; omega⟩) w v hw hv) (fun ho20 => ?_)
  refine sd_ireturn sD0_playAsPlanned_23 rfl (fun hr hm => ?_)
  exact ⟨rfl, hx⟩
