set_option maxRecDepth 100000 in
set_option maxHeartbeats 4000000 in
theorem cC_become_gameK (x m : sd_M) (hx0 : sd_ns x m) : sd_Ct sd_SC 2 sY0_become [.inr 103, .inr 49] m (fun r m' => r = none ∧ sd_ns (sd_mov x [(6526, 7526, 6), (6520, 7520, 6)]) m') := by
  refine sd_ct rfl (Nat.le_of_ble_eq_true rfl) (fun hok hm => ?_)
  have hx : sd_ns (sd_mov x []) m := hx0
  show sd_Wp sd_SC 2 sY0_become 0 [some (.inr 103), some (.inr 49)] [] m _
  refine sd_aload_n sD0_become_0 rfl ?_
  refine sd_getfr sD0_become_1 sF0_9 sGC49_0 ?_
  refine sd_aload_n sD0_become_4 rfl ?_
  refine sd_getfr sD0_become_5 sF0_9 sGC103_0 ?_
  refine sd_callN (as := [.inr 46, .inr 100]) (st := []) sD0_become_8 sM0_25 rfl rfl (by decide) (Nat.le_of_ble_eq_true rfl) (cC_copyRow sAC46 sAC100 (by decide) m) (fun r m hq ho8 hm => ?_)
  obtain ⟨rfl, hq⟩ := hq
  have hx : sd_ns (sd_mov x [(6520, 7520, 6)]) m := by rw [hq]; exact sd_nseq (fun j => congrFun (sd_mov_cons (x := x) (L := []) (s := 6520) (d := 7520) (n := 6) (by decide +kernel)) j) (hx.cpm _ (by decide))
  show sd_Wp sd_SC 2 sY0_become 11 [some (.inr 103), some (.inr 49)] [] m _
  refine sd_aload_n sD0_become_11 rfl ?_
  refine sd_getfr sD0_become_12 sF0_15 sGC49_1 ?_
  refine sd_aload_n sD0_become_15 rfl ?_
  refine sd_getfr sD0_become_16 sF0_15 sGC103_1 ?_
  refine sd_callN (as := [.inr 47, .inr 101]) (st := []) sD0_become_19 sM0_25 rfl rfl (by decide) (Nat.le_of_ble_eq_true rfl) (cC_copyRow sAC47 sAC101 (by decide) m) (fun r m hq ho19 hm => ?_)
  obtain ⟨rfl, hq⟩ := hq
  have hx : sd_ns (sd_mov x [(6526, 7526, 6), (6520, 7520, 6)]) m := by rw [hq]; exact sd_nseq (fun j => congrFun (sd_mov_cons (x := x) (L := [(6520, 7520, 6)]) (s := 6526) (d := 7526) (n := 6) (by decide +kernel)) j) (hx.cpm _ (by decide))
  show sd_Wp sd_SC 2 sY0_become 22 [some (.inr 103), some (.inr 49)] [] m _
  refine sd_vreturn sD0_become_22 rfl (fun hm => ?_)
  exact ⟨rfl, hx⟩
