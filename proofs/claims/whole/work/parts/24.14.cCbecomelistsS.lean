set_option maxRecDepth 100000 in
set_option maxHeartbeats 4000000 in
theorem cC_become_listsS (x m : sd_M) (hx0 : sd_ns x m) : sd_Ct sd_SC 2 sY2_become [.inr 45, .inr 99] m (fun r m' => r = none ∧ sd_ns (sd_mov x [(7506, 6506, 6), (7500, 6500, 6)]) m') := by
  refine sd_ct rfl (Nat.le_of_ble_eq_true rfl) (fun hok hm => ?_)
  have hx : sd_ns (sd_mov x []) m := hx0
  show sd_Wp sd_SC 2 sY2_become 0 [some (.inr 45), some (.inr 99)] [] m _
  refine sd_aload_n sD2_become_0 rfl ?_
  refine sd_getfr sD2_become_1 sF2_9 sGC99_0 ?_
  refine sd_aload_n sD2_become_4 rfl ?_
  refine sd_getfr sD2_become_5 sF2_9 sGC45_0 ?_
  refine sd_callN (as := [.inr 97, .inr 43]) (st := []) sD2_become_8 sM2_18 rfl rfl (by decide) (Nat.le_of_ble_eq_true rfl) (cC_copyRow sAC97 sAC43 (by decide) m) (fun r m hq ho8 hm => ?_)
  obtain ⟨rfl, hq⟩ := hq
  have hx : sd_ns (sd_mov x [(7500, 6500, 6)]) m := by rw [hq]; exact sd_nseq (fun j => congrFun (sd_mov_cons (x := x) (L := []) (s := 7500) (d := 6500) (n := 6) (by decide +kernel)) j) (hx.cpm _ (by decide))
  show sd_Wp sd_SC 2 sY2_become 11 [some (.inr 45), some (.inr 99)] [] m _
  refine sd_aload_n sD2_become_11 rfl ?_
  refine sd_getfr sD2_become_12 sF2_15 sGC99_1 ?_
  refine sd_aload_n sD2_become_15 rfl ?_
  refine sd_getfr sD2_become_16 sF2_15 sGC45_1 ?_
  refine sd_callN (as := [.inr 98, .inr 44]) (st := []) sD2_become_19 sM2_18 rfl rfl (by decide) (Nat.le_of_ble_eq_true rfl) (cC_copyRow sAC98 sAC44 (by decide) m) (fun r m hq ho19 hm => ?_)
  obtain ⟨rfl, hq⟩ := hq
  have hx : sd_ns (sd_mov x [(7506, 6506, 6), (7500, 6500, 6)]) m := by rw [hq]; exact sd_nseq (fun j => congrFun (sd_mov_cons (x := x) (L := [(7500, 6500, 6)]) (s := 7506) (d := 6506) (n := 6) (by decide +kernel)) j) (hx.cpm _ (by decide))
  show sd_Wp sd_SC 2 sY2_become 22 [some (.inr 45), some (.inr 99)] [] m _
  refine sd_vreturn sD2_become_22 rfl (fun hm => ?_)
  exact ⟨rfl, hx⟩
