set_option maxRecDepth 100000 in
set_option maxHeartbeats 4000000 in
theorem cC_become_menS (x m : sd_M) (hx0 : sd_ns x m) : sd_Ct sd_SC 2 sY3_become [.inr 18, .inr 72] m (fun r m' => r = none ∧ sd_ns (sd_mov x [(2370, 370, 16), (2354, 354, 16), (2338, 338, 16), (2322, 322, 16), (2003, 3, 1)]) m') := by
  refine sd_ct rfl (Nat.le_of_ble_eq_true rfl) (fun hok hm => ?_)
  have hx : sd_ns (sd_mov x []) m := hx0
  show sd_Wp sd_SC 2 sY3_become 0 [some (.inr 18), some (.inr 72)] [] m _
  refine sd_aload_n sD3_become_0 rfl ?_
  refine sd_aload_n sD3_become_1 rfl ?_
  refine sd_getfx (v := x 2003) hx sD3_become_2 sF3_9 sGC72_0 (by decide) rfl ?_
  refine sd_putfx sd_sokC sd_oneC hx sD3_become_5 sF3_9 sGC18_0 (Or.inl rfl) (fun m hx em5 => ?_)
  have hx : sd_ns (sd_mov x [(2003, 3, 1)]) m := sd_nseq (fun j => congrFun (sd_mov_up (x := x) (L := []) (s := 2003) (d := 3)) j) hx
  refine sd_aload_n sD3_become_8 rfl ?_
  refine sd_getfr sD3_become_9 sF3_15 sGC72_1 ?_
  refine sd_aload_n sD3_become_12 rfl ?_
  refine sd_getfr sD3_become_13 sF3_15 sGC18_1 ?_
  refine sd_callN (as := [.inr 68, .inr 14]) (st := []) sD3_become_16 sM3_28 rfl rfl (by decide) (Nat.le_of_ble_eq_true rfl) (cC_copyRow sAC68 sAC14 (by decide) m) (fun r m hq ho16 hm => ?_)
  obtain ⟨rfl, hq⟩ := hq
  have hx : sd_ns (sd_mov x [(2322, 322, 16), (2003, 3, 1)]) m := by rw [hq]; exact sd_nseq (fun j => congrFun (sd_mov_cons (x := x) (L := [(2003, 3, 1)]) (s := 2322) (d := 322) (n := 16) (by decide +kernel)) j) (hx.cpm _ (by decide))
  show sd_Wp sd_SC 2 sY3_become 19 [some (.inr 18), some (.inr 72)] [] m _
  refine sd_aload_n sD3_become_19 rfl ?_
  refine sd_getfr sD3_become_20 sF3_19 sGC72_2 ?_
  refine sd_aload_n sD3_become_23 rfl ?_
  refine sd_getfr sD3_become_24 sF3_19 sGC18_2 ?_
  refine sd_callN (as := [.inr 69, .inr 15]) (st := []) sD3_become_27 sM3_28 rfl rfl (by decide) (Nat.le_of_ble_eq_true rfl) (cC_copyRow sAC69 sAC15 (by decide) m) (fun r m hq ho27 hm => ?_)
  obtain ⟨rfl, hq⟩ := hq
  have hx : sd_ns (sd_mov x [(2338, 338, 16), (2322, 322, 16), (2003, 3, 1)]) m := by rw [hq]; exact sd_nseq (fun j => congrFun (sd_mov_cons (x := x) (L := [(2322, 322, 16), (2003, 3, 1)]) (s := 2338) (d := 338) (n := 16) (by decide +kernel)) j) (hx.cpm _ (by decide))
  show sd_Wp sd_SC 2 sY3_become 30 [some (.inr 18), some (.inr 72)] [] m _
  refine sd_aload_n sD3_become_30 rfl ?_
  refine sd_getfr sD3_become_31 sF3_22 sGC72_3 ?_
  refine sd_aload_n sD3_become_34 rfl ?_
  refine sd_getfr sD3_become_35 sF3_22 sGC18_3 ?_
  refine sd_callN (as := [.inr 70, .inr 16]) (st := []) sD3_become_38 sM3_28 rfl rfl (by decide) (Nat.le_of_ble_eq_true rfl) (cC_copyRow sAC70 sAC16 (by decide) m) (fun r m hq ho38 hm => ?_)
  obtain ⟨rfl, hq⟩ := hq
  have hx : sd_ns (sd_mov x [(2354, 354, 16), (2338, 338, 16), (2322, 322, 16), (2003, 3, 1)]) m := by rw [hq]; exact sd_nseq (fun j => congrFun (sd_mov_cons (x := x) (L := [(2338, 338, 16), (2322, 322, 16), (2003, 3, 1)]) (s := 2354) (d := 354) (n := 16) (by decide +kernel)) j) (hx.cpm _ (by decide))
  show sd_Wp sd_SC 2 sY3_become 41 [some (.inr 18), some (.inr 72)] [] m _
  refine sd_aload_n sD3_become_41 rfl ?_
  refine sd_getfr sD3_become_42 sF3_25 sGC72_4 ?_
  refine sd_aload_n sD3_become_45 rfl ?_
  refine sd_getfr sD3_become_46 sF3_25 sGC18_4 ?_
  refine sd_callN (as := [.inr 71, .inr 17]) (st := []) sD3_become_49 sM3_28 rfl rfl (by decide) (Nat.le_of_ble_eq_true rfl) (cC_copyRow sAC71 sAC17 (by decide) m) (fun r m hq ho49 hm => ?_)
  obtain ⟨rfl, hq⟩ := hq
  have hx : sd_ns (sd_mov x [(2370, 370, 16), (2354, 354, 16), (2338, 338, 16), (2322, 322, 16), (2003, 3, 1)]) m := by rw [hq]; exact sd_nseq (fun j => congrFun (sd_mov_cons (x := x) (L := [(2354, 354, 16), (2338, 338, 16), (2322, 322, 16), (2003, 3, 1)]) (s := 2370) (d := 370) (n := 16) (by decide +kernel)) j) (hx.cpm _ (by decide))
  show sd_Wp sd_SC 2 sY3_become 52 [some (.inr 18), some (.inr 72)] [] m _
  refine sd_vreturn sD3_become_52 rfl (fun hm => ?_)
  exact ⟨rfl, hx⟩
