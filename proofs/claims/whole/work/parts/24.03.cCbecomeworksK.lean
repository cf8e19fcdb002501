set_option maxRecDepth 100000 in
set_option maxHeartbeats 4000000 in
theorem cC_become_worksK (x m : sd_M) (hx0 : sd_ns x m) : sd_Ct sd_SC 2 sY9_become [.inr 77, .inr 23] m (fun r m' => r = none ∧ sd_ns (sd_mov x [(392, 2392, 36), (386, 2386, 6), (8, 2008, 1), (4, 2004, 1)]) m') := by
  refine sd_ct rfl (Nat.le_of_ble_eq_true rfl) (fun hok hm => ?_)
  have hx : sd_ns (sd_mov x []) m := hx0
  show sd_Wp sd_SC 2 sY9_become 0 [some (.inr 77), some (.inr 23)] [] m _
  refine sd_aload_n sD9_become_0 rfl ?_
  refine sd_aload_n sD9_become_1 rfl ?_
  refine sd_getfx (v := x 4) hx sD9_become_2 sF9_9 sGC23_0 (by decide) rfl ?_
  refine sd_putfx sd_sokC sd_oneC hx sD9_become_5 sF9_9 sGC77_0 (Or.inl rfl) (fun m hx em5 => ?_)
  have hx : sd_ns (sd_mov x [(4, 2004, 1)]) m := sd_nseq (fun j => congrFun (sd_mov_up (x := x) (L := []) (s := 4) (d := 2004)) j) hx
  refine sd_aload_n sD9_become_8 rfl ?_
  refine sd_aload_n sD9_become_9 rfl ?_
  refine sd_getfx (v := x 8) hx sD9_become_10 sF9_15 sGC23_1 (by decide) (by simp only [sd_mov]; repeat (rw [if_neg (by omega)])) ?_
  refine sd_putfx sd_sokC sd_oneC hx sD9_become_13 sF9_15 sGC77_1 (Or.inl rfl) (fun m hx em13 => ?_)
  have hx : sd_ns (sd_mov x [(8, 2008, 1), (4, 2004, 1)]) m := sd_nseq (fun j => congrFun (sd_mov_up (x := x) (L := [(4, 2004, 1)]) (s := 8) (d := 2008)) j) hx
  refine sd_aload_n sD9_become_16 rfl ?_
  refine sd_getfr sD9_become_17 sF9_18 sGC23_2 ?_
  refine sd_aload_n sD9_become_20 rfl ?_
  refine sd_getfr sD9_become_21 sF9_18 sGC77_2 ?_
  refine sd_callN (as := [.inr 19, .inr 73]) (st := []) sD9_become_24 sM9_31 rfl rfl (by decide) (Nat.le_of_ble_eq_true rfl) (cC_copyRow sAC19 sAC73 (by decide) m) (fun r m hq ho24 hm => ?_)
  obtain ⟨rfl, hq⟩ := hq
  have hx : sd_ns (sd_mov x [(386, 2386, 6), (8, 2008, 1), (4, 2004, 1)]) m := by rw [hq]; exact sd_nseq (fun j => congrFun (sd_mov_cons (x := x) (L := [(8, 2008, 1), (4, 2004, 1)]) (s := 386) (d := 2386) (n := 6) (by decide +kernel)) j) (hx.cpm _ (by decide))
  show sd_Wp sd_SC 2 sY9_become 27 [some (.inr 77), some (.inr 23)] [] m _
  refine sd_aload_n sD9_become_27 rfl ?_
  refine sd_getfr sD9_become_28 sF9_22 sGC23_3 ?_
  refine sd_aload_n sD9_become_31 rfl ?_
  refine sd_getfr sD9_become_32 sF9_22 sGC77_3 ?_
  refine sd_callN (as := [.inr 20, .inr 74]) (st := []) sD9_become_35 sM9_31 rfl rfl (by decide) (Nat.le_of_ble_eq_true rfl) (cC_copyRow sAC20 sAC74 (by decide) m) (fun r m hq ho35 hm => ?_)
  obtain ⟨rfl, hq⟩ := hq
  have hx : sd_ns (sd_mov x [(392, 2392, 36), (386, 2386, 6), (8, 2008, 1), (4, 2004, 1)]) m := by rw [hq]; exact sd_nseq (fun j => congrFun (sd_mov_cons (x := x) (L := [(386, 2386, 6), (8, 2008, 1), (4, 2004, 1)]) (s := 392) (d := 2392) (n := 36) (by decide +kernel)) j) (hx.cpm _ (by decide))
  show sd_Wp sd_SC 2 sY9_become 38 [some (.inr 77), some (.inr 23)] [] m _
  refine sd_vreturn sD9_become_38 rfl (fun hm => ?_)
  exact ⟨rfl, hx⟩
