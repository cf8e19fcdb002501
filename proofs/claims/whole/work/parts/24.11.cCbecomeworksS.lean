set_option maxRecDepth 100000 in
set_option maxHeartbeats 4000000 in
theorem cC_become_worksS (x m : sd_M) (hx0 : sd_ns x m) : sd_Ct sd_SC 2 sY9_become [.inr 23, .inr 77] m (fun r m' => r = none ∧ sd_ns (sd_mov x [(2392, 392, 36), (2386, 386, 6), (2008, 8, 1), (2004, 4, 1)]) m') := by
  refine sd_ct rfl (Nat.le_of_ble_eq_true rfl) (fun hok hm => ?_)
  have hx : sd_ns (sd_mov x []) m := hx0
  show sd_Wp sd_SC 2 sY9_become 0 [some (.inr 23), some (.inr 77)] [] m _
  refine sd_aload_n sD9_become_0 rfl ?_
  refine sd_aload_n sD9_become_1 rfl ?_
  refine sd_getfx (v := x 2004) hx sD9_become_2 sF9_9 sGC77_0 (by decide) rfl ?_
  refine sd_putfx sd_sokC sd_oneC hx sD9_become_5 sF9_9 sGC23_0 (Or.inl rfl) (fun m hx em5 => ?_)
  have hx : sd_ns (sd_mov x [(2004, 4, 1)]) m := sd_nseq (fun j => congrFun (sd_mov_up (x := x) (L := []) (s := 2004) (d := 4)) j) hx
  refine sd_aload_n sD9_become_8 rfl ?_
  refine sd_aload_n sD9_become_9 rfl ?_
  refine sd_getfx (v := x 2008) hx sD9_become_10 sF9_15 sGC77_1 (by decide) (by simp only [sd_mov]; repeat (rw [if_neg (by omega)])) ?_
  refine sd_putfx sd_sokC sd_oneC hx sD9_become_13 sF9_15 sGC23_1 (Or.inl rfl) (fun m hx em13 => ?_)
  have hx : sd_ns (sd_mov x [(2008, 8, 1), (2004, 4, 1)]) m := sd_nseq (fun j => congrFun (sd_mov_up (x := x) (L := [(2004, 4, 1)]) (s := 2008) (d := 8)) j) hx
  refine sd_aload_n sD9_become_16 rfl ?_
  refine sd_getfr sD9_become_17 sF9_18 sGC77_2 ?_
  refine sd_aload_n sD9_become_20 rfl ?_
  refine sd_getfr sD9_become_21 sF9_18 sGC23_2 ?_
  refine sd_callN (as := [.inr 73, .inr 19]) (st := []) sD9_become_24 sM9_31 rfl rfl (by decide) (Nat.le_of_ble_eq_true rfl) (cC_copyRow sAC73 sAC19 (by decide) m) (fun r m hq ho24 hm => ?_)
  obtain ⟨rfl, hq⟩ := hq
  have hx : sd_ns (sd_mov x [(2386, 386, 6), (2008, 8, 1), (2004, 4, 1)]) m := by rw [hq]; exact sd_nseq (fun j => congrFun (sd_mov_cons (x := x) (L := [(2008, 8, 1), (2004, 4, 1)]) (s := 2386) (d := 386) (n := 6) (by decide +kernel)) j) (hx.cpm _ (by decide))
  show sd_Wp sd_SC 2 sY9_become 27 [some (.inr 23), some (.inr 77)] [] m _
  refine sd_aload_n sD9_become_27 rfl ?_
  refine sd_getfr sD9_become_28 sF9_22 sGC77_3 ?_
  refine sd_aload_n sD9_become_31 rfl ?_
  refine sd_getfr sD9_become_32 sF9_22 sGC23_3 ?_
  refine sd_callN (as := [.inr 74, .inr 20]) (st := []) sD9_become_35 sM9_31 rfl rfl (by decide) (Nat.le_of_ble_eq_true rfl) (cC_copyRow sAC74 sAC20 (by decide) m) (fun r m hq ho35 hm => ?_)
  obtain ⟨rfl, hq⟩ := hq
  have hx : sd_ns (sd_mov x [(2392, 392, 36), (2386, 386, 6), (2008, 8, 1), (2004, 4, 1)]) m := by rw [hq]; exact sd_nseq (fun j => congrFun (sd_mov_cons (x := x) (L := [(2386, 386, 6), (2008, 8, 1), (2004, 4, 1)]) (s := 2392) (d := 392) (n := 36) (by decide +kernel)) j) (hx.cpm _ (by decide))
  show sd_Wp sd_SC 2 sY9_become 38 [some (.inr 23), some (.inr 77)] [] m _
  refine sd_vreturn sD9_become_38 rfl (fun hm => ?_)
  exact ⟨rfl, hx⟩
