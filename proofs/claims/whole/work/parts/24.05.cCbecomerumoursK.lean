set_option maxRecDepth 100000 in
set_option maxHeartbeats 4000000 in
theorem cC_become_rumoursK (x m : sd_M) (hx0 : sd_ns x m) : sd_Ct sd_SC 2 sY4_become [.inr 96, .inr 42] m (fun r m' => r = none ∧ sd_ns (sd_mov x [(1284, 3284, 6), (1278, 3278, 6), (1272, 3272, 6), (7, 2007, 1), (6, 2006, 1)]) m') := by
  refine sd_ct rfl (Nat.le_of_ble_eq_true rfl) (fun hok hm => ?_)
  have hx : sd_ns (sd_mov x []) m := hx0
  show sd_Wp sd_SC 2 sY4_become 0 [some (.inr 96), some (.inr 42)] [] m _
  refine sd_aload_n sD4_become_0 rfl ?_
  refine sd_aload_n sD4_become_1 rfl ?_
  refine sd_getfx (v := x 6) hx sD4_become_2 sF4_9 sGC42_0 (by decide) rfl ?_
  refine sd_putfx sd_sokC sd_oneC hx sD4_become_5 sF4_9 sGC96_0 (Or.inl rfl) (fun m hx em5 => ?_)
  have hx : sd_ns (sd_mov x [(6, 2006, 1)]) m := sd_nseq (fun j => congrFun (sd_mov_up (x := x) (L := []) (s := 6) (d := 2006)) j) hx
  refine sd_aload_n sD4_become_8 rfl ?_
  refine sd_aload_n sD4_become_9 rfl ?_
  refine sd_getfx (v := x 7) hx sD4_become_10 sF4_15 sGC42_1 (by decide) (by simp only [sd_mov]; repeat (rw [if_neg (by omega)])) ?_
  refine sd_putfx sd_sokC sd_oneC hx sD4_become_13 sF4_15 sGC96_1 (Or.inl rfl) (fun m hx em13 => ?_)
  have hx : sd_ns (sd_mov x [(7, 2007, 1), (6, 2006, 1)]) m := sd_nseq (fun j => congrFun (sd_mov_up (x := x) (L := [(6, 2006, 1)]) (s := 7) (d := 2007)) j) hx
  refine sd_aload_n sD4_become_16 rfl ?_
  refine sd_getfr sD4_become_17 sF4_18 sGC42_2 ?_
  refine sd_aload_n sD4_become_20 rfl ?_
  refine sd_getfr sD4_become_21 sF4_18 sGC96_2 ?_
  refine sd_callN (as := [.inr 37, .inr 91]) (st := []) sD4_become_24 sM4_34 rfl rfl (by decide) (Nat.le_of_ble_eq_true rfl) (cC_copyRow sAC37 sAC91 (by decide) m) (fun r m hq ho24 hm => ?_)
  obtain ⟨rfl, hq⟩ := hq
  have hx : sd_ns (sd_mov x [(1272, 3272, 6), (7, 2007, 1), (6, 2006, 1)]) m := by rw [hq]; exact sd_nseq (fun j => congrFun (sd_mov_cons (x := x) (L := [(7, 2007, 1), (6, 2006, 1)]) (s := 1272) (d := 3272) (n := 6) (by decide +kernel)) j) (hx.cpm _ (by decide))
  show sd_Wp sd_SC 2 sY4_become 27 [some (.inr 96), some (.inr 42)] [] m _
  refine sd_aload_n sD4_become_27 rfl ?_
  refine sd_getfr sD4_become_28 sF4_22 sGC42_3 ?_
  refine sd_aload_n sD4_become_31 rfl ?_
  refine sd_getfr sD4_become_32 sF4_22 sGC96_3 ?_
  refine sd_callN (as := [.inr 38, .inr 92]) (st := []) sD4_become_35 sM4_34 rfl rfl (by decide) (Nat.le_of_ble_eq_true rfl) (cC_copyRow sAC38 sAC92 (by decide) m) (fun r m hq ho35 hm => ?_)
  obtain ⟨rfl, hq⟩ := hq
  have hx : sd_ns (sd_mov x [(1278, 3278, 6), (1272, 3272, 6), (7, 2007, 1), (6, 2006, 1)]) m := by rw [hq]; exact sd_nseq (fun j => congrFun (sd_mov_cons (x := x) (L := [(1272, 3272, 6), (7, 2007, 1), (6, 2006, 1)]) (s := 1278) (d := 3278) (n := 6) (by decide +kernel)) j) (hx.cpm _ (by decide))
  show sd_Wp sd_SC 2 sY4_become 38 [some (.inr 96), some (.inr 42)] [] m _
  refine sd_aload_n sD4_become_38 rfl ?_
  refine sd_getfr sD4_become_39 sF4_25 sGC42_4 ?_
  refine sd_aload_n sD4_become_42 rfl ?_
  refine sd_getfr sD4_become_43 sF4_25 sGC96_4 ?_
  refine sd_callN (as := [.inr 39, .inr 93]) (st := []) sD4_become_46 sM4_34 rfl rfl (by decide) (Nat.le_of_ble_eq_true rfl) (cC_copyRow sAC39 sAC93 (by decide) m) (fun r m hq ho46 hm => ?_)
  obtain ⟨rfl, hq⟩ := hq
  have hx : sd_ns (sd_mov x [(1284, 3284, 6), (1278, 3278, 6), (1272, 3272, 6), (7, 2007, 1), (6, 2006, 1)]) m := by rw [hq]; exact sd_nseq (fun j => congrFun (sd_mov_cons (x := x) (L := [(1278, 3278, 6), (1272, 3272, 6), (7, 2007, 1), (6, 2006, 1)]) (s := 1284) (d := 3284) (n := 6) (by decide +kernel)) j) (hx.cpm _ (by decide))
  show sd_Wp sd_SC 2 sY4_become 49 [some (.inr 96), some (.inr 42)] [] m _
  refine sd_vreturn sD4_become_49 rfl (fun hm => ?_)
  exact ⟨rfl, hx⟩
