set_option maxRecDepth 100000 in
set_option maxHeartbeats 4000000 in
theorem cC_become_holdsK (x m : sd_M) (hx0 : sd_ns x m) : sd_Ct sd_SC 2 sY1_become [.inr 67, .inr 13] m (fun r m' => r = none ∧ sd_ns (sd_mov x [(298, 2298, 24), (274, 2274, 24), (250, 2250, 24), (226, 2226, 24), (202, 2202, 24), (178, 2178, 24), (154, 2154, 24), (130, 2130, 24), (106, 2106, 24), (82, 2082, 24), (58, 2058, 24), (34, 2034, 24), (10, 2010, 24), (6004, 7004, 1), (2, 2002, 1)]) m') := by
  refine sd_ct rfl (Nat.le_of_ble_eq_true rfl) (fun hok hm => ?_)
  have hx : sd_ns (sd_mov x []) m := hx0
  show sd_Wp sd_SC 2 sY1_become 0 [some (.inr 67), some (.inr 13)] [] m _
  refine sd_aload_n sD1_become_0 rfl ?_
  refine sd_aload_n sD1_become_1 rfl ?_
  refine sd_getfx (v := x 2) hx sD1_become_2 sF1_9 sGC13_0 (by decide) rfl ?_
  refine sd_putfx sd_sokC sd_oneC hx sD1_become_5 sF1_9 sGC67_0 (Or.inl rfl) (fun m hx em5 => ?_)
  have hx : sd_ns (sd_mov x [(2, 2002, 1)]) m := sd_nseq (fun j => congrFun (sd_mov_up (x := x) (L := []) (s := 2) (d := 2002)) j) hx
  refine sd_aload_n sD1_become_8 rfl ?_
  refine sd_aload_n sD1_become_9 rfl ?_
  refine sd_getfx (v := x 6004) hx sD1_become_10 sF1_15 sGC13_1 (by decide) (by simp only [sd_mov]; repeat (rw [if_neg (by omega)])) ?_
  refine sd_putfx sd_sokC sd_oneC hx sD1_become_13 sF1_15 sGC67_1 (Or.inl rfl) (fun m hx em13 => ?_)
  have hx : sd_ns (sd_mov x [(6004, 7004, 1), (2, 2002, 1)]) m := sd_nseq (fun j => congrFun (sd_mov_up (x := x) (L := [(2, 2002, 1)]) (s := 6004) (d := 7004)) j) hx
  refine sd_aload_n sD1_become_16 rfl ?_
  refine sd_getfr sD1_become_17 sF1_18 sGC13_2 ?_
  refine sd_aload_n sD1_become_20 rfl ?_
  refine sd_getfr sD1_become_21 sF1_18 sGC67_2 ?_
  refine sd_callN (as := [.inr 0, .inr 54]) (st := []) sD1_become_24 sM1_58 rfl rfl (by decide) (Nat.le_of_ble_eq_true rfl) (cC_copyRow sAC0 sAC54 (by decide) m) (fun r m hq ho24 hm => ?_)
  obtain ⟨rfl, hq⟩ := hq
  have hx : sd_ns (sd_mov x [(10, 2010, 24), (6004, 7004, 1), (2, 2002, 1)]) m := by rw [hq]; exact sd_nseq (fun j => congrFun (sd_mov_cons (x := x) (L := [(6004, 7004, 1), (2, 2002, 1)]) (s := 10) (d := 2010) (n := 24) (by decide +kernel)) j) (hx.cpm _ (by decide))
  show sd_Wp sd_SC 2 sY1_become 27 [some (.inr 67), some (.inr 13)] [] m _
  refine sd_aload_n sD1_become_27 rfl ?_
  refine sd_getfr sD1_become_28 sF1_22 sGC13_3 ?_
  refine sd_aload_n sD1_become_31 rfl ?_
  refine sd_getfr sD1_become_32 sF1_22 sGC67_3 ?_
  refine sd_callN (as := [.inr 1, .inr 55]) (st := []) sD1_become_35 sM1_58 rfl rfl (by decide) (Nat.le_of_ble_eq_true rfl) (cC_copyRow sAC1 sAC55 (by decide) m) (fun r m hq ho35 hm => ?_)
  obtain ⟨rfl, hq⟩ := hq
  have hx : sd_ns (sd_mov x [(34, 2034, 24), (10, 2010, 24), (6004, 7004, 1), (2, 2002, 1)]) m := by rw [hq]; exact sd_nseq (fun j => congrFun (sd_mov_cons (x := x) (L := [(10, 2010, 24), (6004, 7004, 1), (2, 2002, 1)]) (s := 34) (d := 2034) (n := 24) (by decide +kernel)) j) (hx.cpm _ (by decide))
  show sd_Wp sd_SC 2 sY1_become 38 [some (.inr 67), some (.inr 13)] [] m _
  refine sd_aload_n sD1_become_38 rfl ?_
  refine sd_getfr sD1_become_39 sF1_25 sGC13_4 ?_
  refine sd_aload_n sD1_become_42 rfl ?_
  refine sd_getfr sD1_become_43 sF1_25 sGC67_4 ?_
  refine sd_callN (as := [.inr 2, .inr 56]) (st := []) sD1_become_46 sM1_58 rfl rfl (by decide) (Nat.le_of_ble_eq_true rfl) (cC_copyRow sAC2 sAC56 (by decide) m) (fun r m hq ho46 hm => ?_)
  obtain ⟨rfl, hq⟩ := hq
  have hx : sd_ns (sd_mov x [(58, 2058, 24), (34, 2034, 24), (10, 2010, 24), (6004, 7004, 1), (2, 2002, 1)]) m := by rw [hq]; exact sd_nseq (fun j => congrFun (sd_mov_cons (x := x) (L := [(34, 2034, 24), (10, 2010, 24), (6004, 7004, 1), (2, 2002, 1)]) (s := 58) (d := 2058) (n := 24) (by decide +kernel)) j) (hx.cpm _ (by decide))
  show sd_Wp sd_SC 2 sY1_become 49 [some (.inr 67), some (.inr 13)] [] m _
  refine sd_aload_n sD1_become_49 rfl ?_
  refine sd_getfr sD1_become_50 sF1_28 sGC13_5 ?_
  refine sd_aload_n sD1_become_53 rfl ?_
  refine sd_getfr sD1_become_54 sF1_28 sGC67_5 ?_
  refine sd_callN (as := [.inr 3, .inr 57]) (st := []) sD1_become_57 sM1_58 rfl rfl (by decide) (Nat.le_of_ble_eq_true rfl) (cC_copyRow sAC3 sAC57 (by decide) m) (fun r m hq ho57 hm => ?_)
  obtain ⟨rfl, hq⟩ := hq
  have hx : sd_ns (sd_mov x [(82, 2082, 24), (58, 2058, 24), (34, 2034, 24), (10, 2010, 24), (6004, 7004, 1), (2, 2002, 1)]) m := by rw [hq]; exact sd_nseq (fun j => congrFun (sd_mov_cons (x := x) (L := [(58, 2058, 24), (34, 2034, 24), (10, 2010, 24), (6004, 7004, 1), (2, 2002, 1)]) (s := 82) (d := 2082) (n := 24) (by decide +kernel)) j) (hx.cpm _ (by decide))
  show sd_Wp sd_SC 2 sY1_become 60 [some (.inr 67), some (.inr 13)] [] m _
  refine sd_aload_n sD1_become_60 rfl ?_
  refine sd_getfr sD1_become_61 sF1_31 sGC13_6 ?_
  refine sd_aload_n sD1_become_64 rfl ?_
  refine sd_getfr sD1_become_65 sF1_31 sGC67_6 ?_
  refine sd_callN (as := [.inr 4, .inr 58]) (st := []) sD1_become_68 sM1_58 rfl rfl (by decide) (Nat.le_of_ble_eq_true rfl) (cC_copyRow sAC4 sAC58 (by decide) m) (fun r m hq ho68 hm => ?_)
  obtain ⟨rfl, hq⟩ := hq
  have hx : sd_ns (sd_mov x [(106, 2106, 24), (82, 2082, 24), (58, 2058, 24), (34, 2034, 24), (10, 2010, 24), (6004, 7004, 1), (2, 2002, 1)]) m := by rw [hq]; exact sd_nseq (fun j => congrFun (sd_mov_cons (x := x) (L := [(82, 2082, 24), (58, 2058, 24), (34, 2034, 24), (10, 2010, 24), (6004, 7004, 1), (2, 2002, 1)]) (s := 106) (d := 2106) (n := 24) (by decide +kernel)) j) (hx.cpm _ (by decide))
  show sd_Wp sd_SC 2 sY1_become 71 [some (.inr 67), some (.inr 13)] [] m _
  refine sd_aload_n sD1_become_71 rfl ?_
  refine sd_getfr sD1_become_72 sF1_34 sGC13_7 ?_
  refine sd_aload_n sD1_become_75 rfl ?_
  refine sd_getfr sD1_become_76 sF1_34 sGC67_7 ?_
  refine sd_callN (as := [.inr 5, .inr 59]) (st := []) sD1_become_79 sM1_58 rfl rfl (by decide) (Nat.le_of_ble_eq_true rfl) (cC_copyRow sAC5 sAC59 (by decide) m) (fun r m hq ho79 hm => ?_)
  obtain ⟨rfl, hq⟩ := hq
  have hx : sd_ns (sd_mov x [(130, 2130, 24), (106, 2106, 24), (82, 2082, 24), (58, 2058, 24), (34, 2034, 24), (10, 2010, 24), (6004, 7004, 1), (2, 2002, 1)]) m := by rw [hq]; exact sd_nseq (fun j => congrFun (sd_mov_cons (x := x) (L := [(106, 2106, 24), (82, 2082, 24), (58, 2058, 24), (34, 2034, 24), (10, 2010, 24), (6004, 7004, 1), (2, 2002, 1)]) (s := 130) (d := 2130) (n := 24) (by decide +kernel)) j) (hx.cpm _ (by decide))
  show sd_Wp sd_SC 2 sY1_become 82 [some (.inr 67), some (.inr 13)] [] m _
  refine sd_aload_n sD1_become_82 rfl ?_
  refine sd_getfr sD1_become_83 sF1_37 sGC13_8 ?_
  refine sd_aload_n sD1_become_86 rfl ?_
  refine sd_getfr sD1_become_87 sF1_37 sGC67_8 ?_
  refine sd_callN (as := [.inr 6, .inr 60]) (st := []) sD1_become_90 sM1_58 rfl rfl (by decide) (Nat.le_of_ble_eq_true rfl) (cC_copyRow sAC6 sAC60 (by decide) m) (fun r m hq ho90 hm => ?_)
  obtain ⟨rfl, hq⟩ := hq
  have hx : sd_ns (sd_mov x [(154, 2154, 24), (130, 2130, 24), (106, 2106, 24), (82, 2082, 24), (58, 2058, 24), (34, 2034, 24), (10, 2010, 24), (6004, 7004, 1), (2, 2002, 1)]) m := by rw [hq]; exact sd_nseq (fun j => congrFun (sd_mov_cons (x := x) (L := [(130, 2130, 24), (106, 2106, 24), (82, 2082, 24), (58, 2058, 24), (34, 2034, 24), (10, 2010, 24), (6004, 7004, 1), (2, 2002, 1)]) (s := 154) (d := 2154) (n := 24) (by decide +kernel)) j) (hx.cpm _ (by decide))
  show sd_Wp sd_SC 2 sY1_become 93 [some (.inr 67), some (.inr 13)] [] m _
  refine sd_aload_n sD1_become_93 rfl ?_
  refine sd_getfr sD1_become_94 sF1_40 sGC13_9 ?_
  refine sd_aload_n sD1_become_97 rfl ?_
  refine sd_getfr sD1_become_98 sF1_40 sGC67_9 ?_
  refine sd_callN (as := [.inr 7, .inr 61]) (st := []) sD1_become_101 sM1_58 rfl rfl (by decide) (Nat.le_of_ble_eq_true rfl) (cC_copyRow sAC7 sAC61 (by decide) m) (fun r m hq ho101 hm => ?_)
  obtain ⟨rfl, hq⟩ := hq
  have hx : sd_ns (sd_mov x [(178, 2178, 24), (154, 2154, 24), (130, 2130, 24), (106, 2106, 24), (82, 2082, 24), (58, 2058, 24), (34, 2034, 24), (10, 2010, 24), (6004, 7004, 1), (2, 2002, 1)]) m := by rw [hq]; exact sd_nseq (fun j => congrFun (sd_mov_cons (x := x) (L := [(154, 2154, 24), (130, 2130, 24), (106, 2106, 24), (82, 2082, 24), (58, 2058, 24), (34, 2034, 24), (10, 2010, 24), (6004, 7004, 1), (2, 2002, 1)]) (s := 178) (d := 2178) (n := 24) (by decide +kernel)) j) (hx.cpm _ (by decide))
  show sd_Wp sd_SC 2 sY1_become 104 [some (.inr 67), some (.inr 13)] [] m _
  refine sd_aload_n sD1_become_104 rfl ?_
  refine sd_getfr sD1_become_105 sF1_43 sGC13_10 ?_
  refine sd_aload_n sD1_become_108 rfl ?_
  refine sd_getfr sD1_become_109 sF1_43 sGC67_10 ?_
  refine sd_callN (as := [.inr 8, .inr 62]) (st := []) sD1_become_112 sM1_58 rfl rfl (by decide) (Nat.le_of_ble_eq_true rfl) (cC_copyRow sAC8 sAC62 (by decide) m) (fun r m hq ho112 hm => ?_)
  obtain ⟨rfl, hq⟩ := hq
  have hx : sd_ns (sd_mov x [(202, 2202, 24), (178, 2178, 24), (154, 2154, 24), (130, 2130, 24), (106, 2106, 24), (82, 2082, 24), (58, 2058, 24), (34, 2034, 24), (10, 2010, 24), (6004, 7004, 1), (2, 2002, 1)]) m := by rw [hq]; exact sd_nseq (fun j => congrFun (sd_mov_cons (x := x) (L := [(178, 2178, 24), (154, 2154, 24), (130, 2130, 24), (106, 2106, 24), (82, 2082, 24), (58, 2058, 24), (34, 2034, 24), (10, 2010, 24), (6004, 7004, 1), (2, 2002, 1)]) (s := 202) (d := 2202) (n := 24) (by decide +kernel)) j) (hx.cpm _ (by decide))
  show sd_Wp sd_SC 2 sY1_become 115 [some (.inr 67), some (.inr 13)] [] m _
  refine sd_aload_n sD1_become_115 rfl ?_
  refine sd_getfr sD1_become_116 sF1_46 sGC13_11 ?_
  refine sd_aload_n sD1_become_119 rfl ?_
  refine sd_getfr sD1_become_120 sF1_46 sGC67_11 ?_
  refine sd_callN (as := [.inr 9, .inr 63]) (st := []) sD1_become_123 sM1_58 rfl rfl (by decide) (Nat.le_of_ble_eq_true rfl) (cC_copyRow sAC9 sAC63 (by decide) m) (fun r m hq ho123 hm => ?_)
  obtain ⟨rfl, hq⟩ := hq
  have hx : sd_ns (sd_mov x [(226, 2226, 24), (202, 2202, 24), (178, 2178, 24), (154, 2154, 24), (130, 2130, 24), (106, 2106, 24), (82, 2082, 24), (58, 2058, 24), (34, 2034, 24), (10, 2010, 24), (6004, 7004, 1), (2, 2002, 1)]) m := by rw [hq]; exact sd_nseq (fun j => congrFun (sd_mov_cons (x := x) (L := [(202, 2202, 24), (178, 2178, 24), (154, 2154, 24), (130, 2130, 24), (106, 2106, 24), (82, 2082, 24), (58, 2058, 24), (34, 2034, 24), (10, 2010, 24), (6004, 7004, 1), (2, 2002, 1)]) (s := 226) (d := 2226) (n := 24) (by decide +kernel)) j) (hx.cpm _ (by decide))
  show sd_Wp sd_SC 2 sY1_become 126 [some (.inr 67), some (.inr 13)] [] m _
  refine sd_aload_n sD1_become_126 rfl ?_
  refine sd_getfr sD1_become_127 sF1_49 sGC13_12 ?_
  refine sd_aload_n sD1_become_130 rfl ?_
  refine sd_getfr sD1_become_131 sF1_49 sGC67_12 ?_
  refine sd_callN (as := [.inr 10, .inr 64]) (st := []) sD1_become_134 sM1_58 rfl rfl (by decide) (Nat.le_of_ble_eq_true rfl) (cC_copyRow sAC10 sAC64 (by decide) m) (fun r m hq ho134 hm => ?_)
  obtain ⟨rfl, hq⟩ := hq
  have hx : sd_ns (sd_mov x [(250, 2250, 24), (226, 2226, 24), (202, 2202, 24), (178, 2178, 24), (154, 2154, 24), (130, 2130, 24), (106, 2106, 24), (82, 2082, 24), (58, 2058, 24), (34, 2034, 24), (10, 2010, 24), (6004, 7004, 1), (2, 2002, 1)]) m := by rw [hq]; exact sd_nseq (fun j => congrFun (sd_mov_cons (x := x) (L := [(226, 2226, 24), (202, 2202, 24), (178, 2178, 24), (154, 2154, 24), (130, 2130, 24), (106, 2106, 24), (82, 2082, 24), (58, 2058, 24), (34, 2034, 24), (10, 2010, 24), (6004, 7004, 1), (2, 2002, 1)]) (s := 250) (d := 2250) (n := 24) (by decide +kernel)) j) (hx.cpm _ (by decide))
  show sd_Wp sd_SC 2 sY1_become 137 [some (.inr 67), some (.inr 13)] [] m _
  refine sd_aload_n sD1_become_137 rfl ?_
  refine sd_getfr sD1_become_138 sF1_52 sGC13_13 ?_
  refine sd_aload_n sD1_become_141 rfl ?_
  refine sd_getfr sD1_become_142 sF1_52 sGC67_13 ?_
  refine sd_callN (as := [.inr 11, .inr 65]) (st := []) sD1_become_145 sM1_58 rfl rfl (by decide) (Nat.le_of_ble_eq_true rfl) (cC_copyRow sAC11 sAC65 (by decide) m) (fun r m hq ho145 hm => ?_)
  obtain ⟨rfl, hq⟩ := hq
  have hx : sd_ns (sd_mov x [(274, 2274, 24), (250, 2250, 24), (226, 2226, 24), (202, 2202, 24), (178, 2178, 24), (154, 2154, 24), (130, 2130, 24), (106, 2106, 24), (82, 2082, 24), (58, 2058, 24), (34, 2034, 24), (10, 2010, 24), (6004, 7004, 1), (2, 2002, 1)]) m := by rw [hq]; exact sd_nseq (fun j => congrFun (sd_mov_cons (x := x) (L := [(250, 2250, 24), (226, 2226, 24), (202, 2202, 24), (178, 2178, 24), (154, 2154, 24), (130, 2130, 24), (106, 2106, 24), (82, 2082, 24), (58, 2058, 24), (34, 2034, 24), (10, 2010, 24), (6004, 7004, 1), (2, 2002, 1)]) (s := 274) (d := 2274) (n := 24) (by decide +kernel)) j) (hx.cpm _ (by decide))
  show sd_Wp sd_SC 2 sY1_become 148 [some (.inr 67), some (.inr 13)] [] m _
  refine sd_aload_n sD1_become_148 rfl ?_
  refine sd_getfr sD1_become_149 sF1_55 sGC13_14 ?_
  refine sd_aload_n sD1_become_152 rfl ?_
  refine sd_getfr sD1_become_153 sF1_55 sGC67_14 ?_
  refine sd_callN (as := [.inr 12, .inr 66]) (st := []) sD1_become_156 sM1_58 rfl rfl (by decide) (Nat.le_of_ble_eq_true rfl) (cC_copyRow sAC12 sAC66 (by decide) m) (fun r m hq ho156 hm => ?_)
  obtain ⟨rfl, hq⟩ := hq
  have hx : sd_ns (sd_mov x [(298, 2298, 24), (274, 2274, 24), (250, 2250, 24), (226, 2226, 24), (202, 2202, 24), (178, 2178, 24), (154, 2154, 24), (130, 2130, 24), (106, 2106, 24), (82, 2082, 24), (58, 2058, 24), (34, 2034, 24), (10, 2010, 24), (6004, 7004, 1), (2, 2002, 1)]) m := by rw [hq]; exact sd_nseq (fun j => congrFun (sd_mov_cons (x := x) (L := [(274, 2274, 24), (250, 2250, 24), (226, 2226, 24), (202, 2202, 24), (178, 2178, 24), (154, 2154, 24), (130, 2130, 24), (106, 2106, 24), (82, 2082, 24), (58, 2058, 24), (34, 2034, 24), (10, 2010, 24), (6004, 7004, 1), (2, 2002, 1)]) (s := 298) (d := 2298) (n := 24) (by decide +kernel)) j) (hx.cpm _ (by decide))
  show sd_Wp sd_SC 2 sY1_become 159 [some (.inr 67), some (.inr 13)] [] m _
  refine sd_vreturn sD1_become_159 rfl (fun hm => ?_)
  exact ⟨rfl, hx⟩
