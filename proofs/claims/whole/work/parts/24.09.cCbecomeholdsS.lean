set_option maxRecDepth 100000 in
set_option maxHeartbeats 4000000 in
theorem cC_become_holdsS (x m : sd_M) (hx0 : sd_ns x m) : sd_Ct sd_SC 2 sY1_become [.inr 13, .inr 67] m (fun r m' => r = none ∧ sd_ns (sd_mov x [(2298, 298, 24), (2274, 274, 24), (2250, 250, 24), (2226, 226, 24), (2202, 202, 24), (2178, 178, 24), (2154, 154, 24), (2130, 130, 24), (2106, 106, 24), (2082, 82, 24), (2058, 58, 24), (2034, 34, 24), (2010, 10, 24), (7004, 6004, 1), (2002, 2, 1)]) m') := by
  refine sd_ct rfl (Nat.le_of_ble_eq_true rfl) (fun hok hm => ?_)
  have hx : sd_ns (sd_mov x []) m := hx0
  show sd_Wp sd_SC 2 sY1_become 0 [some (.inr 13), some (.inr 67)] [] m _
  refine sd_aload_n sD1_become_0 rfl ?_
  refine sd_aload_n sD1_become_1 rfl ?_
  refine sd_getfx (v := x 2002) hx sD1_become_2 sF1_9 sGC67_0 (by decide) rfl ?_
  refine sd_putfx sd_sokC sd_oneC hx sD1_become_5 sF1_9 sGC13_0 (Or.inl rfl) (fun m hx em5 => ?_)
  have hx : sd_ns (sd_mov x [(2002, 2, 1)]) m := sd_nseq (fun j => congrFun (sd_mov_up (x := x) (L := []) (s := 2002) (d := 2)) j) hx
  refine sd_aload_n sD1_become_8 rfl ?_
  refine sd_aload_n sD1_become_9 rfl ?_
  refine sd_getfx (v := x 7004) hx sD1_become_10 sF1_15 sGC67_1 (by decide) (by simp only [sd_mov]; repeat (rw [if_neg (by omega)])) ?_
  refine sd_putfx sd_sokC sd_oneC hx sD1_become_13 sF1_15 sGC13_1 (Or.inl rfl) (fun m hx em13 => ?_)
  have hx : sd_ns (sd_mov x [(7004, 6004, 1), (2002, 2, 1)]) m := sd_nseq (fun j => congrFun (sd_mov_up (x := x) (L := [(2002, 2, 1)]) (s := 7004) (d := 6004)) j) hx
  refine sd_aload_n sD1_become_16 rfl ?_
  refine sd_getfr sD1_become_17 sF1_18 sGC67_2 ?_
  refine sd_aload_n sD1_become_20 rfl ?_
  refine sd_getfr sD1_become_21 sF1_18 sGC13_2 ?_
  refine sd_callN (as := [.inr 54, .inr 0]) (st := []) sD1_become_24 sM1_58 rfl rfl (by decide) (Nat.le_of_ble_eq_true rfl) (cC_copyRow sAC54 sAC0 (by decide) m) (fun r m hq ho24 hm => ?_)
  obtain ⟨rfl, hq⟩ := hq
  have hx : sd_ns (sd_mov x [(2010, 10, 24), (7004, 6004, 1), (2002, 2, 1)]) m := by rw [hq]; exact sd_nseq (fun j => congrFun (sd_mov_cons (x := x) (L := [(7004, 6004, 1), (2002, 2, 1)]) (s := 2010) (d := 10) (n := 24) (by decide +kernel)) j) (hx.cpm _ (by decide))
  show sd_Wp sd_SC 2 sY1_become 27 [some (.inr 13), some (.inr 67)] [] m _
  refine sd_aload_n sD1_become_27 rfl ?_
  refine sd_getfr sD1_become_28 sF1_22 sGC67_3 ?_
  refine sd_aload_n sD1_become_31 rfl ?_
  refine sd_getfr sD1_become_32 sF1_22 sGC13_3 ?_
  refine sd_callN (as := [.inr 55, .inr 1]) (st := []) sD1_become_35 sM1_58 rfl rfl (by decide) (Nat.le_of_ble_eq_true rfl) (cC_copyRow sAC55 sAC1 (by decide) m) (fun r m hq ho35 hm => ?_)
  obtain ⟨rfl, hq⟩ := hq
  have hx : sd_ns (sd_mov x [(2034, 34, 24), (2010, 10, 24), (7004, 6004, 1), (2002, 2, 1)]) m := by rw [hq]; exact sd_nseq (fun j => congrFun (sd_mov_cons (x := x) (L := [(2010, 10, 24), (7004, 6004, 1), (2002, 2, 1)]) (s := 2034) (d := 34) (n := 24) (by decide +kernel)) j) (hx.cpm _ (by decide))
  show sd_Wp sd_SC 2 sY1_become 38 [some (.inr 13), some (.inr 67)] [] m _
  refine sd_aload_n sD1_become_38 rfl ?_
  refine sd_getfr sD1_become_39 sF1_25 sGC67_4 ?_
  refine sd_aload_n sD1_become_42 rfl ?_
  refine sd_getfr sD1_become_43 sF1_25 sGC13_4 ?_
  refine sd_callN (as := [.inr 56, .inr 2]) (st := []) sD1_become_46 sM1_58 rfl rfl (by decide) (Nat.le_of_ble_eq_true rfl) (cC_copyRow sAC56 sAC2 (by decide) m) (fun r m hq ho46 hm => ?_)
  obtain ⟨rfl, hq⟩ := hq
  have hx : sd_ns (sd_mov x [(2058, 58, 24), (2034, 34, 24), (2010, 10, 24), (7004, 6004, 1), (2002, 2, 1)]) m := by rw [hq]; exact sd_nseq (fun j => congrFun (sd_mov_cons (x := x) (L := [(2034, 34, 24), (2010, 10, 24), (7004, 6004, 1), (2002, 2, 1)]) (s := 2058) (d := 58) (n := 24) (by decide +kernel)) j) (hx.cpm _ (by decide))
  show sd_Wp sd_SC 2 sY1_become 49 [some (.inr 13), some (.inr 67)] [] m _
  refine sd_aload_n sD1_become_49 rfl ?_
  refine sd_getfr sD1_become_50 sF1_28 sGC67_5 ?_
  refine sd_aload_n sD1_become_53 rfl ?_
  refine sd_getfr sD1_become_54 sF1_28 sGC13_5 ?_
  refine sd_callN (as := [.inr 57, .inr 3]) (st := []) sD1_become_57 sM1_58 rfl rfl (by decide) (Nat.le_of_ble_eq_true rfl) (cC_copyRow sAC57 sAC3 (by decide) m) (fun r m hq ho57 hm => ?_)
  obtain ⟨rfl, hq⟩ := hq
  have hx : sd_ns (sd_mov x [(2082, 82, 24), (2058, 58, 24), (2034, 34, 24), (2010, 10, 24), (7004, 6004, 1), (2002, 2, 1)]) m := by rw [hq]; exact sd_nseq (fun j => congrFun (sd_mov_cons (x := x) (L := [(2058, 58, 24), (2034, 34, 24), (2010, 10, 24), (7004, 6004, 1), (2002, 2, 1)]) (s := 2082) (d := 82) (n := 24) (by decide +kernel)) j) (hx.cpm _ (by decide))
  show sd_Wp sd_SC 2 sY1_become 60 [some (.inr 13), some (.inr 67)] [] m _
  refine sd_aload_n sD1_become_60 rfl ?_
  refine sd_getfr sD1_become_61 sF1_31 sGC67_6 ?_
  refine sd_aload_n sD1_become_64 rfl ?_
  refine sd_getfr sD1_become_65 sF1_31 sGC13_6 ?_
  refine sd_callN (as := [.inr 58, .inr 4]) (st := []) sD1_become_68 sM1_58 rfl rfl (by decide) (Nat.le_of_ble_eq_true rfl) (cC_copyRow sAC58 sAC4 (by decide) m) (fun r m hq ho68 hm => ?_)
  obtain ⟨rfl, hq⟩ := hq
  have hx : sd_ns (sd_mov x [(2106, 106, 24), (2082, 82, 24), (2058, 58, 24), (2034, 34, 24), (2010, 10, 24), (7004, 6004, 1), (2002, 2, 1)]) m := by rw [hq]; exact sd_nseq (fun j => congrFun (sd_mov_cons (x := x) (L := [(2082, 82, 24), (2058, 58, 24), (2034, 34, 24), (2010, 10, 24), (7004, 6004, 1), (2002, 2, 1)]) (s := 2106) (d := 106) (n := 24) (by decide +kernel)) j) (hx.cpm _ (by decide))
  show sd_Wp sd_SC 2 sY1_become 71 [some (.inr 13), some (.inr 67)] [] m _
  refine sd_aload_n sD1_become_71 rfl ?_
  refine sd_getfr sD1_become_72 sF1_34 sGC67_7 ?_
  refine sd_aload_n sD1_become_75 rfl ?_
  refine sd_getfr sD1_become_76 sF1_34 sGC13_7 ?_
  refine sd_callN (as := [.inr 59, .inr 5]) (st := []) sD1_become_79 sM1_58 rfl rfl (by decide) (Nat.le_of_ble_eq_true rfl) (cC_copyRow sAC59 sAC5 (by decide) m) (fun r m hq ho79 hm => ?_)
  obtain ⟨rfl, hq⟩ := hq
  have hx : sd_ns (sd_mov x [(2130, 130, 24), (2106, 106, 24), (2082, 82, 24), (2058, 58, 24), (2034, 34, 24), (2010, 10, 24), (7004, 6004, 1), (2002, 2, 1)]) m := by rw [hq]; exact sd_nseq (fun j => congrFun (sd_mov_cons (x := x) (L := [(2106, 106, 24), (2082, 82, 24), (2058, 58, 24), (2034, 34, 24), (2010, 10, 24), (7004, 6004, 1), (2002, 2, 1)]) (s := 2130) (d := 130) (n := 24) (by decide +kernel)) j) (hx.cpm _ (by decide))
  show sd_Wp sd_SC 2 sY1_become 82 [some (.inr 13), some (.inr 67)] [] m _
  refine sd_aload_n sD1_become_82 rfl ?_
  refine sd_getfr sD1_become_83 sF1_37 sGC67_8 ?_
  refine sd_aload_n sD1_become_86 rfl ?_
  refine sd_getfr sD1_become_87 sF1_37 sGC13_8 ?_
  refine sd_callN (as := [.inr 60, .inr 6]) (st := []) sD1_become_90 sM1_58 rfl rfl (by decide) (Nat.le_of_ble_eq_true rfl) (cC_copyRow sAC60 sAC6 (by decide) m) (fun r m hq ho90 hm => ?_)
  obtain ⟨rfl, hq⟩ := hq
  have hx : sd_ns (sd_mov x [(2154, 154, 24), (2130, 130, 24), (2106, 106, 24), (2082, 82, 24), (2058, 58, 24), (2034, 34, 24), (2010, 10, 24), (7004, 6004, 1), (2002, 2, 1)]) m := by rw [hq]; exact sd_nseq (fun j => congrFun (sd_mov_cons (x := x) (L := [(2130, 130, 24), (2106, 106, 24), (2082, 82, 24), (2058, 58, 24), (2034, 34, 24), (2010, 10, 24), (7004, 6004, 1), (2002, 2, 1)]) (s := 2154) (d := 154) (n := 24) (by decide +kernel)) j) (hx.cpm _ (by decide))
  show sd_Wp sd_SC 2 sY1_become 93 [some (.inr 13), some (.inr 67)] [] m _
  refine sd_aload_n sD1_become_93 rfl ?_
  refine sd_getfr sD1_become_94 sF1_40 sGC67_9 ?_
  refine sd_aload_n sD1_become_97 rfl ?_
  refine sd_getfr sD1_become_98 sF1_40 sGC13_9 ?_
  refine sd_callN (as := [.inr 61, .inr 7]) (st := []) sD1_become_101 sM1_58 rfl rfl (by decide) (Nat.le_of_ble_eq_true rfl) (cC_copyRow sAC61 sAC7 (by decide) m) (fun r m hq ho101 hm => ?_)
  obtain ⟨rfl, hq⟩ := hq
  have hx : sd_ns (sd_mov x [(2178, 178, 24), (2154, 154, 24), (2130, 130, 24), (2106, 106, 24), (2082, 82, 24), (2058, 58, 24), (2034, 34, 24), (2010, 10, 24), (7004, 6004, 1), (2002, 2, 1)]) m := by rw [hq]; exact sd_nseq (fun j => congrFun (sd_mov_cons (x := x) (L := [(2154, 154, 24), (2130, 130, 24), (2106, 106, 24), (2082, 82, 24), (2058, 58, 24), (2034, 34, 24), (2010, 10, 24), (7004, 6004, 1), (2002, 2, 1)]) (s := 2178) (d := 178) (n := 24) (by decide +kernel)) j) (hx.cpm _ (by decide))
  show sd_Wp sd_SC 2 sY1_become 104 [some (.inr 13), some (.inr 67)] [] m _
  refine sd_aload_n sD1_become_104 rfl ?_
  refine sd_getfr sD1_become_105 sF1_43 sGC67_10 ?_
  refine sd_aload_n sD1_become_108 rfl ?_
  refine sd_getfr sD1_become_109 sF1_43 sGC13_10 ?_
  refine sd_callN (as := [.inr 62, .inr 8]) (st := []) sD1_become_112 sM1_58 rfl rfl (by decide) (Nat.le_of_ble_eq_true rfl) (cC_copyRow sAC62 sAC8 (by decide) m) (fun r m hq ho112 hm => ?_)
  obtain ⟨rfl, hq⟩ := hq
  have hx : sd_ns (sd_mov x [(2202, 202, 24), (2178, 178, 24), (2154, 154, 24), (2130, 130, 24), (2106, 106, 24), (2082, 82, 24), (2058, 58, 24), (2034, 34, 24), (2010, 10, 24), (7004, 6004, 1), (2002, 2, 1)]) m := by rw [hq]; exact sd_nseq (fun j => congrFun (sd_mov_cons (x := x) (L := [(2178, 178, 24), (2154, 154, 24), (2130, 130, 24), (2106, 106, 24), (2082, 82, 24), (2058, 58, 24), (2034, 34, 24), (2010, 10, 24), (7004, 6004, 1), (2002, 2, 1)]) (s := 2202) (d := 202) (n := 24) (by decide +kernel)) j) (hx.cpm _ (by decide))
  show sd_Wp sd_SC 2 sY1_become 115 [some (.inr 13), some (.inr 67)] [] m _
  refine sd_aload_n sD1_become_115 rfl ?_
  refine sd_getfr sD1_become_116 sF1_46 sGC67_11 ?_
  refine sd_aload_n sD1_become_119 rfl ?_
  refine sd_getfr sD1_become_120 sF1_46 sGC13_11 ?_
  refine sd_callN (as := [.inr 63, .inr 9]) (st := []) sD1_become_123 sM1_58 rfl rfl (by decide) (Nat.le_of_ble_eq_true rfl) (cC_copyRow sAC63 sAC9 (by decide) m) (fun r m hq ho123 hm => ?_)
  obtain ⟨rfl, hq⟩ := hq
  have hx : sd_ns (sd_mov x [(2226, 226, 24), (2202, 202, 24), (2178, 178, 24), (2154, 154, 24), (2130, 130, 24), (2106, 106, 24), (2082, 82, 24), (2058, 58, 24), (2034, 34, 24), (2010, 10, 24), (7004, 6004, 1), (2002, 2, 1)]) m := by rw [hq]; exact sd_nseq (fun j => congrFun (sd_mov_cons (x := x) (L := [(2202, 202, 24), (2178, 178, 24), (2154, 154, 24), (2130, 130, 24), (2106, 106, 24), (2082, 82, 24), (2058, 58, 24), (2034, 34, 24), (2010, 10, 24), (7004, 6004, 1), (2002, 2, 1)]) (s := 2226) (d := 226) (n := 24) (by decide +kernel)) j) (hx.cpm _ (by decide))
  show sd_Wp sd_SC 2 sY1_become 126 [some (.inr 13), some (.inr 67)] [] m _
  refine sd_aload_n sD1_become_126 rfl ?_
  refine sd_getfr sD1_become_127 sF1_49 sGC67_12 ?_
  refine sd_aload_n sD1_become_130 rfl ?_
  refine sd_getfr sD1_become_131 sF1_49 sGC13_12 ?_
  refine sd_callN (as := [.inr 64, .inr 10]) (st := []) sD1_become_134 sM1_58 rfl rfl (by decide) (Nat.le_of_ble_eq_true rfl) (cC_copyRow sAC64 sAC10 (by decide) m) (fun r m hq ho134 hm => ?_)
  obtain ⟨rfl, hq⟩ := hq
  have hx : sd_ns (sd_mov x [(2250, 250, 24), (2226, 226, 24), (2202, 202, 24), (2178, 178, 24), (2154, 154, 24), (2130, 130, 24), (2106, 106, 24), (2082, 82, 24), (2058, 58, 24), (2034, 34, 24), (2010, 10, 24), (7004, 6004, 1), (2002, 2, 1)]) m := by rw [hq]; exact sd_nseq (fun j => congrFun (sd_mov_cons (x := x) (L := [(2226, 226, 24), (2202, 202, 24), (2178, 178, 24), (2154, 154, 24), (2130, 130, 24), (2106, 106, 24), (2082, 82, 24), (2058, 58, 24), (2034, 34, 24), (2010, 10, 24), (7004, 6004, 1), (2002, 2, 1)]) (s := 2250) (d := 250) (n := 24) (by decide +kernel)) j) (hx.cpm _ (by decide))
  show sd_Wp sd_SC 2 sY1_become 137 [some (.inr 13), some (.inr 67)] [] m _
  refine sd_aload_n sD1_become_137 rfl ?_
  refine sd_getfr sD1_become_138 sF1_52 sGC67_13 ?_
  refine sd_aload_n sD1_become_141 rfl ?_
  refine sd_getfr sD1_become_142 sF1_52 sGC13_13 ?_
  refine sd_callN (as := [.inr 65, .inr 11]) (st := []) sD1_become_145 sM1_58 rfl rfl (by decide) (Nat.le_of_ble_eq_true rfl) (cC_copyRow sAC65 sAC11 (by decide) m) (fun r m hq ho145 hm => ?_)
  obtain ⟨rfl, hq⟩ := hq
  have hx : sd_ns (sd_mov x [(2274, 274, 24), (2250, 250, 24), (2226, 226, 24), (2202, 202, 24), (2178, 178, 24), (2154, 154, 24), (2130, 130, 24), (2106, 106, 24), (2082, 82, 24), (2058, 58, 24), (2034, 34, 24), (2010, 10, 24), (7004, 6004, 1), (2002, 2, 1)]) m := by rw [hq]; exact sd_nseq (fun j => congrFun (sd_mov_cons (x := x) (L := [(2250, 250, 24), (2226, 226, 24), (2202, 202, 24), (2178, 178, 24), (2154, 154, 24), (2130, 130, 24), (2106, 106, 24), (2082, 82, 24), (2058, 58, 24), (2034, 34, 24), (2010, 10, 24), (7004, 6004, 1), (2002, 2, 1)]) (s := 2274) (d := 274) (n := 24) (by decide +kernel)) j) (hx.cpm _ (by decide))
  show sd_Wp sd_SC 2 sY1_become 148 [some (.inr 13), some (.inr 67)] [] m _
  refine sd_aload_n sD1_become_148 rfl ?_
  refine sd_getfr sD1_become_149 sF1_55 sGC67_14 ?_
  refine sd_aload_n sD1_become_152 rfl ?_
  refine sd_getfr sD1_become_153 sF1_55 sGC13_14 ?_
  refine sd_callN (as := [.inr 66, .inr 12]) (st := []) sD1_become_156 sM1_58 rfl rfl (by decide) (Nat.le_of_ble_eq_true rfl) (cC_copyRow sAC66 sAC12 (by decide) m) (fun r m hq ho156 hm => ?_)
  obtain ⟨rfl, hq⟩ := hq
  have hx : sd_ns (sd_mov x [(2298, 298, 24), (2274, 274, 24), (2250, 250, 24), (2226, 226, 24), (2202, 202, 24), (2178, 178, 24), (2154, 154, 24), (2130, 130, 24), (2106, 106, 24), (2082, 82, 24), (2058, 58, 24), (2034, 34, 24), (2010, 10, 24), (7004, 6004, 1), (2002, 2, 1)]) m := by rw [hq]; exact sd_nseq (fun j => congrFun (sd_mov_cons (x := x) (L := [(2274, 274, 24), (2250, 250, 24), (2226, 226, 24), (2202, 202, 24), (2178, 178, 24), (2154, 154, 24), (2130, 130, 24), (2106, 106, 24), (2082, 82, 24), (2058, 58, 24), (2034, 34, 24), (2010, 10, 24), (7004, 6004, 1), (2002, 2, 1)]) (s := 2298) (d := 298) (n := 24) (by decide +kernel)) j) (hx.cpm _ (by decide))
  show sd_Wp sd_SC 2 sY1_become 159 [some (.inr 13), some (.inr 67)] [] m _
  refine sd_vreturn sD1_become_159 rfl (fun hm => ?_)
  exact ⟨rfl, hx⟩
