set_option maxRecDepth 100000 in
set_option maxHeartbeats 4000000 in
theorem cC_become_textsK (x m : sd_M) (hx0 : sd_ns x m) : sd_Ct sd_SC 2 sY8_become [.inr 90, .inr 36] m (fun r m' => r = none ∧ sd_ns (sd_mov x [(1268, 7540, 4), (6380, 7380, 120), (6260, 7260, 120), (6140, 7140, 120), (6100, 7100, 40), (6060, 7060, 40), (6020, 7020, 40), (6010, 7010, 8), (452, 2452, 8), (444, 2444, 8), (436, 2436, 8), (428, 2428, 8), (5, 2005, 1)]) m') := by
  refine sd_ct rfl (Nat.le_of_ble_eq_true rfl) (fun hok hm => ?_)
  have hx : sd_ns (sd_mov x []) m := hx0
  show sd_Wp sd_SC 2 sY8_become 0 [some (.inr 90), some (.inr 36)] [] m _
  refine sd_aload_n sD8_become_0 rfl ?_
  refine sd_aload_n sD8_become_1 rfl ?_
  refine sd_getfx (v := x 5) hx sD8_become_2 sF8_9 sGC36_0 (by decide) rfl ?_
  refine sd_putfx sd_sokC sd_oneC hx sD8_become_5 sF8_9 sGC90_0 (Or.inl rfl) (fun m hx em5 => ?_)
  have hx : sd_ns (sd_mov x [(5, 2005, 1)]) m := sd_nseq (fun j => congrFun (sd_mov_up (x := x) (L := []) (s := 5) (d := 2005)) j) hx
  refine sd_aload_n sD8_become_8 rfl ?_
  refine sd_getfr sD8_become_9 sF8_15 sGC36_1 ?_
  refine sd_aload_n sD8_become_12 rfl ?_
  refine sd_getfr sD8_become_13 sF8_15 sGC90_1 ?_
  refine sd_callN (as := [.inr 24, .inr 78]) (st := []) sD8_become_16 sM8_52 rfl rfl (by decide) (Nat.le_of_ble_eq_true rfl) (cC_copyRow sAC24 sAC78 (by decide) m) (fun r m hq ho16 hm => ?_)
  obtain ⟨rfl, hq⟩ := hq
  have hx : sd_ns (sd_mov x [(428, 2428, 8), (5, 2005, 1)]) m := by rw [hq]; exact sd_nseq (fun j => congrFun (sd_mov_cons (x := x) (L := [(5, 2005, 1)]) (s := 428) (d := 2428) (n := 8) (by decide +kernel)) j) (hx.cpm _ (by decide))
  show sd_Wp sd_SC 2 sY8_become 19 [some (.inr 90), some (.inr 36)] [] m _
  refine sd_aload_n sD8_become_19 rfl ?_
  refine sd_getfr sD8_become_20 sF8_19 sGC36_2 ?_
  refine sd_aload_n sD8_become_23 rfl ?_
  refine sd_getfr sD8_become_24 sF8_19 sGC90_2 ?_
  refine sd_callN (as := [.inr 25, .inr 79]) (st := []) sD8_become_27 sM8_52 rfl rfl (by decide) (Nat.le_of_ble_eq_true rfl) (cC_copyRow sAC25 sAC79 (by decide) m) (fun r m hq ho27 hm => ?_)
  obtain ⟨rfl, hq⟩ := hq
  have hx : sd_ns (sd_mov x [(436, 2436, 8), (428, 2428, 8), (5, 2005, 1)]) m := by rw [hq]; exact sd_nseq (fun j => congrFun (sd_mov_cons (x := x) (L := [(428, 2428, 8), (5, 2005, 1)]) (s := 436) (d := 2436) (n := 8) (by decide +kernel)) j) (hx.cpm _ (by decide))
  show sd_Wp sd_SC 2 sY8_become 30 [some (.inr 90), some (.inr 36)] [] m _
  refine sd_aload_n sD8_become_30 rfl ?_
  refine sd_getfr sD8_become_31 sF8_22 sGC36_3 ?_
  refine sd_aload_n sD8_become_34 rfl ?_
  refine sd_getfr sD8_become_35 sF8_22 sGC90_3 ?_
  refine sd_callN (as := [.inr 26, .inr 80]) (st := []) sD8_become_38 sM8_52 rfl rfl (by decide) (Nat.le_of_ble_eq_true rfl) (cC_copyRow sAC26 sAC80 (by decide) m) (fun r m hq ho38 hm => ?_)
  obtain ⟨rfl, hq⟩ := hq
  have hx : sd_ns (sd_mov x [(444, 2444, 8), (436, 2436, 8), (428, 2428, 8), (5, 2005, 1)]) m := by rw [hq]; exact sd_nseq (fun j => congrFun (sd_mov_cons (x := x) (L := [(436, 2436, 8), (428, 2428, 8), (5, 2005, 1)]) (s := 444) (d := 2444) (n := 8) (by decide +kernel)) j) (hx.cpm _ (by decide))
  show sd_Wp sd_SC 2 sY8_become 41 [some (.inr 90), some (.inr 36)] [] m _
  refine sd_aload_n sD8_become_41 rfl ?_
  refine sd_getfr sD8_become_42 sF8_25 sGC36_4 ?_
  refine sd_aload_n sD8_become_45 rfl ?_
  refine sd_getfr sD8_become_46 sF8_25 sGC90_4 ?_
  refine sd_callN (as := [.inr 27, .inr 81]) (st := []) sD8_become_49 sM8_52 rfl rfl (by decide) (Nat.le_of_ble_eq_true rfl) (cC_copyRow sAC27 sAC81 (by decide) m) (fun r m hq ho49 hm => ?_)
  obtain ⟨rfl, hq⟩ := hq
  have hx : sd_ns (sd_mov x [(452, 2452, 8), (444, 2444, 8), (436, 2436, 8), (428, 2428, 8), (5, 2005, 1)]) m := by rw [hq]; exact sd_nseq (fun j => congrFun (sd_mov_cons (x := x) (L := [(444, 2444, 8), (436, 2436, 8), (428, 2428, 8), (5, 2005, 1)]) (s := 452) (d := 2452) (n := 8) (by decide +kernel)) j) (hx.cpm _ (by decide))
  show sd_Wp sd_SC 2 sY8_become 52 [some (.inr 90), some (.inr 36)] [] m _
  refine sd_aload_n sD8_become_52 rfl ?_
  refine sd_getfr sD8_become_53 sF8_28 sGC36_5 ?_
  refine sd_aload_n sD8_become_56 rfl ?_
  refine sd_getfr sD8_become_57 sF8_28 sGC90_5 ?_
  refine sd_callN (as := [.inr 28, .inr 82]) (st := []) sD8_become_60 sM8_52 rfl rfl (by decide) (Nat.le_of_ble_eq_true rfl) (cC_copyRow sAC28 sAC82 (by decide) m) (fun r m hq ho60 hm => ?_)
  obtain ⟨rfl, hq⟩ := hq
  have hx : sd_ns (sd_mov x [(6010, 7010, 8), (452, 2452, 8), (444, 2444, 8), (436, 2436, 8), (428, 2428, 8), (5, 2005, 1)]) m := by rw [hq]; exact sd_nseq (fun j => congrFun (sd_mov_cons (x := x) (L := [(452, 2452, 8), (444, 2444, 8), (436, 2436, 8), (428, 2428, 8), (5, 2005, 1)]) (s := 6010) (d := 7010) (n := 8) (by decide +kernel)) j) (hx.cpm _ (by decide))
  show sd_Wp sd_SC 2 sY8_become 63 [some (.inr 90), some (.inr 36)] [] m _
  refine sd_aload_n sD8_become_63 rfl ?_
  refine sd_getfr sD8_become_64 sF8_31 sGC36_6 ?_
  refine sd_aload_n sD8_become_67 rfl ?_
  refine sd_getfr sD8_become_68 sF8_31 sGC90_6 ?_
  refine sd_callN (as := [.inr 29, .inr 83]) (st := []) sD8_become_71 sM8_52 rfl rfl (by decide) (Nat.le_of_ble_eq_true rfl) (cC_copyRow sAC29 sAC83 (by decide) m) (fun r m hq ho71 hm => ?_)
  obtain ⟨rfl, hq⟩ := hq
  have hx : sd_ns (sd_mov x [(6020, 7020, 40), (6010, 7010, 8), (452, 2452, 8), (444, 2444, 8), (436, 2436, 8), (428, 2428, 8), (5, 2005, 1)]) m := by rw [hq]; exact sd_nseq (fun j => congrFun (sd_mov_cons (x := x) (L := [(6010, 7010, 8), (452, 2452, 8), (444, 2444, 8), (436, 2436, 8), (428, 2428, 8), (5, 2005, 1)]) (s := 6020) (d := 7020) (n := 40) (by decide +kernel)) j) (hx.cpm _ (by decide))
  show sd_Wp sd_SC 2 sY8_become 74 [some (.inr 90), some (.inr 36)] [] m _
  refine sd_aload_n sD8_become_74 rfl ?_
  refine sd_getfr sD8_become_75 sF8_34 sGC36_7 ?_
  refine sd_aload_n sD8_become_78 rfl ?_
  refine sd_getfr sD8_become_79 sF8_34 sGC90_7 ?_
  refine sd_callN (as := [.inr 30, .inr 84]) (st := []) sD8_become_82 sM8_52 rfl rfl (by decide) (Nat.le_of_ble_eq_true rfl) (cC_copyRow sAC30 sAC84 (by decide) m) (fun r m hq ho82 hm => ?_)
  obtain ⟨rfl, hq⟩ := hq
  have hx : sd_ns (sd_mov x [(6060, 7060, 40), (6020, 7020, 40), (6010, 7010, 8), (452, 2452, 8), (444, 2444, 8), (436, 2436, 8), (428, 2428, 8), (5, 2005, 1)]) m := by rw [hq]; exact sd_nseq (fun j => congrFun (sd_mov_cons (x := x) (L := [(6020, 7020, 40), (6010, 7010, 8), (452, 2452, 8), (444, 2444, 8), (436, 2436, 8), (428, 2428, 8), (5, 2005, 1)]) (s := 6060) (d := 7060) (n := 40) (by decide +kernel)) j) (hx.cpm _ (by decide))
  show sd_Wp sd_SC 2 sY8_become 85 [some (.inr 90), some (.inr 36)] [] m _
  refine sd_aload_n sD8_become_85 rfl ?_
  refine sd_getfr sD8_become_86 sF8_37 sGC36_8 ?_
  refine sd_aload_n sD8_become_89 rfl ?_
  refine sd_getfr sD8_become_90 sF8_37 sGC90_8 ?_
  refine sd_callN (as := [.inr 31, .inr 85]) (st := []) sD8_become_93 sM8_52 rfl rfl (by decide) (Nat.le_of_ble_eq_true rfl) (cC_copyRow sAC31 sAC85 (by decide) m) (fun r m hq ho93 hm => ?_)
  obtain ⟨rfl, hq⟩ := hq
  have hx : sd_ns (sd_mov x [(6100, 7100, 40), (6060, 7060, 40), (6020, 7020, 40), (6010, 7010, 8), (452, 2452, 8), (444, 2444, 8), (436, 2436, 8), (428, 2428, 8), (5, 2005, 1)]) m := by rw [hq]; exact sd_nseq (fun j => congrFun (sd_mov_cons (x := x) (L := [(6060, 7060, 40), (6020, 7020, 40), (6010, 7010, 8), (452, 2452, 8), (444, 2444, 8), (436, 2436, 8), (428, 2428, 8), (5, 2005, 1)]) (s := 6100) (d := 7100) (n := 40) (by decide +kernel)) j) (hx.cpm _ (by decide))
  show sd_Wp sd_SC 2 sY8_become 96 [some (.inr 90), some (.inr 36)] [] m _
  refine sd_aload_n sD8_become_96 rfl ?_
  refine sd_getfr sD8_become_97 sF8_40 sGC36_9 ?_
  refine sd_aload_n sD8_become_100 rfl ?_
  refine sd_getfr sD8_become_101 sF8_40 sGC90_9 ?_
  refine sd_callN (as := [.inr 32, .inr 86]) (st := []) sD8_become_104 sM8_52 rfl rfl (by decide) (Nat.le_of_ble_eq_true rfl) (cC_copyRow sAC32 sAC86 (by decide) m) (fun r m hq ho104 hm => ?_)
  obtain ⟨rfl, hq⟩ := hq
  have hx : sd_ns (sd_mov x [(6140, 7140, 120), (6100, 7100, 40), (6060, 7060, 40), (6020, 7020, 40), (6010, 7010, 8), (452, 2452, 8), (444, 2444, 8), (436, 2436, 8), (428, 2428, 8), (5, 2005, 1)]) m := by rw [hq]; exact sd_nseq (fun j => congrFun (sd_mov_cons (x := x) (L := [(6100, 7100, 40), (6060, 7060, 40), (6020, 7020, 40), (6010, 7010, 8), (452, 2452, 8), (444, 2444, 8), (436, 2436, 8), (428, 2428, 8), (5, 2005, 1)]) (s := 6140) (d := 7140) (n := 120) (by decide +kernel)) j) (hx.cpm _ (by decide))
  show sd_Wp sd_SC 2 sY8_become 107 [some (.inr 90), some (.inr 36)] [] m _
  refine sd_aload_n sD8_become_107 rfl ?_
  refine sd_getfr sD8_become_108 sF8_43 sGC36_10 ?_
  refine sd_aload_n sD8_become_111 rfl ?_
  refine sd_getfr sD8_become_112 sF8_43 sGC90_10 ?_
  refine sd_callN (as := [.inr 33, .inr 87]) (st := []) sD8_become_115 sM8_52 rfl rfl (by decide) (Nat.le_of_ble_eq_true rfl) (cC_copyRow sAC33 sAC87 (by decide) m) (fun r m hq ho115 hm => ?_)
  obtain ⟨rfl, hq⟩ := hq
  have hx : sd_ns (sd_mov x [(6260, 7260, 120), (6140, 7140, 120), (6100, 7100, 40), (6060, 7060, 40), (6020, 7020, 40), (6010, 7010, 8), (452, 2452, 8), (444, 2444, 8), (436, 2436, 8), (428, 2428, 8), (5, 2005, 1)]) m := by rw [hq]; exact sd_nseq (fun j => congrFun (sd_mov_cons (x := x) (L := [(6140, 7140, 120), (6100, 7100, 40), (6060, 7060, 40), (6020, 7020, 40), (6010, 7010, 8), (452, 2452, 8), (444, 2444, 8), (436, 2436, 8), (428, 2428, 8), (5, 2005, 1)]) (s := 6260) (d := 7260) (n := 120) (by decide +kernel)) j) (hx.cpm _ (by decide))
  show sd_Wp sd_SC 2 sY8_become 118 [some (.inr 90), some (.inr 36)] [] m _
  refine sd_aload_n sD8_become_118 rfl ?_
  refine sd_getfr sD8_become_119 sF8_46 sGC36_11 ?_
  refine sd_aload_n sD8_become_122 rfl ?_
  refine sd_getfr sD8_become_123 sF8_46 sGC90_11 ?_
  refine sd_callN (as := [.inr 34, .inr 88]) (st := []) sD8_become_126 sM8_52 rfl rfl (by decide) (Nat.le_of_ble_eq_true rfl) (cC_copyRow sAC34 sAC88 (by decide) m) (fun r m hq ho126 hm => ?_)
  obtain ⟨rfl, hq⟩ := hq
  have hx : sd_ns (sd_mov x [(6380, 7380, 120), (6260, 7260, 120), (6140, 7140, 120), (6100, 7100, 40), (6060, 7060, 40), (6020, 7020, 40), (6010, 7010, 8), (452, 2452, 8), (444, 2444, 8), (436, 2436, 8), (428, 2428, 8), (5, 2005, 1)]) m := by rw [hq]; exact sd_nseq (fun j => congrFun (sd_mov_cons (x := x) (L := [(6260, 7260, 120), (6140, 7140, 120), (6100, 7100, 40), (6060, 7060, 40), (6020, 7020, 40), (6010, 7010, 8), (452, 2452, 8), (444, 2444, 8), (436, 2436, 8), (428, 2428, 8), (5, 2005, 1)]) (s := 6380) (d := 7380) (n := 120) (by decide +kernel)) j) (hx.cpm _ (by decide))
  show sd_Wp sd_SC 2 sY8_become 129 [some (.inr 90), some (.inr 36)] [] m _
  refine sd_aload_n sD8_become_129 rfl ?_
  refine sd_getfr sD8_become_130 sF8_49 sGC36_12 ?_
  refine sd_aload_n sD8_become_133 rfl ?_
  refine sd_getfr sD8_become_134 sF8_49 sGC90_12 ?_
  refine sd_callN (as := [.inr 35, .inr 89]) (st := []) sD8_become_137 sM8_52 rfl rfl (by decide) (Nat.le_of_ble_eq_true rfl) (cC_copyRow sAC35 sAC89 (by decide) m) (fun r m hq ho137 hm => ?_)
  obtain ⟨rfl, hq⟩ := hq
  have hx : sd_ns (sd_mov x [(1268, 7540, 4), (6380, 7380, 120), (6260, 7260, 120), (6140, 7140, 120), (6100, 7100, 40), (6060, 7060, 40), (6020, 7020, 40), (6010, 7010, 8), (452, 2452, 8), (444, 2444, 8), (436, 2436, 8), (428, 2428, 8), (5, 2005, 1)]) m := by rw [hq]; exact sd_nseq (fun j => congrFun (sd_mov_cons (x := x) (L := [(6380, 7380, 120), (6260, 7260, 120), (6140, 7140, 120), (6100, 7100, 40), (6060, 7060, 40), (6020, 7020, 40), (6010, 7010, 8), (452, 2452, 8), (444, 2444, 8), (436, 2436, 8), (428, 2428, 8), (5, 2005, 1)]) (s := 1268) (d := 7540) (n := 4) (by decide +kernel)) j) (hx.cpm _ (by decide))
  show sd_Wp sd_SC 2 sY8_become 140 [some (.inr 90), some (.inr 36)] [] m _
  refine sd_vreturn sD8_become_140 rfl (fun hm => ?_)
  exact ⟨rfl, hx⟩
