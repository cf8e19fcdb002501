set_option maxRecDepth 100000 in
set_option maxHeartbeats 4000000 in
theorem cC_become_textsS (x m : sd_M) (hx0 : sd_ns x m) : sd_Ct sd_SC 2 sY8_become [.inr 36, .inr 90] m (fun r m' => r = none ∧ sd_ns (sd_mov x [(7540, 1268, 4), (7380, 6380, 120), (7260, 6260, 120), (7140, 6140, 120), (7100, 6100, 40), (7060, 6060, 40), (7020, 6020, 40), (7010, 6010, 8), (2452, 452, 8), (2444, 444, 8), (2436, 436, 8), (2428, 428, 8), (2005, 5, 1)]) m') := by
  refine sd_ct rfl (Nat.le_of_ble_eq_true rfl) (fun hok hm => ?_)
  have hx : sd_ns (sd_mov x []) m := hx0
  show sd_Wp sd_SC 2 sY8_become 0 [some (.inr 36), some (.inr 90)] [] m _
  refine sd_aload_n sD8_become_0 rfl ?_
  refine sd_aload_n sD8_become_1 rfl ?_
  refine sd_getfx (v := x 2005) hx sD8_become_2 sF8_9 sGC90_0 (by decide) rfl ?_
  refine sd_putfx sd_sokC sd_oneC hx sD8_become_5 sF8_9 sGC36_0 (Or.inl rfl) (fun m hx em5 => ?_)
  have hx : sd_ns (sd_mov x [(2005, 5, 1)]) m := sd_nseq (fun j => congrFun (sd_mov_up (x := x) (L := []) (s := 2005) (d := 5)) j) hx
  refine sd_aload_n sD8_become_8 rfl ?_
  refine sd_getfr sD8_become_9 sF8_15 sGC90_1 ?_
  refine sd_aload_n sD8_become_12 rfl ?_
  refine sd_getfr sD8_become_13 sF8_15 sGC36_1 ?_
  refine sd_callN (as := [.inr 78, .inr 24]) (st := []) sD8_become_16 sM8_52 rfl rfl (by decide) (Nat.le_of_ble_eq_true rfl) (cC_copyRow sAC78 sAC24 (by decide) m) (fun r m hq ho16 hm => ?_)
  obtain ⟨rfl, hq⟩ := hq
  have hx : sd_ns (sd_mov x [(2428, 428, 8), (2005, 5, 1)]) m := by rw [hq]; exact sd_nseq (fun j => congrFun (sd_mov_cons (x := x) (L := [(2005, 5, 1)]) (s := 2428) (d := 428) (n := 8) (by decide +kernel)) j) (hx.cpm _ (by decide))
  show sd_Wp sd_SC 2 sY8_become 19 [some (.inr 36), some (.inr 90)] [] m _
  refine sd_aload_n sD8_become_19 rfl ?_
  refine sd_getfr sD8_become_20 sF8_19 sGC90_2 ?_
  refine sd_aload_n sD8_become_23 rfl ?_
  refine sd_getfr sD8_become_24 sF8_19 sGC36_2 ?_
  refine sd_callN (as := [.inr 79, .inr 25]) (st := []) sD8_become_27 sM8_52 rfl rfl (by decide) (Nat.le_of_ble_eq_true rfl) (cC_copyRow sAC79 sAC25 (by decide) m) (fun r m hq ho27 hm => ?_)
  obtain ⟨rfl, hq⟩ := hq
  have hx : sd_ns (sd_mov x [(2436, 436, 8), (2428, 428, 8), (2005, 5, 1)]) m := by rw [hq]; exact sd_nseq (fun j => congrFun (sd_mov_cons (x := x) (L := [(2428, 428, 8), (2005, 5, 1)]) (s := 2436) (d := 436) (n := 8) (by decide +kernel)) j) (hx.cpm _ (by decide))
  show sd_Wp sd_SC 2 sY8_become 30 [some (.inr 36), some (.inr 90)] [] m _
  refine sd_aload_n sD8_become_30 rfl ?_
  refine sd_getfr sD8_become_31 sF8_22 sGC90_3 ?_
  refine sd_aload_n sD8_become_34 rfl ?_
  refine sd_getfr sD8_become_35 sF8_22 sGC36_3 ?_
  refine sd_callN (as := [.inr 80, .inr 26]) (st := []) sD8_become_38 sM8_52 rfl rfl (by decide) (Nat.le_of_ble_eq_true rfl) (cC_copyRow sAC80 sAC26 (by decide) m) (fun r m hq ho38 hm => ?_)
  obtain ⟨rfl, hq⟩ := hq
  have hx : sd_ns (sd_mov x [(2444, 444, 8), (2436, 436, 8), (2428, 428, 8), (2005, 5, 1)]) m := by rw [hq]; exact sd_nseq (fun j => congrFun (sd_mov_cons (x := x) (L := [(2436, 436, 8), (2428, 428, 8), (2005, 5, 1)]) (s := 2444) (d := 444) (n := 8) (by decide +kernel)) j) (hx.cpm _ (by decide))
  show sd_Wp sd_SC 2 sY8_become 41 [some (.inr 36), some (.inr 90)] [] m _
  refine sd_aload_n sD8_become_41 rfl ?_
  refine sd_getfr sD8_become_42 sF8_25 sGC90_4 ?_
  refine sd_aload_n sD8_become_45 rfl ?_
  refine sd_getfr sD8_become_46 sF8_25 sGC36_4 ?_
  refine sd_callN (as := [.inr 81, .inr 27]) (st := []) sD8_become_49 sM8_52 rfl rfl (by decide) (Nat.le_of_ble_eq_true rfl) (cC_copyRow sAC81 sAC27 (by decide) m) (fun r m hq ho49 hm => ?_)
  obtain ⟨rfl, hq⟩ := hq
  have hx : sd_ns (sd_mov x [(2452, 452, 8), (2444, 444, 8), (2436, 436, 8), (2428, 428, 8), (2005, 5, 1)]) m := by rw [hq]; exact sd_nseq (fun j => congrFun (sd_mov_cons (x := x) (L := [(2444, 444, 8), (2436, 436, 8), (2428, 428, 8), (2005, 5, 1)]) (s := 2452) (d := 452) (n := 8) (by decide +kernel)) j) (hx.cpm _ (by decide))
  show sd_Wp sd_SC 2 sY8_become 52 [some (.inr 36), some (.inr 90)] [] m _
  refine sd_aload_n sD8_become_52 rfl ?_
  refine sd_getfr sD8_become_53 sF8_28 sGC90_5 ?_
  refine sd_aload_n sD8_become_56 rfl ?_
  refine sd_getfr sD8_become_57 sF8_28 sGC36_5 ?_
  refine sd_callN (as := [.inr 82, .inr 28]) (st := []) sD8_become_60 sM8_52 rfl rfl (by decide) (Nat.le_of_ble_eq_true rfl) (cC_copyRow sAC82 sAC28 (by decide) m) (fun r m hq ho60 hm => ?_)
  obtain ⟨rfl, hq⟩ := hq
  have hx : sd_ns (sd_mov x [(7010, 6010, 8), (2452, 452, 8), (2444, 444, 8), (2436, 436, 8), (2428, 428, 8), (2005, 5, 1)]) m := by rw [hq]; exact sd_nseq (fun j => congrFun (sd_mov_cons (x := x) (L := [(2452, 452, 8), (2444, 444, 8), (2436, 436, 8), (2428, 428, 8), (2005, 5, 1)]) (s := 7010) (d := 6010) (n := 8) (by decide +kernel)) j) (hx.cpm _ (by decide))
  show sd_Wp sd_SC 2 sY8_become 63 [some (.inr 36), some (.inr 90)] [] m _
  refine sd_aload_n sD8_become_63 rfl ?_
  refine sd_getfr sD8_become_64 sF8_31 sGC90_6 ?_
  refine sd_aload_n sD8_become_67 rfl ?_
  refine sd_getfr sD8_become_68 sF8_31 sGC36_6 ?_
  refine sd_callN (as := [.inr 83, .inr 29]) (st := []) sD8_become_71 sM8_52 rfl rfl (by decide) (Nat.le_of_ble_eq_true rfl) (cC_copyRow sAC83 sAC29 (by decide) m) (fun r m hq ho71 hm => ?_)
  obtain ⟨rfl, hq⟩ := hq
  have hx : sd_ns (sd_mov x [(7020, 6020, 40), (7010, 6010, 8), (2452, 452, 8), (2444, 444, 8), (2436, 436, 8), (2428, 428, 8), (2005, 5, 1)]) m := by rw [hq]; exact sd_nseq (fun j => congrFun (sd_mov_cons (x := x) (L := [(7010, 6010, 8), (2452, 452, 8), (2444, 444, 8), (2436, 436, 8), (2428, 428, 8), (2005, 5, 1)]) (s := 7020) (d := 6020) (n := 40) (by decide +kernel)) j) (hx.cpm _ (by decide))
  show sd_Wp sd_SC 2 sY8_become 74 [some (.inr 36), some (.inr 90)] [] m _
  refine sd_aload_n sD8_become_74 rfl ?_
  refine sd_getfr sD8_become_75 sF8_34 sGC90_7 ?_
  refine sd_aload_n sD8_become_78 rfl ?_
  refine sd_getfr sD8_become_79 sF8_34 sGC36_7 ?_
  refine sd_callN (as := [.inr 84, .inr 30]) (st := []) sD8_become_82 sM8_52 rfl rfl (by decide) (Nat.le_of_ble_eq_true rfl) (cC_copyRow sAC84 sAC30 (by decide) m) (fun r m hq ho82 hm => ?_)
  obtain ⟨rfl, hq⟩ := hq
  have hx : sd_ns (sd_mov x [(7060, 6060, 40), (7020, 6020, 40), (7010, 6010, 8), (2452, 452, 8), (2444, 444, 8), (2436, 436, 8), (2428, 428, 8), (2005, 5, 1)]) m := by rw [hq]; exact sd_nseq (fun j => congrFun (sd_mov_cons (x := x) (L := [(7020, 6020, 40), (7010, 6010, 8), (2452, 452, 8), (2444, 444, 8), (2436, 436, 8), (2428, 428, 8), (2005, 5, 1)]) (s := 7060) (d := 6060) (n := 40) (by decide +kernel)) j) (hx.cpm _ (by decide))
  show sd_Wp sd_SC 2 sY8_become 85 [some (.inr 36), some (.inr 90)] [] m _
  refine sd_aload_n sD8_become_85 rfl ?_
  refine sd_getfr sD8_become_86 sF8_37 sGC90_8 ?_
  refine sd_aload_n sD8_become_89 rfl ?_
  refine sd_getfr sD8_become_90 sF8_37 sGC36_8 ?_
  refine sd_callN (as := [.inr 85, .inr 31]) (st := []) sD8_become_93 sM8_52 rfl rfl (by decide) (Nat.le_of_ble_eq_true rfl) (cC_copyRow sAC85 sAC31 (by decide) m) (fun r m hq ho93 hm => ?_)
  obtain ⟨rfl, hq⟩ := hq
  have hx : sd_ns (sd_mov x [(7100, 6100, 40), (7060, 6060, 40), (7020, 6020, 40), (7010, 6010, 8), (2452, 452, 8), (2444, 444, 8), (2436, 436, 8), (2428, 428, 8), (2005, 5, 1)]) m := by rw [hq]; exact sd_nseq (fun j => congrFun (sd_mov_cons (x := x) (L := [(7060, 6060, 40), (7020, 6020, 40), (7010, 6010, 8), (2452, 452, 8), (2444, 444, 8), (2436, 436, 8), (2428, 428, 8), (2005, 5, 1)]) (s := 7100) (d := 6100) (n := 40) (by decide +kernel)) j) (hx.cpm _ (by decide))
  show sd_Wp sd_SC 2 sY8_become 96 [some (.inr 36), some (.inr 90)] [] m _
  refine sd_aload_n sD8_become_96 rfl ?_
  refine sd_getfr sD8_become_97 sF8_40 sGC90_9 ?_
  refine sd_aload_n sD8_become_100 rfl ?_
  refine sd_getfr sD8_become_101 sF8_40 sGC36_9 ?_
  refine sd_callN (as := [.inr 86, .inr 32]) (st := []) sD8_become_104 sM8_52 rfl rfl (by decide) (Nat.le_of_ble_eq_true rfl) (cC_copyRow sAC86 sAC32 (by decide) m) (fun r m hq ho104 hm => ?_)
  obtain ⟨rfl, hq⟩ := hq
  have hx : sd_ns (sd_mov x [(7140, 6140, 120), (7100, 6100, 40), (7060, 6060, 40), (7020, 6020, 40), (7010, 6010, 8), (2452, 452, 8), (2444, 444, 8), (2436, 436, 8), (2428, 428, 8), (2005, 5, 1)]) m := by rw [hq]; exact sd_nseq (fun j => congrFun (sd_mov_cons (x := x) (L := [(7100, 6100, 40), (7060, 6060, 40), (7020, 6020, 40), (7010, 6010, 8), (2452, 452, 8), (2444, 444, 8), (2436, 436, 8), (2428, 428, 8), (2005, 5, 1)]) (s := 7140) (d := 6140) (n := 120) (by decide +kernel)) j) (hx.cpm _ (by decide))
  show sd_Wp sd_SC 2 sY8_become 107 [some (.inr 36), some (.inr 90)] [] m _
  refine sd_aload_n sD8_become_107 rfl ?_
  refine sd_getfr sD8_become_108 sF8_43 sGC90_10 ?_
  refine sd_aload_n sD8_become_111 rfl ?_
  refine sd_getfr sD8_become_112 sF8_43 sGC36_10 ?_
  refine sd_callN (as := [.inr 87, .inr 33]) (st := []) sD8_become_115 sM8_52 rfl rfl (by decide) (Nat.le_of_ble_eq_true rfl) (cC_copyRow sAC87 sAC33 (by decide) m) (fun r m hq ho115 hm => ?_)
  obtain ⟨rfl, hq⟩ := hq
  have hx : sd_ns (sd_mov x [(7260, 6260, 120), (7140, 6140, 120), (7100, 6100, 40), (7060, 6060, 40), (7020, 6020, 40), (7010, 6010, 8), (2452, 452, 8), (2444, 444, 8), (2436, 436, 8), (2428, 428, 8), (2005, 5, 1)]) m := by rw [hq]; exact sd_nseq (fun j => congrFun (sd_mov_cons (x := x) (L := [(7140, 6140, 120), (7100, 6100, 40), (7060, 6060, 40), (7020, 6020, 40), (7010, 6010, 8), (2452, 452, 8), (2444, 444, 8), (2436, 436, 8), (2428, 428, 8), (2005, 5, 1)]) (s := 7260) (d := 6260) (n := 120) (by decide +kernel)) j) (hx.cpm _ (by decide))
  show sd_Wp sd_SC 2 sY8_become 118 [some (.inr 36), some (.inr 90)] [] m _
  refine sd_aload_n sD8_become_118 rfl ?_
  refine sd_getfr sD8_become_119 sF8_46 sGC90_11 ?_
  refine sd_aload_n sD8_become_122 rfl ?_
  refine sd_getfr sD8_become_123 sF8_46 sGC36_11 ?_
  refine sd_callN (as := [.inr 88, .inr 34]) (st := []) sD8_become_126 sM8_52 rfl rfl (by decide) (Nat.le_of_ble_eq_true rfl) (cC_copyRow sAC88 sAC34 (by decide) m) (fun r m hq ho126 hm => ?_)
  obtain ⟨rfl, hq⟩ := hq
  have hx : sd_ns (sd_mov x [(7380, 6380, 120), (7260, 6260, 120), (7140, 6140, 120), (7100, 6100, 40), (7060, 6060, 40), (7020, 6020, 40), (7010, 6010, 8), (2452, 452, 8), (2444, 444, 8), (2436, 436, 8), (2428, 428, 8), (2005, 5, 1)]) m := by rw [hq]; exact sd_nseq (fun j => congrFun (sd_mov_cons (x := x) (L := [(7260, 6260, 120), (7140, 6140, 120), (7100, 6100, 40), (7060, 6060, 40), (7020, 6020, 40), (7010, 6010, 8), (2452, 452, 8), (2444, 444, 8), (2436, 436, 8), (2428, 428, 8), (2005, 5, 1)]) (s := 7380) (d := 6380) (n := 120) (by decide +kernel)) j) (hx.cpm _ (by decide))
  show sd_Wp sd_SC 2 sY8_become 129 [some (.inr 36), some (.inr 90)] [] m _
  refine sd_aload_n sD8_become_129 rfl ?_
  refine sd_getfr sD8_become_130 sF8_49 sGC90_12 ?_
  refine sd_aload_n sD8_become_133 rfl ?_
  refine sd_getfr sD8_become_134 sF8_49 sGC36_12 ?_
  refine sd_callN (as := [.inr 89, .inr 35]) (st := []) sD8_become_137 sM8_52 rfl rfl (by decide) (Nat.le_of_ble_eq_true rfl) (cC_copyRow sAC89 sAC35 (by decide) m) (fun r m hq ho137 hm => ?_)
  obtain ⟨rfl, hq⟩ := hq
  have hx : sd_ns (sd_mov x [(7540, 1268, 4), (7380, 6380, 120), (7260, 6260, 120), (7140, 6140, 120), (7100, 6100, 40), (7060, 6060, 40), (7020, 6020, 40), (7010, 6010, 8), (2452, 452, 8), (2444, 444, 8), (2436, 436, 8), (2428, 428, 8), (2005, 5, 1)]) m := by rw [hq]; exact sd_nseq (fun j => congrFun (sd_mov_cons (x := x) (L := [(7380, 6380, 120), (7260, 6260, 120), (7140, 6140, 120), (7100, 6100, 40), (7060, 6060, 40), (7020, 6020, 40), (7010, 6010, 8), (2452, 452, 8), (2444, 444, 8), (2436, 436, 8), (2428, 428, 8), (2005, 5, 1)]) (s := 7540) (d := 1268) (n := 4) (by decide +kernel)) j) (hx.cpm _ (by decide))
  show sd_Wp sd_SC 2 sY8_become 140 [some (.inr 36), some (.inr 90)] [] m _
  refine sd_vreturn sD8_become_140 rfl (fun hm => ?_)
  exact ⟨rfl, hx⟩
