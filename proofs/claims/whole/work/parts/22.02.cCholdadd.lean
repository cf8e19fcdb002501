set_option maxRecDepth 100000 in
set_option maxHeartbeats 4000000 in
theorem cC_holdadd (k a b : Int) (x m : sd_M) (hx : sd_ns x m) (hs : 0 ≤ x 2 ∧ x 2 < 24) (hk : 0 ≤ k ∧ k ≤ 6) (hz : 0 ≤ x 6004 ∧ x 6004 ≤ 8) : sd_Ct sd_SC 2 sY1_add [.inr 13, .inl k, .inl a, .inl b] m (fun r m' => r = some (.inl (x 2)) ∧ sd_ns (sd_up (sd_hadd x k a b) 6004 (x 6004 + sd_b (k = 1 ∨ k = 2))) m') := by
  refine sd_ct rfl (Nat.le_of_ble_eq_true rfl) (fun hok hm => ?_)
  show sd_Wp sd_SC 2 sY1_add 0 [some (.inr 13), some (.inl k), some (.inl a), some (.inl b), none] [] m _
  refine sd_aload_n sD1_add_0 rfl ?_
  refine sd_getfx (v := x 2) hx sD1_add_1 sF1_9 sGC13_0 (by decide) rfl ?_
  refine sd_istore (ls' := [some (.inr 13), some (.inl k), some (.inl a), some (.inl b), some (.inl (x 2))]) sD1_add_4 (by decide) rfl ?_
  refine sd_aload_n sD1_add_6 rfl ?_
  refine sd_dup sD1_add_7 ?_
  refine sd_getfx (v := x 2) hx sD1_add_8 sF1_9 sGC13_0 (by decide) rfl ?_
  refine sd_iconst sD1_add_11 (by decide) ?_
  refine sd_iadd (z := (x 2 + 1)) sD1_add_12 (by omega) (by omega) ?_
  refine sd_putfx sd_sokC sd_oneC hx sD1_add_13 sF1_9 sGC13_0 (Or.inl rfl) (fun m hx em13 => ?_)
  refine sd_aload_n sD1_add_16 rfl ?_
  refine sd_getfr sD1_add_17 sF1_18 sGC13_2 ?_
  refine sd_iload sD1_add_20 rfl ?_
  refine sd_iload_n sD1_add_22 rfl ?_
  refine sd_iastx (a := (10 + ((x 2).toNat))) sd_sokC hx sD1_add_23 sAC0 (by omega) (fun m hx em23 => ?_)
  refine sd_aload_n sD1_add_24 rfl ?_
  refine sd_getfr sD1_add_25 sF1_22 sGC13_3 ?_
  refine sd_iload sD1_add_28 rfl ?_
  refine sd_iload_n sD1_add_30 rfl ?_
  refine sd_iastx (a := (34 + ((x 2).toNat))) sd_sokC hx sD1_add_31 sAC1 (by omega) (fun m hx em31 => ?_)
  refine sd_aload_n sD1_add_32 rfl ?_
  refine sd_getfr sD1_add_33 sF1_25 sGC13_4 ?_
  refine sd_iload sD1_add_36 rfl ?_
  refine sd_iload_n sD1_add_38 rfl ?_
  refine sd_iastx (a := (58 + ((x 2).toNat))) sd_sokC hx sD1_add_39 sAC2 (by omega) (fun m hx em39 => ?_)
  refine sd_aload_n sD1_add_40 rfl ?_
  refine sd_getfr sD1_add_41 sF1_28 sGC13_5 ?_
  refine sd_iload sD1_add_44 rfl ?_
  refine sd_bipush sD1_add_46 rfl (by decide) ?_
  refine sd_iastx (a := (82 + ((x 2).toNat))) sd_sokC hx sD1_add_48 sAC3 (by omega) (fun m hx em48 => ?_)
  refine sd_aload_n sD1_add_49 rfl ?_
  refine sd_getfr sD1_add_50 sF1_31 sGC13_6 ?_
  refine sd_iload sD1_add_53 rfl ?_
  refine sd_iconst sD1_add_55 (by decide) ?_
  refine sd_iastx (a := (106 + ((x 2).toNat))) sd_sokC hx sD1_add_56 sAC4 (by omega) (fun m hx em56 => ?_)
  refine sd_aload_n sD1_add_57 rfl ?_
  refine sd_getfr sD1_add_58 sF1_34 sGC13_7 ?_
  refine sd_iload sD1_add_61 rfl ?_
  refine sd_iconst sD1_add_63 (by decide) ?_
  refine sd_iastx (a := (130 + ((x 2).toNat))) sd_sokC hx sD1_add_64 sAC5 (by omega) (fun m hx em64 => ?_)
  refine sd_aload_n sD1_add_65 rfl ?_
  refine sd_getfr sD1_add_66 sF1_37 sGC13_8 ?_
  refine sd_iload sD1_add_69 rfl ?_
  refine sd_iload_n sD1_add_71 rfl ?_
  refine sd_iconst sD1_add_72 (by decide) ?_
  refine sd_cut (J := 81) (ls := [some (.inr 13), some (.inl k), some (.inl a), some (.inl b), some (.inl (x 2))]) (st := [.inl (x 2), .inr 6]) (fun zv => zv = (if k = 2 then b else 0)) (fun zv hzv => ?_) (fun K73 => ?_)
  ·
    subst hzv
    refine sd_iastx (a := (154 + ((x 2).toNat))) sd_sokC hx sD1_add_81 sAC6 (by omega) (fun m hx em81 => ?_)
    refine sd_aload_n sD1_add_82 rfl ?_
    refine sd_getfr sD1_add_83 sF1_40 sGC13_9 ?_
    refine sd_iload sD1_add_86 rfl ?_
    refine sd_iconst sD1_add_88 (by decide) ?_
    refine sd_iastx (a := (178 + ((x 2).toNat))) sd_sokC hx sD1_add_89 sAC7 (by omega) (fun m hx em89 => ?_)
    refine sd_aload_n sD1_add_90 rfl ?_
    refine sd_getfr sD1_add_91 sF1_43 sGC13_10 ?_
    refine sd_iload sD1_add_94 rfl ?_
    refine sd_iconst sD1_add_96 (by decide) ?_
    refine sd_iastx (a := (202 + ((x 2).toNat))) sd_sokC hx sD1_add_97 sAC8 (by omega) (fun m hx em97 => ?_)
    refine sd_aload_n sD1_add_98 rfl ?_
    refine sd_getfr sD1_add_99 sF1_46 sGC13_11 ?_
    refine sd_iload sD1_add_102 rfl ?_
    refine sd_iconst sD1_add_104 (by decide) ?_
    refine sd_iastx (a := (226 + ((x 2).toNat))) sd_sokC hx sD1_add_105 sAC9 (by omega) (fun m hx em105 => ?_)
    refine sd_aload_n sD1_add_106 rfl ?_
    refine sd_getfr sD1_add_107 sF1_49 sGC13_12 ?_
    refine sd_iload sD1_add_110 rfl ?_
    refine sd_iconst sD1_add_112 (by decide) ?_
    refine sd_iastx (a := (250 + ((x 2).toNat))) sd_sokC hx sD1_add_113 sAC10 (by omega) (fun m hx em113 => ?_)
    refine sd_aload_n sD1_add_114 rfl ?_
    refine sd_getfr sD1_add_115 sF1_52 sGC13_13 ?_
    refine sd_iload sD1_add_118 rfl ?_
    refine sd_iload_n sD1_add_120 rfl ?_
    refine sd_iastx (a := (274 + ((x 2).toNat))) sd_sokC hx sD1_add_121 sAC11 (by omega) (fun m hx em121 => ?_)
    refine sd_aload_n sD1_add_122 rfl ?_
    refine sd_getfr sD1_add_123 sF1_55 sGC13_14 ?_
    refine sd_iload sD1_add_126 rfl ?_
    refine sd_iload_n sD1_add_128 rfl ?_
    refine sd_iastx (a := (298 + ((x 2).toNat))) sd_sokC hx sD1_add_129 sAC12 (by omega) (fun m hx em129 => ?_)
    have e14 : (sd_up (sd_up (sd_up (sd_up (sd_up (sd_up (sd_up (sd_up (sd_up (sd_up (sd_up (sd_up (sd_up (sd_up x 2 (x 2 + 1)) (10 + (x 2).toNat) k) (34 + (x 2).toNat) a) (58 + (x 2).toNat) b) (82 + (x 2).toNat) 12) (106 + (x 2).toNat) 0) (130 + (x 2).toNat) 0) (154 + (x 2).toNat) (if k = 2 then b else 0)) (178 + (x 2).toNat) 0) (202 + (x 2).toNat) 0) (226 + (x 2).toNat) 0) (250 + (x 2).toNat) 1) (274 + (x 2).toNat) a) (298 + (x 2).toNat) b) 2 = x 2 + 1 := by simp only [sd_up]; repeat (first | rw [if_neg (by omega)] | rw [if_pos (by first | trivial | omega)])
    have e15 : (sd_up (sd_up (sd_up (sd_up (sd_up (sd_up (sd_up (sd_up (sd_up (sd_up (sd_up (sd_up (sd_up (sd_up x 2 (x 2 + 1)) (10 + (x 2).toNat) k) (34 + (x 2).toNat) a) (58 + (x 2).toNat) b) (82 + (x 2).toNat) 12) (106 + (x 2).toNat) 0) (130 + (x 2).toNat) 0) (154 + (x 2).toNat) (if k = 2 then b else 0)) (178 + (x 2).toNat) 0) (202 + (x 2).toNat) 0) (226 + (x 2).toNat) 0) (250 + (x 2).toNat) 1) (274 + (x 2).toNat) a) (298 + (x 2).toNat) b) (10 + (x 2).toNat) = k := by simp only [sd_up]; repeat (first | rw [if_neg (by omega)] | rw [if_pos (by first | trivial | omega)])
    refine sd_aload_n sD1_add_130 rfl ?_
    refine sd_dup sD1_add_131 ?_
    refine sd_getfx (v := x 6004) hx sD1_add_132 sF1_15 sGC13_1 (by decide) (by simp only [sd_up]; repeat rw [if_neg (by omega)]) ?_
    refine sd_aload_n sD1_add_135 rfl ?_
    refine sd_iload sD1_add_136 rfl ?_
    refine sd_iconst sD1_add_138 (by decide) ?_
    refine sd_callVp (as := [.inl (x 2), .inl 1]) (st := [.inl (x 6004), .inr 13]) (v := .inl (sd_b (sd_isA (sd_up (sd_up (sd_up (sd_up (sd_up (sd_up (sd_up (sd_up (sd_up (sd_up (sd_up (sd_up (sd_up (sd_up x 2 (x 2 + 1)) (10 + ((x 2).toNat)) k) (34 + ((x 2).toNat)) a) (58 + ((x 2).toNat)) b) (82 + ((x 2).toNat)) 12) (106 + ((x 2).toNat)) 0) (130 + ((x 2).toNat)) 0) (154 + ((x 2).toNat)) (if k = 2 then b else 0)) (178 + ((x 2).toNat)) 0) (202 + ((x 2).toNat)) 0) (226 + ((x 2).toNat)) 0) (250 + ((x 2).toNat)) 1) (274 + ((x 2).toNat)) a) (298 + ((x 2).toNat)) b) (x 2) 1))) sD1_add_139 sM1_70 sOC13 rfl rfl rfl (by decide) (Nat.le_of_ble_eq_true rfl) (cC_isAm (x 2) 1 _ m hx (by rw [e14]; omega) (fun _ => by rw [e15]; omega)) (fun ho139 => ?_)
    rw [show sd_b (sd_isA (sd_up (sd_up (sd_up (sd_up (sd_up (sd_up (sd_up (sd_up (sd_up (sd_up (sd_up (sd_up (sd_up (sd_up x 2 (x 2 + 1)) (10 + ((x 2).toNat)) k) (34 + ((x 2).toNat)) a) (58 + ((x 2).toNat)) b) (82 + ((x 2).toNat)) 12) (106 + ((x 2).toNat)) 0) (130 + ((x 2).toNat)) 0) (154 + ((x 2).toNat)) (if k = 2 then b else 0)) (178 + ((x 2).toNat)) 0) (202 + ((x 2).toNat)) 0) (226 + ((x 2).toNat)) 0) (250 + ((x 2).toNat)) 1) (274 + ((x 2).toNat)) a) (298 + ((x 2).toNat)) b) (x 2) 1) = sd_b (k = 1 ∨ k = 2) from sd_bc (by omega)]
    refine sd_callNp (as := [.inl (sd_b (k = 1 ∨ k = 2))]) (st := [.inl (x 6004), .inr 13]) (v := .inl (sd_b (k = 1 ∨ k = 2))) sD1_add_142 sM1_75 rfl rfl (by decide) (Nat.le_of_ble_eq_true rfl) (cC_asNumber (k = 1 ∨ k = 2) m) (fun ho142 => ?_)
    have zb145 := sd_b01 (k = 1 ∨ k = 2)
    refine sd_iadd (z := (x 6004 + sd_b (k = 1 ∨ k = 2))) sD1_add_145 (by omega) (by omega) ?_
    refine sd_putfx sd_sokC sd_oneC hx sD1_add_146 sF1_15 sGC13_1 (Or.inl rfl) (fun m hx em146 => ?_)
    refine sd_iload sD1_add_149 rfl ?_
    refine sd_ireturn sD1_add_151 rfl (fun hr hm => ?_)
    exact ⟨rfl, hx⟩
  ·
    refine sd_icmp_ne (tgt := 80) sD1_add_73 (by decide) (fun zc73 => ?_) (fun zc73 => ?_)
    ·
      refine sd_iconst sD1_add_80 (by decide) ?_
      exact K73 _ (by first | (rw [if_pos (by omega)]; done) | (rw [if_neg (by omega)]; done))
    ·
      refine sd_iload_n sD1_add_76 rfl ?_
      refine sd_goto (tgt := 81) sD1_add_77 (by decide) ?_
      exact K73 _ (by first | (rw [if_pos (by omega)]; done) | (rw [if_neg (by omega)]; done))
