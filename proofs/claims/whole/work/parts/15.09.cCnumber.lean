set_option maxRecDepth 100000 in
set_option maxHeartbeats 4000000 in
theorem cC_number (h : Nat) (w : Int) (x m : sd_M) (hx : sd_ns x m) (h1 : sd_I1 x) (hh : h < 24) : sd_Cp sd_SC 0 sY1_number [.inr 13, .inl (h : Int), .inl w] m (.inl (sd_num x h w)) := by
  refine sd_ct rfl (Nat.le_of_ble_eq_true rfl) (fun hok hm => ?_)
  obtain ⟨⟨i0, j0⟩, ⟨i1, j1⟩, ⟨i2, j2⟩, ⟨i3, j3⟩, ⟨i4, j4⟩, ⟨i5, j5⟩, ⟨i6, j6⟩, ⟨i7, j7⟩, ⟨i8, j8⟩⟩ := id h1
  have r_w : sd_R w := hok (.inl w) (by simp)
  show sd_Wp sd_SC 0 sY1_number 0 [some (.inr 13), some (.inl (h : Int)), some (.inl w)] [] m _
  refine sd_iload_n sD1_number_0 rfl ?_
  rcases (show w = 0 ∨ w = 1 ∨ w = 2 ∨ w = 3 ∨ w = 4 ∨ w = 5 ∨ w = 6 ∨ w = 7 ∨ w = 8 ∨ w = 9 ∨ w = 10 ∨ w = 11 ∨ (w < 0 ∨ 11 < w) by omega) with zc1 | zc1 | zc1 | zc1 | zc1 | zc1 | zc1 | zc1 | zc1 | zc1 | zc1 | zc1 | zc1
  ·
    refine sd_tsw (off := 63) (tgt := 64) sD1_number_1 (by omega) (by rw [zc1]; rfl) (by decide) ?_
    subst zc1
    refine sd_aload_n sD1_number_64 rfl ?_
    refine sd_getfr sD1_number_65 sF1_18 sGC13_2 ?_
    refine sd_iload_n sD1_number_68 rfl ?_
    refine sd_ialdx (a := (10 + h)) (v := x (10 + h)) hx sD1_number_69 sAC0 (by omega) rfl ?_
    refine sd_iretp sD1_number_70 rfl ?_
    (unfold sd_num; repeat (first | rw [if_pos (by omega)] | rw [if_neg (by omega)]))
  ·
    refine sd_tsw (off := 70) (tgt := 71) sD1_number_1 (by omega) (by rw [zc1]; rfl) (by decide) ?_
    subst zc1
    refine sd_aload_n sD1_number_71 rfl ?_
    refine sd_getfr sD1_number_72 sF1_22 sGC13_3 ?_
    refine sd_iload_n sD1_number_75 rfl ?_
    refine sd_ialdx (a := (34 + h)) (v := x (34 + h)) hx sD1_number_76 sAC1 (by omega) rfl ?_
    refine sd_iretp sD1_number_77 rfl ?_
    (unfold sd_num; repeat (first | rw [if_pos (by omega)] | rw [if_neg (by omega)]))
  ·
    refine sd_tsw (off := 77) (tgt := 78) sD1_number_1 (by omega) (by rw [zc1]; rfl) (by decide) ?_
    subst zc1
    refine sd_aload_n sD1_number_78 rfl ?_
    refine sd_getfr sD1_number_79 sF1_25 sGC13_4 ?_
    refine sd_iload_n sD1_number_82 rfl ?_
    refine sd_ialdx (a := (58 + h)) (v := x (58 + h)) hx sD1_number_83 sAC2 (by omega) rfl ?_
    refine sd_iretp sD1_number_84 rfl ?_
    (unfold sd_num; repeat (first | rw [if_pos (by omega)] | rw [if_neg (by omega)]))
  ·
    refine sd_tsw (off := 84) (tgt := 85) sD1_number_1 (by omega) (by rw [zc1]; rfl) (by decide) ?_
    subst zc1
    refine sd_aload_n sD1_number_85 rfl ?_
    refine sd_getfr sD1_number_86 sF1_28 sGC13_5 ?_
    refine sd_iload_n sD1_number_89 rfl ?_
    refine sd_ialdx (a := (82 + h)) (v := x (82 + h)) hx sD1_number_90 sAC3 (by omega) rfl ?_
    refine sd_iretp sD1_number_91 rfl ?_
    (unfold sd_num; repeat (first | rw [if_pos (by omega)] | rw [if_neg (by omega)]))
  ·
    refine sd_tsw (off := 91) (tgt := 92) sD1_number_1 (by omega) (by rw [zc1]; rfl) (by decide) ?_
    subst zc1
    refine sd_aload_n sD1_number_92 rfl ?_
    refine sd_getfr sD1_number_93 sF1_31 sGC13_6 ?_
    refine sd_iload_n sD1_number_96 rfl ?_
    refine sd_ialdx (a := (106 + h)) (v := x (106 + h)) hx sD1_number_97 sAC4 (by omega) rfl ?_
    refine sd_iretp sD1_number_98 rfl ?_
    (unfold sd_num; repeat (first | rw [if_pos (by omega)] | rw [if_neg (by omega)]))
  ·
    refine sd_tsw (off := 98) (tgt := 99) sD1_number_1 (by omega) (by rw [zc1]; rfl) (by decide) ?_
    subst zc1
    refine sd_aload_n sD1_number_99 rfl ?_
    refine sd_getfr sD1_number_100 sF1_34 sGC13_7 ?_
    refine sd_iload_n sD1_number_103 rfl ?_
    refine sd_ialdx (a := (130 + h)) (v := x (130 + h)) hx sD1_number_104 sAC5 (by omega) rfl ?_
    refine sd_iretp sD1_number_105 rfl ?_
    (unfold sd_num; repeat (first | rw [if_pos (by omega)] | rw [if_neg (by omega)]))
  ·
    refine sd_tsw (off := 140) (tgt := 141) sD1_number_1 (by omega) (by rw [zc1]; rfl) (by decide) ?_
    subst zc1
    refine sd_aload_n sD1_number_141 rfl ?_
    refine sd_getfr sD1_number_142 sF1_55 sGC13_14 ?_
    refine sd_iload_n sD1_number_145 rfl ?_
    refine sd_ialdx (a := (298 + h)) (v := x (298 + h)) hx sD1_number_146 sAC12 (by omega) rfl ?_
    refine sd_iretp sD1_number_147 rfl ?_
    (unfold sd_num; repeat (first | rw [if_pos (by omega)] | rw [if_neg (by omega)]))
  ·
    refine sd_tsw (off := 105) (tgt := 106) sD1_number_1 (by omega) (by rw [zc1]; rfl) (by decide) ?_
    subst zc1
    refine sd_aload_n sD1_number_106 rfl ?_
    refine sd_getfr sD1_number_107 sF1_37 sGC13_8 ?_
    refine sd_iload_n sD1_number_110 rfl ?_
    refine sd_ialdx (a := (154 + h)) (v := x (154 + h)) hx sD1_number_111 sAC6 (by omega) rfl ?_
    refine sd_iretp sD1_number_112 rfl ?_
    (unfold sd_num; repeat (first | rw [if_pos (by omega)] | rw [if_neg (by omega)]))
  ·
    refine sd_tsw (off := 112) (tgt := 113) sD1_number_1 (by omega) (by rw [zc1]; rfl) (by decide) ?_
    subst zc1
    refine sd_aload_n sD1_number_113 rfl ?_
    refine sd_getfr sD1_number_114 sF1_43 sGC13_10 ?_
    refine sd_iload_n sD1_number_117 rfl ?_
    refine sd_ialdx (a := (202 + h)) (v := x (202 + h)) hx sD1_number_118 sAC8 (by omega) rfl ?_
    refine sd_iretp sD1_number_119 rfl ?_
    (unfold sd_num; repeat (first | rw [if_pos (by omega)] | rw [if_neg (by omega)]))
  ·
    refine sd_tsw (off := 119) (tgt := 120) sD1_number_1 (by omega) (by rw [zc1]; rfl) (by decide) ?_
    subst zc1
    refine sd_aload_n sD1_number_120 rfl ?_
    refine sd_getfr sD1_number_121 sF1_46 sGC13_11 ?_
    refine sd_iload_n sD1_number_124 rfl ?_
    refine sd_ialdx (a := (226 + h)) (v := x (226 + h)) hx sD1_number_125 sAC9 (by omega) rfl ?_
    refine sd_iretp sD1_number_126 rfl ?_
    (unfold sd_num; repeat (first | rw [if_pos (by omega)] | rw [if_neg (by omega)]))
  ·
    refine sd_tsw (off := 126) (tgt := 127) sD1_number_1 (by omega) (by rw [zc1]; rfl) (by decide) ?_
    subst zc1
    refine sd_aload_n sD1_number_127 rfl ?_
    refine sd_getfr sD1_number_128 sF1_49 sGC13_12 ?_
    refine sd_iload_n sD1_number_131 rfl ?_
    refine sd_ialdx (a := (250 + h)) (v := x (250 + h)) hx sD1_number_132 sAC10 (by omega) rfl ?_
    refine sd_iretp sD1_number_133 rfl ?_
    (unfold sd_num; repeat (first | rw [if_pos (by omega)] | rw [if_neg (by omega)]))
  ·
    refine sd_tsw (off := 133) (tgt := 134) sD1_number_1 (by omega) (by rw [zc1]; rfl) (by decide) ?_
    subst zc1
    refine sd_aload_n sD1_number_134 rfl ?_
    refine sd_getfr sD1_number_135 sF1_52 sGC13_13 ?_
    refine sd_iload_n sD1_number_138 rfl ?_
    refine sd_ialdx (a := (274 + h)) (v := x (274 + h)) hx sD1_number_139 sAC11 (by omega) rfl ?_
    refine sd_iretp sD1_number_140 rfl ?_
    (unfold sd_num; repeat (first | rw [if_pos (by omega)] | rw [if_neg (by omega)]))
  ·
    refine sd_tswd (tgt := 141) sD1_number_1 zc1 (by decide) ?_
    refine sd_aload_n sD1_number_141 rfl ?_
    refine sd_getfr sD1_number_142 sF1_55 sGC13_14 ?_
    refine sd_iload_n sD1_number_145 rfl ?_
    refine sd_ialdx (a := (298 + h)) (v := x (298 + h)) hx sD1_number_146 sAC12 (by omega) rfl ?_
    refine sd_iretp sD1_number_147 rfl ?_
    (unfold sd_num; repeat (first | rw [if_pos (by omega)] | rw [if_neg (by omega)]))
