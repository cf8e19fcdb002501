def sd_B100 : List sd_C := [.inl (10, 24), .inl (34, 24), .inl (58, 24), .inl (82, 24), .inl (106, 24), .inl (130, 24), .inl (154, 24), .inl (178, 24), .inl (202, 24), .inl (226, 24), .inl (250, 24), .inl (274, 24), .inl (298, 24), .inr (.inl (1, [.inl 2, .inl 6004, .inr 0, .inr 1, .inr 2, .inr 3, .inr 4, .inr 5, .inr 6, .inr 7, .inr 8, .inr 9, .inr 10, .inr 11, .inr 12])), .inl (322, 16), .inl (338, 16), .inl (354, 16), .inl (370, 16), .inr (.inl (3, [.inl 3, .inr 14, .inr 15, .inr 16, .inr 17])), .inl (386, 6), .inl (392, 36), .inl (5020, 6), .inl (5030, 6), .inr (.inl (9, [.inl 4, .inl 8, .inr 19, .inr 20, .inr 21, .inr 22])), .inl (428, 8), .inl (436, 8), .inl (444, 8), .inl (452, 8), .inl (6010, 8), .inl (6020, 40), .inl (6060, 40), .inl (6100, 40), .inl (6140, 120), .inl (6260, 120), .inl (6380, 120), .inl (1268, 4), .inr (.inl (8, [.inl 5, .inr 24, .inr 25, .inr 26, .inr 27, .inr 28, .inr 29, .inr 30, .inr 31, .inr 32, .inr 33, .inr 34, .inr 35])), .inl (1272, 6), .inl (1278, 6), .inl (1284, 6), .inl (5040, 24), .inl (5070, 24), .inr (.inl (4, [.inl 6, .inl 7, .inr 37, .inr 38, .inr 39, .inr 40, .inr 41])), .inl (6500, 6), .inl (6506, 6), .inr (.inl (2, [.inr 43, .inr 44])), .inl (6520, 6), .inl (6526, 6), .inl (5100, 5), .inr (.inl (0, [.inr 46, .inr 47, .inr 48, .inl 5110])), .inl (1314, 240), .inl (5000, 4), .inl (5010, 6), .inr (.inl (6, [.inl 0, .inl 1, .inr 13, .inr 18, .inr 23, .inr 36, .inr 42, .inr 45, .inr 49, .inr 50, .inr 51, .inr 52]))]
def sd_B101 : List sd_C := [.inl (2010, 24), .inl (2034, 24), .inl (2058, 24), .inl (2082, 24), .inl (2106, 24), .inl (2130, 24), .inl (2154, 24), .inl (2178, 24), .inl (2202, 24), .inl (2226, 24), .inl (2250, 24), .inl (2274, 24), .inl (2298, 24), .inr (.inl (1, [.inl 2002, .inl 7004, .inr 54, .inr 55, .inr 56, .inr 57, .inr 58, .inr 59, .inr 60, .inr 61, .inr 62, .inr 63, .inr 64, .inr 65, .inr 66])), .inl (2322, 16), .inl (2338, 16), .inl (2354, 16), .inl (2370, 16), .inr (.inl (3, [.inl 2003, .inr 68, .inr 69, .inr 70, .inr 71])), .inl (2386, 6), .inl (2392, 36), .inl (5220, 6), .inl (5230, 6), .inr (.inl (9, [.inl 2004, .inl 2008, .inr 73, .inr 74, .inr 75, .inr 76])), .inl (2428, 8), .inl (2436, 8), .inl (2444, 8), .inl (2452, 8), .inl (7010, 8), .inl (7020, 40), .inl (7060, 40), .inl (7100, 40), .inl (7140, 120), .inl (7260, 120), .inl (7380, 120), .inl (7540, 4), .inr (.inl (8, [.inl 2005, .inr 78, .inr 79, .inr 80, .inr 81, .inr 82, .inr 83, .inr 84, .inr 85, .inr 86, .inr 87, .inr 88, .inr 89])), .inl (3272, 6), .inl (3278, 6), .inl (3284, 6), .inl (5240, 24), .inl (5270, 24), .inr (.inl (4, [.inl 2006, .inl 2007, .inr 91, .inr 92, .inr 93, .inr 94, .inr 95])), .inl (7500, 6), .inl (7506, 6), .inr (.inl (2, [.inr 97, .inr 98])), .inl (7520, 6), .inl (7526, 6), .inl (5300, 5), .inr (.inl (0, [.inr 100, .inr 101, .inr 102, .inl 5310])), .inl (3314, 240), .inl (5200, 4), .inl (5210, 6), .inr (.inl (6, [.inl 2000, .inl 2001, .inr 67, .inr 72, .inr 77, .inr 90, .inr 96, .inr 99, .inr 103, .inr 104, .inr 105, .inr 106]))]
def sd_B102 : List sd_C := [.inl (8200, 12), .inr (.inl (5, [.inl 4250, .inl 8100, .inr 108]))]
def sd_B103 : List sd_C := [.inl (8212, 12), .inr (.inl (5, [.inl 4251, .inl 8101, .inr 110]))]
def sd_B104 : List sd_C := [.inl (8224, 12), .inr (.inl (5, [.inl 4252, .inl 8102, .inr 112]))]
def sd_B105 : List sd_C := [.inl (8236, 12), .inr (.inl (5, [.inl 4253, .inl 8103, .inr 114]))]
def sd_B106 : List sd_C := [.inr (.inr [109, 111, 113, 115])]
def sd_B107 : List sd_C := [.inl (4000, 100), .inr (.inl (7, [.inl 4100, .inl 5390, .inr 117]))]
def sd_B108 : List sd_C := [.inl (4101, 7), .inr (.inl (10, [.inr 53, .inr 107, .inr 116, .inr 118, .inr 119, .inl 4260]))]
theorem sd_SCe : sd_SC = sd_B100 ++ sd_B101 ++ sd_B102 ++ sd_B103 ++ sd_B104 ++ sd_B105 ++ sd_B106 ++ sd_B107 ++ sd_B108 := rfl
set_option maxRecDepth 100000 in
theorem bC_10 : sd_Bc sY10_init 3 120 2900 10 [.null, .null, .null, .null, .null, .int 0] (sd_yPo sd_SC) := by
  refine sd_ybc rfl rfl (by decide) rfl (fun g h0 sz => ?_)
  refine bw_al (j := 0) sD10_init_0 rfl ?_
  refine bw_obj sD10_init_1 (sd_in1_ (i := 25) rfl rfl) (by decide) ?_
  refine bw_al (j := 0) sD10_init_4 rfl ?_
  refine bw_new (N := 12) (Px := sd_yPo sd_T6) sD10_init_5 sD10_init_8 sD10_init_9 sC6 tyX6 tyX6_ok (by decide) (sd_in1_ (i := 28) rfl rfl) (sd_in1_ (i := 29) rfl rfl) (sd_in1_ (i := 2) rfl rfl) (⟨Or.inl (List.mem_filter.mpr ⟨sd_it1_ (i := 30) rfl, rfl⟩), sd_in1_ (i := 31) rfl rfl, sH6_init.1, sW6_init, sH6_init.2.1, sH6_init.2.2, rfl, rfl⟩ : sd_mi "SitDown" 9 "SitDown" sY6_init) bC_6 (by decide) (cells' := 54) (slots' := 1363) rfl rfl (Nat.le_of_ble_eq_true rfl) (Nat.le_of_ble_eq_true rfl) (Nat.le_of_ble_eq_true rfl) (fun r0 w0 z0 => ?_)
  refine bw_pf sD10_init_12 sF10_10 rfl rfl rfl (Nat.le_of_ble_eq_true rfl) (fs' := [.ref r0, .null, .null, .null, .null, .int 0]) rfl ?_
  refine bw_al (j := 0) sD10_init_15 rfl ?_
  refine bw_new (N := 12) (Px := sd_yPo sd_T6) sD10_init_16 sD10_init_19 sD10_init_20 sC6 tyX6 tyX6_ok (by decide) (sd_in1_ (i := 28) rfl rfl) (sd_in1_ (i := 29) rfl rfl) (sd_in1_ (i := 2) rfl rfl) (⟨Or.inl (List.mem_filter.mpr ⟨sd_it1_ (i := 30) rfl, rfl⟩), sd_in1_ (i := 31) rfl rfl, sH6_init.1, sW6_init, sH6_init.2.1, sH6_init.2.2, rfl, rfl⟩ : sd_mi "SitDown" 9 "SitDown" sY6_init) bC_6 (by decide) (cells' := 108) (slots' := 2726) rfl rfl (Nat.le_of_ble_eq_true rfl) (Nat.le_of_ble_eq_true rfl) (Nat.le_of_ble_eq_true rfl) (fun r1 w1 z1 => ?_)
  refine bw_pf sD10_init_23 sF10_16 rfl rfl rfl (Nat.le_of_ble_eq_true rfl) (fs' := [.ref r0, .ref r1, .null, .null, .null, .int 0]) rfl ?_
  refine bw_al (j := 0) sD10_init_26 rfl ?_
  refine bw_push (Or.inl sD10_init_27) ?_
  refine bw_aq sD10_init_28 rfl (sd_in2_ (i := 95) rfl rfl) (cells' := 109) (slots' := 2730) rfl rfl (Nat.le_of_ble_eq_true rfl) (Nat.le_of_ble_eq_true rfl) (fun q2 => ?_)
  refine bw_pf sD10_init_31 sF10_21 rfl rfl rfl (Nat.le_of_ble_eq_true rfl) (fs' := [.ref r0, .ref r1, .ref q2, .null, .null, .int 0]) rfl ?_
  refine bw_al (j := 0) sD10_init_34 rfl ?_
  refine bw_new (N := 3) (Px := sd_yPo sd_T7) sD10_init_35 sD10_init_38 sD10_init_39 sC7 tyX7 tyX7_ok (by decide) (sd_in2_ (i := 97) rfl rfl) (sd_in2_ (i := 98) rfl rfl) (sd_in1_ (i := 10) rfl rfl) (⟨Or.inl (List.mem_filter.mpr ⟨sd_it2_ (i := 99) rfl, rfl⟩), sd_in2_ (i := 100) rfl rfl, sH7_init.1, sW7_init, sH7_init.2.1, sH7_init.2.2, rfl, rfl⟩ : sd_mi "SitDown" 27 "SitDown" sY7_init) bC_7 (by decide) (cells' := 111) (slots' := 2833) rfl rfl (Nat.le_of_ble_eq_true rfl) (Nat.le_of_ble_eq_true rfl) (Nat.le_of_ble_eq_true rfl) (fun r3 w3 z3 => ?_)
  refine bw_pf sD10_init_42 sF10_28 rfl rfl rfl (Nat.le_of_ble_eq_true rfl) (fs' := [.ref r0, .ref r1, .ref q2, .ref r3, .null, .int 0]) rfl ?_
  refine bw_al (j := 0) sD10_init_45 rfl ?_
  refine bw_push (Or.inr (Or.inl ⟨sD10_init_46, by decide⟩)) ?_
  refine bw_na (n := 7) (v := fun i => sd_x0 (4101 + i)) sD10_init_48 rfl (by decide) (fun i hi => sd_x0z (by omega) (by omega) (by omega)) (cells' := 112) (slots' := 2840) rfl rfl (Nat.le_of_ble_eq_true rfl) (Nat.le_of_ble_eq_true rfl) (fun q4 => ?_)
  refine bw_pf sD10_init_50 sF10_32 rfl rfl rfl (Nat.le_of_ble_eq_true rfl) (fs' := [.ref r0, .ref r1, .ref q2, .ref r3, .ref q4, .int 0]) rfl ?_
  refine bw_al (j := 0) sD10_init_53 rfl ?_
  refine bw_push (Or.inl sD10_init_54) ?_
  refine bw_pi sD10_init_55 sF10_36 (by decide) (by decide) (Nat.le_of_ble_eq_true rfl) (fs' := [.ref r0, .ref r1, .ref q2, .ref r3, .ref q4, .int 0]) rfl ?_
  refine bw_pm sd_pm5 ?_
  refine bw_push (Or.inl sD10_init_58) ?_
  refine bw_is sD10_init_59 (by decide) (lv' := [(1, .int (Int32.ofInt 0)), (0, .ref h0)]) rfl ?_
  refine bw_il (j := 0) sD10_init_60 rfl ?_
  refine bw_push (Or.inl sD10_init_61) ?_
  refine bw_geF (tgt := 84) sD10_init_62 (by decide) (by decide) ?_
  refine bw_al (j := 1) sD10_init_65 rfl ?_
  refine bw_gf sD10_init_66 sF10_21 rfl ?_
  refine bw_il (j := 0) sD10_init_69 rfl ?_
  refine bw_new (N := 3) (Px := sd_yPo sd_T5) sD10_init_70 sD10_init_73 sD10_init_74 sC5 tyX5 tyX5_ok (by decide) (sd_in2_ (i := 95) rfl rfl) (sd_in2_ (i := 115) rfl rfl) (sd_in1_ (i := 11) rfl rfl) (⟨Or.inl (List.mem_filter.mpr ⟨sd_it2_ (i := 116) rfl, rfl⟩), sd_in2_ (i := 117) rfl rfl, sH5_init.1, sW5_init, sH5_init.2.1, sH5_init.2.2, rfl, rfl⟩ : sd_mi "SitDown" 40 "SitDown" sY5_init) bC_5 (by decide) (cells' := 114) (slots' := 2855) rfl rfl (Nat.le_of_ble_eq_true rfl) (Nat.le_of_ble_eq_true rfl) (Nat.le_of_ble_eq_true rfl) (fun r5 w5 z5 => ?_)
  obtain ⟨a5, e5, p5⟩ := z5
  have e5 : a5 1 = r5 := e5
  subst e5
  have p5 : w5.Perm [(a5 0, sd_ia g 12 (fun i => sd_x0 (8200 + i))), (a5 1, .inr (5, [.int 0, .int 0, .ref (a5 0)]))] := p5
  refine bw_pm (sd_ps p5) ?_
  refine bw_aa (k := 0) sD10_init_77 rfl (by decide) ?_
  refine bw_ii (j := 0) (y := Int32.ofInt 1) sD10_init_78 (by decide) rfl (by decide) (lv' := [(1, .int (Int32.ofInt 1)), (0, .ref h0)]) rfl ?_
  refine bw_go (tgt := 60) sD10_init_81 (by decide) ?_
  refine bw_il (j := 0) sD10_init_60 rfl ?_
  refine bw_push (Or.inl sD10_init_61) ?_
  refine bw_geF (tgt := 84) sD10_init_62 (by decide) (by decide) ?_
  refine bw_al (j := 1) sD10_init_65 rfl ?_
  refine bw_gf sD10_init_66 sF10_21 rfl ?_
  refine bw_il (j := 0) sD10_init_69 rfl ?_
  refine bw_new (N := 3) (Px := sd_yPo sd_T5) sD10_init_70 sD10_init_73 sD10_init_74 sC5 tyX5 tyX5_ok (by decide) (sd_in2_ (i := 95) rfl rfl) (sd_in2_ (i := 115) rfl rfl) (sd_in1_ (i := 11) rfl rfl) (⟨Or.inl (List.mem_filter.mpr ⟨sd_it2_ (i := 116) rfl, rfl⟩), sd_in2_ (i := 117) rfl rfl, sH5_init.1, sW5_init, sH5_init.2.1, sH5_init.2.2, rfl, rfl⟩ : sd_mi "SitDown" 40 "SitDown" sY5_init) bC_5 (by decide) (cells' := 116) (slots' := 2870) rfl rfl (Nat.le_of_ble_eq_true rfl) (Nat.le_of_ble_eq_true rfl) (Nat.le_of_ble_eq_true rfl) (fun r6 w6 z6 => ?_)
  obtain ⟨a6, e6, p6⟩ := z6
  have e6 : a6 1 = r6 := e6
  subst e6
  have p6 : w6.Perm [(a6 0, sd_ia g 12 (fun i => sd_x0 (8200 + i))), (a6 1, .inr (5, [.int 0, .int 0, .ref (a6 0)]))] := p6
  refine bw_pm (sd_ps p6) ?_
  refine bw_aa (k := 1) sD10_init_77 rfl (by decide) ?_
  refine bw_ii (j := 0) (y := Int32.ofInt 2) sD10_init_78 (by decide) rfl (by decide) (lv' := [(1, .int (Int32.ofInt 2)), (0, .ref h0)]) rfl ?_
  refine bw_go (tgt := 60) sD10_init_81 (by decide) ?_
  refine bw_il (j := 0) sD10_init_60 rfl ?_
  refine bw_push (Or.inl sD10_init_61) ?_
  refine bw_geF (tgt := 84) sD10_init_62 (by decide) (by decide) ?_
  refine bw_al (j := 1) sD10_init_65 rfl ?_
  refine bw_gf sD10_init_66 sF10_21 rfl ?_
  refine bw_il (j := 0) sD10_init_69 rfl ?_
  refine bw_new (N := 3) (Px := sd_yPo sd_T5) sD10_init_70 sD10_init_73 sD10_init_74 sC5 tyX5 tyX5_ok (by decide) (sd_in2_ (i := 95) rfl rfl) (sd_in2_ (i := 115) rfl rfl) (sd_in1_ (i := 11) rfl rfl) (⟨Or.inl (List.mem_filter.mpr ⟨sd_it2_ (i := 116) rfl, rfl⟩), sd_in2_ (i := 117) rfl rfl, sH5_init.1, sW5_init, sH5_init.2.1, sH5_init.2.2, rfl, rfl⟩ : sd_mi "SitDown" 40 "SitDown" sY5_init) bC_5 (by decide) (cells' := 118) (slots' := 2885) rfl rfl (Nat.le_of_ble_eq_true rfl) (Nat.le_of_ble_eq_true rfl) (Nat.le_of_ble_eq_true rfl) (fun r7 w7 z7 => ?_)
  obtain ⟨a7, e7, p7⟩ := z7
  have e7 : a7 1 = r7 := e7
  subst e7
  have p7 : w7.Perm [(a7 0, sd_ia g 12 (fun i => sd_x0 (8200 + i))), (a7 1, .inr (5, [.int 0, .int 0, .ref (a7 0)]))] := p7
  refine bw_pm (sd_ps p7) ?_
  refine bw_aa (k := 2) sD10_init_77 rfl (by decide) ?_
  refine bw_ii (j := 0) (y := Int32.ofInt 3) sD10_init_78 (by decide) rfl (by decide) (lv' := [(1, .int (Int32.ofInt 3)), (0, .ref h0)]) rfl ?_
  refine bw_go (tgt := 60) sD10_init_81 (by decide) ?_
  refine bw_il (j := 0) sD10_init_60 rfl ?_
  refine bw_push (Or.inl sD10_init_61) ?_
  refine bw_geF (tgt := 84) sD10_init_62 (by decide) (by decide) ?_
  refine bw_al (j := 1) sD10_init_65 rfl ?_
  refine bw_gf sD10_init_66 sF10_21 rfl ?_
  refine bw_il (j := 0) sD10_init_69 rfl ?_
  refine bw_new (N := 3) (Px := sd_yPo sd_T5) sD10_init_70 sD10_init_73 sD10_init_74 sC5 tyX5 tyX5_ok (by decide) (sd_in2_ (i := 95) rfl rfl) (sd_in2_ (i := 115) rfl rfl) (sd_in1_ (i := 11) rfl rfl) (⟨Or.inl (List.mem_filter.mpr ⟨sd_it2_ (i := 116) rfl, rfl⟩), sd_in2_ (i := 117) rfl rfl, sH5_init.1, sW5_init, sH5_init.2.1, sH5_init.2.2, rfl, rfl⟩ : sd_mi "SitDown" 40 "SitDown" sY5_init) bC_5 (by decide) (cells' := 120) (slots' := 2900) rfl rfl (Nat.le_of_ble_eq_true rfl) (Nat.le_of_ble_eq_true rfl) (Nat.le_of_ble_eq_true rfl) (fun r8 w8 z8 => ?_)
  obtain ⟨a8, e8, p8⟩ := z8
  have e8 : a8 1 = r8 := e8
  subst e8
  have p8 : w8.Perm [(a8 0, sd_ia g 12 (fun i => sd_x0 (8200 + i))), (a8 1, .inr (5, [.int 0, .int 0, .ref (a8 0)]))] := p8
  refine bw_pm (sd_ps p8) ?_
  refine bw_aa (k := 3) sD10_init_77 rfl (by decide) ?_
  refine bw_ii (j := 0) (y := Int32.ofInt 4) sD10_init_78 (by decide) rfl (by decide) (lv' := [(1, .int (Int32.ofInt 4)), (0, .ref h0)]) rfl ?_
  refine bw_go (tgt := 60) sD10_init_81 (by decide) ?_
  refine bw_il (j := 0) sD10_init_60 rfl ?_
  refine bw_push (Or.inl sD10_init_61) ?_
  refine bw_geT (tgt := 84) sD10_init_62 (by decide) (by decide) ?_
  obtain ⟨a0, e0, p0⟩ := z0
  have e0 : a0 53 = r0 := e0
  subst e0
  obtain ⟨a1, e1, p1⟩ := z1
  have e1 : a1 53 = r1 := e1
  subst e1
  obtain ⟨a3, e3, p3⟩ := z3
  have e3 : a3 1 = r3 := e3
  subst e3
  refine bw_ret sD10_init_84 (Nat.le_of_ble_eq_true rfl) (Nat.le_of_ble_eq_true rfl) ⟨sd_as [(54, a0), (54, a1), (2, a5), (2, a6), (2, a7), (2, a8), (1, fun _ => q2), (2, a3), (2, fun k => [q4, h0].getD k 0)], rfl, ?_⟩
  have e : sd_wsr 0 sd_SC (sd_as [(54, a0), (54, a1), (2, a5), (2, a6), (2, a7), (2, a8), (1, fun _ => q2), (2, a3), (2, fun k => [q4, h0].getD k 0)], g.2) sd_x0 = sd_wsr 0 sd_T6 (a0, g.2) sd_x0 ++ sd_wsr 0 sd_T6 (a1, g.2) sd_x0 ++ ([(a5 0, sd_ia g 12 (fun i => sd_x0 (8200 + i))), (a5 1, .inr (5, [.int 0, .int 0, .ref (a5 0)])), (a6 0, sd_ia g 12 (fun i => sd_x0 (8200 + i))), (a6 1, .inr (5, [.int 0, .int 0, .ref (a6 0)])), (a7 0, sd_ia g 12 (fun i => sd_x0 (8200 + i))), (a7 1, .inr (5, [.int 0, .int 0, .ref (a7 0)])), (a8 0, sd_ia g 12 (fun i => sd_x0 (8200 + i))), (a8 1, .inr (5, [.int 0, .int 0, .ref (a8 0)]))] ++ [(q2, sd_rq g (va_up (va_up (va_up (va_up (fun _ => none) 0 (some (a5 1))) 1 (some (a6 1))) 2 (some (a7 1))) 3 (some (a8 1))))]) ++ sd_wsr 0 sd_T7 (a3, g.2) sd_x0 ++ [(q4, sd_ia g 7 (fun i => sd_x0 (4101 + i)))] ++ [(h0, .inr (10, [.ref (a0 53), .ref (a1 53), .ref q2, .ref (a3 1), .ref q4, .int 0]))] := by
    have e0 : sd_wsr 0 sd_SC (sd_as [(54, a0), (54, a1), (2, a5), (2, a6), (2, a7), (2, a8), (1, fun _ => q2), (2, a3), (2, fun k => [q4, h0].getD k 0)], g.2) sd_x0 = sd_wsr 0 sd_B100 (sd_as [(54, a0), (54, a1), (2, a5), (2, a6), (2, a7), (2, a8), (1, fun _ => q2), (2, a3), (2, fun k => [q4, h0].getD k 0)], g.2) sd_x0 ++ sd_wsr 54 sd_B101 (sd_as [(54, a0), (54, a1), (2, a5), (2, a6), (2, a7), (2, a8), (1, fun _ => q2), (2, a3), (2, fun k => [q4, h0].getD k 0)], g.2) sd_x0 ++ sd_wsr 108 sd_B102 (sd_as [(54, a0), (54, a1), (2, a5), (2, a6), (2, a7), (2, a8), (1, fun _ => q2), (2, a3), (2, fun k => [q4, h0].getD k 0)], g.2) sd_x0 ++ sd_wsr 110 sd_B103 (sd_as [(54, a0), (54, a1), (2, a5), (2, a6), (2, a7), (2, a8), (1, fun _ => q2), (2, a3), (2, fun k => [q4, h0].getD k 0)], g.2) sd_x0 ++ sd_wsr 112 sd_B104 (sd_as [(54, a0), (54, a1), (2, a5), (2, a6), (2, a7), (2, a8), (1, fun _ => q2), (2, a3), (2, fun k => [q4, h0].getD k 0)], g.2) sd_x0 ++ sd_wsr 114 sd_B105 (sd_as [(54, a0), (54, a1), (2, a5), (2, a6), (2, a7), (2, a8), (1, fun _ => q2), (2, a3), (2, fun k => [q4, h0].getD k 0)], g.2) sd_x0 ++ sd_wsr 116 sd_B106 (sd_as [(54, a0), (54, a1), (2, a5), (2, a6), (2, a7), (2, a8), (1, fun _ => q2), (2, a3), (2, fun k => [q4, h0].getD k 0)], g.2) sd_x0 ++ sd_wsr 117 sd_B107 (sd_as [(54, a0), (54, a1), (2, a5), (2, a6), (2, a7), (2, a8), (1, fun _ => q2), (2, a3), (2, fun k => [q4, h0].getD k 0)], g.2) sd_x0 ++ sd_wsr 119 sd_B108 (sd_as [(54, a0), (54, a1), (2, a5), (2, a6), (2, a7), (2, a8), (1, fun _ => q2), (2, a3), (2, fun k => [q4, h0].getD k 0)], g.2) sd_x0 := by
      rw [sd_SCe]
      simp only [sd_wsr_app]
      rfl
    rw [e0]
    rw [sd_blk (o := 0) (g := (sd_as [(54, a0), (54, a1), (2, a5), (2, a6), (2, a7), (2, a8), (1, fun _ => q2), (2, a3), (2, fun k => [q4, h0].getD k 0)], g.2)) (T := sd_B100) (T' := sd_T6) (a := a0) (by decide +kernel) (fun k hk => sd_as_at [] hk)]
    rw [sd_blk (o := 54) (g := (sd_as [(54, a0), (54, a1), (2, a5), (2, a6), (2, a7), (2, a8), (1, fun _ => q2), (2, a3), (2, fun k => [q4, h0].getD k 0)], g.2)) (T := sd_B101) (T' := sd_T6) (a := a1) (by decide +kernel) (fun k hk => sd_as_at [(54, a0)] hk)]
    rw [sd_blk (o := 108) (g := (sd_as [(54, a0), (54, a1), (2, a5), (2, a6), (2, a7), (2, a8), (1, fun _ => q2), (2, a3), (2, fun k => [q4, h0].getD k 0)], g.2)) (T := sd_B102) (T' := sd_T5) (a := a5) (by decide +kernel) (fun k hk => sd_as_at [(54, a0), (54, a1)] hk)]
    rw [sd_blk (o := 110) (g := (sd_as [(54, a0), (54, a1), (2, a5), (2, a6), (2, a7), (2, a8), (1, fun _ => q2), (2, a3), (2, fun k => [q4, h0].getD k 0)], g.2)) (T := sd_B103) (T' := sd_T5) (a := a6) (by decide +kernel) (fun k hk => sd_as_at [(54, a0), (54, a1), (2, a5)] hk)]
    rw [sd_blk (o := 112) (g := (sd_as [(54, a0), (54, a1), (2, a5), (2, a6), (2, a7), (2, a8), (1, fun _ => q2), (2, a3), (2, fun k => [q4, h0].getD k 0)], g.2)) (T := sd_B104) (T' := sd_T5) (a := a7) (by decide +kernel) (fun k hk => sd_as_at [(54, a0), (54, a1), (2, a5), (2, a6)] hk)]
    rw [sd_blk (o := 114) (g := (sd_as [(54, a0), (54, a1), (2, a5), (2, a6), (2, a7), (2, a8), (1, fun _ => q2), (2, a3), (2, fun k => [q4, h0].getD k 0)], g.2)) (T := sd_B105) (T' := sd_T5) (a := a8) (by decide +kernel) (fun k hk => sd_as_at [(54, a0), (54, a1), (2, a5), (2, a6), (2, a7)] hk)]
    rw [sd_blk (o := 117) (g := (sd_as [(54, a0), (54, a1), (2, a5), (2, a6), (2, a7), (2, a8), (1, fun _ => q2), (2, a3), (2, fun k => [q4, h0].getD k 0)], g.2)) (T := sd_B107) (T' := sd_T7) (a := a3) (by decide +kernel) (fun k hk => sd_as_at [(54, a0), (54, a1), (2, a5), (2, a6), (2, a7), (2, a8), (1, fun _ => q2)] hk)]
    have er := sd_rqe (a := sd_as [(54, a0), (54, a1), (2, a5), (2, a6), (2, a7), (2, a8), (1, fun _ => q2), (2, a3), (2, fun k => [q4, h0].getD k 0)])
    have er2 : (va_up (va_up (va_up (va_up (fun _ => none) 0 (some (a5 1))) 1 (some (a6 1))) 2 (some (a7 1))) 3 (some (a8 1)) : Nat → Option Nat) = fun i => (([109, 111, 113, 115] : List Nat)[i]?).map (sd_as [(54, a0), (54, a1), (2, a5), (2, a6), (2, a7), (2, a8), (1, fun _ => q2), (2, a3), (2, fun k => [q4, h0].getD k 0)]) := er
    rw [er2]
    simp only [List.append_assoc]
    rfl
  rw [e]
  exact (List.Perm.cons _ sd_yp4).trans (sd_pz p0 p1 p3)
