def sd_B60 : List sd_C := [.inl (10, 24), .inl (34, 24), .inl (58, 24), .inl (82, 24), .inl (106, 24), .inl (130, 24), .inl (154, 24), .inl (178, 24), .inl (202, 24), .inl (226, 24), .inl (250, 24), .inl (274, 24), .inl (298, 24), .inr (.inl (1, [.inl 2, .inl 6004, .inr 0, .inr 1, .inr 2, .inr 3, .inr 4, .inr 5, .inr 6, .inr 7, .inr 8, .inr 9, .inr 10, .inr 11, .inr 12]))]
def sd_B61 : List sd_C := [.inl (322, 16), .inl (338, 16), .inl (354, 16), .inl (370, 16), .inr (.inl (3, [.inl 3, .inr 14, .inr 15, .inr 16, .inr 17]))]
def sd_B62 : List sd_C := [.inl (386, 6), .inl (392, 36), .inl (5020, 6), .inl (5030, 6), .inr (.inl (9, [.inl 4, .inl 8, .inr 19, .inr 20, .inr 21, .inr 22]))]
def sd_B63 : List sd_C := [.inl (428, 8), .inl (436, 8), .inl (444, 8), .inl (452, 8), .inl (6010, 8), .inl (6020, 40), .inl (6060, 40), .inl (6100, 40), .inl (6140, 120), .inl (6260, 120), .inl (6380, 120), .inl (1268, 4), .inr (.inl (8, [.inl 5, .inr 24, .inr 25, .inr 26, .inr 27, .inr 28, .inr 29, .inr 30, .inr 31, .inr 32, .inr 33, .inr 34, .inr 35]))]
def sd_B64 : List sd_C := [.inl (1272, 6), .inl (1278, 6), .inl (1284, 6), .inl (5040, 24), .inl (5070, 24), .inr (.inl (4, [.inl 6, .inl 7, .inr 37, .inr 38, .inr 39, .inr 40, .inr 41]))]
def sd_B65 : List sd_C := [.inl (6500, 6), .inl (6506, 6), .inr (.inl (2, [.inr 43, .inr 44]))]
def sd_B66 : List sd_C := [.inl (6520, 6), .inl (6526, 6), .inl (5100, 5), .inr (.inl (0, [.inr 46, .inr 47, .inr 48, .inl 5110]))]
def sd_B67 : List sd_C := [.inl (1314, 240), .inl (5000, 4), .inl (5010, 6), .inr (.inl (6, [.inl 0, .inl 1, .inr 13, .inr 18, .inr 23, .inr 36, .inr 42, .inr 45, .inr 49, .inr 50, .inr 51, .inr 52]))]
def sd_T6 : List sd_C := sd_B60 ++ sd_B61 ++ sd_B62 ++ sd_B63 ++ sd_B64 ++ sd_B65 ++ sd_B66 ++ sd_B67
theorem bC_6 : sd_Bc sY6_init 2 53 1351 6 [.int 0, .int 0, .null, .null, .null, .null, .null, .null, .null, .null, .null, .null] (sd_yPo sd_T6) := by
  refine sd_ybc rfl rfl (by decide) rfl (fun g h0 sz => ?_)
  refine bw_al (j := 0) sD6_init_0 rfl ?_
  refine bw_obj sD6_init_1 (sd_in1_ (i := 33) rfl rfl) (by decide) ?_
  refine bw_al (j := 0) sD6_init_4 rfl ?_
  refine bw_push (Or.inl sD6_init_5) ?_
  refine bw_pi sD6_init_6 sF6_9 rfl rfl (Nat.le_of_ble_eq_true rfl) (fs' := [.int 0, .int 0, .null, .null, .null, .null, .null, .null, .null, .null, .null, .null]) rfl ?_
  refine bw_al (j := 0) sD6_init_9 rfl ?_
  refine bw_push (Or.inl sD6_init_10) ?_
  refine bw_pi sD6_init_11 sF6_15 rfl rfl (Nat.le_of_ble_eq_true rfl) (fs' := [.int 0, .int 0, .null, .null, .null, .null, .null, .null, .null, .null, .null, .null]) rfl ?_
  refine bw_al (j := 0) sD6_init_14 rfl ?_
  refine bw_new (N := 15) (Px := sd_yPo sd_T1) sD6_init_15 sD6_init_18 sD6_init_19 sC1 tyX1 tyX1_ok (by decide) (sd_in1_ (i := 34) rfl rfl) (sd_in1_ (i := 35) rfl rfl) (sd_in1_ (i := 3) rfl rfl) (⟨Or.inl (List.mem_filter.mpr ⟨sd_it1_ (i := 36) rfl, rfl⟩), sd_in1_ (i := 37) rfl rfl, sH1_init.1, sW1_init, sH1_init.2.1, sH1_init.2.2, rfl, rfl⟩ : sd_mi "SitDown$Site" 20 "SitDown" sY1_init) bC_1 (by decide) (cells' := 14) (slots' := 327) rfl rfl (Nat.le_of_ble_eq_true rfl) (Nat.le_of_ble_eq_true rfl) (Nat.le_of_ble_eq_true rfl) (fun r0 w0 z0 => ?_)
  refine bw_pf sD6_init_22 sF6_21 rfl rfl rfl (Nat.le_of_ble_eq_true rfl) (fs' := [.int 0, .int 0, .ref r0, .null, .null, .null, .null, .null, .null, .null, .null, .null]) rfl ?_
  refine bw_al (j := 0) sD6_init_25 rfl ?_
  refine bw_new (N := 5) (Px := sd_yPo sd_T3) sD6_init_26 sD6_init_29 sD6_init_30 sC3 tyX3 tyX3_ok (by decide) (sd_in1_ (i := 104) rfl rfl) (sd_in1_ (i := 105) rfl rfl) (sd_in1_ (i := 4) rfl rfl) (⟨Or.inl (List.mem_filter.mpr ⟨sd_it1_ (i := 106) rfl, rfl⟩), sd_in1_ (i := 107) rfl rfl, sH3_init.1, sW3_init, sH3_init.2.1, sH3_init.2.2, rfl, rfl⟩ : sd_mi "SitDown$Site" 27 "SitDown" sY3_init) bC_3 (by decide) (cells' := 19) (slots' := 396) rfl rfl (Nat.le_of_ble_eq_true rfl) (Nat.le_of_ble_eq_true rfl) (Nat.le_of_ble_eq_true rfl) (fun r1 w1 z1 => ?_)
  refine bw_pf sD6_init_33 sF6_28 rfl rfl rfl (Nat.le_of_ble_eq_true rfl) (fs' := [.int 0, .int 0, .ref r0, .ref r1, .null, .null, .null, .null, .null, .null, .null, .null]) rfl ?_
  refine bw_al (j := 0) sD6_init_36 rfl ?_
  refine bw_new (N := 6) (Px := sd_yPo sd_T9) sD6_init_37 sD6_init_40 sD6_init_41 sC9 tyX9 tyX9_ok (by decide) (sd_in1_ (i := 134) rfl rfl) (sd_in1_ (i := 135) rfl rfl) (sd_in1_ (i := 5) rfl rfl) (⟨Or.inl (List.mem_filter.mpr ⟨sd_it1_ (i := 136) rfl, rfl⟩), sd_in1_ (i := 137) rfl rfl, sH9_init.1, sW9_init, sH9_init.2.1, sH9_init.2.2, rfl, rfl⟩ : sd_mi "SitDown$Site" 34 "SitDown" sY9_init) bC_9 (by decide) (cells' := 24) (slots' := 456) rfl rfl (Nat.le_of_ble_eq_true rfl) (Nat.le_of_ble_eq_true rfl) (Nat.le_of_ble_eq_true rfl) (fun r2 w2 z2 => ?_)
  refine bw_pf sD6_init_44 sF6_35 rfl rfl rfl (Nat.le_of_ble_eq_true rfl) (fs' := [.int 0, .int 0, .ref r0, .ref r1, .ref r2, .null, .null, .null, .null, .null, .null, .null]) rfl ?_
  refine bw_al (j := 0) sD6_init_47 rfl ?_
  refine bw_new (N := 13) (Px := sd_yPo sd_T8) sD6_init_48 sD6_init_51 sD6_init_52 sC8 tyX8 tyX8_ok (by decide) (sd_in1_ (i := 164) rfl rfl) (sd_in1_ (i := 165) rfl rfl) (sd_in1_ (i := 6) rfl rfl) (⟨Or.inl (List.mem_filter.mpr ⟨sd_it1_ (i := 166) rfl, rfl⟩), sd_in1_ (i := 167) rfl rfl, sH8_init.1, sW8_init, sH8_init.2.1, sH8_init.2.2, rfl, rfl⟩ : sd_mi "SitDown$Site" 41 "SitDown" sY8_init) bC_8 (by decide) (cells' := 37) (slots' := 993) rfl rfl (Nat.le_of_ble_eq_true rfl) (Nat.le_of_ble_eq_true rfl) (Nat.le_of_ble_eq_true rfl) (fun r3 w3 z3 => ?_)
  refine bw_pf sD6_init_55 sF6_42 rfl rfl rfl (Nat.le_of_ble_eq_true rfl) (fs' := [.int 0, .int 0, .ref r0, .ref r1, .ref r2, .ref r3, .null, .null, .null, .null, .null, .null]) rfl ?_
  refine bw_al (j := 0) sD6_init_58 rfl ?_
  refine bw_new (N := 7) (Px := sd_yPo sd_T4) sD6_init_59 sD6_init_62 sD6_init_63 sC4 tyX4 tyX4_ok (by decide) (sd_in1_ (i := 220) rfl rfl) (sd_in1_ (i := 221) rfl rfl) (sd_in1_ (i := 7) rfl rfl) (⟨Or.inl (List.mem_filter.mpr ⟨sd_it1_ (i := 222) rfl, rfl⟩), sd_in1_ (i := 223) rfl rfl, sH4_init.1, sW4_init, sH4_init.2.1, sH4_init.2.2, rfl, rfl⟩ : sd_mi "SitDown$Site" 48 "SitDown" sY4_init) bC_4 (by decide) (cells' := 43) (slots' := 1066) rfl rfl (Nat.le_of_ble_eq_true rfl) (Nat.le_of_ble_eq_true rfl) (Nat.le_of_ble_eq_true rfl) (fun r4 w4 z4 => ?_)
  refine bw_pf sD6_init_66 sF6_49 rfl rfl rfl (Nat.le_of_ble_eq_true rfl) (fs' := [.int 0, .int 0, .ref r0, .ref r1, .ref r2, .ref r3, .ref r4, .null, .null, .null, .null, .null]) rfl ?_
  refine bw_al (j := 0) sD6_init_69 rfl ?_
  refine bw_new (N := 2) (Px := sd_yPo sd_T2) sD6_init_70 sD6_init_73 sD6_init_74 sC2 tyX2 tyX2_ok (by decide) (sd_in2_ (i := 12) rfl rfl) (sd_in2_ (i := 13) rfl rfl) (sd_in1_ (i := 8) rfl rfl) (⟨Or.inl (List.mem_filter.mpr ⟨sd_it2_ (i := 14) rfl, rfl⟩), sd_in2_ (i := 15) rfl rfl, sH2_init.1, sW2_init, sH2_init.2.1, sH2_init.2.2, rfl, rfl⟩ : sd_mi "SitDown$Site" 55 "SitDown" sY2_init) bC_2 (by decide) (cells' := 46) (slots' := 1080) rfl rfl (Nat.le_of_ble_eq_true rfl) (Nat.le_of_ble_eq_true rfl) (Nat.le_of_ble_eq_true rfl) (fun r5 w5 z5 => ?_)
  refine bw_pf sD6_init_77 sF6_56 rfl rfl rfl (Nat.le_of_ble_eq_true rfl) (fs' := [.int 0, .int 0, .ref r0, .ref r1, .ref r2, .ref r3, .ref r4, .ref r5, .null, .null, .null, .null]) rfl ?_
  refine bw_al (j := 0) sD6_init_80 rfl ?_
  refine bw_new (N := 4) (Px := sd_yPo sd_T0) sD6_init_81 sD6_init_84 sD6_init_85 sC0 tyX0 tyX0_ok (by decide) (sd_in2_ (i := 27) rfl rfl) (sd_in2_ (i := 28) rfl rfl) (sd_in1_ (i := 9) rfl rfl) (⟨Or.inl (List.mem_filter.mpr ⟨sd_it2_ (i := 29) rfl, rfl⟩), sd_in2_ (i := 30) rfl rfl, sH0_init.1, sW0_init, sH0_init.2.1, sH0_init.2.2, rfl, rfl⟩ : sd_mi "SitDown$Site" 62 "SitDown" sY0_init) bC_0 (by decide) (cells' := 50) (slots' := 1101) rfl rfl (Nat.le_of_ble_eq_true rfl) (Nat.le_of_ble_eq_true rfl) (Nat.le_of_ble_eq_true rfl) (fun r6 w6 z6 => ?_)
  refine bw_pf sD6_init_88 sF6_63 rfl rfl rfl (Nat.le_of_ble_eq_true rfl) (fs' := [.int 0, .int 0, .ref r0, .ref r1, .ref r2, .ref r3, .ref r4, .ref r5, .ref r6, .null, .null, .null]) rfl ?_
  refine bw_al (j := 0) sD6_init_91 rfl ?_
  refine bw_push (Or.inr (Or.inr ⟨sD6_init_92, by decide⟩)) ?_
  refine bw_na (n := 240) (v := fun i => sd_x0 (1314 + i)) sD6_init_95 rfl (by decide) (fun i hi => sd_x0z (by omega) (by omega) (by omega)) (cells' := 51) (slots' := 1341) rfl rfl (Nat.le_of_ble_eq_true rfl) (Nat.le_of_ble_eq_true rfl) (fun q7 => ?_)
  refine bw_pf sD6_init_97 sF6_67 rfl rfl rfl (Nat.le_of_ble_eq_true rfl) (fs' := [.int 0, .int 0, .ref r0, .ref r1, .ref r2, .ref r3, .ref r4, .ref r5, .ref r6, .ref q7, .null, .null]) rfl ?_
  refine bw_al (j := 0) sD6_init_100 rfl ?_
  refine bw_push (Or.inl sD6_init_101) ?_
  refine bw_na (n := 4) (v := fun i => sd_x0 (5000 + i)) sD6_init_102 rfl (by decide) (fun i hi => sd_x0z (by omega) (by omega) (by omega)) (cells' := 52) (slots' := 1345) rfl rfl (Nat.le_of_ble_eq_true rfl) (Nat.le_of_ble_eq_true rfl) (fun q8 => ?_)
  refine bw_pf sD6_init_104 sF6_71 rfl rfl rfl (Nat.le_of_ble_eq_true rfl) (fs' := [.int 0, .int 0, .ref r0, .ref r1, .ref r2, .ref r3, .ref r4, .ref r5, .ref r6, .ref q7, .ref q8, .null]) rfl ?_
  refine bw_al (j := 0) sD6_init_107 rfl ?_
  refine bw_push (Or.inr (Or.inl ⟨sD6_init_108, by decide⟩)) ?_
  refine bw_na (n := 6) (v := fun i => sd_x0 (5010 + i)) sD6_init_110 rfl (by decide) (fun i hi => sd_x0z (by omega) (by omega) (by omega)) (cells' := 53) (slots' := 1351) rfl rfl (Nat.le_of_ble_eq_true rfl) (Nat.le_of_ble_eq_true rfl) (fun q9 => ?_)
  refine bw_pf sD6_init_112 sF6_74 rfl rfl rfl (Nat.le_of_ble_eq_true rfl) (fs' := [.int 0, .int 0, .ref r0, .ref r1, .ref r2, .ref r3, .ref r4, .ref r5, .ref r6, .ref q7, .ref q8, .ref q9]) rfl ?_
  obtain ⟨a0, e0, p0⟩ := z0
  have e0 : a0 13 = r0 := e0
  subst e0
  obtain ⟨a1, e1, p1⟩ := z1
  have e1 : a1 4 = r1 := e1
  subst e1
  obtain ⟨a2, e2, p2⟩ := z2
  have e2 : a2 4 = r2 := e2
  subst e2
  obtain ⟨a3, e3, p3⟩ := z3
  have e3 : a3 12 = r3 := e3
  subst e3
  obtain ⟨a4, e4, p4⟩ := z4
  have e4 : a4 5 = r4 := e4
  subst e4
  obtain ⟨a5, e5, p5⟩ := z5
  have e5 : a5 2 = r5 := e5
  subst e5
  obtain ⟨a6, e6, p6⟩ := z6
  have e6 : a6 3 = r6 := e6
  subst e6
  refine bw_ret sD6_init_115 (Nat.le_of_ble_eq_true rfl) (Nat.le_of_ble_eq_true rfl) ⟨sd_as [(14, a0), (5, a1), (5, a2), (13, a3), (6, a4), (3, a5), (4, a6), (4, fun k => [q7, q8, q9, h0].getD k 0)], rfl, ?_⟩
  have e : sd_wsr 0 sd_T6 (sd_as [(14, a0), (5, a1), (5, a2), (13, a3), (6, a4), (3, a5), (4, a6), (4, fun k => [q7, q8, q9, h0].getD k 0)], g.2) sd_x0 = sd_wsr 0 sd_T1 (a0, g.2) sd_x0 ++ sd_wsr 0 sd_T3 (a1, g.2) sd_x0 ++ sd_wsr 0 sd_T9 (a2, g.2) sd_x0 ++ sd_wsr 0 sd_T8 (a3, g.2) sd_x0 ++ sd_wsr 0 sd_T4 (a4, g.2) sd_x0 ++ sd_wsr 0 sd_T2 (a5, g.2) sd_x0 ++ sd_wsr 0 sd_T0 (a6, g.2) sd_x0 ++ [(q7, sd_ia g 240 (fun i => sd_x0 (1314 + i))), (q8, sd_ia g 4 (fun i => sd_x0 (5000 + i))), (q9, sd_ia g 6 (fun i => sd_x0 (5010 + i))), (h0, .inr (6, [.int 0, .int 0, .ref (a0 13), .ref (a1 4), .ref (a2 4), .ref (a3 12), .ref (a4 5), .ref (a5 2), .ref (a6 3), .ref q7, .ref q8, .ref q9]))] := by
    have e0 : sd_wsr 0 sd_T6 (sd_as [(14, a0), (5, a1), (5, a2), (13, a3), (6, a4), (3, a5), (4, a6), (4, fun k => [q7, q8, q9, h0].getD k 0)], g.2) sd_x0 = sd_wsr 0 sd_B60 (sd_as [(14, a0), (5, a1), (5, a2), (13, a3), (6, a4), (3, a5), (4, a6), (4, fun k => [q7, q8, q9, h0].getD k 0)], g.2) sd_x0 ++ sd_wsr 14 sd_B61 (sd_as [(14, a0), (5, a1), (5, a2), (13, a3), (6, a4), (3, a5), (4, a6), (4, fun k => [q7, q8, q9, h0].getD k 0)], g.2) sd_x0 ++ sd_wsr 19 sd_B62 (sd_as [(14, a0), (5, a1), (5, a2), (13, a3), (6, a4), (3, a5), (4, a6), (4, fun k => [q7, q8, q9, h0].getD k 0)], g.2) sd_x0 ++ sd_wsr 24 sd_B63 (sd_as [(14, a0), (5, a1), (5, a2), (13, a3), (6, a4), (3, a5), (4, a6), (4, fun k => [q7, q8, q9, h0].getD k 0)], g.2) sd_x0 ++ sd_wsr 37 sd_B64 (sd_as [(14, a0), (5, a1), (5, a2), (13, a3), (6, a4), (3, a5), (4, a6), (4, fun k => [q7, q8, q9, h0].getD k 0)], g.2) sd_x0 ++ sd_wsr 43 sd_B65 (sd_as [(14, a0), (5, a1), (5, a2), (13, a3), (6, a4), (3, a5), (4, a6), (4, fun k => [q7, q8, q9, h0].getD k 0)], g.2) sd_x0 ++ sd_wsr 46 sd_B66 (sd_as [(14, a0), (5, a1), (5, a2), (13, a3), (6, a4), (3, a5), (4, a6), (4, fun k => [q7, q8, q9, h0].getD k 0)], g.2) sd_x0 ++ sd_wsr 50 sd_B67 (sd_as [(14, a0), (5, a1), (5, a2), (13, a3), (6, a4), (3, a5), (4, a6), (4, fun k => [q7, q8, q9, h0].getD k 0)], g.2) sd_x0 := by
      simp only [sd_T6, sd_wsr_app]
      rfl
    rw [e0]
    rw [sd_blk (o := 0) (g := (sd_as [(14, a0), (5, a1), (5, a2), (13, a3), (6, a4), (3, a5), (4, a6), (4, fun k => [q7, q8, q9, h0].getD k 0)], g.2)) (T := sd_B60) (T' := sd_T1) (a := a0) (by decide +kernel) (fun k hk => sd_as_at [] hk)]
    rw [sd_blk (o := 14) (g := (sd_as [(14, a0), (5, a1), (5, a2), (13, a3), (6, a4), (3, a5), (4, a6), (4, fun k => [q7, q8, q9, h0].getD k 0)], g.2)) (T := sd_B61) (T' := sd_T3) (a := a1) (by decide +kernel) (fun k hk => sd_as_at [(14, a0)] hk)]
    rw [sd_blk (o := 19) (g := (sd_as [(14, a0), (5, a1), (5, a2), (13, a3), (6, a4), (3, a5), (4, a6), (4, fun k => [q7, q8, q9, h0].getD k 0)], g.2)) (T := sd_B62) (T' := sd_T9) (a := a2) (by decide +kernel) (fun k hk => sd_as_at [(14, a0), (5, a1)] hk)]
    rw [sd_blk (o := 24) (g := (sd_as [(14, a0), (5, a1), (5, a2), (13, a3), (6, a4), (3, a5), (4, a6), (4, fun k => [q7, q8, q9, h0].getD k 0)], g.2)) (T := sd_B63) (T' := sd_T8) (a := a3) (by decide +kernel) (fun k hk => sd_as_at [(14, a0), (5, a1), (5, a2)] hk)]
    rw [sd_blk (o := 37) (g := (sd_as [(14, a0), (5, a1), (5, a2), (13, a3), (6, a4), (3, a5), (4, a6), (4, fun k => [q7, q8, q9, h0].getD k 0)], g.2)) (T := sd_B64) (T' := sd_T4) (a := a4) (by decide +kernel) (fun k hk => sd_as_at [(14, a0), (5, a1), (5, a2), (13, a3)] hk)]
    rw [sd_blk (o := 43) (g := (sd_as [(14, a0), (5, a1), (5, a2), (13, a3), (6, a4), (3, a5), (4, a6), (4, fun k => [q7, q8, q9, h0].getD k 0)], g.2)) (T := sd_B65) (T' := sd_T2) (a := a5) (by decide +kernel) (fun k hk => sd_as_at [(14, a0), (5, a1), (5, a2), (13, a3), (6, a4)] hk)]
    rw [sd_blk (o := 46) (g := (sd_as [(14, a0), (5, a1), (5, a2), (13, a3), (6, a4), (3, a5), (4, a6), (4, fun k => [q7, q8, q9, h0].getD k 0)], g.2)) (T := sd_B66) (T' := sd_T0) (a := a6) (by decide +kernel) (fun k hk => sd_as_at [(14, a0), (5, a1), (5, a2), (13, a3), (6, a4), (3, a5)] hk)]
    rfl
  rw [e]
  exact sd_pj (((((((p0).append p1).append p2).append p3).append p4).append p5).append p6)
