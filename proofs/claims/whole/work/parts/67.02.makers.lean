def sd_T1 : List sd_C := [.inl (10, 24), .inl (34, 24), .inl (58, 24), .inl (82, 24), .inl (106, 24), .inl (130, 24), .inl (154, 24), .inl (178, 24), .inl (202, 24), .inl (226, 24), .inl (250, 24), .inl (274, 24), .inl (298, 24), .inr (.inl (1, [.inl 2, .inl 6004, .inr 0, .inr 1, .inr 2, .inr 3, .inr 4, .inr 5, .inr 6, .inr 7, .inr 8, .inr 9, .inr 10, .inr 11, .inr 12]))]
theorem bC_1 : sd_Bc sY1_init 1 13 312 1 [.int 0, .int 0, .null, .null, .null, .null, .null, .null, .null, .null, .null, .null, .null, .null, .null] (sd_yPo sd_T1) := by
  refine sd_ybc rfl rfl (by decide) rfl (fun g h0 sz => ?_)
  refine bw_al (j := 0) sD1_init_0 rfl ?_
  refine bw_obj sD1_init_1 (sd_in1_ (i := 39) rfl rfl) (by decide) ?_
  refine bw_al (j := 0) sD1_init_4 rfl ?_
  refine bw_push (Or.inl sD1_init_5) ?_
  refine bw_pi sD1_init_6 sF1_9 rfl rfl (Nat.le_of_ble_eq_true rfl) (fs' := [.int 0, .int 0, .null, .null, .null, .null, .null, .null, .null, .null, .null, .null, .null, .null, .null]) rfl ?_
  refine bw_al (j := 0) sD1_init_9 rfl ?_
  refine bw_push (Or.inl sD1_init_10) ?_
  refine bw_pi sD1_init_11 sF1_15 rfl rfl (Nat.le_of_ble_eq_true rfl) (fs' := [.int 0, .int 0, .null, .null, .null, .null, .null, .null, .null, .null, .null, .null, .null, .null, .null]) rfl ?_
  refine bw_al (j := 0) sD1_init_14 rfl ?_
  refine bw_push (Or.inr (Or.inl ⟨sD1_init_15, by decide⟩)) ?_
  refine bw_na (n := 24) (v := fun i => sd_x0 (10 + i)) sD1_init_17 rfl (by decide) (fun i hi => sd_x0z (by omega) (by omega) (by omega)) (cells' := 1) (slots' := 24) rfl rfl (Nat.le_of_ble_eq_true rfl) (Nat.le_of_ble_eq_true rfl) (fun q0 => ?_)
  refine bw_pf sD1_init_19 sF1_18 rfl rfl rfl (Nat.le_of_ble_eq_true rfl) (fs' := [.int 0, .int 0, .ref q0, .null, .null, .null, .null, .null, .null, .null, .null, .null, .null, .null, .null]) rfl ?_
  refine bw_al (j := 0) sD1_init_22 rfl ?_
  refine bw_push (Or.inr (Or.inl ⟨sD1_init_23, by decide⟩)) ?_
  refine bw_na (n := 24) (v := fun i => sd_x0 (34 + i)) sD1_init_25 rfl (by decide) (fun i hi => sd_x0z (by omega) (by omega) (by omega)) (cells' := 2) (slots' := 48) rfl rfl (Nat.le_of_ble_eq_true rfl) (Nat.le_of_ble_eq_true rfl) (fun q1 => ?_)
  refine bw_pf sD1_init_27 sF1_22 rfl rfl rfl (Nat.le_of_ble_eq_true rfl) (fs' := [.int 0, .int 0, .ref q0, .ref q1, .null, .null, .null, .null, .null, .null, .null, .null, .null, .null, .null]) rfl ?_
  refine bw_al (j := 0) sD1_init_30 rfl ?_
  refine bw_push (Or.inr (Or.inl ⟨sD1_init_31, by decide⟩)) ?_
  refine bw_na (n := 24) (v := fun i => sd_x0 (58 + i)) sD1_init_33 rfl (by decide) (fun i hi => sd_x0z (by omega) (by omega) (by omega)) (cells' := 3) (slots' := 72) rfl rfl (Nat.le_of_ble_eq_true rfl) (Nat.le_of_ble_eq_true rfl) (fun q2 => ?_)
  refine bw_pf sD1_init_35 sF1_25 rfl rfl rfl (Nat.le_of_ble_eq_true rfl) (fs' := [.int 0, .int 0, .ref q0, .ref q1, .ref q2, .null, .null, .null, .null, .null, .null, .null, .null, .null, .null]) rfl ?_
  refine bw_al (j := 0) sD1_init_38 rfl ?_
  refine bw_push (Or.inr (Or.inl ⟨sD1_init_39, by decide⟩)) ?_
  refine bw_na (n := 24) (v := fun i => sd_x0 (82 + i)) sD1_init_41 rfl (by decide) (fun i hi => sd_x0z (by omega) (by omega) (by omega)) (cells' := 4) (slots' := 96) rfl rfl (Nat.le_of_ble_eq_true rfl) (Nat.le_of_ble_eq_true rfl) (fun q3 => ?_)
  refine bw_pf sD1_init_43 sF1_28 rfl rfl rfl (Nat.le_of_ble_eq_true rfl) (fs' := [.int 0, .int 0, .ref q0, .ref q1, .ref q2, .ref q3, .null, .null, .null, .null, .null, .null, .null, .null, .null]) rfl ?_
  refine bw_al (j := 0) sD1_init_46 rfl ?_
  refine bw_push (Or.inr (Or.inl ⟨sD1_init_47, by decide⟩)) ?_
  refine bw_na (n := 24) (v := fun i => sd_x0 (106 + i)) sD1_init_49 rfl (by decide) (fun i hi => sd_x0z (by omega) (by omega) (by omega)) (cells' := 5) (slots' := 120) rfl rfl (Nat.le_of_ble_eq_true rfl) (Nat.le_of_ble_eq_true rfl) (fun q4 => ?_)
  refine bw_pf sD1_init_51 sF1_31 rfl rfl rfl (Nat.le_of_ble_eq_true rfl) (fs' := [.int 0, .int 0, .ref q0, .ref q1, .ref q2, .ref q3, .ref q4, .null, .null, .null, .null, .null, .null, .null, .null]) rfl ?_
  refine bw_al (j := 0) sD1_init_54 rfl ?_
  refine bw_push (Or.inr (Or.inl ⟨sD1_init_55, by decide⟩)) ?_
  refine bw_na (n := 24) (v := fun i => sd_x0 (130 + i)) sD1_init_57 rfl (by decide) (fun i hi => sd_x0z (by omega) (by omega) (by omega)) (cells' := 6) (slots' := 144) rfl rfl (Nat.le_of_ble_eq_true rfl) (Nat.le_of_ble_eq_true rfl) (fun q5 => ?_)
  refine bw_pf sD1_init_59 sF1_34 rfl rfl rfl (Nat.le_of_ble_eq_true rfl) (fs' := [.int 0, .int 0, .ref q0, .ref q1, .ref q2, .ref q3, .ref q4, .ref q5, .null, .null, .null, .null, .null, .null, .null]) rfl ?_
  refine bw_al (j := 0) sD1_init_62 rfl ?_
  refine bw_push (Or.inr (Or.inl ⟨sD1_init_63, by decide⟩)) ?_
  refine bw_na (n := 24) (v := fun i => sd_x0 (154 + i)) sD1_init_65 rfl (by decide) (fun i hi => sd_x0z (by omega) (by omega) (by omega)) (cells' := 7) (slots' := 168) rfl rfl (Nat.le_of_ble_eq_true rfl) (Nat.le_of_ble_eq_true rfl) (fun q6 => ?_)
  refine bw_pf sD1_init_67 sF1_37 rfl rfl rfl (Nat.le_of_ble_eq_true rfl) (fs' := [.int 0, .int 0, .ref q0, .ref q1, .ref q2, .ref q3, .ref q4, .ref q5, .ref q6, .null, .null, .null, .null, .null, .null]) rfl ?_
  refine bw_al (j := 0) sD1_init_70 rfl ?_
  refine bw_push (Or.inr (Or.inl ⟨sD1_init_71, by decide⟩)) ?_
  refine bw_na (n := 24) (v := fun i => sd_x0 (178 + i)) sD1_init_73 rfl (by decide) (fun i hi => sd_x0z (by omega) (by omega) (by omega)) (cells' := 8) (slots' := 192) rfl rfl (Nat.le_of_ble_eq_true rfl) (Nat.le_of_ble_eq_true rfl) (fun q7 => ?_)
  refine bw_pf sD1_init_75 sF1_40 rfl rfl rfl (Nat.le_of_ble_eq_true rfl) (fs' := [.int 0, .int 0, .ref q0, .ref q1, .ref q2, .ref q3, .ref q4, .ref q5, .ref q6, .ref q7, .null, .null, .null, .null, .null]) rfl ?_
  refine bw_al (j := 0) sD1_init_78 rfl ?_
  refine bw_push (Or.inr (Or.inl ⟨sD1_init_79, by decide⟩)) ?_
  refine bw_na (n := 24) (v := fun i => sd_x0 (202 + i)) sD1_init_81 rfl (by decide) (fun i hi => sd_x0z (by omega) (by omega) (by omega)) (cells' := 9) (slots' := 216) rfl rfl (Nat.le_of_ble_eq_true rfl) (Nat.le_of_ble_eq_true rfl) (fun q8 => ?_)
  refine bw_pf sD1_init_83 sF1_43 rfl rfl rfl (Nat.le_of_ble_eq_true rfl) (fs' := [.int 0, .int 0, .ref q0, .ref q1, .ref q2, .ref q3, .ref q4, .ref q5, .ref q6, .ref q7, .ref q8, .null, .null, .null, .null]) rfl ?_
  refine bw_al (j := 0) sD1_init_86 rfl ?_
  refine bw_push (Or.inr (Or.inl ⟨sD1_init_87, by decide⟩)) ?_
  refine bw_na (n := 24) (v := fun i => sd_x0 (226 + i)) sD1_init_89 rfl (by decide) (fun i hi => sd_x0z (by omega) (by omega) (by omega)) (cells' := 10) (slots' := 240) rfl rfl (Nat.le_of_ble_eq_true rfl) (Nat.le_of_ble_eq_true rfl) (fun q9 => ?_)
  refine bw_pf sD1_init_91 sF1_46 rfl rfl rfl (Nat.le_of_ble_eq_true rfl) (fs' := [.int 0, .int 0, .ref q0, .ref q1, .ref q2, .ref q3, .ref q4, .ref q5, .ref q6, .ref q7, .ref q8, .ref q9, .null, .null, .null]) rfl ?_
  refine bw_al (j := 0) sD1_init_94 rfl ?_
  refine bw_push (Or.inr (Or.inl ⟨sD1_init_95, by decide⟩)) ?_
  refine bw_na (n := 24) (v := fun i => sd_x0 (250 + i)) sD1_init_97 rfl (by decide) (fun i hi => sd_x0z (by omega) (by omega) (by omega)) (cells' := 11) (slots' := 264) rfl rfl (Nat.le_of_ble_eq_true rfl) (Nat.le_of_ble_eq_true rfl) (fun q10 => ?_)
  refine bw_pf sD1_init_99 sF1_49 rfl rfl rfl (Nat.le_of_ble_eq_true rfl) (fs' := [.int 0, .int 0, .ref q0, .ref q1, .ref q2, .ref q3, .ref q4, .ref q5, .ref q6, .ref q7, .ref q8, .ref q9, .ref q10, .null, .null]) rfl ?_
  refine bw_al (j := 0) sD1_init_102 rfl ?_
  refine bw_push (Or.inr (Or.inl ⟨sD1_init_103, by decide⟩)) ?_
  refine bw_na (n := 24) (v := fun i => sd_x0 (274 + i)) sD1_init_105 rfl (by decide) (fun i hi => sd_x0z (by omega) (by omega) (by omega)) (cells' := 12) (slots' := 288) rfl rfl (Nat.le_of_ble_eq_true rfl) (Nat.le_of_ble_eq_true rfl) (fun q11 => ?_)
  refine bw_pf sD1_init_107 sF1_52 rfl rfl rfl (Nat.le_of_ble_eq_true rfl) (fs' := [.int 0, .int 0, .ref q0, .ref q1, .ref q2, .ref q3, .ref q4, .ref q5, .ref q6, .ref q7, .ref q8, .ref q9, .ref q10, .ref q11, .null]) rfl ?_
  refine bw_al (j := 0) sD1_init_110 rfl ?_
  refine bw_push (Or.inr (Or.inl ⟨sD1_init_111, by decide⟩)) ?_
  refine bw_na (n := 24) (v := fun i => sd_x0 (298 + i)) sD1_init_113 rfl (by decide) (fun i hi => sd_x0z (by omega) (by omega) (by omega)) (cells' := 13) (slots' := 312) rfl rfl (Nat.le_of_ble_eq_true rfl) (Nat.le_of_ble_eq_true rfl) (fun q12 => ?_)
  refine bw_pf sD1_init_115 sF1_55 rfl rfl rfl (Nat.le_of_ble_eq_true rfl) (fs' := [.int 0, .int 0, .ref q0, .ref q1, .ref q2, .ref q3, .ref q4, .ref q5, .ref q6, .ref q7, .ref q8, .ref q9, .ref q10, .ref q11, .ref q12]) rfl ?_
  refine bw_ret sD1_init_118 (Nat.le_of_ble_eq_true rfl) (Nat.le_of_ble_eq_true rfl) ⟨fun k => [q0, q1, q2, q3, q4, q5, q6, q7, q8, q9, q10, q11, q12, h0].getD k 0, rfl, ?_⟩
  exact (List.perm_append_singleton (h0, .inr (1, [.int 0, .int 0, .ref q0, .ref q1, .ref q2, .ref q3, .ref q4, .ref q5, .ref q6, .ref q7, .ref q8, .ref q9, .ref q10, .ref q11, .ref q12])) [(q0, sd_ia g 24 (fun i => sd_x0 (10 + i))), (q1, sd_ia g 24 (fun i => sd_x0 (34 + i))), (q2, sd_ia g 24 (fun i => sd_x0 (58 + i))), (q3, sd_ia g 24 (fun i => sd_x0 (82 + i))), (q4, sd_ia g 24 (fun i => sd_x0 (106 + i))), (q5, sd_ia g 24 (fun i => sd_x0 (130 + i))), (q6, sd_ia g 24 (fun i => sd_x0 (154 + i))), (q7, sd_ia g 24 (fun i => sd_x0 (178 + i))), (q8, sd_ia g 24 (fun i => sd_x0 (202 + i))), (q9, sd_ia g 24 (fun i => sd_x0 (226 + i))), (q10, sd_ia g 24 (fun i => sd_x0 (250 + i))), (q11, sd_ia g 24 (fun i => sd_x0 (274 + i))), (q12, sd_ia g 24 (fun i => sd_x0 (298 + i)))]).symm
