def sd_T8 : List sd_C := [.inl (428, 8), .inl (436, 8), .inl (444, 8), .inl (452, 8), .inl (6010, 8), .inl (6020, 40), .inl (6060, 40), .inl (6100, 40), .inl (6140, 120), .inl (6260, 120), .inl (6380, 120), .inl (1268, 4), .inr (.inl (8, [.inl 5, .inr 0, .inr 1, .inr 2, .inr 3, .inr 4, .inr 5, .inr 6, .inr 7, .inr 8, .inr 9, .inr 10, .inr 11]))]
theorem bC_8 : sd_Bc sY8_init 1 12 524 8 [.int 0, .null, .null, .null, .null, .null, .null, .null, .null, .null, .null, .null, .null] (sd_yPo sd_T8) := by
  refine sd_ybc rfl rfl (by decide) rfl (fun g h0 sz => ?_)
  refine bw_al (j := 0) sD8_init_0 rfl ?_
  refine bw_obj sD8_init_1 (sd_in1_ (i := 169) rfl rfl) (by decide) ?_
  refine bw_al (j := 0) sD8_init_4 rfl ?_
  refine bw_push (Or.inl sD8_init_5) ?_
  refine bw_pi sD8_init_6 sF8_9 rfl rfl (Nat.le_of_ble_eq_true rfl) (fs' := [.int 0, .null, .null, .null, .null, .null, .null, .null, .null, .null, .null, .null, .null]) rfl ?_
  refine bw_al (j := 0) sD8_init_9 rfl ?_
  refine bw_push (Or.inr (Or.inl ⟨sD8_init_10, by decide⟩)) ?_
  refine bw_na (n := 8) (v := fun i => sd_x0 (428 + i)) sD8_init_12 rfl (by decide) (fun i hi => sd_x0z (by omega) (by omega) (by omega)) (cells' := 1) (slots' := 8) rfl rfl (Nat.le_of_ble_eq_true rfl) (Nat.le_of_ble_eq_true rfl) (fun q0 => ?_)
  refine bw_pf sD8_init_14 sF8_15 rfl rfl rfl (Nat.le_of_ble_eq_true rfl) (fs' := [.int 0, .ref q0, .null, .null, .null, .null, .null, .null, .null, .null, .null, .null, .null]) rfl ?_
  refine bw_al (j := 0) sD8_init_17 rfl ?_
  refine bw_push (Or.inr (Or.inl ⟨sD8_init_18, by decide⟩)) ?_
  refine bw_na (n := 8) (v := fun i => sd_x0 (436 + i)) sD8_init_20 rfl (by decide) (fun i hi => sd_x0z (by omega) (by omega) (by omega)) (cells' := 2) (slots' := 16) rfl rfl (Nat.le_of_ble_eq_true rfl) (Nat.le_of_ble_eq_true rfl) (fun q1 => ?_)
  refine bw_pf sD8_init_22 sF8_19 rfl rfl rfl (Nat.le_of_ble_eq_true rfl) (fs' := [.int 0, .ref q0, .ref q1, .null, .null, .null, .null, .null, .null, .null, .null, .null, .null]) rfl ?_
  refine bw_al (j := 0) sD8_init_25 rfl ?_
  refine bw_push (Or.inr (Or.inl ⟨sD8_init_26, by decide⟩)) ?_
  refine bw_na (n := 8) (v := fun i => sd_x0 (444 + i)) sD8_init_28 rfl (by decide) (fun i hi => sd_x0z (by omega) (by omega) (by omega)) (cells' := 3) (slots' := 24) rfl rfl (Nat.le_of_ble_eq_true rfl) (Nat.le_of_ble_eq_true rfl) (fun q2 => ?_)
  refine bw_pf sD8_init_30 sF8_22 rfl rfl rfl (Nat.le_of_ble_eq_true rfl) (fs' := [.int 0, .ref q0, .ref q1, .ref q2, .null, .null, .null, .null, .null, .null, .null, .null, .null]) rfl ?_
  refine bw_al (j := 0) sD8_init_33 rfl ?_
  refine bw_push (Or.inr (Or.inl ⟨sD8_init_34, by decide⟩)) ?_
  refine bw_na (n := 8) (v := fun i => sd_x0 (452 + i)) sD8_init_36 rfl (by decide) (fun i hi => sd_x0z (by omega) (by omega) (by omega)) (cells' := 4) (slots' := 32) rfl rfl (Nat.le_of_ble_eq_true rfl) (Nat.le_of_ble_eq_true rfl) (fun q3 => ?_)
  refine bw_pf sD8_init_38 sF8_25 rfl rfl rfl (Nat.le_of_ble_eq_true rfl) (fs' := [.int 0, .ref q0, .ref q1, .ref q2, .ref q3, .null, .null, .null, .null, .null, .null, .null, .null]) rfl ?_
  refine bw_al (j := 0) sD8_init_41 rfl ?_
  refine bw_push (Or.inr (Or.inl ⟨sD8_init_42, by decide⟩)) ?_
  refine bw_na (n := 8) (v := fun i => sd_x0 (6010 + i)) sD8_init_44 rfl (by decide) (fun i hi => sd_x0z (by omega) (by omega) (by omega)) (cells' := 5) (slots' := 40) rfl rfl (Nat.le_of_ble_eq_true rfl) (Nat.le_of_ble_eq_true rfl) (fun q4 => ?_)
  refine bw_pf sD8_init_46 sF8_28 rfl rfl rfl (Nat.le_of_ble_eq_true rfl) (fs' := [.int 0, .ref q0, .ref q1, .ref q2, .ref q3, .ref q4, .null, .null, .null, .null, .null, .null, .null]) rfl ?_
  refine bw_al (j := 0) sD8_init_49 rfl ?_
  refine bw_push (Or.inr (Or.inl ⟨sD8_init_50, by decide⟩)) ?_
  refine bw_na (n := 40) (v := fun i => sd_x0 (6020 + i)) sD8_init_52 rfl (by decide) (fun i hi => sd_x0z (by omega) (by omega) (by omega)) (cells' := 6) (slots' := 80) rfl rfl (Nat.le_of_ble_eq_true rfl) (Nat.le_of_ble_eq_true rfl) (fun q5 => ?_)
  refine bw_pf sD8_init_54 sF8_31 rfl rfl rfl (Nat.le_of_ble_eq_true rfl) (fs' := [.int 0, .ref q0, .ref q1, .ref q2, .ref q3, .ref q4, .ref q5, .null, .null, .null, .null, .null, .null]) rfl ?_
  refine bw_al (j := 0) sD8_init_57 rfl ?_
  refine bw_push (Or.inr (Or.inl ⟨sD8_init_58, by decide⟩)) ?_
  refine bw_na (n := 40) (v := fun i => sd_x0 (6060 + i)) sD8_init_60 rfl (by decide) (fun i hi => sd_x0z (by omega) (by omega) (by omega)) (cells' := 7) (slots' := 120) rfl rfl (Nat.le_of_ble_eq_true rfl) (Nat.le_of_ble_eq_true rfl) (fun q6 => ?_)
  refine bw_pf sD8_init_62 sF8_34 rfl rfl rfl (Nat.le_of_ble_eq_true rfl) (fs' := [.int 0, .ref q0, .ref q1, .ref q2, .ref q3, .ref q4, .ref q5, .ref q6, .null, .null, .null, .null, .null]) rfl ?_
  refine bw_al (j := 0) sD8_init_65 rfl ?_
  refine bw_push (Or.inr (Or.inl ⟨sD8_init_66, by decide⟩)) ?_
  refine bw_na (n := 40) (v := fun i => sd_x0 (6100 + i)) sD8_init_68 rfl (by decide) (fun i hi => sd_x0z (by omega) (by omega) (by omega)) (cells' := 8) (slots' := 160) rfl rfl (Nat.le_of_ble_eq_true rfl) (Nat.le_of_ble_eq_true rfl) (fun q7 => ?_)
  refine bw_pf sD8_init_70 sF8_37 rfl rfl rfl (Nat.le_of_ble_eq_true rfl) (fs' := [.int 0, .ref q0, .ref q1, .ref q2, .ref q3, .ref q4, .ref q5, .ref q6, .ref q7, .null, .null, .null, .null]) rfl ?_
  refine bw_al (j := 0) sD8_init_73 rfl ?_
  refine bw_push (Or.inr (Or.inl ⟨sD8_init_74, by decide⟩)) ?_
  refine bw_na (n := 120) (v := fun i => sd_x0 (6140 + i)) sD8_init_76 rfl (by decide) (fun i hi => sd_x0z (by omega) (by omega) (by omega)) (cells' := 9) (slots' := 280) rfl rfl (Nat.le_of_ble_eq_true rfl) (Nat.le_of_ble_eq_true rfl) (fun q8 => ?_)
  refine bw_pf sD8_init_78 sF8_40 rfl rfl rfl (Nat.le_of_ble_eq_true rfl) (fs' := [.int 0, .ref q0, .ref q1, .ref q2, .ref q3, .ref q4, .ref q5, .ref q6, .ref q7, .ref q8, .null, .null, .null]) rfl ?_
  refine bw_al (j := 0) sD8_init_81 rfl ?_
  refine bw_push (Or.inr (Or.inl ⟨sD8_init_82, by decide⟩)) ?_
  refine bw_na (n := 120) (v := fun i => sd_x0 (6260 + i)) sD8_init_84 rfl (by decide) (fun i hi => sd_x0z (by omega) (by omega) (by omega)) (cells' := 10) (slots' := 400) rfl rfl (Nat.le_of_ble_eq_true rfl) (Nat.le_of_ble_eq_true rfl) (fun q9 => ?_)
  refine bw_pf sD8_init_86 sF8_43 rfl rfl rfl (Nat.le_of_ble_eq_true rfl) (fs' := [.int 0, .ref q0, .ref q1, .ref q2, .ref q3, .ref q4, .ref q5, .ref q6, .ref q7, .ref q8, .ref q9, .null, .null]) rfl ?_
  refine bw_al (j := 0) sD8_init_89 rfl ?_
  refine bw_push (Or.inr (Or.inl ⟨sD8_init_90, by decide⟩)) ?_
  refine bw_na (n := 120) (v := fun i => sd_x0 (6380 + i)) sD8_init_92 rfl (by decide) (fun i hi => sd_x0z (by omega) (by omega) (by omega)) (cells' := 11) (slots' := 520) rfl rfl (Nat.le_of_ble_eq_true rfl) (Nat.le_of_ble_eq_true rfl) (fun q10 => ?_)
  refine bw_pf sD8_init_94 sF8_46 rfl rfl rfl (Nat.le_of_ble_eq_true rfl) (fs' := [.int 0, .ref q0, .ref q1, .ref q2, .ref q3, .ref q4, .ref q5, .ref q6, .ref q7, .ref q8, .ref q9, .ref q10, .null]) rfl ?_
  refine bw_al (j := 0) sD8_init_97 rfl ?_
  refine bw_push (Or.inl sD8_init_98) ?_
  refine bw_na (n := 4) (v := sd_fk 0 (fun i => sd_x0 (1268 + i))) sD8_init_99 rfl (by decide) (fun i _ => sd_fk0 _ i) (cells' := 12) (slots' := 524) rfl rfl (Nat.le_of_ble_eq_true rfl) (Nat.le_of_ble_eq_true rfl) (fun q11 => ?_)
  refine bw_pm (List.perm_append_singleton _ _) ?_
  refine bw_dup sD8_init_101 rfl ?_
  refine bw_push (Or.inl sD8_init_102) ?_
  refine bw_push (Or.inl sD8_init_103) ?_
  refine bw_ia (k := 0) (v' := sd_fk 1 (fun i => sd_x0 (1268 + i))) sD8_init_104 rfl (by decide) (by decide) rfl (fun j hj => sd_fk2 _ hj) ?_
  refine bw_dup sD8_init_105 rfl ?_
  refine bw_push (Or.inl sD8_init_106) ?_
  refine bw_push (Or.inl sD8_init_107) ?_
  refine bw_ia (k := 1) (v' := sd_fk 2 (fun i => sd_x0 (1268 + i))) sD8_init_108 rfl (by decide) (by decide) rfl (fun j hj => sd_fk2 _ hj) ?_
  refine bw_dup sD8_init_109 rfl ?_
  refine bw_push (Or.inl sD8_init_110) ?_
  refine bw_push (Or.inl sD8_init_111) ?_
  refine bw_ia (k := 2) (v' := sd_fk 3 (fun i => sd_x0 (1268 + i))) sD8_init_112 rfl (by decide) (by decide) rfl (fun j hj => sd_fk2 _ hj) ?_
  refine bw_dup sD8_init_113 rfl ?_
  refine bw_push (Or.inl sD8_init_114) ?_
  refine bw_push (Or.inl sD8_init_115) ?_
  refine bw_ia (k := 3) (v' := sd_fk 4 (fun i => sd_x0 (1268 + i))) sD8_init_116 rfl (by decide) (by decide) rfl (fun j hj => sd_fk2 _ hj) ?_
  refine bw_pm (sd_frB) ?_
  refine bw_pf sD8_init_117 sF8_49 rfl rfl rfl (Nat.le_of_ble_eq_true rfl) (fs' := [.int 0, .ref q0, .ref q1, .ref q2, .ref q3, .ref q4, .ref q5, .ref q6, .ref q7, .ref q8, .ref q9, .ref q10, .ref q11]) rfl ?_
  refine bw_ret sD8_init_120 (Nat.le_of_ble_eq_true rfl) (Nat.le_of_ble_eq_true rfl) ⟨fun k => [q0, q1, q2, q3, q4, q5, q6, q7, q8, q9, q10, q11, h0].getD k 0, rfl, ?_⟩
  exact (List.perm_append_singleton (h0, .inr (8, [.int 0, .ref q0, .ref q1, .ref q2, .ref q3, .ref q4, .ref q5, .ref q6, .ref q7, .ref q8, .ref q9, .ref q10, .ref q11])) [(q0, sd_ia g 8 (fun i => sd_x0 (428 + i))), (q1, sd_ia g 8 (fun i => sd_x0 (436 + i))), (q2, sd_ia g 8 (fun i => sd_x0 (444 + i))), (q3, sd_ia g 8 (fun i => sd_x0 (452 + i))), (q4, sd_ia g 8 (fun i => sd_x0 (6010 + i))), (q5, sd_ia g 40 (fun i => sd_x0 (6020 + i))), (q6, sd_ia g 40 (fun i => sd_x0 (6060 + i))), (q7, sd_ia g 40 (fun i => sd_x0 (6100 + i))), (q8, sd_ia g 120 (fun i => sd_x0 (6140 + i))), (q9, sd_ia g 120 (fun i => sd_x0 (6260 + i))), (q10, sd_ia g 120 (fun i => sd_x0 (6380 + i))), (q11, sd_ia g 4 (fun i => sd_x0 (1268 + i)))]).symm
