def sd_T4 : List sd_C := [.inl (1272, 6), .inl (1278, 6), .inl (1284, 6), .inl (5040, 24), .inl (5070, 24), .inr (.inl (4, [.inl 6, .inl 7, .inr 0, .inr 1, .inr 2, .inr 3, .inr 4]))]
theorem bC_4 : sd_Bc sY4_init 1 5 66 4 [.int 0, .int 0, .null, .null, .null, .null, .null] (sd_yPo sd_T4) := by
  refine sd_ybc rfl rfl (by decide) rfl (fun g h0 sz => ?_)
  refine bw_al (j := 0) sD4_init_0 rfl ?_
  refine bw_obj sD4_init_1 (sd_in1_ (i := 225) rfl rfl) (by decide) ?_
  refine bw_al (j := 0) sD4_init_4 rfl ?_
  refine bw_push (Or.inl sD4_init_5) ?_
  refine bw_pi sD4_init_6 sF4_9 rfl rfl (Nat.le_of_ble_eq_true rfl) (fs' := [.int 0, .int 0, .null, .null, .null, .null, .null]) rfl ?_
  refine bw_al (j := 0) sD4_init_9 rfl ?_
  refine bw_push (Or.inl sD4_init_10) ?_
  refine bw_pi sD4_init_11 sF4_15 rfl rfl (Nat.le_of_ble_eq_true rfl) (fs' := [.int 0, .int 0, .null, .null, .null, .null, .null]) rfl ?_
  refine bw_al (j := 0) sD4_init_14 rfl ?_
  refine bw_push (Or.inr (Or.inl ⟨sD4_init_15, by decide⟩)) ?_
  refine bw_na (n := 6) (v := fun i => sd_x0 (1272 + i)) sD4_init_17 rfl (by decide) (fun i hi => sd_x0z (by omega) (by omega) (by omega)) (cells' := 1) (slots' := 6) rfl rfl (Nat.le_of_ble_eq_true rfl) (Nat.le_of_ble_eq_true rfl) (fun q0 => ?_)
  refine bw_pf sD4_init_19 sF4_18 rfl rfl rfl (Nat.le_of_ble_eq_true rfl) (fs' := [.int 0, .int 0, .ref q0, .null, .null, .null, .null]) rfl ?_
  refine bw_al (j := 0) sD4_init_22 rfl ?_
  refine bw_push (Or.inr (Or.inl ⟨sD4_init_23, by decide⟩)) ?_
  refine bw_na (n := 6) (v := fun i => sd_x0 (1278 + i)) sD4_init_25 rfl (by decide) (fun i hi => sd_x0z (by omega) (by omega) (by omega)) (cells' := 2) (slots' := 12) rfl rfl (Nat.le_of_ble_eq_true rfl) (Nat.le_of_ble_eq_true rfl) (fun q1 => ?_)
  refine bw_pf sD4_init_27 sF4_22 rfl rfl rfl (Nat.le_of_ble_eq_true rfl) (fs' := [.int 0, .int 0, .ref q0, .ref q1, .null, .null, .null]) rfl ?_
  refine bw_al (j := 0) sD4_init_30 rfl ?_
  refine bw_push (Or.inr (Or.inl ⟨sD4_init_31, by decide⟩)) ?_
  refine bw_na (n := 6) (v := fun i => sd_x0 (1284 + i)) sD4_init_33 rfl (by decide) (fun i hi => sd_x0z (by omega) (by omega) (by omega)) (cells' := 3) (slots' := 18) rfl rfl (Nat.le_of_ble_eq_true rfl) (Nat.le_of_ble_eq_true rfl) (fun q2 => ?_)
  refine bw_pf sD4_init_35 sF4_25 rfl rfl rfl (Nat.le_of_ble_eq_true rfl) (fs' := [.int 0, .int 0, .ref q0, .ref q1, .ref q2, .null, .null]) rfl ?_
  refine bw_al (j := 0) sD4_init_38 rfl ?_
  refine bw_push (Or.inr (Or.inl ⟨sD4_init_39, by decide⟩)) ?_
  refine bw_na (n := 24) (v := fun i => sd_x0 (5040 + i)) sD4_init_41 rfl (by decide) (fun i hi => sd_x0z (by omega) (by omega) (by omega)) (cells' := 4) (slots' := 42) rfl rfl (Nat.le_of_ble_eq_true rfl) (Nat.le_of_ble_eq_true rfl) (fun q3 => ?_)
  refine bw_pf sD4_init_43 sF4_28 rfl rfl rfl (Nat.le_of_ble_eq_true rfl) (fs' := [.int 0, .int 0, .ref q0, .ref q1, .ref q2, .ref q3, .null]) rfl ?_
  refine bw_al (j := 0) sD4_init_46 rfl ?_
  refine bw_push (Or.inr (Or.inl ⟨sD4_init_47, by decide⟩)) ?_
  refine bw_na (n := 24) (v := fun i => sd_x0 (5070 + i)) sD4_init_49 rfl (by decide) (fun i hi => sd_x0z (by omega) (by omega) (by omega)) (cells' := 5) (slots' := 66) rfl rfl (Nat.le_of_ble_eq_true rfl) (Nat.le_of_ble_eq_true rfl) (fun q4 => ?_)
  refine bw_pf sD4_init_51 sF4_31 rfl rfl rfl (Nat.le_of_ble_eq_true rfl) (fs' := [.int 0, .int 0, .ref q0, .ref q1, .ref q2, .ref q3, .ref q4]) rfl ?_
  refine bw_ret sD4_init_54 (Nat.le_of_ble_eq_true rfl) (Nat.le_of_ble_eq_true rfl) ⟨fun k => [q0, q1, q2, q3, q4, h0].getD k 0, rfl, ?_⟩
  exact (List.perm_append_singleton (h0, .inr (4, [.int 0, .int 0, .ref q0, .ref q1, .ref q2, .ref q3, .ref q4])) [(q0, sd_ia g 6 (fun i => sd_x0 (1272 + i))), (q1, sd_ia g 6 (fun i => sd_x0 (1278 + i))), (q2, sd_ia g 6 (fun i => sd_x0 (1284 + i))), (q3, sd_ia g 24 (fun i => sd_x0 (5040 + i))), (q4, sd_ia g 24 (fun i => sd_x0 (5070 + i)))]).symm
