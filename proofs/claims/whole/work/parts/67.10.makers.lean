def sd_T9 : List sd_C := [.inl (386, 6), .inl (392, 36), .inl (5020, 6), .inl (5030, 6), .inr (.inl (9, [.inl 4, .inl 8, .inr 0, .inr 1, .inr 2, .inr 3]))]
theorem bC_9 : sd_Bc sY9_init 1 4 54 9 [.int 0, .int 0, .null, .null, .null, .null] (sd_yPo sd_T9) := by
  refine sd_ybc rfl rfl (by decide) rfl (fun g h0 sz => ?_)
  refine bw_al (j := 0) sD9_init_0 rfl ?_
  refine bw_obj sD9_init_1 (sd_in1_ (i := 139) rfl rfl) (by decide) ?_
  refine bw_al (j := 0) sD9_init_4 rfl ?_
  refine bw_push (Or.inl sD9_init_5) ?_
  refine bw_pi sD9_init_6 sF9_9 rfl rfl (Nat.le_of_ble_eq_true rfl) (fs' := [.int 0, .int 0, .null, .null, .null, .null]) rfl ?_
  refine bw_al (j := 0) sD9_init_9 rfl ?_
  refine bw_push (Or.inl sD9_init_10) ?_
  refine bw_pi sD9_init_11 sF9_15 rfl rfl (Nat.le_of_ble_eq_true rfl) (fs' := [.int 0, .int 0, .null, .null, .null, .null]) rfl ?_
  refine bw_al (j := 0) sD9_init_14 rfl ?_
  refine bw_push (Or.inr (Or.inl ⟨sD9_init_15, by decide⟩)) ?_
  refine bw_na (n := 6) (v := fun i => sd_x0 (386 + i)) sD9_init_17 rfl (by decide) (fun i hi => sd_x0z (by omega) (by omega) (by omega)) (cells' := 1) (slots' := 6) rfl rfl (Nat.le_of_ble_eq_true rfl) (Nat.le_of_ble_eq_true rfl) (fun q0 => ?_)
  refine bw_pf sD9_init_19 sF9_18 rfl rfl rfl (Nat.le_of_ble_eq_true rfl) (fs' := [.int 0, .int 0, .ref q0, .null, .null, .null]) rfl ?_
  refine bw_al (j := 0) sD9_init_22 rfl ?_
  refine bw_push (Or.inr (Or.inl ⟨sD9_init_23, by decide⟩)) ?_
  refine bw_na (n := 36) (v := fun i => sd_x0 (392 + i)) sD9_init_25 rfl (by decide) (fun i hi => sd_x0z (by omega) (by omega) (by omega)) (cells' := 2) (slots' := 42) rfl rfl (Nat.le_of_ble_eq_true rfl) (Nat.le_of_ble_eq_true rfl) (fun q1 => ?_)
  refine bw_pf sD9_init_27 sF9_22 rfl rfl rfl (Nat.le_of_ble_eq_true rfl) (fs' := [.int 0, .int 0, .ref q0, .ref q1, .null, .null]) rfl ?_
  refine bw_al (j := 0) sD9_init_30 rfl ?_
  refine bw_push (Or.inr (Or.inl ⟨sD9_init_31, by decide⟩)) ?_
  refine bw_na (n := 6) (v := fun i => sd_x0 (5020 + i)) sD9_init_33 rfl (by decide) (fun i hi => sd_x0z (by omega) (by omega) (by omega)) (cells' := 3) (slots' := 48) rfl rfl (Nat.le_of_ble_eq_true rfl) (Nat.le_of_ble_eq_true rfl) (fun q2 => ?_)
  refine bw_pf sD9_init_35 sF9_25 rfl rfl rfl (Nat.le_of_ble_eq_true rfl) (fs' := [.int 0, .int 0, .ref q0, .ref q1, .ref q2, .null]) rfl ?_
  refine bw_al (j := 0) sD9_init_38 rfl ?_
  refine bw_push (Or.inr (Or.inl ⟨sD9_init_39, by decide⟩)) ?_
  refine bw_na (n := 6) (v := fun i => sd_x0 (5030 + i)) sD9_init_41 rfl (by decide) (fun i hi => sd_x0z (by omega) (by omega) (by omega)) (cells' := 4) (slots' := 54) rfl rfl (Nat.le_of_ble_eq_true rfl) (Nat.le_of_ble_eq_true rfl) (fun q3 => ?_)
  refine bw_pf sD9_init_43 sF9_28 rfl rfl rfl (Nat.le_of_ble_eq_true rfl) (fs' := [.int 0, .int 0, .ref q0, .ref q1, .ref q2, .ref q3]) rfl ?_
  refine bw_ret sD9_init_46 (Nat.le_of_ble_eq_true rfl) (Nat.le_of_ble_eq_true rfl) ⟨fun k => [q0, q1, q2, q3, h0].getD k 0, rfl, ?_⟩
  exact (List.perm_append_singleton (h0, .inr (9, [.int 0, .int 0, .ref q0, .ref q1, .ref q2, .ref q3])) [(q0, sd_ia g 6 (fun i => sd_x0 (386 + i))), (q1, sd_ia g 36 (fun i => sd_x0 (392 + i))), (q2, sd_ia g 6 (fun i => sd_x0 (5020 + i))), (q3, sd_ia g 6 (fun i => sd_x0 (5030 + i)))]).symm
