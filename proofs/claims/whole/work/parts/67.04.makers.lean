def sd_T3 : List sd_C := [.inl (322, 16), .inl (338, 16), .inl (354, 16), .inl (370, 16), .inr (.inl (3, [.inl 3, .inr 0, .inr 1, .inr 2, .inr 3]))]
theorem bC_3 : sd_Bc sY3_init 1 4 64 3 [.int 0, .null, .null, .null, .null] (sd_yPo sd_T3) := by
  refine sd_ybc rfl rfl (by decide) rfl (fun g h0 sz => ?_)
  refine bw_al (j := 0) sD3_init_0 rfl ?_
  refine bw_obj sD3_init_1 (sd_in1_ (i := 109) rfl rfl) (by decide) ?_
  refine bw_al (j := 0) sD3_init_4 rfl ?_
  refine bw_push (Or.inl sD3_init_5) ?_
  refine bw_pi sD3_init_6 sF3_9 rfl rfl (Nat.le_of_ble_eq_true rfl) (fs' := [.int 0, .null, .null, .null, .null]) rfl ?_
  refine bw_al (j := 0) sD3_init_9 rfl ?_
  refine bw_push (Or.inr (Or.inl ⟨sD3_init_10, by decide⟩)) ?_
  refine bw_na (n := 16) (v := fun i => sd_x0 (322 + i)) sD3_init_12 rfl (by decide) (fun i hi => sd_x0z (by omega) (by omega) (by omega)) (cells' := 1) (slots' := 16) rfl rfl (Nat.le_of_ble_eq_true rfl) (Nat.le_of_ble_eq_true rfl) (fun q0 => ?_)
  refine bw_pf sD3_init_14 sF3_15 rfl rfl rfl (Nat.le_of_ble_eq_true rfl) (fs' := [.int 0, .ref q0, .null, .null, .null]) rfl ?_
  refine bw_al (j := 0) sD3_init_17 rfl ?_
  refine bw_push (Or.inr (Or.inl ⟨sD3_init_18, by decide⟩)) ?_
  refine bw_na (n := 16) (v := fun i => sd_x0 (338 + i)) sD3_init_20 rfl (by decide) (fun i hi => sd_x0z (by omega) (by omega) (by omega)) (cells' := 2) (slots' := 32) rfl rfl (Nat.le_of_ble_eq_true rfl) (Nat.le_of_ble_eq_true rfl) (fun q1 => ?_)
  refine bw_pf sD3_init_22 sF3_19 rfl rfl rfl (Nat.le_of_ble_eq_true rfl) (fs' := [.int 0, .ref q0, .ref q1, .null, .null]) rfl ?_
  refine bw_al (j := 0) sD3_init_25 rfl ?_
  refine bw_push (Or.inr (Or.inl ⟨sD3_init_26, by decide⟩)) ?_
  refine bw_na (n := 16) (v := fun i => sd_x0 (354 + i)) sD3_init_28 rfl (by decide) (fun i hi => sd_x0z (by omega) (by omega) (by omega)) (cells' := 3) (slots' := 48) rfl rfl (Nat.le_of_ble_eq_true rfl) (Nat.le_of_ble_eq_true rfl) (fun q2 => ?_)
  refine bw_pf sD3_init_30 sF3_22 rfl rfl rfl (Nat.le_of_ble_eq_true rfl) (fs' := [.int 0, .ref q0, .ref q1, .ref q2, .null]) rfl ?_
  refine bw_al (j := 0) sD3_init_33 rfl ?_
  refine bw_push (Or.inr (Or.inl ⟨sD3_init_34, by decide⟩)) ?_
  refine bw_na (n := 16) (v := fun i => sd_x0 (370 + i)) sD3_init_36 rfl (by decide) (fun i hi => sd_x0z (by omega) (by omega) (by omega)) (cells' := 4) (slots' := 64) rfl rfl (Nat.le_of_ble_eq_true rfl) (Nat.le_of_ble_eq_true rfl) (fun q3 => ?_)
  refine bw_pf sD3_init_38 sF3_25 rfl rfl rfl (Nat.le_of_ble_eq_true rfl) (fs' := [.int 0, .ref q0, .ref q1, .ref q2, .ref q3]) rfl ?_
  refine bw_ret sD3_init_41 (Nat.le_of_ble_eq_true rfl) (Nat.le_of_ble_eq_true rfl) ⟨fun k => [q0, q1, q2, q3, h0].getD k 0, rfl, ?_⟩
  exact (List.perm_append_singleton (h0, .inr (3, [.int 0, .ref q0, .ref q1, .ref q2, .ref q3])) [(q0, sd_ia g 16 (fun i => sd_x0 (322 + i))), (q1, sd_ia g 16 (fun i => sd_x0 (338 + i))), (q2, sd_ia g 16 (fun i => sd_x0 (354 + i))), (q3, sd_ia g 16 (fun i => sd_x0 (370 + i)))]).symm
