def sd_T0 : List sd_C := [.inl (6520, 6), .inl (6526, 6), .inl (5100, 5), .inr (.inl (0, [.inr 0, .inr 1, .inr 2, .inl 5110]))]
theorem bC_0 : sd_Bc sY0_init 1 3 17 0 [.null, .null, .null, .int 0] (sd_yPo sd_T0) := by
  refine sd_ybc rfl rfl (by decide) rfl (fun g h0 sz => ?_)
  refine bw_al (j := 0) sD0_init_0 rfl ?_
  refine bw_obj sD0_init_1 (sd_in2_ (i := 32) rfl rfl) (by decide) ?_
  refine bw_al (j := 0) sD0_init_4 rfl ?_
  refine bw_push (Or.inr (Or.inl ⟨sD0_init_5, by decide⟩)) ?_
  refine bw_na (n := 6) (v := fun i => sd_x0 (6520 + i)) sD0_init_7 rfl (by decide) (fun i hi => sd_x0z (by omega) (by omega) (by omega)) (cells' := 1) (slots' := 6) rfl rfl (Nat.le_of_ble_eq_true rfl) (Nat.le_of_ble_eq_true rfl) (fun q0 => ?_)
  refine bw_pf sD0_init_9 sF0_9 rfl rfl rfl (Nat.le_of_ble_eq_true rfl) (fs' := [.ref q0, .null, .null, .int 0]) rfl ?_
  refine bw_al (j := 0) sD0_init_12 rfl ?_
  refine bw_push (Or.inr (Or.inl ⟨sD0_init_13, by decide⟩)) ?_
  refine bw_na (n := 6) (v := fun i => sd_x0 (6526 + i)) sD0_init_15 rfl (by decide) (fun i hi => sd_x0z (by omega) (by omega) (by omega)) (cells' := 2) (slots' := 12) rfl rfl (Nat.le_of_ble_eq_true rfl) (Nat.le_of_ble_eq_true rfl) (fun q1 => ?_)
  refine bw_pf sD0_init_17 sF0_15 rfl rfl rfl (Nat.le_of_ble_eq_true rfl) (fs' := [.ref q0, .ref q1, .null, .int 0]) rfl ?_
  refine bw_al (j := 0) sD0_init_20 rfl ?_
  refine bw_push (Or.inl sD0_init_21) ?_
  refine bw_na (n := 5) (v := fun i => sd_x0 (5100 + i)) sD0_init_22 rfl (by decide) (fun i hi => sd_x0z (by omega) (by omega) (by omega)) (cells' := 3) (slots' := 17) rfl rfl (Nat.le_of_ble_eq_true rfl) (Nat.le_of_ble_eq_true rfl) (fun q2 => ?_)
  refine bw_pf sD0_init_24 sF0_18 rfl rfl rfl (Nat.le_of_ble_eq_true rfl) (fs' := [.ref q0, .ref q1, .ref q2, .int 0]) rfl ?_
  refine bw_al (j := 0) sD0_init_27 rfl ?_
  refine bw_push (Or.inl sD0_init_28) ?_
  refine bw_pi sD0_init_29 sF0_21 rfl rfl (Nat.le_of_ble_eq_true rfl) (fs' := [.ref q0, .ref q1, .ref q2, .int 0]) rfl ?_
  refine bw_ret sD0_init_32 (Nat.le_of_ble_eq_true rfl) (Nat.le_of_ble_eq_true rfl) ⟨fun k => [q0, q1, q2, h0].getD k 0, rfl, ?_⟩
  exact (List.perm_append_singleton (h0, .inr (0, [.ref q0, .ref q1, .ref q2, .int 0])) [(q0, sd_ia g 6 (fun i => sd_x0 (6520 + i))), (q1, sd_ia g 6 (fun i => sd_x0 (6526 + i))), (q2, sd_ia g 5 (fun i => sd_x0 (5100 + i)))]).symm
