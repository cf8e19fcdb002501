def sd_T2 : List sd_C := [.inl (6500, 6), .inl (6506, 6), .inr (.inl (2, [.inr 0, .inr 1]))]
theorem bC_2 : sd_Bc sY2_init 1 2 12 2 [.null, .null] (sd_yPo sd_T2) := by
  refine sd_ybc rfl rfl (by decide) rfl (fun g h0 sz => ?_)
  refine bw_al (j := 0) sD2_init_0 rfl ?_
  refine bw_obj sD2_init_1 (sd_in2_ (i := 17) rfl rfl) (by decide) ?_
  refine bw_al (j := 0) sD2_init_4 rfl ?_
  refine bw_push (Or.inr (Or.inl ⟨sD2_init_5, by decide⟩)) ?_
  refine bw_na (n := 6) (v := fun i => sd_x0 (6500 + i)) sD2_init_7 rfl (by decide) (fun i hi => sd_x0z (by omega) (by omega) (by omega)) (cells' := 1) (slots' := 6) rfl rfl (Nat.le_of_ble_eq_true rfl) (Nat.le_of_ble_eq_true rfl) (fun q0 => ?_)
  refine bw_pf sD2_init_9 sF2_9 rfl rfl rfl (Nat.le_of_ble_eq_true rfl) (fs' := [.ref q0, .null]) rfl ?_
  refine bw_al (j := 0) sD2_init_12 rfl ?_
  refine bw_push (Or.inr (Or.inl ⟨sD2_init_13, by decide⟩)) ?_
  refine bw_na (n := 6) (v := fun i => sd_x0 (6506 + i)) sD2_init_15 rfl (by decide) (fun i hi => sd_x0z (by omega) (by omega) (by omega)) (cells' := 2) (slots' := 12) rfl rfl (Nat.le_of_ble_eq_true rfl) (Nat.le_of_ble_eq_true rfl) (fun q1 => ?_)
  refine bw_pf sD2_init_17 sF2_15 rfl rfl rfl (Nat.le_of_ble_eq_true rfl) (fs' := [.ref q0, .ref q1]) rfl ?_
  refine bw_ret sD2_init_20 (Nat.le_of_ble_eq_true rfl) (Nat.le_of_ble_eq_true rfl) ⟨fun k => [q0, q1, h0].getD k 0, rfl, ?_⟩
  exact (List.perm_append_singleton (h0, .inr (2, [.ref q0, .ref q1])) [(q0, sd_ia g 6 (fun i => sd_x0 (6500 + i))), (q1, sd_ia g 6 (fun i => sd_x0 (6506 + i)))]).symm
