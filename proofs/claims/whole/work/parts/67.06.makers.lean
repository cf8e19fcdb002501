def sd_T5 : List sd_C := [.inl (8200, 12), .inr (.inl (5, [.inl 4250, .inl 8100, .inr 0]))]
theorem bC_5 : sd_Bc sY5_init 1 1 12 5 [.int 0, .int 0, .null] (sd_yPo sd_T5) := by
  refine sd_ybc rfl rfl (by decide) rfl (fun g h0 sz => ?_)
  refine bw_al (j := 0) sD5_init_0 rfl ?_
  refine bw_obj sD5_init_1 (sd_in2_ (i := 119) rfl rfl) (by decide) ?_
  refine bw_al (j := 0) sD5_init_4 rfl ?_
  refine bw_push (Or.inl sD5_init_5) ?_
  refine bw_pi sD5_init_6 sF5_9 rfl rfl (Nat.le_of_ble_eq_true rfl) (fs' := [.int 0, .int 0, .null]) rfl ?_
  refine bw_al (j := 0) sD5_init_9 rfl ?_
  refine bw_push (Or.inl sD5_init_10) ?_
  refine bw_pi sD5_init_11 sF5_15 rfl rfl (Nat.le_of_ble_eq_true rfl) (fs' := [.int 0, .int 0, .null]) rfl ?_
  refine bw_al (j := 0) sD5_init_14 rfl ?_
  refine bw_push (Or.inr (Or.inl ⟨sD5_init_15, by decide⟩)) ?_
  refine bw_na (n := 12) (v := fun i => sd_x0 (8200 + i)) sD5_init_17 rfl (by decide) (fun i hi => sd_x0z (by omega) (by omega) (by omega)) (cells' := 1) (slots' := 12) rfl rfl (Nat.le_of_ble_eq_true rfl) (Nat.le_of_ble_eq_true rfl) (fun q0 => ?_)
  refine bw_pf sD5_init_19 sF5_18 rfl rfl rfl (Nat.le_of_ble_eq_true rfl) (fs' := [.int 0, .int 0, .ref q0]) rfl ?_
  refine bw_ret sD5_init_22 (Nat.le_of_ble_eq_true rfl) (Nat.le_of_ble_eq_true rfl) ⟨fun k => [q0, h0].getD k 0, rfl, ?_⟩
  exact (List.perm_append_singleton (h0, .inr (5, [.int 0, .int 0, .ref q0])) [(q0, sd_ia g 12 (fun i => sd_x0 (8200 + i)))]).symm
