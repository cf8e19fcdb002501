def sd_T7 : List sd_C := [.inl (4000, 100), .inr (.inl (7, [.inl 4100, .inl 5390, .inr 0]))]
theorem bC_7 : sd_Bc sY7_init 1 1 100 7 [.int 0, .int 0, .null] (sd_yPo sd_T7) := by
  refine sd_ybc rfl rfl (by decide) rfl (fun g h0 sz => ?_)
  refine bw_al (j := 0) sD7_init_0 rfl ?_
  refine bw_obj sD7_init_1 (sd_in2_ (i := 102) rfl rfl) (by decide) ?_
  refine bw_al (j := 0) sD7_init_4 rfl ?_
  refine bw_push (Or.inl sD7_init_5) ?_
  refine bw_pi sD7_init_6 sF7_9 rfl rfl (Nat.le_of_ble_eq_true rfl) (fs' := [.int 0, .int 0, .null]) rfl ?_
  refine bw_al (j := 0) sD7_init_9 rfl ?_
  refine bw_push (Or.inl sD7_init_10) ?_
  refine bw_pi sD7_init_11 sF7_15 rfl rfl (Nat.le_of_ble_eq_true rfl) (fs' := [.int 0, .int 0, .null]) rfl ?_
  refine bw_al (j := 0) sD7_init_14 rfl ?_
  refine bw_push (Or.inr (Or.inl ⟨sD7_init_15, by decide⟩)) ?_
  refine bw_na (n := 100) (v := fun i => sd_x0 (4000 + i)) sD7_init_17 rfl (by decide) (fun i hi => sd_x0z (by omega) (by omega) (by omega)) (cells' := 1) (slots' := 100) rfl rfl (Nat.le_of_ble_eq_true rfl) (Nat.le_of_ble_eq_true rfl) (fun q0 => ?_)
  refine bw_pf sD7_init_19 sF7_18 rfl rfl rfl (Nat.le_of_ble_eq_true rfl) (fs' := [.int 0, .int 0, .ref q0]) rfl ?_
  refine bw_ret sD7_init_22 (Nat.le_of_ble_eq_true rfl) (Nat.le_of_ble_eq_true rfl) ⟨fun k => [q0, h0].getD k 0, rfl, ?_⟩
  exact (List.perm_append_singleton (h0, .inr (7, [.int 0, .int 0, .ref q0])) [(q0, sd_ia g 100 (fun i => sd_x0 (4000 + i)))]).symm
