set_option maxRecDepth 100000 in
set_option maxHeartbeats 4000000 in
theorem cC_menadd (s w d : Int) (x m : sd_M) (hx : sd_ns x m) (h3 : 0 ≤ x 3 ∧ x 3 < 16) : sd_Ct sd_SC 0 sY3_add [.inr 18, .inl s, .inl w, .inl d] m (fun r m' => r = some (.inl (x 3)) ∧ sd_ns (sd_up (sd_up (sd_up (sd_up (sd_up x 3 (x 3 + 1)) (322 + (x 3).toNat) s) (338 + (x 3).toNat) w) (354 + (x 3).toNat) d) (370 + (x 3).toNat) 0) m') := by
  refine sd_ct rfl (Nat.le_of_ble_eq_true rfl) (fun hok hm => ?_)
  show sd_Wp sd_SC 0 sY3_add 0 [some (.inr 18), some (.inl s), some (.inl w), some (.inl d), none] [] m _
  refine sd_aload_n sD3_add_0 rfl ?_
  refine sd_getfx (v := x 3) hx sD3_add_1 sF3_9 sGC18_0 (by decide) rfl ?_
  refine sd_istore (ls' := [some (.inr 18), some (.inl s), some (.inl w), some (.inl d), some (.inl (x 3))]) sD3_add_4 (by decide) rfl ?_
  refine sd_aload_n sD3_add_6 rfl ?_
  refine sd_dup sD3_add_7 ?_
  refine sd_getfx (v := x 3) hx sD3_add_8 sF3_9 sGC18_0 (by decide) rfl ?_
  refine sd_iconst sD3_add_11 (by decide) ?_
  refine sd_iadd (z := (x 3 + 1)) sD3_add_12 (by omega) (by omega) ?_
  refine sd_putfx sd_sokC sd_oneC hx sD3_add_13 sF3_9 sGC18_0 (Or.inl rfl) (fun m hx em13 => ?_)
  refine sd_aload_n sD3_add_16 rfl ?_
  refine sd_getfr sD3_add_17 sF3_15 sGC18_1 ?_
  refine sd_iload sD3_add_20 rfl ?_
  refine sd_iload_n sD3_add_22 rfl ?_
  refine sd_iastx (a := (322 + ((x 3).toNat))) sd_sokC hx sD3_add_23 sAC14 (by omega) (fun m hx em23 => ?_)
  refine sd_aload_n sD3_add_24 rfl ?_
  refine sd_getfr sD3_add_25 sF3_19 sGC18_2 ?_
  refine sd_iload sD3_add_28 rfl ?_
  refine sd_iload_n sD3_add_30 rfl ?_
  refine sd_iastx (a := (338 + ((x 3).toNat))) sd_sokC hx sD3_add_31 sAC15 (by omega) (fun m hx em31 => ?_)
  refine sd_aload_n sD3_add_32 rfl ?_
  refine sd_getfr sD3_add_33 sF3_22 sGC18_3 ?_
  refine sd_iload sD3_add_36 rfl ?_
  refine sd_iload_n sD3_add_38 rfl ?_
  refine sd_iastx (a := (354 + ((x 3).toNat))) sd_sokC hx sD3_add_39 sAC16 (by omega) (fun m hx em39 => ?_)
  refine sd_aload_n sD3_add_40 rfl ?_
  refine sd_getfr sD3_add_41 sF3_25 sGC18_4 ?_
  refine sd_iload sD3_add_44 rfl ?_
  refine sd_iconst sD3_add_46 (by decide) ?_
  refine sd_iastx (a := (370 + ((x 3).toNat))) sd_sokC hx sD3_add_47 sAC17 (by omega) (fun m hx em47 => ?_)
  refine sd_iload sD3_add_48 rfl ?_
  refine sd_ireturn sD3_add_50 rfl (fun hr hm => ?_)
  exact ⟨rfl, hx⟩
