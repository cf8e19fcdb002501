set_option maxRecDepth 100000 in
set_option maxHeartbeats 4000000 in
theorem cC_rumadd (g c : Int) (x m : sd_M) (hx : sd_ns x m) (h3 : 0 ≤ x 6 ∧ x 6 < 6) : sd_Ct sd_SC 0 sY4_add [.inr 42, .inl g, .inl c] m (fun r m' => r = some (.inl (x 6)) ∧ sd_ns (sd_up (sd_up (sd_up (sd_up x 6 (x 6 + 1)) (1272 + (x 6).toNat) g) (1278 + (x 6).toNat) c) (1284 + (x 6).toNat) 0) m') := by
  refine sd_ct rfl (Nat.le_of_ble_eq_true rfl) (fun hok hm => ?_)
  show sd_Wp sd_SC 0 sY4_add 0 [some (.inr 42), some (.inl g), some (.inl c), none] [] m _
  refine sd_aload_n sD4_add_0 rfl ?_
  refine sd_getfx (v := x 6) hx sD4_add_1 sF4_9 sGC42_0 (by decide) rfl ?_
  refine sd_istore_n (ls' := [some (.inr 42), some (.inl g), some (.inl c), some (.inl (x 6))]) sD4_add_4 (by decide) rfl ?_
  refine sd_aload_n sD4_add_5 rfl ?_
  refine sd_dup sD4_add_6 ?_
  refine sd_getfx (v := x 6) hx sD4_add_7 sF4_9 sGC42_0 (by decide) rfl ?_
  refine sd_iconst sD4_add_10 (by decide) ?_
  refine sd_iadd (z := (x 6 + 1)) sD4_add_11 (by omega) (by omega) ?_
  refine sd_putfx sd_sokC sd_oneC hx sD4_add_12 sF4_9 sGC42_0 (Or.inl rfl) (fun m hx em12 => ?_)
  refine sd_aload_n sD4_add_15 rfl ?_
  refine sd_getfr sD4_add_16 sF4_18 sGC42_2 ?_
  refine sd_iload_n sD4_add_19 rfl ?_
  refine sd_iload_n sD4_add_20 rfl ?_
  refine sd_iastx (a := (1272 + ((x 6).toNat))) sd_sokC hx sD4_add_21 sAC37 (by omega) (fun m hx em21 => ?_)
  refine sd_aload_n sD4_add_22 rfl ?_
  refine sd_getfr sD4_add_23 sF4_22 sGC42_3 ?_
  refine sd_iload_n sD4_add_26 rfl ?_
  refine sd_iload_n sD4_add_27 rfl ?_
  refine sd_iastx (a := (1278 + ((x 6).toNat))) sd_sokC hx sD4_add_28 sAC38 (by omega) (fun m hx em28 => ?_)
  refine sd_aload_n sD4_add_29 rfl ?_
  refine sd_getfr sD4_add_30 sF4_25 sGC42_4 ?_
  refine sd_iload_n sD4_add_33 rfl ?_
  refine sd_iconst sD4_add_34 (by decide) ?_
  refine sd_iastx (a := (1284 + ((x 6).toNat))) sd_sokC hx sD4_add_35 sAC39 (by omega) (fun m hx em35 => ?_)
  refine sd_iload_n sD4_add_36 rfl ?_
  refine sd_ireturn sD4_add_37 rfl (fun hr hm => ?_)
  exact ⟨rfl, hx⟩
