set_option maxRecDepth 100000 in
set_option maxHeartbeats 4000000 in
theorem cC_workadd (n : Int) (x m : sd_M) (hx : sd_ns x m) (hw : 0 ≤ x 4 ∧ x 4 < 6) (hn : 0 ≤ n ∧ n ≤ 999999) : sd_Ct sd_SC 0 sY9_add [.inr 23, .inl n] m (fun r m' => r = some (.inl (x 4)) ∧ sd_ns (sd_up (sd_up (sd_up (sd_up (sd_up (sd_up (sd_up x 4 (x 4 + 1)) (392 + ((x 4).toNat * 6 + 5)) (n % 10)) (392 + ((x 4).toNat * 6 + 4)) (n / 10 % 10)) (392 + ((x 4).toNat * 6 + 3)) (n / 10 / 10 % 10)) (392 + ((x 4).toNat * 6 + 2)) (n / 10 / 10 / 10 % 10)) (392 + ((x 4).toNat * 6 + 1)) (n / 10 / 10 / 10 / 10 % 10)) (392 + (x 4).toNat * 6) (n / 10 / 10 / 10 / 10 / 10 % 10)) m') := by
  refine sd_ct rfl (Nat.le_of_ble_eq_true rfl) (fun hok hm => ?_)
  show sd_Wp sd_SC 0 sY9_add 0 [some (.inr 23), some (.inl n), none, none, none] [] m _
  refine sd_aload_n sD9_add_0 rfl ?_
  refine sd_getfx (v := x 4) hx sD9_add_1 sF9_9 sGC23_0 (by decide) rfl ?_
  refine sd_istore_n (ls' := [some (.inr 23), some (.inl n), some (.inl (x 4)), none, none]) sD9_add_4 (by decide) rfl ?_
  refine sd_aload_n sD9_add_5 rfl ?_
  refine sd_dup sD9_add_6 ?_
  refine sd_getfx (v := x 4) hx sD9_add_7 sF9_9 sGC23_0 (by decide) rfl ?_
  refine sd_iconst sD9_add_10 (by decide) ?_
  refine sd_iadd (z := (x 4 + 1)) sD9_add_11 (by omega) (by omega) ?_
  refine sd_putfx sd_sokC sd_oneC hx sD9_add_12 sF9_9 sGC23_0 (Or.inl rfl) (fun m hx em12 => ?_)
  refine sd_iload_n sD9_add_15 rfl ?_
  refine sd_istore_n (ls' := [some (.inr 23), some (.inl n), some (.inl (x 4)), some (.inl n), none]) sD9_add_16 (by decide) rfl ?_
  refine sd_iconst sD9_add_17 (by decide) ?_
  refine sd_istore (ls' := [some (.inr 23), some (.inl n), some (.inl (x 4)), some (.inl n), some (.inl 5)]) sD9_add_18 (by decide) rfl ?_
  refine sd_iload sD9_add_20 rfl ?_
  refine sd_if_lt (tgt := 52) sD9_add_22 (by decide) (fun zc22 => (by exfalso; omega)) (fun zc22 => ?_)
  refine sd_aload_n sD9_add_25 rfl ?_
  refine sd_getfr sD9_add_26 sF9_22 sGC23_3 ?_
  refine sd_iload_n sD9_add_29 rfl ?_
  refine sd_bipush sD9_add_30 rfl (by decide) ?_
  refine sd_imul (z := ((x 4) * 6)) sD9_add_32 (by omega) (by omega) ?_
  refine sd_iload sD9_add_33 rfl ?_
  refine sd_iadd (z := (((x 4) * 6) + 5)) sD9_add_35 (by omega) (by omega) ?_
  refine sd_iload_n sD9_add_36 rfl ?_
  refine sd_bipush sD9_add_37 rfl (by decide) ?_
  refine sd_irem (z := (n % 10)) sD9_add_39 (by decide) (by exact Int.tmod_eq_emod_of_nonneg (by omega)) (by omega) ?_
  refine sd_iastx (a := (392 + (((x 4).toNat * 6) + 5))) sd_sokC hx sD9_add_40 sAC20 (by omega) (fun m hx em40 => ?_)
  refine sd_iload_n sD9_add_41 rfl ?_
  refine sd_bipush sD9_add_42 rfl (by decide) ?_
  refine sd_idiv (z := (n / 10)) sD9_add_44 (by decide) (by exact Int.tdiv_eq_ediv_of_nonneg (by omega)) (by omega) ?_
  refine sd_istore_n (ls' := [some (.inr 23), some (.inl n), some (.inl (x 4)), some (.inl (n / 10)), some (.inl 5)]) sD9_add_45 (by decide) rfl ?_
  refine sd_iinc (y := 4) (ls' := [some (.inr 23), some (.inl n), some (.inl (x 4)), some (.inl (n / 10)), some (.inl 4)]) sD9_add_46 rfl (by omega) (by omega) (by decide) rfl ?_
  refine sd_goto (tgt := 20) sD9_add_49 (by decide) ?_
  refine sd_iload sD9_add_20 rfl ?_
  refine sd_if_lt (tgt := 52) sD9_add_22 (by decide) (fun zc22 => (by exfalso; omega)) (fun zc22 => ?_)
  refine sd_aload_n sD9_add_25 rfl ?_
  refine sd_getfr sD9_add_26 sF9_22 sGC23_3 ?_
  refine sd_iload_n sD9_add_29 rfl ?_
  refine sd_bipush sD9_add_30 rfl (by decide) ?_
  refine sd_imul (z := ((x 4) * 6)) sD9_add_32 (by omega) (by omega) ?_
  refine sd_iload sD9_add_33 rfl ?_
  refine sd_iadd (z := (((x 4) * 6) + 4)) sD9_add_35 (by omega) (by omega) ?_
  refine sd_iload_n sD9_add_36 rfl ?_
  refine sd_bipush sD9_add_37 rfl (by decide) ?_
  refine sd_irem (z := ((n / 10) % 10)) sD9_add_39 (by decide) (by exact Int.tmod_eq_emod_of_nonneg (by omega)) (by omega) ?_
  refine sd_iastx (a := (392 + (((x 4).toNat * 6) + 4))) sd_sokC hx sD9_add_40 sAC20 (by omega) (fun m hx em40 => ?_)
  refine sd_iload_n sD9_add_41 rfl ?_
  refine sd_bipush sD9_add_42 rfl (by decide) ?_
  refine sd_idiv (z := ((n / 10) / 10)) sD9_add_44 (by decide) (by exact Int.tdiv_eq_ediv_of_nonneg (by omega)) (by omega) ?_
  refine sd_istore_n (ls' := [some (.inr 23), some (.inl n), some (.inl (x 4)), some (.inl ((n / 10) / 10)), some (.inl 4)]) sD9_add_45 (by decide) rfl ?_
  refine sd_iinc (y := 3) (ls' := [some (.inr 23), some (.inl n), some (.inl (x 4)), some (.inl ((n / 10) / 10)), some (.inl 3)]) sD9_add_46 rfl (by omega) (by omega) (by decide) rfl ?_
  refine sd_goto (tgt := 20) sD9_add_49 (by decide) ?_
  refine sd_iload sD9_add_20 rfl ?_
  refine sd_if_lt (tgt := 52) sD9_add_22 (by decide) (fun zc22 => (by exfalso; omega)) (fun zc22 => ?_)
  refine sd_aload_n sD9_add_25 rfl ?_
  refine sd_getfr sD9_add_26 sF9_22 sGC23_3 ?_
  refine sd_iload_n sD9_add_29 rfl ?_
  refine sd_bipush sD9_add_30 rfl (by decide) ?_
  refine sd_imul (z := ((x 4) * 6)) sD9_add_32 (by omega) (by omega) ?_
  refine sd_iload sD9_add_33 rfl ?_
  refine sd_iadd (z := (((x 4) * 6) + 3)) sD9_add_35 (by omega) (by omega) ?_
  refine sd_iload_n sD9_add_36 rfl ?_
  refine sd_bipush sD9_add_37 rfl (by decide) ?_
  refine sd_irem (z := (((n / 10) / 10) % 10)) sD9_add_39 (by decide) (by exact Int.tmod_eq_emod_of_nonneg (by omega)) (by omega) ?_
  refine sd_iastx (a := (392 + (((x 4).toNat * 6) + 3))) sd_sokC hx sD9_add_40 sAC20 (by omega) (fun m hx em40 => ?_)
  refine sd_iload_n sD9_add_41 rfl ?_
  refine sd_bipush sD9_add_42 rfl (by decide) ?_
  refine sd_idiv (z := (((n / 10) / 10) / 10)) sD9_add_44 (by decide) (by exact Int.tdiv_eq_ediv_of_nonneg (by omega)) (by omega) ?_
  refine sd_istore_n (ls' := [some (.inr 23), some (.inl n), some (.inl (x 4)), some (.inl (((n / 10) / 10) / 10)), some (.inl 3)]) sD9_add_45 (by decide) rfl ?_
  refine sd_iinc (y := 2) (ls' := [some (.inr 23), some (.inl n), some (.inl (x 4)), some (.inl (((n / 10) / 10) / 10)), some (.inl 2)]) sD9_add_46 rfl (by omega) (by omega) (by decide) rfl ?_
  refine sd_goto (tgt := 20) sD9_add_49 (by decide) ?_
  refine sd_iload sD9_add_20 rfl ?_
  refine sd_if_lt (tgt := 52) sD9_add_22 (by decide) (fun zc22 => (by exfalso; omega)) (fun zc22 => ?_)
  refine sd_aload_n sD9_add_25 rfl ?_
  refine sd_getfr sD9_add_26 sF9_22 sGC23_3 ?_
  refine sd_iload_n sD9_add_29 rfl ?_
  refine sd_bipush sD9_add_30 rfl (by decide) ?_
  refine sd_imul (z := ((x 4) * 6)) sD9_add_32 (by omega) (by omega) ?_
  refine sd_iload sD9_add_33 rfl ?_
  refine sd_iadd (z := (((x 4) * 6) + 2)) sD9_add_35 (by omega) (by omega) ?_
  refine sd_iload_n sD9_add_36 rfl ?_
  refine sd_bipush sD9_add_37 rfl (by decide) ?_
  refine sd_irem (z := ((((n / 10) / 10) / 10) % 10)) sD9_add_39 (by decide) (by exact Int.tmod_eq_emod_of_nonneg (by omega)) (by omega) ?_
  refine sd_iastx (a := (392 + (((x 4).toNat * 6) + 2))) sd_sokC hx sD9_add_40 sAC20 (by omega) (fun m hx em40 => ?_)
  refine sd_iload_n sD9_add_41 rfl ?_
  refine sd_bipush sD9_add_42 rfl (by decide) ?_
  refine sd_idiv (z := ((((n / 10) / 10) / 10) / 10)) sD9_add_44 (by decide) (by exact Int.tdiv_eq_ediv_of_nonneg (by omega)) (by omega) ?_
  refine sd_istore_n (ls' := [some (.inr 23), some (.inl n), some (.inl (x 4)), some (.inl ((((n / 10) / 10) / 10) / 10)), some (.inl 2)]) sD9_add_45 (by decide) rfl ?_
  refine sd_iinc (y := 1) (ls' := [some (.inr 23), some (.inl n), some (.inl (x 4)), some (.inl ((((n / 10) / 10) / 10) / 10)), some (.inl 1)]) sD9_add_46 rfl (by omega) (by omega) (by decide) rfl ?_
  refine sd_goto (tgt := 20) sD9_add_49 (by decide) ?_
  refine sd_iload sD9_add_20 rfl ?_
  refine sd_if_lt (tgt := 52) sD9_add_22 (by decide) (fun zc22 => (by exfalso; omega)) (fun zc22 => ?_)
  refine sd_aload_n sD9_add_25 rfl ?_
  refine sd_getfr sD9_add_26 sF9_22 sGC23_3 ?_
  refine sd_iload_n sD9_add_29 rfl ?_
  refine sd_bipush sD9_add_30 rfl (by decide) ?_
  refine sd_imul (z := ((x 4) * 6)) sD9_add_32 (by omega) (by omega) ?_
  refine sd_iload sD9_add_33 rfl ?_
  refine sd_iadd (z := (((x 4) * 6) + 1)) sD9_add_35 (by omega) (by omega) ?_
  refine sd_iload_n sD9_add_36 rfl ?_
  refine sd_bipush sD9_add_37 rfl (by decide) ?_
  refine sd_irem (z := (((((n / 10) / 10) / 10) / 10) % 10)) sD9_add_39 (by decide) (by exact Int.tmod_eq_emod_of_nonneg (by omega)) (by omega) ?_
  refine sd_iastx (a := (392 + (((x 4).toNat * 6) + 1))) sd_sokC hx sD9_add_40 sAC20 (by omega) (fun m hx em40 => ?_)
  refine sd_iload_n sD9_add_41 rfl ?_
  refine sd_bipush sD9_add_42 rfl (by decide) ?_
  refine sd_idiv (z := (((((n / 10) / 10) / 10) / 10) / 10)) sD9_add_44 (by decide) (by exact Int.tdiv_eq_ediv_of_nonneg (by omega)) (by omega) ?_
  refine sd_istore_n (ls' := [some (.inr 23), some (.inl n), some (.inl (x 4)), some (.inl (((((n / 10) / 10) / 10) / 10) / 10)), some (.inl 1)]) sD9_add_45 (by decide) rfl ?_
  refine sd_iinc (y := 0) (ls' := [some (.inr 23), some (.inl n), some (.inl (x 4)), some (.inl (((((n / 10) / 10) / 10) / 10) / 10)), some (.inl 0)]) sD9_add_46 rfl (by omega) (by omega) (by decide) rfl ?_
  refine sd_goto (tgt := 20) sD9_add_49 (by decide) ?_
  refine sd_iload sD9_add_20 rfl ?_
  refine sd_if_lt (tgt := 52) sD9_add_22 (by decide) (fun zc22 => (by exfalso; omega)) (fun zc22 => ?_)
  refine sd_aload_n sD9_add_25 rfl ?_
  refine sd_getfr sD9_add_26 sF9_22 sGC23_3 ?_
  refine sd_iload_n sD9_add_29 rfl ?_
  refine sd_bipush sD9_add_30 rfl (by decide) ?_
  refine sd_imul (z := ((x 4) * 6)) sD9_add_32 (by omega) (by omega) ?_
  refine sd_iload sD9_add_33 rfl ?_
  refine sd_iadd (z := ((x 4) * 6)) sD9_add_35 (by omega) (by omega) ?_
  refine sd_iload_n sD9_add_36 rfl ?_
  refine sd_bipush sD9_add_37 rfl (by decide) ?_
  refine sd_irem (z := ((((((n / 10) / 10) / 10) / 10) / 10) % 10)) sD9_add_39 (by decide) (by exact Int.tmod_eq_emod_of_nonneg (by omega)) (by omega) ?_
  refine sd_iastx (a := (392 + ((x 4).toNat * 6))) sd_sokC hx sD9_add_40 sAC20 (by omega) (fun m hx em40 => ?_)
  refine sd_iload_n sD9_add_41 rfl ?_
  refine sd_bipush sD9_add_42 rfl (by decide) ?_
  refine sd_idiv (z := ((((((n / 10) / 10) / 10) / 10) / 10) / 10)) sD9_add_44 (by decide) (by exact Int.tdiv_eq_ediv_of_nonneg (by omega)) (by omega) ?_
  refine sd_istore_n (ls' := [some (.inr 23), some (.inl n), some (.inl (x 4)), some (.inl ((((((n / 10) / 10) / 10) / 10) / 10) / 10)), some (.inl 0)]) sD9_add_45 (by decide) rfl ?_
  refine sd_iinc (y := (-1)) (ls' := [some (.inr 23), some (.inl n), some (.inl (x 4)), some (.inl ((((((n / 10) / 10) / 10) / 10) / 10) / 10)), some (.inl (-1))]) sD9_add_46 rfl (by omega) (by omega) (by decide) rfl ?_
  refine sd_goto (tgt := 20) sD9_add_49 (by decide) ?_
  refine sd_iload sD9_add_20 rfl ?_
  refine sd_if_lt (tgt := 52) sD9_add_22 (by decide) (fun zc22 => ?_) (fun zc22 => (by exfalso; omega))
  refine sd_iload_n sD9_add_52 rfl ?_
  refine sd_ireturn sD9_add_53 rfl (fun hr hm => ?_)
  exact ⟨rfl, hx⟩
