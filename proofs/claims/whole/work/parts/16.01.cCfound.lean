set_option maxRecDepth 100000 in
set_option maxHeartbeats 4000000 in
theorem cC_found (f : Int) (k : Nat) (hk : k < 7) (hf : f = -1000001 - (k : Int)) (x m : sd_M) (hx : sd_ns x m) (hb : 0 ≤ x (4101 + k) ∧ x (4101 + k) ≤ 1000000) : sd_Ct sd_SC 1 sY10_found [.inr 120, .inl f] m (fun r m' => r = some (.inl f) ∧ sd_ns (sd_fnd x k) m') := by
  refine sd_ct rfl (Nat.le_of_ble_eq_true rfl) (fun hok hm => ?_)
  show sd_Wp sd_SC 1 sY10_found 0 [some (.inr 120), some (.inl f), none] [] m _
  refine sd_ldc (z := -1000001) sD10_found_0 sK10_51 (by decide) ?_
  refine sd_iload_n sD10_found_2 rfl ?_
  refine sd_isub (z := (k : Int)) sD10_found_3 (by omega) (by omega) ?_
  refine sd_istore_n (ls' := [some (.inr 120), some (.inl f), some (.inl (k : Int))]) sD10_found_4 (by decide) rfl ?_
  refine sd_iload_n sD10_found_5 rfl ?_
  refine sd_iconst sD10_found_6 (by decide) ?_
  refine sd_bipush sD10_found_7 rfl (by decide) ?_
  refine sd_callSp (as := [.inl (k : Int), .inl 0, .inl 6]) (st := []) (v := .inl (sd_b (0 ≤ (k : Int) ∧ (k : Int) ≤ 6))) sD10_found_9 sM10_65 rfl rfl (by decide) (Nat.le_of_ble_eq_true rfl) (cC_isWithin (k : Int) 0 6 m) (fun ho9 => ?_)
  refine sd_bif_eq (tgt := 25) sD10_found_12 (by decide) (fun zc12 => (by exfalso; omega)) (fun zc12 => ?_)
  refine sd_aload_n sD10_found_15 rfl ?_
  refine sd_getfr sD10_found_16 sF10_32 sGC120_4 ?_
  refine sd_iload_n sD10_found_19 rfl ?_
  refine sd_dup2 sD10_found_20 ?_
  refine sd_ialdx (a := (4101 + k)) (v := x (4101 + k)) hx sD10_found_21 sAC119 (by omega) rfl ?_
  refine sd_iconst sD10_found_22 (by decide) ?_
  refine sd_iadd (z := (x (4101 + k) + 1)) sD10_found_23 (by omega) (by omega) ?_
  refine sd_iastx (a := (4101 + k)) sd_sokC hx sD10_found_24 sAC119 (by omega) (fun m hx em24 => ?_)
  refine sd_iload_n sD10_found_25 rfl ?_
  refine sd_ireturn sD10_found_26 rfl (fun hr hm => ?_)
  exact ⟨rfl, hx⟩
