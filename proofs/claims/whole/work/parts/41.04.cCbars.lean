set_option maxRecDepth 100000 in
set_option maxHeartbeats 4000000 in
theorem cC_bars (c : Int) (x m : sd_M) (hx : sd_ns x m)  (hc : -1 ≤ c ∧ c < 40) : sd_Cp sd_SC 0 sY8_bars [.inr 36, .inl c] m (.inl (sd_b (sd_brs x c))) := by
  refine sd_ct rfl (Nat.le_of_ble_eq_true rfl) (fun hok hm => ?_)
  have r_c : sd_R c := hok (.inl c) (by simp)
  show sd_Wp sd_SC 0 sY8_bars 0 [some (.inr 36), some (.inl c)] [] m _
  refine sd_iload_n sD8_bars_0 rfl ?_
  refine sd_iconst sD8_bars_1 (by decide) ?_
  refine sd_icmp_eq (tgt := 19) sD8_bars_2 (by decide) (fun zc2 => ?_) (fun zc2 => ?_)
  ·
    refine sd_iconst sD8_bars_19 (by decide) ?_
    refine sd_zretp sD8_bars_20 rfl (by decide) ?_
    first | exact (sd_b1 ⟨by omega, by omega⟩).symm | exact (sd_b0 (fun q => by have q1 := q.1; have q2 := q.2; omega)).symm
  ·
    refine sd_aload_n sD8_bars_5 rfl ?_
    refine sd_getfr sD8_bars_6 sF8_31 sGC36_6 ?_
    refine sd_iload_n sD8_bars_9 rfl ?_
    refine sd_ialdx (a := (6020 + c.toNat)) (v := x (6020 + c.toNat)) hx sD8_bars_10 sAC29 (by omega) rfl ?_
    refine sd_iconst sD8_bars_11 (by decide) ?_
    refine sd_icmp_ne (tgt := 19) sD8_bars_12 (by decide) (fun zc12 => ?_) (fun zc12 => ?_)
    ·
      refine sd_iconst sD8_bars_19 (by decide) ?_
      refine sd_zretp sD8_bars_20 rfl (by decide) ?_
      first | exact (sd_b1 ⟨by omega, by omega⟩).symm | exact (sd_b0 (fun q => by have q1 := q.1; have q2 := q.2; omega)).symm
    ·
      refine sd_iconst sD8_bars_15 (by decide) ?_
      refine sd_goto (tgt := 20) sD8_bars_16 (by decide) ?_
      refine sd_zretp sD8_bars_20 rfl (by decide) ?_
      first | exact (sd_b1 ⟨by omega, by omega⟩).symm | exact (sd_b0 (fun q => by have q1 := q.1; have q2 := q.2; omega)).symm
