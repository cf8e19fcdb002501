set_option maxRecDepth 100000 in
set_option maxHeartbeats 4000000 in
theorem cC_begins (i : Nat) (hi : i < 15) (B : Nat → Int) (n p : Nat) (x m : sd_M) (hx : sd_ns x m) (hT : sd_TB x B n) (hp : m 5390 = (p : Int)) (hpn : p ≤ n) : sd_Cp sd_SC 4 sY7_begins [.inr 118, .inr (910 + i)] m (.inl (sd_b ((¬ sd_len.getD i 0 = 0) ∧ B p = sd_wch i 0))) := by
  refine sd_ct rfl (Nat.le_of_ble_eq_true rfl) (fun hok hm => ?_)
  have t1 := hT.1
  have t2 := hT.2.1
  have t3 := sd_len5 hi
  show sd_Wp sd_SC 4 sY7_begins 0 [some (.inr 118), some (.inr (910 + i))] [] m _
  refine sd_aload_n sD7_begins_0 rfl ?_
  refine sd_callVsp (i := i) (as := []) (st := []) (v := .inl (sd_b (sd_len.getD i 0 = 0))) sD7_begins_1 sM7_115 (by omega) rfl rfl rfl (by decide) (Nat.le_of_ble_eq_true rfl) (cJ_isEmpty i (by omega) m) (fun ho1 => ?_)
  refine sd_bif_ne (tgt := 39) sD7_begins_4 (by decide) (fun zc4 => ?_) (fun zc4 => ?_)
  ·
    refine sd_iconst sD7_begins_39 (by decide) ?_
    refine sd_zretp sD7_begins_40 rfl (by decide) ?_
    exact (sd_b0 (fun q => by have q1 := q.1; have q2 := (hT.byte p (sd_wch_ne (by omega) (by omega))).mp q.2; omega)).symm
  ·
    refine sd_aload_n sD7_begins_7 rfl ?_
    refine sd_getfi sD7_begins_8 sF7_15 sGC118_1 ?_
    rw [show m 5390 = (p : Int) from hp]
    refine sd_aload_n sD7_begins_11 rfl ?_
    refine sd_getfx (v := x 4100) hx sD7_begins_12 sF7_9 sGC118_0 (by decide) rfl ?_
    refine sd_icmp_ge (tgt := 39) sD7_begins_15 (by decide) (fun zc15 => ?_) (fun zc15 => ?_)
    ·
      refine sd_iconst sD7_begins_39 (by decide) ?_
      refine sd_zretp sD7_begins_40 rfl (by decide) ?_
      exact (sd_b0 (fun q => by have q1 := q.1; have q2 := (hT.byte p (sd_wch_ne (by omega) (by omega))).mp q.2; omega)).symm
    ·
      refine sd_aload_n sD7_begins_18 rfl ?_
      refine sd_getfr sD7_begins_19 sF7_18 sGC118_2 ?_
      refine sd_aload_n sD7_begins_22 rfl ?_
      refine sd_getfi sD7_begins_23 sF7_15 sGC118_1 ?_
      rw [show m 5390 = (p : Int) from hp]
      refine sd_ialdx (a := (4000 + p)) (v := x (4000 + p)) hx sD7_begins_26 sAC117 (by omega) rfl ?_
      refine sd_aload_n sD7_begins_27 rfl ?_
      refine sd_iconst sD7_begins_28 (by decide) ?_
      refine sd_callVsp (i := i) (as := [.inl 0]) (st := [.inl (x (4000 + p))]) (v := .inl (sd_wch i 0)) sD7_begins_29 sM7_121 (by omega) rfl rfl rfl (by decide) (Nat.le_of_ble_eq_true rfl) (cJ_charAt i (by omega) 0 (by omega) m) (fun ho29 => ?_)
      refine sd_icmp_ne (tgt := 39) sD7_begins_32 (by decide) (fun zc32 => ?_) (fun zc32 => ?_)
      ·
        refine sd_iconst sD7_begins_39 (by decide) ?_
        refine sd_zretp sD7_begins_40 rfl (by decide) ?_
        exact (sd_b0 (fun q => by have q1 := q.1; have q2 := (hT.byte p (sd_wch_ne (by omega) (by omega))).mp q.2; omega)).symm
      ·
        refine sd_iconst sD7_begins_35 (by decide) ?_
        refine sd_goto (tgt := 40) sD7_begins_36 (by decide) ?_
        refine sd_zretp sD7_begins_40 rfl (by decide) ?_
        exact (sd_b1 ⟨by omega, (hT.byte p (sd_wch_ne (by omega) (by omega))).mpr ⟨by omega, by assumption⟩⟩).symm
