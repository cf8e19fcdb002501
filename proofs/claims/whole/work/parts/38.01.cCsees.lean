set_option maxRecDepth 100000 in
set_option maxHeartbeats 4000000 in
theorem cC_sees (c : Int) (hc : ¬ c = -1) (B : Nat → Int) (n p : Nat) (x m : sd_M) (hx : sd_ns x m) (hT : sd_TB x B n) (hp : m 5390 = (p : Int)) (hpn : p ≤ n) : sd_Ct sd_SC 0 sY7_sees [.inr 118, .inl c] m (fun r m' => r = some (.inl (sd_b (B p = c))) ∧ sd_ns x m' ∧ m' 5390 = ((if B p = c then p + 1 else p : Nat) : Int)) := by
  refine sd_ct rfl (Nat.le_of_ble_eq_true rfl) (fun hok hm => ?_)
  have t1 := hT.1
  have t2 := hT.2.1
  show sd_Wp sd_SC 0 sY7_sees 0 [some (.inr 118), some (.inl c)] [] m _
  refine sd_aload_n sD7_sees_0 rfl ?_
  refine sd_getfi sD7_sees_1 sF7_15 sGC118_1 ?_
  rw [show m 5390 = (p : Int) from hp]
  refine sd_aload_n sD7_sees_4 rfl ?_
  refine sd_getfx (v := x 4100) hx sD7_sees_5 sF7_9 sGC118_0 (by decide) rfl ?_
  refine sd_icmp_ge (tgt := 24) sD7_sees_8 (by decide) (fun zc8 => ?_) (fun zc8 => ?_)
  ·
    refine sd_iconst sD7_sees_24 (by decide) ?_
    refine sd_zreturn sD7_sees_25 rfl (by decide) (fun hm => ?_)
    exact ⟨by rw [sd_b0 (fun q => by have q2 := (hT.byte p hc).mp q; omega)], hx, by rw [if_neg (fun q => by have q2 := (hT.byte p hc).mp q; omega)]; exact hp⟩
  ·
    refine sd_aload_n sD7_sees_11 rfl ?_
    refine sd_getfr sD7_sees_12 sF7_18 sGC118_2 ?_
    refine sd_aload_n sD7_sees_15 rfl ?_
    refine sd_getfi sD7_sees_16 sF7_15 sGC118_1 ?_
    rw [show m 5390 = (p : Int) from hp]
    refine sd_ialdx (a := (4000 + p)) (v := x (4000 + p)) hx sD7_sees_19 sAC117 (by omega) rfl ?_
    refine sd_iload_n sD7_sees_20 rfl ?_
    refine sd_icmp_eq (tgt := 26) sD7_sees_21 (by decide) (fun zc21 => ?_) (fun zc21 => ?_)
    ·
      refine sd_aload_n sD7_sees_26 rfl ?_
      refine sd_dup sD7_sees_27 ?_
      refine sd_getfi sD7_sees_28 sF7_15 sGC118_1 ?_
      rw [show m 5390 = (p : Int) from hp]
      refine sd_iconst sD7_sees_31 (by decide) ?_
      refine sd_iadd (z := ((p : Int) + 1)) sD7_sees_32 (by omega) (by omega) ?_
      refine sd_putfc sd_sokC sd_oneC hx sD7_sees_33 sF7_15 sGC118_1 (by decide) (Or.inl rfl) (fun m hx em33 => ?_)
      have hpl33_1 : m 5390 = (((p + 1) : Nat) : Int) := by rw [em33]; unfold sd_up; rw [if_pos rfl]; (try omega)
      refine sd_iconst sD7_sees_36 (by decide) ?_
      refine sd_zreturn sD7_sees_37 rfl (by decide) (fun hm => ?_)
      exact ⟨by rw [sd_b1 ((hT.byte p hc).mpr ⟨by omega, by assumption⟩)], hx, by rw [if_pos ((hT.byte p hc).mpr ⟨by omega, by assumption⟩)]; exact hpl33_1⟩
    ·
      refine sd_iconst sD7_sees_24 (by decide) ?_
      refine sd_zreturn sD7_sees_25 rfl (by decide) (fun hm => ?_)
      exact ⟨by rw [sd_b0 (fun q => by have q2 := (hT.byte p hc).mp q; omega)], hx, by rw [if_neg (fun q => by have q2 := (hT.byte p hc).mp q; omega)]; exact hp⟩
