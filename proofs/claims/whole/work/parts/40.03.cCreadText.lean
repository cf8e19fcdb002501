set_option maxRecDepth 100000 in
set_option maxHeartbeats 4000000 in
theorem cC_readText (B : Nat → Int) (n t : Nat) (ht : t < 8) (x m : sd_M) (hx : sd_ns x m) (hT : sd_TB x B n) (h5 : x 5 = (t : Int)) : sd_Ct sd_SC 8 sY7_readText [.inr 118, .inr 36] m (sd_Qt B n t 0 5 0 x) := by
  refine sd_ct rfl (Nat.le_of_ble_eq_true rfl) (fun hok hm => ?_)
  have t1 := hT.1
  have t2 := hT.2.1
  show sd_Wp sd_SC 8 sY7_readText 0 [some (.inr 118), some (.inr 36), none, none] [] m _
  refine sd_aload_n sD7_readText_0 rfl ?_
  refine sd_iconst sD7_readText_1 (by decide) ?_
  refine sd_putfc sd_sokC sd_oneC hx sD7_readText_2 sF7_15 sGC118_1 (by decide) (Or.inl rfl) (fun m hx em2 => ?_)
  refine sd_iconst sD7_readText_5 (by decide) ?_
  refine sd_istore_n (ls' := [some (.inr 118), some (.inr 36), some (.inl 0), none]) sD7_readText_6 (by decide) rfl ?_
  refine sd_iload_n sD7_readText_7 rfl ?_
  refine sd_iconst sD7_readText_8 (by decide) ?_
  refine sd_icmp_ge (tgt := 105) sD7_readText_9 (by decide) (fun zc9 => (by exfalso; omega)) (fun zc9 => ?_)
  refine sd_aload_n sD7_readText_12 rfl ?_
  refine sd_getfx (v := (t : Int)) hx sD7_readText_13 sF7_22 sGC36_0 (by decide) h5 ?_
  refine sd_iconst sD7_readText_16 (by decide) ?_
  refine sd_imul (z := ((t : Int) * 5)) sD7_readText_17 (by omega) (by omega) ?_
  refine sd_iload_n sD7_readText_18 rfl ?_
  refine sd_iadd (z := ((t : Int) * 5)) sD7_readText_19 (by omega) (by omega) ?_
  refine sd_istore_n (ls' := [some (.inr 118), some (.inr 36), some (.inl 0), some (.inl ((t : Int) * 5))]) sD7_readText_20 (by decide) rfl ?_
  refine sd_iload_n sD7_readText_21 rfl ?_
  refine sd_if_le (tgt := 34) sD7_readText_22 (by decide) (fun zc22 => ?_) (fun zc22 => (by exfalso; omega))
  refine sd_eqw (ls' := [some (.inr 118), some (.inr 36), some (.inl ((0 : Nat) : Int)), some (.inl ((5 * t + 0 : Nat) : Int))]) ?_ (sd_cg rfl (sd_cg rfl (sd_cg rfl (sd_cg (sd_ce (by omega)) rfl)))) rfl
  exact cC_rtAll B n t ht _ 4 0 rfl x m 0 hx hT (by rw [em2]; exact sd_up_eq) (by omega) h5 (fun r m2 hq => hq)
