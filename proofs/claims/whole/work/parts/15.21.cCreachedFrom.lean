set_option maxRecDepth 100000 in
set_option maxHeartbeats 4000000 in
theorem cC_reachedFrom (s : Int) (k : Int) (x m : sd_M) (hx : sd_ns x m) (h1 : sd_I1 x) (h2 : sd_I2 x) (h3 : sd_I3 x) (hk : 0 ≤ k ∧ k ≤ 9) : sd_Cp sd_SC 1 sY6_reachedFrom [.inr 53, .inl s, .inl k] m (.inl (sd_rch x (sd_shl 1 s) k.toNat)) := by
  refine sd_ct rfl (Nat.le_of_ble_eq_true rfl) (fun hok hm => ?_)
  obtain ⟨⟨i0, j0⟩, ⟨i1, j1⟩, ⟨i2, j2⟩, ⟨i3, j3⟩, ⟨i4, j4⟩, ⟨i5, j5⟩, ⟨i6, j6⟩, ⟨i7, j7⟩, ⟨i8, j8⟩⟩ := id h1
  have r_s : sd_R s := hok (.inl s) (by simp)
  have r_k : sd_R k := hok (.inl k) (by simp)
  show sd_Wp sd_SC 1 sY6_reachedFrom 0 [some (.inr 53), some (.inl s), some (.inl k), none, none] [] m _
  refine sd_iconst sD6_reachedFrom_0 (by decide) ?_
  refine sd_iload_n sD6_reachedFrom_1 rfl ?_
  refine sd_ishl sD6_reachedFrom_2 ?_
  refine sd_istore_n (ls' := [some (.inr 53), some (.inl s), some (.inl k), some (.inl (sd_shl 1 s)), none]) sD6_reachedFrom_3 (by decide) rfl ?_
  refine sd_iconst sD6_reachedFrom_4 (by decide) ?_
  refine sd_istore (ls' := [some (.inr 53), some (.inl s), some (.inl k), some (.inl (sd_shl 1 s)), some (.inl 0)]) sD6_reachedFrom_5 (by decide) rfl ?_
  refine sd_forE (k.toNat) (fun zi7 : Nat => [some (.inr 53), some (.inl s), some (.inl k), some (.inl (sd_rch x (sd_shl 1 s) zi7)), some (.inl (zi7 : Int))]) (by rfl) (fun zi7 hizi7 ihzi7 => ?_) ?_
  ·
    refine sd_iload sD6_reachedFrom_7 rfl ?_
    refine sd_iload_n sD6_reachedFrom_9 rfl ?_
    refine sd_icmp_ge (tgt := 28) sD6_reachedFrom_10 (by decide) (fun zc10 => (by exfalso; omega)) (fun zc10 => ?_)
    refine sd_aload_n sD6_reachedFrom_13 rfl ?_
    refine sd_getfr sD6_reachedFrom_14 sF6_21 sGC53_2 ?_
    refine sd_iload_n sD6_reachedFrom_17 rfl ?_
    refine sd_callVp (as := [.inl (sd_rch x (sd_shl 1 s) zi7)]) (st := []) (v := .inl (sd_stp x (sd_rch x (sd_shl 1 s) zi7) (x 2).toNat)) sD6_reachedFrom_18 sM6_103 sOC13 rfl rfl rfl (by decide) (Nat.le_of_ble_eq_true rfl) (cC_oneGateFurther (sd_rch x (sd_shl 1 s) zi7) _ m hx h1 h2 h3) (fun ho18 => ?_)
    refine sd_istore_n (ls' := [some (.inr 53), some (.inl s), some (.inl k), some (.inl (sd_stp x (sd_rch x (sd_shl 1 s) zi7) (x 2).toNat)), some (.inl (zi7 : Int))]) sD6_reachedFrom_21 (by decide) rfl ?_
    refine sd_iinc (y := ((zi7 : Int) + 1)) (ls' := [some (.inr 53), some (.inl s), some (.inl k), some (.inl (sd_stp x (sd_rch x (sd_shl 1 s) zi7) (x 2).toNat)), some (.inl ((zi7 : Int) + 1))]) sD6_reachedFrom_22 rfl (by omega) (by omega) (by decide) rfl ?_
    refine sd_goto (tgt := 7) sD6_reachedFrom_25 (by decide) ?_
    exact sd_eqw (ls' := [some (.inr 53), some (.inl s), some (.inl k), some (.inl (sd_rch x (sd_shl 1 s) (zi7 + 1))), some (.inl ((zi7 + 1 : Nat) : Int))]) ihzi7 (by rw [show (sd_stp x (sd_rch x (sd_shl 1 s) zi7) (x 2).toNat : Int) = sd_rch x (sd_shl 1 s) (zi7 + 1) from by rfl, show (((zi7 : Int) + 1) : Int) = ((zi7 + 1 : Nat) : Int) from by omega]) rfl
  ·
    show sd_Wp sd_SC 1 sY6_reachedFrom 7 [some (.inr 53), some (.inl s), some (.inl k), some (.inl (sd_rch x (sd_shl 1 s) k.toNat)), some (.inl ((k.toNat : Nat) : Int))] [] m _
    refine sd_iload sD6_reachedFrom_7 rfl ?_
    refine sd_iload_n sD6_reachedFrom_9 rfl ?_
    refine sd_icmp_ge (tgt := 28) sD6_reachedFrom_10 (by decide) (fun zc10 => ?_) (fun zc10 => (by exfalso; omega))
    refine sd_iload_n sD6_reachedFrom_28 rfl ?_
    refine sd_iretp sD6_reachedFrom_29 rfl ?_
    first | rfl | omega | (congr 1; omega)
