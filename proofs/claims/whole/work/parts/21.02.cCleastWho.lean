set_option maxRecDepth 100000 in
set_option maxHeartbeats 4000000 in
theorem cC_leastWho (x m : sd_M) (hx : sd_ns x m) (h8 : sd_L8 x) : sd_Cp sd_SC 1 sY2_leastWho [.inr 45] m (.inl (sd_mx x 6)) := by
  refine sd_ct rfl (Nat.le_of_ble_eq_true rfl) (fun hok hm => ?_)
  show sd_Wp sd_SC 1 sY2_leastWho 0 [some (.inr 45), none, none] [] m _
  refine sd_iconst sD2_leastWho_0 (by decide) ?_
  refine sd_istore_n (ls' := [some (.inr 45), some (.inl 0), none]) sD2_leastWho_1 (by decide) rfl ?_
  refine sd_iconst sD2_leastWho_2 (by decide) ?_
  refine sd_istore_n (ls' := [some (.inr 45), some (.inl 0), some (.inl 0)]) sD2_leastWho_3 (by decide) rfl ?_
  refine sd_forE (6) (fun zi4 : Nat => [some (.inr 45), some (.inl (sd_mx x zi4)), some (.inl (zi4 : Int))]) (by rfl) (fun zi4 hizi4 ihzi4 => ?_) ?_
  ·
    have e8 := h8 zi4 (by omega)
    have e9 := sd_mx_rng h8 (n := zi4) (by omega)
    refine sd_iload_n sD2_leastWho_4 rfl ?_
    refine sd_bipush sD2_leastWho_5 rfl (by decide) ?_
    refine sd_icmp_ge (tgt := 34) sD2_leastWho_7 (by decide) (fun zc7 => (by exfalso; omega)) (fun zc7 => ?_)
    refine sd_iload_n sD2_leastWho_10 rfl ?_
    refine sd_aload_n sD2_leastWho_11 rfl ?_
    refine sd_getfr sD2_leastWho_12 sF2_9 sGC45_0 ?_
    refine sd_iload_n sD2_leastWho_15 rfl ?_
    refine sd_ialdx (a := (6500 + zi4)) (v := x (6500 + zi4)) hx sD2_leastWho_16 sAC43 (by omega) rfl ?_
    refine sd_aload_n sD2_leastWho_17 rfl ?_
    refine sd_getfr sD2_leastWho_18 sF2_15 sGC45_1 ?_
    refine sd_iload_n sD2_leastWho_21 rfl ?_
    refine sd_ialdx (a := (6506 + zi4)) (v := x (6506 + zi4)) hx sD2_leastWho_22 sAC44 (by omega) rfl ?_
    refine sd_isub (z := (x (6500 + zi4) - (x (6506 + zi4)))) sD2_leastWho_23 (by omega) (by omega) ?_
    refine sd_mmax sD2_leastWho_24 sM2_22 (by decide) (Nat.le_of_ble_eq_true rfl) ?_
    refine sd_istore_n (ls' := [some (.inr 45), some (.inl (max (sd_mx x zi4) (x (6500 + zi4) - (x (6506 + zi4))))), some (.inl (zi4 : Int))]) sD2_leastWho_27 (by decide) rfl ?_
    refine sd_iinc (y := ((zi4 : Int) + 1)) (ls' := [some (.inr 45), some (.inl (max (sd_mx x zi4) (x (6500 + zi4) - (x (6506 + zi4))))), some (.inl ((zi4 : Int) + 1))]) sD2_leastWho_28 rfl (by omega) (by omega) (by decide) rfl ?_
    refine sd_goto (tgt := 4) sD2_leastWho_31 (by decide) ?_
    exact sd_eqw (ls' := [some (.inr 45), some (.inl (sd_mx x (zi4 + 1))), some (.inl ((zi4 + 1 : Nat) : Int))]) ihzi4 (by rw [show (max (sd_mx x zi4) (x (6500 + zi4) - (x (6506 + zi4))) : Int) = sd_mx x (zi4 + 1) from by rfl, show (((zi4 : Int) + 1) : Int) = ((zi4 + 1 : Nat) : Int) from by omega]) rfl
  ·
    show sd_Wp sd_SC 1 sY2_leastWho 4 [some (.inr 45), some (.inl (sd_mx x 6)), some (.inl (6 : Int))] [] m _
    refine sd_iload_n sD2_leastWho_4 rfl ?_
    refine sd_bipush sD2_leastWho_5 rfl (by decide) ?_
    refine sd_icmp_ge (tgt := 34) sD2_leastWho_7 (by decide) (fun zc7 => ?_) (fun zc7 => (by exfalso; omega))
    refine sd_iload_n sD2_leastWho_34 rfl ?_
    refine sd_iretp sD2_leastWho_35 rfl ?_
    first | rfl | omega | (congr 1; omega)
