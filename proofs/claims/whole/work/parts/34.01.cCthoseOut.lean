set_option maxRecDepth 100000 in
set_option maxHeartbeats 4000000 in
theorem cC_thoseOut (x m : sd_M) (hx : sd_ns x m) (h1 : sd_I1 x) (h7 : sd_I7 x) : sd_Cp sd_SC 0 sY4_thoseOut [.inr 42] m (.inl (sd_tho x)) := by
  refine sd_ct rfl (Nat.le_of_ble_eq_true rfl) (fun hok hm => ?_)
  obtain ⟨⟨i0, j0⟩, ⟨i1, j1⟩, ⟨i2, j2⟩, ⟨i3, j3⟩, ⟨i4, j4⟩, ⟨i5, j5⟩, ⟨i6, j6⟩, ⟨i7, j7⟩, ⟨i8, j8⟩⟩ := id h1
  show sd_Wp sd_SC 0 sY4_thoseOut 0 [some (.inr 42), none, none] [] m _
  refine sd_iconst sD4_thoseOut_0 (by decide) ?_
  refine sd_istore_n (ls' := [some (.inr 42), some (.inl 0), none]) sD4_thoseOut_1 (by decide) rfl ?_
  refine sd_iconst sD4_thoseOut_2 (by decide) ?_
  refine sd_istore_n (ls' := [some (.inr 42), some (.inl 0), some (.inl 0)]) sD4_thoseOut_3 (by decide) rfl ?_
  refine sd_forE ((x 6).toNat) (fun zi4 : Nat => [some (.inr 42), some (.inl (sd_set (sd_Po x) zi4)), some (.inl (zi4 : Int))]) (by rfl) (fun zi4 hizi4 ihzi4 => ?_) ?_
  ·
    have e7 := (h7 zi4 (by omega)).2.2.1
    refine sd_iload_n sD4_thoseOut_4 rfl ?_
    refine sd_aload_n sD4_thoseOut_5 rfl ?_
    refine sd_getfx (v := x 6) hx sD4_thoseOut_6 sF4_9 sGC42_0 (by decide) rfl ?_
    refine sd_icmp_ge (tgt := 29) sD4_thoseOut_9 (by decide) (fun zc9 => (by exfalso; omega)) (fun zc9 => ?_)
    refine sd_iload_n sD4_thoseOut_12 rfl ?_
    refine sd_aload_n sD4_thoseOut_13 rfl ?_
    refine sd_getfr sD4_thoseOut_14 sF4_25 sGC42_4 ?_
    refine sd_iload_n sD4_thoseOut_17 rfl ?_
    refine sd_ialdx (a := (1284 + zi4)) (v := x (1284 + zi4)) hx sD4_thoseOut_18 sAC39 (by omega) rfl ?_
    refine sd_iload_n sD4_thoseOut_19 rfl ?_
    refine sd_ishl sD4_thoseOut_20 ?_
    refine sd_ior sD4_thoseOut_21 ?_
    refine sd_istore_n (ls' := [some (.inr 42), some (.inl (sd_or (sd_set (sd_Po x) zi4) (sd_shl (x (1284 + zi4)) (zi4 : Int)))), some (.inl (zi4 : Int))]) sD4_thoseOut_22 (by decide) rfl ?_
    refine sd_iinc (y := ((zi4 : Int) + 1)) (ls' := [some (.inr 42), some (.inl (sd_or (sd_set (sd_Po x) zi4) (sd_shl (x (1284 + zi4)) (zi4 : Int)))), some (.inl ((zi4 : Int) + 1))]) sD4_thoseOut_23 rfl (by omega) (by omega) (by decide) rfl ?_
    refine sd_goto (tgt := 4) sD4_thoseOut_26 (by decide) ?_
    exact sd_eqw (ls' := [some (.inr 42), some (.inl (sd_set (sd_Po x) (zi4 + 1))), some (.inl ((zi4 + 1 : Nat) : Int))]) ihzi4 (sd_cg rfl (sd_cg (sd_ce (show (sd_or (sd_set (sd_Po x) zi4) (sd_shl (x (1284 + zi4)) (zi4 : Int)) : Int) = sd_set (sd_Po x) (zi4 + 1) from by simp only [sd_set]; rcases (show x (1284 + zi4) = 0 ∨ x (1284 + zi4) = 1 by omega) with q | q; (rw [if_neg (fun (qq : x (1284 + zi4) = 1) => by omega), q, sd_shl0 ⟨zi4, by omega⟩]; exact sd_or_0 (sd_setR _ _)); (rw [if_pos q, q]))) (sd_cg (sd_ce (show (((zi4 : Int) + 1) : Int) = ((zi4 + 1 : Nat) : Int) from by omega)) rfl))) rfl
  ·
    show sd_Wp sd_SC 0 sY4_thoseOut 4 [some (.inr 42), some (.inl (sd_set (sd_Po x) ((x 6).toNat))), some (.inl ((((x 6).toNat) : Nat) : Int))] [] m _
    refine sd_iload_n sD4_thoseOut_4 rfl ?_
    refine sd_aload_n sD4_thoseOut_5 rfl ?_
    refine sd_getfx (v := x 6) hx sD4_thoseOut_6 sF4_9 sGC42_0 (by decide) rfl ?_
    refine sd_icmp_ge (tgt := 29) sD4_thoseOut_9 (by decide) (fun zc9 => ?_) (fun zc9 => (by exfalso; omega))
    refine sd_iload_n sD4_thoseOut_29 rfl ?_
    refine sd_iretp sD4_thoseOut_30 rfl ?_
    first | rfl | omega | (congr 1; omega)
