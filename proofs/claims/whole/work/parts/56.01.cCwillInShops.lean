set_option maxRecDepth 100000 in
set_option maxHeartbeats 4000000 in
theorem cC_willInShops (x m : sd_M) (hx : sd_ns x m) (h1 : sd_I1 x) (h4 : sd_I4 x) : sd_Cp sd_SC 0 sY3_willInShops [.inr 18] m (.inl (sd_wls x)) := by
  refine sd_ct rfl (Nat.le_of_ble_eq_true rfl) (fun hok hm => ?_)
  obtain ⟨⟨i0, j0⟩, ⟨i1, j1⟩, ⟨i2, j2⟩, ⟨i3, j3⟩, ⟨i4, j4⟩, ⟨i5, j5⟩, ⟨i6, j6⟩, ⟨i7, j7⟩, ⟨i8, j8⟩⟩ := id h1
  show sd_Wp sd_SC 0 sY3_willInShops 0 [some (.inr 18), none, none] [] m _
  refine sd_iconst sD3_willInShops_0 (by decide) ?_
  refine sd_istore_n (ls' := [some (.inr 18), some (.inl 0), none]) sD3_willInShops_1 (by decide) rfl ?_
  refine sd_iconst sD3_willInShops_2 (by decide) ?_
  refine sd_istore_n (ls' := [some (.inr 18), some (.inl 0), some (.inl 0)]) sD3_willInShops_3 (by decide) rfl ?_
  refine sd_forE ((x 3).toNat) (fun zi4 : Nat => [some (.inr 18), some (.inl (sd_sum (sd_fwl x) zi4)), some (.inl (zi4 : Int))]) (by rfl) (fun zi4 hizi4 ihzi4 => ?_) ?_
  ·
    have e4 := h4 zi4 (by omega)
    have e5 := sd_sum_le (f := sd_fwl x) (n := zi4) (B := 99) (fun i hi => sd_fwl_le h4 i (by omega))
    refine sd_iload_n sD3_willInShops_4 rfl ?_
    refine sd_aload_n sD3_willInShops_5 rfl ?_
    refine sd_getfx (v := x 3) hx sD3_willInShops_6 sF3_9 sGC18_0 (by decide) rfl ?_
    refine sd_icmp_ge (tgt := 41) sD3_willInShops_9 (by decide) (fun zc9 => (by exfalso; omega)) (fun zc9 => ?_)
    refine sd_iload_n sD3_willInShops_12 rfl ?_
    refine sd_aload_n sD3_willInShops_13 rfl ?_
    refine sd_getfr sD3_willInShops_14 sF3_15 sGC18_1 ?_
    refine sd_iload_n sD3_willInShops_17 rfl ?_
    refine sd_ialdx (a := (322 + zi4)) (v := x (322 + zi4)) hx sD3_willInShops_18 sAC14 (by omega) rfl ?_
    refine sd_iconst sD3_willInShops_19 (by decide) ?_
    refine sd_icmp_ne (tgt := 27) sD3_willInShops_20 (by decide) (fun zc20 => ?_) (fun zc20 => ?_)
    ·
      refine sd_aload_n sD3_willInShops_27 rfl ?_
      refine sd_getfr sD3_willInShops_28 sF3_19 sGC18_2 ?_
      refine sd_iload_n sD3_willInShops_31 rfl ?_
      refine sd_ialdx (a := (338 + zi4)) (v := x (338 + zi4)) hx sD3_willInShops_32 sAC15 (by omega) rfl ?_
      refine sd_iadd (z := (sd_sum (sd_fwl x) zi4 + x (338 + zi4))) sD3_willInShops_33 (by omega) (by omega) ?_
      refine sd_istore_n (ls' := [some (.inr 18), some (.inl (sd_sum (sd_fwl x) zi4 + x (338 + zi4))), some (.inl (zi4 : Int))]) sD3_willInShops_34 (by decide) rfl ?_
      refine sd_iinc (y := ((zi4 : Int) + 1)) (ls' := [some (.inr 18), some (.inl (sd_sum (sd_fwl x) zi4 + x (338 + zi4))), some (.inl ((zi4 : Int) + 1))]) sD3_willInShops_35 rfl (by omega) (by omega) (by decide) rfl ?_
      refine sd_goto (tgt := 4) sD3_willInShops_38 (by decide) ?_
      exact sd_eqw (ls' := [some (.inr 18), some (.inl (sd_sum (sd_fwl x) (zi4 + 1))), some (.inl ((zi4 + 1 : Nat) : Int))]) ihzi4 (sd_cg rfl (sd_cg (sd_ce (show ((sd_sum (sd_fwl x) zi4 + x (338 + zi4)) : Int) = sd_sum (sd_fwl x) (zi4 + 1) from by simp only [sd_sum]; unfold sd_fwl; first | (rw [if_pos (by assumption)]; omega) | (rw [if_neg (by assumption)]))) (sd_cg (sd_ce (show (((zi4 : Int) + 1) : Int) = ((zi4 + 1 : Nat) : Int) from by omega)) rfl))) rfl
    ·
      refine sd_iconst sD3_willInShops_23 (by decide) ?_
      refine sd_goto (tgt := 33) sD3_willInShops_24 (by decide) ?_
      refine sd_iadd (z := sd_sum (sd_fwl x) zi4) sD3_willInShops_33 (by omega) (by omega) ?_
      refine sd_istore_n (ls' := [some (.inr 18), some (.inl (sd_sum (sd_fwl x) zi4)), some (.inl (zi4 : Int))]) sD3_willInShops_34 (by decide) rfl ?_
      refine sd_iinc (y := ((zi4 : Int) + 1)) (ls' := [some (.inr 18), some (.inl (sd_sum (sd_fwl x) zi4)), some (.inl ((zi4 : Int) + 1))]) sD3_willInShops_35 rfl (by omega) (by omega) (by decide) rfl ?_
      refine sd_goto (tgt := 4) sD3_willInShops_38 (by decide) ?_
      exact sd_eqw (ls' := [some (.inr 18), some (.inl (sd_sum (sd_fwl x) (zi4 + 1))), some (.inl ((zi4 + 1 : Nat) : Int))]) ihzi4 (sd_cg rfl (sd_cg (sd_ce (show (sd_sum (sd_fwl x) zi4 : Int) = sd_sum (sd_fwl x) (zi4 + 1) from by simp only [sd_sum]; unfold sd_fwl; first | (rw [if_pos (by assumption)]; omega) | (rw [if_neg (by assumption)]))) (sd_cg (sd_ce (show (((zi4 : Int) + 1) : Int) = ((zi4 + 1 : Nat) : Int) from by omega)) rfl))) rfl
  ·
    show sd_Wp sd_SC 0 sY3_willInShops 4 [some (.inr 18), some (.inl (sd_sum (sd_fwl x) ((x 3).toNat))), some (.inl ((((x 3).toNat) : Nat) : Int))] [] m _
    refine sd_iload_n sD3_willInShops_4 rfl ?_
    refine sd_aload_n sD3_willInShops_5 rfl ?_
    refine sd_getfx (v := x 3) hx sD3_willInShops_6 sF3_9 sGC18_0 (by decide) rfl ?_
    refine sd_icmp_ge (tgt := 41) sD3_willInShops_9 (by decide) (fun zc9 => ?_) (fun zc9 => (by exfalso; omega))
    refine sd_iload_n sD3_willInShops_41 rfl ?_
    refine sd_iretp sD3_willInShops_42 rfl ?_
    first | rfl | omega | (congr 1; omega)
