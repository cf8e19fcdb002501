set_option maxRecDepth 100000 in
set_option maxHeartbeats 4000000 in
theorem cM_menInShops (x m : sd_M) (hx : sd_ns x m) (h1 : sd_I1 x) (h4 : sd_I4 x) : sd_Cp sd_SM 0 sY11_menInShops [.inr 15] m (.inl (sd_inS x (-1))) := by
  refine sd_ct rfl (Nat.le_of_ble_eq_true rfl) (fun hok hm => ?_)
  obtain ⟨⟨i0, j0⟩, ⟨i1, j1⟩, ⟨i2, j2⟩, ⟨i3, j3⟩, ⟨i4, j4⟩, ⟨i5, j5⟩, ⟨i6, j6⟩, ⟨i7, j7⟩, ⟨i8, j8⟩⟩ := id h1
  show sd_Wp sd_SM 0 sY11_menInShops 0 [some (.inr 15), none, none] [] m _
  refine sd_iconst sD11_menInShops_0 (by decide) ?_
  refine sd_istore_n (ls' := [some (.inr 15), some (.inl 0), none]) sD11_menInShops_1 (by decide) rfl ?_
  refine sd_iconst sD11_menInShops_2 (by decide) ?_
  refine sd_istore_n (ls' := [some (.inr 15), some (.inl 0), some (.inl 0)]) sD11_menInShops_3 (by decide) rfl ?_
  refine sd_forE ((x 3).toNat) (fun zi4 : Nat => [some (.inr 15), some (.inl (sd_cnt (fun i => 0 ≤ x (322 + i)) zi4)), some (.inl (zi4 : Int))]) (by rfl) (fun zi4 hizi4 ihzi4 => ?_) ?_
  ·
    have e5 := sd_cnt_le (fun i => 0 ≤ x (322 + i)) zi4
    refine sd_iload_n sD11_menInShops_4 rfl ?_
    refine sd_aload_n sD11_menInShops_5 rfl ?_
    refine sd_getfr sD11_menInShops_6 sF11_7 sGM15_0 ?_
    refine sd_iconst sD11_menInShops_9 (by decide) ?_
    refine sd_ialdx (a := 3) (v := x 3) hx sD11_menInShops_10 sAM0 (by omega) rfl ?_
    refine sd_icmp_ge (tgt := 41) sD11_menInShops_11 (by decide) (fun zc11 => (by exfalso; omega)) (fun zc11 => ?_)
    refine sd_iload_n sD11_menInShops_14 rfl ?_
    refine sd_aload_n sD11_menInShops_15 rfl ?_
    refine sd_getfr sD11_menInShops_16 sF11_7 sGM15_0 ?_
    refine sd_sipush sD11_menInShops_19 rfl (by decide) ?_
    refine sd_iload_n sD11_menInShops_22 rfl ?_
    refine sd_iadd (z := (322 + (zi4 : Int))) sD11_menInShops_23 (by omega) (by omega) ?_
    refine sd_ialdx (a := (322 + zi4)) (v := x (322 + zi4)) hx sD11_menInShops_24 sAM0 (by omega) rfl ?_
    refine sd_cut (J := 33) (ls := [some (.inr 15), some (.inl (sd_cnt (fun i => 0 ≤ x (322 + i)) zi4)), some (.inl (zi4 : Int))]) (st := [.inl (sd_cnt (fun i => 0 ≤ x (322 + i)) zi4)]) (fun zv => zv = (sd_b (0 ≤ x (322 + zi4)))) (fun zv hzv => ?_) (fun K25 => ?_)
    ·
      subst hzv
      have zb33 := sd_b01 (0 ≤ x (322 + zi4))
      refine sd_iadd (z := (sd_cnt (fun i => 0 ≤ x (322 + i)) zi4 + sd_b (0 ≤ x (322 + zi4)))) sD11_menInShops_33 (by omega) (by omega) ?_
      refine sd_istore_n (ls' := [some (.inr 15), some (.inl (sd_cnt (fun i => 0 ≤ x (322 + i)) zi4 + sd_b (0 ≤ x (322 + zi4)))), some (.inl (zi4 : Int))]) sD11_menInShops_34 (by decide) rfl ?_
      refine sd_iinc (y := ((zi4 : Int) + 1)) (ls' := [some (.inr 15), some (.inl (sd_cnt (fun i => 0 ≤ x (322 + i)) zi4 + sd_b (0 ≤ x (322 + zi4)))), some (.inl ((zi4 : Int) + 1))]) sD11_menInShops_35 rfl (by omega) (by omega) (by decide) rfl ?_
      refine sd_goto (tgt := 4) sD11_menInShops_38 (by decide) ?_
      exact sd_eqw (ls' := [some (.inr 15), some (.inl (sd_cnt (fun i => 0 ≤ x (322 + i)) (zi4 + 1))), some (.inl ((zi4 + 1 : Nat) : Int))]) ihzi4 (sd_cg rfl (sd_cg (sd_ce (show ((sd_cnt (fun i => 0 ≤ x (322 + i)) zi4 + sd_b (0 ≤ x (322 + zi4))) : Int) = sd_cnt (fun i => 0 ≤ x (322 + i)) (zi4 + 1) from by simp only [sd_cnt, sd_b])) (sd_cg (sd_ce (show (((zi4 : Int) + 1) : Int) = ((zi4 + 1 : Nat) : Int) from by omega)) rfl))) rfl
    ·
      refine sd_if_lt (tgt := 32) sD11_menInShops_25 (by decide) (fun zc25 => ?_) (fun zc25 => ?_)
      ·
        refine sd_iconst sD11_menInShops_32 (by decide) ?_
        exact K25 _ (by exact (sd_b0 (by omega)).symm)
      ·
        refine sd_iconst sD11_menInShops_28 (by decide) ?_
        refine sd_goto (tgt := 33) sD11_menInShops_29 (by decide) ?_
        exact K25 _ (by exact (sd_b1 (by omega)).symm)
  ·
    show sd_Wp sd_SM 0 sY11_menInShops 4 [some (.inr 15), some (.inl (sd_cnt (fun i => 0 ≤ x (322 + i)) ((x 3).toNat))), some (.inl ((((x 3).toNat) : Nat) : Int))] [] m _
    refine sd_iload_n sD11_menInShops_4 rfl ?_
    refine sd_aload_n sD11_menInShops_5 rfl ?_
    refine sd_getfr sD11_menInShops_6 sF11_7 sGM15_0 ?_
    refine sd_iconst sD11_menInShops_9 (by decide) ?_
    refine sd_ialdx (a := 3) (v := x 3) hx sD11_menInShops_10 sAM0 (by omega) rfl ?_
    refine sd_icmp_ge (tgt := 41) sD11_menInShops_11 (by decide) (fun zc11 => ?_) (fun zc11 => (by exfalso; omega))
    refine sd_iload_n sD11_menInShops_41 rfl ?_
    refine sd_iretp sD11_menInShops_42 rfl ?_
    (unfold sd_inS; rw [sd_inS_all h1 h4 _ (by omega)])
