set_option maxRecDepth 100000 in
set_option maxHeartbeats 4000000 in
theorem cC_page (d : Nat) (hd : d < 40) (S : Int) (hS : 0 ≤ S ∧ S < 16777216) (x m : sd_M) (hx : sd_ns x m) (hJ0 : sd_J x) : sd_Ct sd_SC 2 sY6_writePage [.inr 53, .inl (d : Int), .inl S] m (fun r m' => r = none ∧ sd_ns (sd_pag x d (sd_ones S)) m') := by
  refine sd_ct rfl (Nat.le_of_ble_eq_true rfl) (fun hok hm => ?_)
  have h1 := hJ0.1
  have h2 := hJ0.2.1
  have h3 := hJ0.2.2.1
  have h4 := hJ0.2.2.2.1
  have h5 := hJ0.2.2.2.2.1
  have h6 := hJ0.2.2.2.2.2.1
  have h7 := hJ0.2.2.2.2.2.2.1
  have hR := hJ0.2.2.2.2.2.2.2.1
  have hI := hJ0.2.2.2.2.2.2.2.2.1
  have hL := hJ0.2.2.2.2.2.2.2.2.2
  obtain ⟨⟨i0, j0⟩, ⟨i1, j1⟩, ⟨i2, j2⟩, ⟨i3, j3⟩, ⟨i4, j4⟩, ⟨i5, j5⟩, ⟨i6, j6⟩, ⟨i7, j7⟩, ⟨i8, j8⟩⟩ := id h1
  have H1 := h1
  show sd_Wp sd_SC 2 sY6_writePage 0 [some (.inr 53), some (.inl (d : Int)), some (.inl S), none] [] m _
  refine sd_iload_n sD6_writePage_0 rfl ?_
  refine sd_bipush sD6_writePage_1 rfl (by decide) ?_
  refine sd_imul (z := ((d : Int) * 6)) sD6_writePage_3 (by omega) (by omega) ?_
  refine sd_istore_n (ls' := [some (.inr 53), some (.inl (d : Int)), some (.inl S), some (.inl ((d : Int) * 6))]) sD6_writePage_4 (by decide) rfl ?_
  refine sd_aload_n sD6_writePage_5 rfl ?_
  refine sd_getfr sD6_writePage_6 sF6_67 sGC53_9 ?_
  refine sd_iload_n sD6_writePage_9 rfl ?_
  refine sd_aload_n sD6_writePage_10 rfl ?_
  refine sd_getfr sD6_writePage_11 sF6_28 sGC53_3 ?_
  refine sd_iconst sD6_writePage_14 (by decide) ?_
  refine sd_callVp (as := [.inl (-1)]) (st := [.inl ((d : Int) * 6), .inr 50]) (v := .inl (sd_inS x (-1))) sD6_writePage_15 sM6_117 sOC18 rfl rfl rfl (by decide) (Nat.le_of_ble_eq_true rfl) (cC_inShops (-1) _ m hx h1 h4) (fun ho15 => ?_)
  refine sd_iastx (a := (1314 + (d * 6))) sd_sokC hx sD6_writePage_18 sAC50 (by omega) (fun m hx em18 => ?_)
  refine sd_aload_n sD6_writePage_19 rfl ?_
  refine sd_getfr sD6_writePage_20 sF6_67 sGC53_9 ?_
  refine sd_iload_n sD6_writePage_23 rfl ?_
  refine sd_iconst sD6_writePage_24 (by decide) ?_
  refine sd_iadd (z := (((d : Int) * 6) + 1)) sD6_writePage_25 (by omega) (by omega) ?_
  have hJ1 := (hJ0.page (k := (d * 6)) (by omega) (v := sd_inS x (-1)) trivial)
  replace h1 := hJ1.1
  replace h2 := hJ1.2.1
  replace h3 := hJ1.2.2.1
  replace h4 := hJ1.2.2.2.1
  replace h5 := hJ1.2.2.2.2.1
  replace h6 := hJ1.2.2.2.2.2.1
  replace h7 := hJ1.2.2.2.2.2.2.1
  replace hR := hJ1.2.2.2.2.2.2.2.1
  replace hI := hJ1.2.2.2.2.2.2.2.2.1
  replace hL := hJ1.2.2.2.2.2.2.2.2.2
  refine sd_aload_n sD6_writePage_26 rfl ?_
  refine sd_getfr sD6_writePage_27 sF6_28 sGC53_3 ?_
  refine sd_callVp (as := []) (st := [.inl (((d : Int) * 6) + 1), .inr 50]) (v := .inl (sd_wls (sd_up x (1314 + (d * 6)) (sd_inS x (-1))))) sD6_writePage_30 sM6_237 sOC18 rfl rfl rfl (by decide) (Nat.le_of_ble_eq_true rfl) (cC_willInShops  _ m hx h1 h4 ) (fun ho30 => ?_)
  rw [show sd_wls (sd_up x (1314 + (d * 6)) (sd_inS x (-1))) = sd_wls x from by exact sd_bl.wls (x := x) (sd_bl.up sd_bl.rf) H1]
  refine sd_iastx (a := (1314 + ((d * 6) + 1))) sd_sokC hx sD6_writePage_33 sAC50 (by omega) (fun m hx em33 => ?_)
  refine sd_aload_n sD6_writePage_34 rfl ?_
  refine sd_getfr sD6_writePage_35 sF6_67 sGC53_9 ?_
  refine sd_iload_n sD6_writePage_38 rfl ?_
  refine sd_iconst sD6_writePage_39 (by decide) ?_
  refine sd_iadd (z := (((d : Int) * 6) + 2)) sD6_writePage_40 (by omega) (by omega) ?_
  have hJ1 := ((hJ0.page (k := (d * 6)) (by omega) (v := sd_inS x (-1)) trivial).page (k := ((d * 6) + 1)) (by omega) (v := sd_wls x) trivial)
  replace h1 := hJ1.1
  replace h2 := hJ1.2.1
  replace h3 := hJ1.2.2.1
  replace h4 := hJ1.2.2.2.1
  replace h5 := hJ1.2.2.2.2.1
  replace h6 := hJ1.2.2.2.2.2.1
  replace h7 := hJ1.2.2.2.2.2.2.1
  replace hR := hJ1.2.2.2.2.2.2.2.1
  replace hI := hJ1.2.2.2.2.2.2.2.2.1
  replace hL := hJ1.2.2.2.2.2.2.2.2.2
  refine sd_aload_n sD6_writePage_41 rfl ?_
  refine sd_getfr sD6_writePage_42 sF6_21 sGC53_2 ?_
  refine sd_iconst sD6_writePage_45 (by decide) ?_
  refine sd_callVp (as := [.inl (-1)]) (st := [.inl (((d : Int) * 6) + 2), .inr 50]) (v := .inl (sd_mls (sd_up (sd_up x (1314 + (d * 6)) (sd_inS x (-1))) (1314 + ((d * 6) + 1)) (sd_wls x)) (-1))) sD6_writePage_46 sM6_240 sOC13 rfl rfl rfl (by decide) (Nat.le_of_ble_eq_true rfl) (cC_mealsIn (-1) _ m hx h1 h2 ) (fun ho46 => ?_)
  rw [show sd_mls (sd_up (sd_up x (1314 + (d * 6)) (sd_inS x (-1))) (1314 + ((d * 6) + 1)) (sd_wls x)) (-1) = sd_mls x (-1) from by exact sd_bl.mls (x := x) ((sd_bl.up sd_bl.rf).up) H1 (-1)]
  refine sd_iastx (a := (1314 + ((d * 6) + 2))) sd_sokC hx sD6_writePage_49 sAC50 (by omega) (fun m hx em49 => ?_)
  refine sd_aload_n sD6_writePage_50 rfl ?_
  refine sd_getfr sD6_writePage_51 sF6_67 sGC53_9 ?_
  refine sd_iload_n sD6_writePage_54 rfl ?_
  refine sd_iconst sD6_writePage_55 (by decide) ?_
  refine sd_iadd (z := (((d : Int) * 6) + 3)) sD6_writePage_56 (by omega) (by omega) ?_
  refine sd_aload_n sD6_writePage_57 rfl ?_
  refine sd_getfr sD6_writePage_58 sF6_35 sGC53_4 ?_
  refine sd_getfx (v := x 8) hx sD6_writePage_61 sF6_243 sGC23_1 (by decide) (by simp only [sd_up]; repeat rw [if_neg (by omega)]) ?_
  refine sd_iastx (a := (1314 + ((d * 6) + 3))) sd_sokC hx sD6_writePage_64 sAC50 (by omega) (fun m hx em64 => ?_)
  refine sd_aload_n sD6_writePage_65 rfl ?_
  refine sd_getfr sD6_writePage_66 sF6_67 sGC53_9 ?_
  refine sd_iload_n sD6_writePage_69 rfl ?_
  refine sd_iconst sD6_writePage_70 (by decide) ?_
  refine sd_iadd (z := (((d : Int) * 6) + 4)) sD6_writePage_71 (by omega) (by omega) ?_
  refine sd_iload_n sD6_writePage_72 rfl ?_
  refine sd_callSp (as := [.inl S]) (st := [.inl (((d : Int) * 6) + 4), .inr 50]) (v := .inl (sd_ones S)) sD6_writePage_73 sM6_161 rfl rfl (by decide) (Nat.le_of_ble_eq_true rfl) (cC_bitCount S m (by first | omega | assumption)) (fun ho73 => ?_)
  refine sd_iastx (a := (1314 + ((d * 6) + 4))) sd_sokC hx sD6_writePage_76 sAC50 (by omega) (fun m hx em76 => ?_)
  refine sd_aload_n sD6_writePage_77 rfl ?_
  refine sd_getfr sD6_writePage_78 sF6_67 sGC53_9 ?_
  refine sd_iload_n sD6_writePage_81 rfl ?_
  refine sd_iconst sD6_writePage_82 (by decide) ?_
  refine sd_iadd (z := (((d : Int) * 6) + 5)) sD6_writePage_83 (by omega) (by omega) ?_
  have hJ1 := (((((hJ0.page (k := (d * 6)) (by omega) (v := sd_inS x (-1)) trivial).page (k := ((d * 6) + 1)) (by omega) (v := sd_wls x) trivial).page (k := ((d * 6) + 2)) (by omega) (v := sd_mls x (-1)) trivial).page (k := ((d * 6) + 3)) (by omega) (v := x 8) trivial).page (k := ((d * 6) + 4)) (by omega) (v := sd_ones S) trivial)
  replace h1 := hJ1.1
  replace h2 := hJ1.2.1
  replace h3 := hJ1.2.2.1
  replace h4 := hJ1.2.2.2.1
  replace h5 := hJ1.2.2.2.2.1
  replace h6 := hJ1.2.2.2.2.2.1
  replace h7 := hJ1.2.2.2.2.2.2.1
  replace hR := hJ1.2.2.2.2.2.2.2.1
  replace hI := hJ1.2.2.2.2.2.2.2.2.1
  replace hL := hJ1.2.2.2.2.2.2.2.2.2
  refine sd_aload_n sD6_writePage_84 rfl ?_
  refine sd_getfr sD6_writePage_85 sF6_21 sGC53_2 ?_
  refine sd_callVp (as := []) (st := [.inl (((d : Int) * 6) + 5), .inr 50]) (v := .inl (sd_hgt (sd_up (sd_up (sd_up (sd_up (sd_up x (1314 + (d * 6)) (sd_inS x (-1))) (1314 + ((d * 6) + 1)) (sd_wls x)) (1314 + ((d * 6) + 2)) (sd_mls x (-1))) (1314 + ((d * 6) + 3)) (x 8)) (1314 + ((d * 6) + 4)) (sd_ones S)))) sD6_writePage_88 sM6_246 sOC13 rfl rfl rfl (by decide) (Nat.le_of_ble_eq_true rfl) (cC_heldGates  _ m hx h1 h2 ) (fun ho88 => ?_)
  rw [show sd_hgt (sd_up (sd_up (sd_up (sd_up (sd_up x (1314 + (d * 6)) (sd_inS x (-1))) (1314 + ((d * 6) + 1)) (sd_wls x)) (1314 + ((d * 6) + 2)) (sd_mls x (-1))) (1314 + ((d * 6) + 3)) (x 8)) (1314 + ((d * 6) + 4)) (sd_ones S)) = sd_hgt x from by exact sd_bl.hgt (x := x) (((((sd_bl.up sd_bl.rf).up).up).up).up) H1]
  refine sd_iastx (a := (1314 + ((d * 6) + 5))) sd_sokC hx sD6_writePage_91 sAC50 (by omega) (fun m hx em91 => ?_)
  refine sd_vreturn sD6_writePage_92 rfl (fun hm => ?_)
  exact ⟨rfl, hx⟩
