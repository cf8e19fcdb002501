set_option maxRecDepth 100000 in
set_option maxHeartbeats 4000000 in
theorem cC_clauseAt (w h : Int) (x m : sd_M) (hx : sd_ns x m) (hh : 0 ≤ h ∧ h < 24) (h1 : sd_I1 x) (h2 : sd_I2 x) (h4 : sd_I4 x) (h6 : sd_I6 x) (hR : sd_IR x) : sd_Ct sd_SC 2 sY6_clauseAt [.inr 53, .inl w, .inl h] m (fun r m' => r = some (.inl (sd_clx x w h)) ∧ sd_ns x m') := by
  refine sd_ct rfl (Nat.le_of_ble_eq_true rfl) (fun hok hm => ?_)
  obtain ⟨⟨i0, j0⟩, ⟨i1, j1⟩, ⟨i2, j2⟩, ⟨i3, j3⟩, ⟨i4, j4⟩, ⟨i5, j5⟩, ⟨i6, j6⟩, ⟨i7, j7⟩, ⟨i8, j8⟩⟩ := id h1
  show sd_Wp sd_SC 2 sY6_clauseAt 0 [some (.inr 53), some (.inl w), some (.inl h)] [] m _
  refine sd_aload_n sD6_clauseAt_0 rfl ?_
  refine sd_getfr sD6_clauseAt_1 sF6_71 sGC53_10 ?_
  refine sd_iconst sD6_clauseAt_4 (by decide) ?_
  refine sd_aload_n sD6_clauseAt_5 rfl ?_
  refine sd_getfx (v := x 0) hx sD6_clauseAt_6 sF6_9 sGC53_0 (by decide) rfl ?_
  refine sd_bipush sD6_clauseAt_9 rfl (by decide) ?_
  refine sd_idiv (z := (x 0 / 24)) sD6_clauseAt_11 (by decide) (by exact Int.tdiv_eq_ediv_of_nonneg (by omega)) (by omega) ?_
  refine sd_iastc (a := 5000) sd_sokC hx sD6_clauseAt_12 sAC51 (by omega) (fun m hx em12 => ?_)
  refine sd_aload_n sD6_clauseAt_13 rfl ?_
  refine sd_getfr sD6_clauseAt_14 sF6_71 sGC53_10 ?_
  refine sd_iconst sD6_clauseAt_17 (by decide) ?_
  refine sd_aload_n sD6_clauseAt_18 rfl ?_
  refine sd_getfx (v := x 0) hx sD6_clauseAt_19 sF6_9 sGC53_0 (by decide) rfl ?_
  refine sd_bipush sD6_clauseAt_22 rfl (by decide) ?_
  refine sd_irem (z := (x 0 % 24)) sD6_clauseAt_24 (by decide) (by exact Int.tmod_eq_emod_of_nonneg (by omega)) (by omega) ?_
  refine sd_iastc (a := 5001) sd_sokC hx sD6_clauseAt_25 sAC51 (by omega) (fun m hx em25 => ?_)
  refine sd_aload_n sD6_clauseAt_26 rfl ?_
  refine sd_getfr sD6_clauseAt_27 sF6_71 sGC53_10 ?_
  refine sd_iconst sD6_clauseAt_30 (by decide) ?_
  refine sd_aload_n sD6_clauseAt_31 rfl ?_
  refine sd_getfr sD6_clauseAt_32 sF6_28 sGC53_3 ?_
  refine sd_iconst sD6_clauseAt_35 (by decide) ?_
  refine sd_iload_n sD6_clauseAt_36 rfl ?_
  refine sd_ishl sD6_clauseAt_37 ?_
  refine sd_callVp (as := [.inl (sd_shl 1 h)]) (st := [.inl 2, .inr 51]) (v := .inl (sd_inS x (sd_shl 1 h))) sD6_clauseAt_38 sM6_117 sOC18 rfl rfl rfl (by decide) (Nat.le_of_ble_eq_true rfl) (cC_inShops (sd_shl 1 h) _ m hx h1 h4) (fun ho38 => ?_)
  refine sd_iastc (a := 5002) sd_sokC hx sD6_clauseAt_41 sAC51 (by omega) (fun m hx em41 => ?_)
  refine sd_aload_n sD6_clauseAt_42 rfl ?_
  refine sd_getfr sD6_clauseAt_43 sF6_71 sGC53_10 ?_
  refine sd_iconst sD6_clauseAt_46 (by decide) ?_
  refine sd_aload_n sD6_clauseAt_47 rfl ?_
  refine sd_getfr sD6_clauseAt_48 sF6_21 sGC53_2 ?_
  refine sd_getfr sD6_clauseAt_51 sF6_120 sGC13_5 ?_
  refine sd_iload_n sD6_clauseAt_54 rfl ?_
  refine sd_ialdx (a := (82 + h.toNat)) (v := x (82 + h.toNat)) hx sD6_clauseAt_55 sAC3 (by omega) rfl ?_
  refine sd_iastc (a := 5003) sd_sokC hx sD6_clauseAt_56 sAC51 (by omega) (fun m hx em56 => ?_)
  refine sd_aload_n sD6_clauseAt_57 rfl ?_
  refine sd_getfr sD6_clauseAt_58 sF6_42 sGC53_5 ?_
  refine sd_iload_n sD6_clauseAt_61 rfl ?_
  refine sd_aload_n sD6_clauseAt_62 rfl ?_
  refine sd_getfx (v := x 0) hx sD6_clauseAt_63 sF6_9 sGC53_0 (by decide) rfl ?_
  refine sd_aload_n sD6_clauseAt_66 rfl ?_
  refine sd_getfr sD6_clauseAt_67 sF6_71 sGC53_10 ?_
  refine sd_callVp (as := [.inl w, .inl (x 0), .inr 51]) (st := []) (v := .inl (sd_clx x w h)) sD6_clauseAt_70 sM6_123 sOC36 rfl rfl rfl (by decide) (Nat.le_of_ble_eq_true rfl) (cC_clauseFor w (x 0) (sd_fct x h) _ m hx rfl (fun i hi => by rcases (show i = 0 ∨ i = 1 ∨ i = 2 ∨ i = 3 by omega) with rfl | rfl | rfl | rfl; (rw [em56, em41, em25, em12]; simp [sd_up, sd_fct]); (rw [em56, em41, em25]; simp [sd_up, sd_fct]); (rw [em56, em41]; simp [sd_up, sd_fct]); (rw [em56]; simp [sd_up, sd_fct])) (fun i => sd_fct_rng h1 h2 hh i) h1 h6 hR) (fun ho70 => ?_)
  refine sd_ireturn sD6_clauseAt_73 rfl (fun hr hm => ?_)
  exact ⟨rfl, hx⟩
