set_option maxRecDepth 100000 in
set_option maxHeartbeats 4000000 in
theorem cC_firstLeave (i : Nat) (x m : sd_M) (hx : sd_ns x m) (h1 : sd_I1 x) (h2 : sd_I2 x) (h4 : sd_I4 x) (hi : i < 16) (hs : 0 ≤ x (322 + i)) : sd_Cp sd_SC 2 sY6_firstLeave [.inr 53, .inl (i : Int)] m (.inl (sd_fv x i)) := by
  refine sd_ct rfl (Nat.le_of_ble_eq_true rfl) (fun hok hm => ?_)
  obtain ⟨⟨i0, j0⟩, ⟨i1, j1⟩, ⟨i2, j2⟩, ⟨i3, j3⟩, ⟨i4, j4⟩, ⟨i5, j5⟩, ⟨i6, j6⟩, ⟨i7, j7⟩, ⟨i8, j8⟩⟩ := id h1
  have e4 := (h4 i (by omega)).1
  have e9 := (h4 i (by omega)).2.2.1
  have e10 := (h4 i (by omega)).2.1
  have e11 := (h4 i (by omega)).2.2.2.1
  show sd_Wp sd_SC 2 sY6_firstLeave 0 [some (.inr 53), some (.inl (i : Int)), none, none, none] [] m _
  refine sd_aload_n sD6_firstLeave_0 rfl ?_
  refine sd_getfr sD6_firstLeave_1 sF6_28 sGC53_3 ?_
  refine sd_getfr sD6_firstLeave_4 sF6_181 sGC18_2 ?_
  refine sd_iload_n sD6_firstLeave_7 rfl ?_
  refine sd_ialdx (a := (338 + i)) (v := x (338 + i)) hx sD6_firstLeave_8 sAC15 (by omega) rfl ?_
  refine sd_istore_n (ls' := [some (.inr 53), some (.inl (i : Int)), some (.inl (x (338 + i))), none, none]) sD6_firstLeave_9 (by decide) rfl ?_
  refine sd_aload_n sD6_firstLeave_10 rfl ?_
  refine sd_getfr sD6_firstLeave_11 sF6_28 sGC53_3 ?_
  refine sd_getfr sD6_firstLeave_14 sF6_184 sGC18_4 ?_
  refine sd_iload_n sD6_firstLeave_17 rfl ?_
  refine sd_ialdx (a := (370 + i)) (v := x (370 + i)) hx sD6_firstLeave_18 sAC17 (by omega) rfl ?_
  refine sd_istore_n (ls' := [some (.inr 53), some (.inl (i : Int)), some (.inl (x (338 + i))), some (.inl (x (370 + i))), none]) sD6_firstLeave_19 (by decide) rfl ?_
  refine sd_aload_n sD6_firstLeave_20 rfl ?_
  refine sd_getfx (v := x 0) hx sD6_firstLeave_21 sF6_9 sGC53_0 (by decide) rfl ?_
  refine sd_istore (ls' := [some (.inr 53), some (.inl (i : Int)), some (.inl (x (338 + i))), some (.inl (x (370 + i))), some (.inl (x 0))]) sD6_firstLeave_24 (by decide) rfl ?_
  refine sd_forH (100) (fun zi26 : Nat => [some (.inr 53), some (.inl (i : Int)), some (.inl (sd_wl x i zi26)), some (.inl (sd_hg x i zi26)), some (.inl (x 0 + (zi26 : Int)))]) (fun zi26 : Nat => ∀ j, j < zi26 → ¬ sd_Pl x i j) (by rw [show x 0 + ((0 : Nat) : Int) = x 0 from by omega]; rfl) (fun zi26 hizi26 hhzi26 ihzi26 => ?_) (fun hhzi26 => ?_) (by intro j hj; omega)
  ·
    have e5 := sd_wl_rng h2 h4 (i := i) (by omega) (by omega) zi26
    have e6 := sd_hg_rng h4 (i := i) (by omega) zi26
    have e7 := sd_wl_rng h2 h4 (i := i) (by omega) (by omega) (zi26 + 1)
    have e8 := sd_los_rng h2 (s := x (322 + i)) (hg := sd_hg x i (zi26 + 1)) (ow := x (354 + i)) (tm := (x 0 + zi26) % 24) (by omega)
    refine sd_iload sD6_firstLeave_26 rfl ?_
    refine sd_aload_n sD6_firstLeave_28 rfl ?_
    refine sd_getfx (v := x 0) hx sD6_firstLeave_29 sF6_9 sGC53_0 (by decide) rfl ?_
    refine sd_bipush sD6_firstLeave_32 rfl (by decide) ?_
    refine sd_iadd (z := (x 0 + 100)) sD6_firstLeave_34 (by omega) (by omega) ?_
    refine sd_icmp_ge (tgt := 90) sD6_firstLeave_35 (by decide) (fun zc35 => (by exfalso; omega)) (fun zc35 => ?_)
    refine sd_bipush sD6_firstLeave_38 rfl (by decide) ?_
    refine sd_iload_n sD6_firstLeave_40 rfl ?_
    refine sd_iconst sD6_firstLeave_41 (by decide) ?_
    refine sd_iadd (z := (sd_hg x i zi26 + 1)) sD6_firstLeave_42 (by omega) (by omega) ?_
    refine sd_mmin sD6_firstLeave_43 sM6_187 (by decide) (Nat.le_of_ble_eq_true rfl) ?_
    refine sd_istore_n (ls' := [some (.inr 53), some (.inl (i : Int)), some (.inl (sd_wl x i zi26)), some (.inl (min 99 (sd_hg x i zi26 + 1))), some (.inl (x 0 + (zi26 : Int)))]) sD6_firstLeave_46 (by decide) rfl ?_
    have e8 : 0 ≤ sd_los x (x (322 + i)) (min 99 (sd_hg x i zi26 + 1)) (x (354 + i)) ((x 0 + (zi26 : Int)) % 24) ∧ sd_los x (x (322 + i)) (min 99 (sd_hg x i zi26 + 1)) (x (354 + i)) ((x 0 + (zi26 : Int)) % 24) ≤ 5 := sd_los_rng h2 (by omega)
    refine sd_iconst sD6_firstLeave_47 (by decide) ?_
    refine sd_iload_n sD6_firstLeave_48 rfl ?_
    refine sd_aload_n sD6_firstLeave_49 rfl ?_
    refine sd_iload_n sD6_firstLeave_50 rfl ?_
    refine sd_iload_n sD6_firstLeave_51 rfl ?_
    refine sd_iload sD6_firstLeave_52 rfl ?_
    refine sd_bipush sD6_firstLeave_54 rfl (by decide) ?_
    refine sd_irem (z := ((x 0 + (zi26 : Int)) % 24)) sD6_firstLeave_56 (by decide) (by exact Int.tmod_eq_emod_of_nonneg (by omega)) (by omega) ?_
    refine sd_callVp (as := [.inl (i : Int), .inl (min 99 (sd_hg x i zi26 + 1)), .inl ((x 0 + (zi26 : Int)) % 24)]) (st := [.inl (sd_wl x i zi26), .inl 0]) (v := .inl (sd_los x (x (322 + i)) (min 99 (sd_hg x i zi26 + 1)) (x (354 + i)) ((x 0 + (zi26 : Int)) % 24))) sD6_firstLeave_57 sM6_192 sOC53 rfl rfl rfl (by decide) (Nat.le_of_ble_eq_true rfl) (cC_lossOfWill (i : Int) (min 99 (sd_hg x i zi26 + 1)) ((x 0 + (zi26 : Int)) % 24) _ m hx h2 h4 (by omega) (by first | assumption | omega)) (fun ho57 => ?_)
    refine sd_isub (z := (sd_wl x i zi26 - (sd_los x (x (322 + i)) (min 99 (sd_hg x i zi26 + 1)) (x (354 + i)) ((x 0 + (zi26 : Int)) % 24)))) sD6_firstLeave_60 (by omega) (by omega) ?_
    refine sd_mmax sD6_firstLeave_61 sM6_195 (by decide) (Nat.le_of_ble_eq_true rfl) ?_
    refine sd_istore_n (ls' := [some (.inr 53), some (.inl (i : Int)), some (.inl (max 0 (sd_wl x i zi26 - (sd_los x (x (322 + i)) (min 99 (sd_hg x i zi26 + 1)) (x (354 + i)) ((x 0 + (zi26 : Int)) % 24))))), some (.inl (min 99 (sd_hg x i zi26 + 1))), some (.inl (x 0 + (zi26 : Int)))]) sD6_firstLeave_64 (by decide) rfl ?_
    refine sd_iload_n sD6_firstLeave_65 rfl ?_
    refine sd_aload_n sD6_firstLeave_66 rfl ?_
    refine sd_getfr sD6_firstLeave_67 sF6_28 sGC53_3 ?_
    refine sd_getfr sD6_firstLeave_70 sF6_198 sGC18_3 ?_
    refine sd_iload_n sD6_firstLeave_73 rfl ?_
    refine sd_ialdx (a := (354 + i)) (v := x (354 + i)) hx sD6_firstLeave_74 sAC16 (by omega) rfl ?_
    refine sd_bipush sD6_firstLeave_75 rfl (by decide) ?_
    refine sd_idiv (z := (x (354 + i) / 10)) sD6_firstLeave_77 (by decide) (by exact Int.tdiv_eq_ediv_of_nonneg (by omega)) (by omega) ?_
    refine sd_icmp_ge (tgt := 84) sD6_firstLeave_78 (by decide) (fun zc78 => ?_) (fun zc78 => ?_)
    ·
      refine sd_iinc (y := ((x 0 + (zi26 : Int)) + 1)) (ls' := [some (.inr 53), some (.inl (i : Int)), some (.inl (max 0 (sd_wl x i zi26 - (sd_los x (x (322 + i)) (min 99 (sd_hg x i zi26 + 1)) (x (354 + i)) ((x 0 + (zi26 : Int)) % 24))))), some (.inl (min 99 (sd_hg x i zi26 + 1))), some (.inl ((x 0 + (zi26 : Int)) + 1))]) sD6_firstLeave_84 rfl (by omega) (by omega) (by decide) rfl ?_
      refine sd_goto (tgt := 26) sD6_firstLeave_87 (by decide) ?_
      exact sd_eqw (ls' := [some (.inr 53), some (.inl (i : Int)), some (.inl (sd_wl x i (zi26 + 1))), some (.inl (sd_hg x i (zi26 + 1))), some (.inl (x 0 + ((zi26 + 1 : Nat) : Int)))]) (ihzi26 (by exact sd_all_succ hhzi26 (fun (hp : sd_wl x i (zi26 + 1) < x (354 + i) / 10) => by have hp2 : max 0 (sd_wl x i zi26 - sd_los x (x (322 + i)) (min 99 (sd_hg x i zi26 + 1)) (x (354 + i)) ((x 0 + zi26) % 24)) < x (354 + i) / 10 := hp; omega))) (by rw [show (max 0 (sd_wl x i zi26 - (sd_los x (x (322 + i)) (min 99 (sd_hg x i zi26 + 1)) (x (354 + i)) ((x 0 + (zi26 : Int)) % 24))) : Int) = sd_wl x i (zi26 + 1) from by rfl, show (min 99 (sd_hg x i zi26 + 1) : Int) = sd_hg x i (zi26 + 1) from by rfl, show (((x 0 + (zi26 : Int)) + 1) : Int) = (x 0 + ((zi26 + 1 : Nat) : Int)) from by omega]) rfl
    ·
      refine sd_iload sD6_firstLeave_81 rfl ?_
      refine sd_iretp sD6_firstLeave_83 rfl ?_
      (unfold sd_fv; first | (rw [sd_fst_at (P := sd_Pl x i) (i := zi26) hhzi26 (by assumption) (by omega), if_neg (by omega)]; done) | (rw [sd_fst_none (P := sd_Pl x i) hhzi26]; rfl))
  ·
    show sd_Wp sd_SC 2 sY6_firstLeave 26 [some (.inr 53), some (.inl (i : Int)), some (.inl (sd_wl x i 100)), some (.inl (sd_hg x i 100)), some (.inl (x 0 + (100 : Int)))] [] m _
    refine sd_iload sD6_firstLeave_26 rfl ?_
    refine sd_aload_n sD6_firstLeave_28 rfl ?_
    refine sd_getfx (v := x 0) hx sD6_firstLeave_29 sF6_9 sGC53_0 (by decide) rfl ?_
    refine sd_bipush sD6_firstLeave_32 rfl (by decide) ?_
    refine sd_iadd (z := (x 0 + 100)) sD6_firstLeave_34 (by omega) (by omega) ?_
    refine sd_icmp_ge (tgt := 90) sD6_firstLeave_35 (by decide) (fun zc35 => ?_) (fun zc35 => (by exfalso; omega))
    refine sd_iconst sD6_firstLeave_90 (by decide) ?_
    refine sd_iretp sD6_firstLeave_91 rfl ?_
    (unfold sd_fv; first | (rw [sd_fst_at (P := sd_Pl x i) (i := zi26) hhzi26 (by assumption) (by omega), if_neg (by omega)]; done) | (rw [sd_fst_none (P := sd_Pl x i) hhzi26]; rfl))
