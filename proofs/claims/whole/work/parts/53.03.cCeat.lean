set_option maxRecDepth 100000 in
set_option maxHeartbeats 4000000 in
theorem cC_eat (i : Nat) (hi : i < 16) (P : Prop) [Decidable P] (x m : sd_M) (hx : sd_ns x m) (hJ : sd_J x) (hs : ¬ x (322 + i) = -1) : sd_Ct sd_SC 2 sY6_eatOrHunger [.inr 53, .inl (i : Int), .inl (sd_b P)] m (fun r m' => r = none ∧ sd_ns (sd_eaS x i P) m') := by
  refine sd_ct rfl (Nat.le_of_ble_eq_true rfl) (fun hok hm => ?_)
  have h1 := hJ.1
  have h2 := hJ.2.1
  have h3 := hJ.2.2.1
  have h4 := hJ.2.2.2.1
  have h5 := hJ.2.2.2.2.1
  have h6 := hJ.2.2.2.2.2.1
  have h7 := hJ.2.2.2.2.2.2.1
  have hR := hJ.2.2.2.2.2.2.2.1
  have hI := hJ.2.2.2.2.2.2.2.2.1
  have hL := hJ.2.2.2.2.2.2.2.2.2
  obtain ⟨⟨i0, j0⟩, ⟨i1, j1⟩, ⟨i2, j2⟩, ⟨i3, j3⟩, ⟨i4, j4⟩, ⟨i5, j5⟩, ⟨i6, j6⟩, ⟨i7, j7⟩, ⟨i8, j8⟩⟩ := id h1
  have e4 := h4 i hi
  show sd_Wp sd_SC 2 sY6_eatOrHunger 0 [some (.inr 53), some (.inl (i : Int)), some (.inl (sd_b P)), none] [] m _
  refine sd_iload_n sD6_eatOrHunger_0 rfl ?_
  refine sd_cut (J := 30) (ls := [some (.inr 53), some (.inl (i : Int)), some (.inl (sd_b P)), none]) (st := []) (fun zv => zv = (sd_eaK x i P)) (fun zv hzv => ?_) (fun K1 => ?_)
  ·
    subst hzv
    refine sd_istore_n (ls' := [some (.inr 53), some (.inl (i : Int)), some (.inl (sd_b P)), some (.inl (sd_eaK x i P))]) sD6_eatOrHunger_30 (by decide) rfl ?_
    have ek := sd_eaK_rng h1 i P
    refine sd_iload_n sD6_eatOrHunger_31 rfl ?_
    refine sd_iconst sD6_eatOrHunger_32 (by decide) ?_
    refine sd_icmp_ne (tgt := 62) sD6_eatOrHunger_33 (by decide) (fun zc33 => ?_) (fun zc33 => ?_)
    ·
      have ev := (h2 (sd_eaK x i P).toNat (by omega)).2.2.2.2.2.2.1
      refine sd_aload_n sD6_eatOrHunger_62 rfl ?_
      refine sd_getfr sD6_eatOrHunger_63 sF6_21 sGC53_2 ?_
      refine sd_getfr sD6_eatOrHunger_66 sF6_234 sGC13_8 ?_
      refine sd_iload_n sD6_eatOrHunger_69 rfl ?_
      refine sd_dup2 sD6_eatOrHunger_70 ?_
      refine sd_ialdx (a := (154 + ((sd_eaK x i P).toNat))) (v := x (154 + ((sd_eaK x i P).toNat))) hx sD6_eatOrHunger_71 sAC6 (by omega) rfl ?_
      refine sd_iconst sD6_eatOrHunger_72 (by decide) ?_
      refine sd_isub (z := (x (154 + ((sd_eaK x i P).toNat)) - 1)) sD6_eatOrHunger_73 (by omega) (by omega) ?_
      refine sd_iastx (a := (154 + ((sd_eaK x i P).toNat))) sd_sokC hx sD6_eatOrHunger_74 sAC6 (by omega) (fun m hx em74 => ?_)
      refine sd_aload_n sD6_eatOrHunger_75 rfl ?_
      refine sd_getfr sD6_eatOrHunger_76 sF6_28 sGC53_3 ?_
      refine sd_getfr sD6_eatOrHunger_79 sF6_184 sGC18_4 ?_
      refine sd_iload_n sD6_eatOrHunger_82 rfl ?_
      refine sd_iconst sD6_eatOrHunger_83 (by decide) ?_
      refine sd_iastx (a := (370 + i)) sd_sokC hx sD6_eatOrHunger_84 sAC17 (by omega) (fun m hx em84 => ?_)
      refine sd_aload_n sD6_eatOrHunger_85 rfl ?_
      refine sd_getfr sD6_eatOrHunger_86 sF6_28 sGC53_3 ?_
      refine sd_getfr sD6_eatOrHunger_89 sF6_181 sGC18_2 ?_
      refine sd_iload_n sD6_eatOrHunger_92 rfl ?_
      refine sd_bipush sD6_eatOrHunger_93 rfl (by decide) ?_
      refine sd_aload_n sD6_eatOrHunger_95 rfl ?_
      refine sd_getfr sD6_eatOrHunger_96 sF6_28 sGC53_3 ?_
      refine sd_getfr sD6_eatOrHunger_99 sF6_181 sGC18_2 ?_
      refine sd_iload_n sD6_eatOrHunger_102 rfl ?_
      refine sd_ialdx (a := (338 + i)) (v := x (338 + i)) hx sD6_eatOrHunger_103 sAC15 (by omega) (by simp only [sd_up]; repeat rw [if_neg (by omega)]) ?_
      refine sd_iconst sD6_eatOrHunger_104 (by decide) ?_
      refine sd_iadd (z := (x (338 + i) + 3)) sD6_eatOrHunger_105 (by omega) (by omega) ?_
      refine sd_mmin sD6_eatOrHunger_106 sM6_187 (by decide) (Nat.le_of_ble_eq_true rfl) ?_
      refine sd_iastx (a := (338 + i)) sd_sokC hx sD6_eatOrHunger_109 sAC15 (by omega) (fun m hx em109 => ?_)
      refine sd_vreturn sD6_eatOrHunger_110 rfl (fun hm => ?_)
      (refine ⟨rfl, ?_⟩; unfold sd_eaS; first | (rw [if_pos (by omega)]; exact hx) | (rw [if_neg (by omega)]; exact hx))
    ·
      refine sd_aload_n sD6_eatOrHunger_36 rfl ?_
      refine sd_getfr sD6_eatOrHunger_37 sF6_28 sGC53_3 ?_
      refine sd_getfr sD6_eatOrHunger_40 sF6_184 sGC18_4 ?_
      refine sd_iload_n sD6_eatOrHunger_43 rfl ?_
      refine sd_bipush sD6_eatOrHunger_44 rfl (by decide) ?_
      refine sd_aload_n sD6_eatOrHunger_46 rfl ?_
      refine sd_getfr sD6_eatOrHunger_47 sF6_28 sGC53_3 ?_
      refine sd_getfr sD6_eatOrHunger_50 sF6_184 sGC18_4 ?_
      refine sd_iload_n sD6_eatOrHunger_53 rfl ?_
      refine sd_ialdx (a := (370 + i)) (v := x (370 + i)) hx sD6_eatOrHunger_54 sAC17 (by omega) rfl ?_
      refine sd_iconst sD6_eatOrHunger_55 (by decide) ?_
      refine sd_iadd (z := (x (370 + i) + 1)) sD6_eatOrHunger_56 (by omega) (by omega) ?_
      refine sd_mmin sD6_eatOrHunger_57 sM6_187 (by decide) (Nat.le_of_ble_eq_true rfl) ?_
      refine sd_iastx (a := (370 + i)) sd_sokC hx sD6_eatOrHunger_60 sAC17 (by omega) (fun m hx em60 => ?_)
      refine sd_vreturn sD6_eatOrHunger_61 rfl (fun hm => ?_)
      (refine ⟨rfl, ?_⟩; unfold sd_eaS; first | (rw [if_pos (by omega)]; exact hx) | (rw [if_neg (by omega)]; exact hx))
  ·
    refine sd_bif_eq (tgt := 29) sD6_eatOrHunger_1 (by decide) (fun zc1 => ?_) (fun zc1 => ?_)
    ·
      refine sd_iconst sD6_eatOrHunger_29 (by decide) ?_
      exact K1 _ (by unfold sd_eaK; first | (rw [if_pos (by assumption)]; rfl) | (rw [if_neg (by assumption)]; done))
    ·
      refine sd_aload_n sD6_eatOrHunger_4 rfl ?_
      refine sd_getfr sD6_eatOrHunger_5 sF6_21 sGC53_2 ?_
      refine sd_aload_n sD6_eatOrHunger_8 rfl ?_
      refine sd_aload_n sD6_eatOrHunger_9 rfl ?_
      refine sd_getfr sD6_eatOrHunger_10 sF6_28 sGC53_3 ?_
      refine sd_getfr sD6_eatOrHunger_13 sF6_201 sGC18_1 ?_
      refine sd_iload_n sD6_eatOrHunger_16 rfl ?_
      refine sd_ialdx (a := (322 + i)) (v := x (322 + i)) hx sD6_eatOrHunger_17 sAC14 (by omega) rfl ?_
      refine sd_bipush sD6_eatOrHunger_18 rfl (by decide) ?_
      refine sd_callVp (as := [.inl (x (322 + i)), .inl 8]) (st := [.inr 13]) (v := .inl (sd_rch x (sd_shl 1 (x (322 + i))) 8)) sD6_eatOrHunger_20 sM6_110 sOC53 rfl rfl rfl (by decide) (Nat.le_of_ble_eq_true rfl) (cC_reachedFrom (x (322 + i)) 8 _ m hx h1 h2 h3 (by omega)) (fun ho20 => ?_)
      refine sd_callVp (as := [.inl (sd_rch x (sd_shl 1 (x (322 + i))) 8)]) (st := []) (v := .inl (sd_fst (sd_Pm x (sd_rch x (sd_shl 1 (x (322 + i))) 8)) (x 2).toNat)) sD6_eatOrHunger_23 sM6_231 sOC13 rfl rfl rfl (by decide) (Nat.le_of_ble_eq_true rfl) (cC_firstWithMeals (sd_rch x (sd_shl 1 (x (322 + i))) 8) _ m hx h1 h2 ) (fun ho23 => ?_)
      refine sd_goto (tgt := 30) sD6_eatOrHunger_26 (by decide) ?_
      exact K1 _ (by unfold sd_eaK; first | (rw [if_pos (by assumption)]; rfl) | (rw [if_neg (by assumption)]; done))
