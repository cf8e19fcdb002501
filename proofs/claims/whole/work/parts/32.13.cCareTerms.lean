set_option maxRecDepth 100000 in
set_option maxHeartbeats 4000000 in
theorem cC_areTerms (t : Int) (x m : sd_M) (hx : sd_ns x m) (h1 : sd_I1 x) : sd_Cp sd_SC 0 sY1_areTerms [.inr 13, .inl t] m (.inl (sd_b (sd_and t (sd_xor (sd_trm x) (-1)) = 0))) := by
  refine sd_ct rfl (Nat.le_of_ble_eq_true rfl) (fun hok hm => ?_)
  obtain ⟨⟨i0, j0⟩, ⟨i1, j1⟩, ⟨i2, j2⟩, ⟨i3, j3⟩, ⟨i4, j4⟩, ⟨i5, j5⟩, ⟨i6, j6⟩, ⟨i7, j7⟩, ⟨i8, j8⟩⟩ := id h1
  have r_t : sd_R t := hok (.inl t) (by simp)
  show sd_Wp sd_SC 0 sY1_areTerms 0 [some (.inr 13), some (.inl t), none, none] [] m _
  refine sd_iconst sD1_areTerms_0 (by decide) ?_
  refine sd_istore_n (ls' := [some (.inr 13), some (.inl t), some (.inl 0), none]) sD1_areTerms_1 (by decide) rfl ?_
  refine sd_iconst sD1_areTerms_2 (by decide) ?_
  refine sd_istore_n (ls' := [some (.inr 13), some (.inl t), some (.inl 0), some (.inl 0)]) sD1_areTerms_3 (by decide) rfl ?_
  refine sd_forE ((x 2).toNat) (fun zi4 : Nat => [some (.inr 13), some (.inl t), some (.inl (sd_set (sd_Pt x) zi4)), some (.inl (zi4 : Int))]) (by rfl) (fun zi4 hizi4 ihzi4 => ?_) ?_
  ·
    refine sd_iload_n sD1_areTerms_4 rfl ?_
    refine sd_aload_n sD1_areTerms_5 rfl ?_
    refine sd_getfx (v := x 2) hx sD1_areTerms_6 sF1_9 sGC13_0 (by decide) rfl ?_
    refine sd_icmp_ge (tgt := 35) sD1_areTerms_9 (by decide) (fun zc9 => (by exfalso; omega)) (fun zc9 => ?_)
    refine sd_aload_n sD1_areTerms_12 rfl ?_
    refine sd_getfr sD1_areTerms_13 sF1_18 sGC13_2 ?_
    refine sd_iload_n sD1_areTerms_16 rfl ?_
    refine sd_ialdx (a := (10 + zi4)) (v := x (10 + zi4)) hx sD1_areTerms_17 sAC0 (by omega) rfl ?_
    refine sd_bipush sD1_areTerms_18 rfl (by decide) ?_
    refine sd_icmp_ne (tgt := 29) sD1_areTerms_20 (by decide) (fun zc20 => ?_) (fun zc20 => ?_)
    ·
      refine sd_iinc (y := ((zi4 : Int) + 1)) (ls' := [some (.inr 13), some (.inl t), some (.inl (sd_set (sd_Pt x) zi4)), some (.inl ((zi4 : Int) + 1))]) sD1_areTerms_29 rfl (by omega) (by omega) (by decide) rfl ?_
      refine sd_goto (tgt := 4) sD1_areTerms_32 (by decide) ?_
      exact sd_eqw (ls' := [some (.inr 13), some (.inl t), some (.inl (sd_set (sd_Pt x) (zi4 + 1))), some (.inl ((zi4 + 1 : Nat) : Int))]) ihzi4 (sd_cg rfl (sd_cg rfl (sd_cg (sd_ce (show (sd_set (sd_Pt x) zi4 : Int) = sd_set (sd_Pt x) (zi4 + 1) from by (simp only [sd_set]; first | (rw [if_pos (by omega)]; done) | (rw [if_neg (by omega)]; done)))) (sd_cg (sd_ce (show (((zi4 : Int) + 1) : Int) = ((zi4 + 1 : Nat) : Int) from by omega)) rfl)))) rfl
    ·
      refine sd_iload_n sD1_areTerms_23 rfl ?_
      refine sd_iconst sD1_areTerms_24 (by decide) ?_
      refine sd_iload_n sD1_areTerms_25 rfl ?_
      refine sd_ishl sD1_areTerms_26 ?_
      refine sd_ior sD1_areTerms_27 ?_
      refine sd_istore_n (ls' := [some (.inr 13), some (.inl t), some (.inl (sd_or (sd_set (sd_Pt x) zi4) (sd_shl 1 (zi4 : Int)))), some (.inl (zi4 : Int))]) sD1_areTerms_28 (by decide) rfl ?_
      refine sd_iinc (y := ((zi4 : Int) + 1)) (ls' := [some (.inr 13), some (.inl t), some (.inl (sd_or (sd_set (sd_Pt x) zi4) (sd_shl 1 (zi4 : Int)))), some (.inl ((zi4 : Int) + 1))]) sD1_areTerms_29 rfl (by omega) (by omega) (by decide) rfl ?_
      refine sd_goto (tgt := 4) sD1_areTerms_32 (by decide) ?_
      exact sd_eqw (ls' := [some (.inr 13), some (.inl t), some (.inl (sd_set (sd_Pt x) (zi4 + 1))), some (.inl ((zi4 + 1 : Nat) : Int))]) ihzi4 (sd_cg rfl (sd_cg rfl (sd_cg (sd_ce (show (sd_or (sd_set (sd_Pt x) zi4) (sd_shl 1 (zi4 : Int)) : Int) = sd_set (sd_Pt x) (zi4 + 1) from by (simp only [sd_set]; first | (rw [if_pos (by omega)]; done) | (rw [if_neg (by omega)]; done)))) (sd_cg (sd_ce (show (((zi4 : Int) + 1) : Int) = ((zi4 + 1 : Nat) : Int) from by omega)) rfl)))) rfl
  ·
    show sd_Wp sd_SC 0 sY1_areTerms 4 [some (.inr 13), some (.inl t), some (.inl (sd_set (sd_Pt x) ((x 2).toNat))), some (.inl ((((x 2).toNat) : Nat) : Int))] [] m _
    refine sd_iload_n sD1_areTerms_4 rfl ?_
    refine sd_aload_n sD1_areTerms_5 rfl ?_
    refine sd_getfx (v := x 2) hx sD1_areTerms_6 sF1_9 sGC13_0 (by decide) rfl ?_
    refine sd_icmp_ge (tgt := 35) sD1_areTerms_9 (by decide) (fun zc9 => ?_) (fun zc9 => (by exfalso; omega))
    refine sd_iload_n sD1_areTerms_35 rfl ?_
    refine sd_iload_n sD1_areTerms_36 rfl ?_
    refine sd_iconst sD1_areTerms_37 (by decide) ?_
    refine sd_ixor sD1_areTerms_38 ?_
    refine sd_iand sD1_areTerms_39 ?_
    refine sd_if_ne (tgt := 47) sD1_areTerms_40 (by decide) (fun zc40 => ?_) (fun zc40 => ?_)
    ·
      refine sd_iconst sD1_areTerms_47 (by decide) ?_
      refine sd_zretp sD1_areTerms_48 rfl (by decide) ?_
      first | exact (sd_b1 (by assumption)).symm | exact (sd_b0 (by assumption)).symm
    ·
      refine sd_iconst sD1_areTerms_43 (by decide) ?_
      refine sd_goto (tgt := 48) sD1_areTerms_44 (by decide) ?_
      refine sd_zretp sD1_areTerms_48 rfl (by decide) ?_
      first | exact (sd_b1 (by assumption)).symm | exact (sd_b0 (by assumption)).symm
