set_option maxRecDepth 100000 in
set_option maxHeartbeats 4000000 in
theorem cC_unlikeTerms (x m : sd_M) (hx : sd_ns x m) (h1 : sd_I1 x) : sd_Cp sd_SC 1 sY1_unlikeTerms [.inr 13] m (.inl (sd_set (sd_Pu x) (x 2).toNat)) := by
  refine sd_ct rfl (Nat.le_of_ble_eq_true rfl) (fun hok hm => ?_)
  obtain ⟨⟨i0, j0⟩, ⟨i1, j1⟩, ⟨i2, j2⟩, ⟨i3, j3⟩, ⟨i4, j4⟩, ⟨i5, j5⟩, ⟨i6, j6⟩, ⟨i7, j7⟩, ⟨i8, j8⟩⟩ := id h1
  show sd_Wp sd_SC 1 sY1_unlikeTerms 0 [some (.inr 13), none, none] [] m _
  refine sd_iconst sD1_unlikeTerms_0 (by decide) ?_
  refine sd_istore_n (ls' := [some (.inr 13), some (.inl 0), none]) sD1_unlikeTerms_1 (by decide) rfl ?_
  refine sd_iconst sD1_unlikeTerms_2 (by decide) ?_
  refine sd_istore_n (ls' := [some (.inr 13), some (.inl 0), some (.inl 0)]) sD1_unlikeTerms_3 (by decide) rfl ?_
  refine sd_forE ((x 2).toNat) (fun zi4 : Nat => [some (.inr 13), some (.inl (sd_set (sd_Pu x) zi4)), some (.inl (zi4 : Int))]) (by rfl) (fun zi4 hizi4 ihzi4 => ?_) ?_
  ·
    refine sd_iload_n sD1_unlikeTerms_4 rfl ?_
    refine sd_aload_n sD1_unlikeTerms_5 rfl ?_
    refine sd_getfx (v := x 2) hx sD1_unlikeTerms_6 sF1_9 sGC13_0 (by decide) rfl ?_
    refine sd_icmp_ge (tgt := 43) sD1_unlikeTerms_9 (by decide) (fun zc9 => (by exfalso; omega)) (fun zc9 => ?_)
    refine sd_aload_n sD1_unlikeTerms_12 rfl ?_
    refine sd_getfr sD1_unlikeTerms_13 sF1_18 sGC13_2 ?_
    refine sd_iload_n sD1_unlikeTerms_16 rfl ?_
    refine sd_ialdx (a := (10 + zi4)) (v := x (10 + zi4)) hx sD1_unlikeTerms_17 sAC0 (by omega) rfl ?_
    refine sd_bipush sD1_unlikeTerms_18 rfl (by decide) ?_
    refine sd_icmp_ne (tgt := 37) sD1_unlikeTerms_20 (by decide) (fun zc20 => ?_) (fun zc20 => ?_)
    ·
      refine sd_iinc (y := ((zi4 : Int) + 1)) (ls' := [some (.inr 13), some (.inl (sd_set (sd_Pu x) zi4)), some (.inl ((zi4 : Int) + 1))]) sD1_unlikeTerms_37 rfl (by omega) (by omega) (by decide) rfl ?_
      refine sd_goto (tgt := 4) sD1_unlikeTerms_40 (by decide) ?_
      exact sd_eqw (ls' := [some (.inr 13), some (.inl (sd_set (sd_Pu x) (zi4 + 1))), some (.inl ((zi4 + 1 : Nat) : Int))]) ihzi4 (by rw [show (sd_set (sd_Pu x) zi4 : Int) = sd_set (sd_Pu x) (zi4 + 1) from by (simp only [sd_set]; first | (rw [if_pos (by omega)]; done) | (rw [if_neg (by omega)]; done)), show (((zi4 : Int) + 1) : Int) = ((zi4 + 1 : Nat) : Int) from by omega]) rfl
    ·
      refine sd_aload_n sD1_unlikeTerms_23 rfl ?_
      refine sd_iload_n sD1_unlikeTerms_24 rfl ?_
      refine sd_callVp (as := [.inl (zi4 : Int)]) (st := []) (v := .inl (sd_b ((¬ x (274 + zi4) = x (34 + zi4)) ∨ ¬ x (298 + zi4) = x (58 + zi4)))) sD1_unlikeTerms_25 sM1_103 sOC13 rfl rfl rfl (by decide) (Nat.le_of_ble_eq_true rfl) (cC_isUnlike (zi4 : Int) _ m hx  (by omega)) (fun ho25 => ?_)
      refine sd_bif_eq (tgt := 37) sD1_unlikeTerms_28 (by decide) (fun zc28 => ?_) (fun zc28 => ?_)
      ·
        refine sd_iinc (y := ((zi4 : Int) + 1)) (ls' := [some (.inr 13), some (.inl (sd_set (sd_Pu x) zi4)), some (.inl ((zi4 : Int) + 1))]) sD1_unlikeTerms_37 rfl (by omega) (by omega) (by decide) rfl ?_
        refine sd_goto (tgt := 4) sD1_unlikeTerms_40 (by decide) ?_
        exact sd_eqw (ls' := [some (.inr 13), some (.inl (sd_set (sd_Pu x) (zi4 + 1))), some (.inl ((zi4 + 1 : Nat) : Int))]) ihzi4 (by rw [show (sd_set (sd_Pu x) zi4 : Int) = sd_set (sd_Pu x) (zi4 + 1) from by (simp only [sd_set]; first | (rw [if_pos (by omega)]; done) | (rw [if_neg (by omega)]; done)), show (((zi4 : Int) + 1) : Int) = ((zi4 + 1 : Nat) : Int) from by omega]) rfl
      ·
        refine sd_iload_n sD1_unlikeTerms_31 rfl ?_
        refine sd_iconst sD1_unlikeTerms_32 (by decide) ?_
        refine sd_iload_n sD1_unlikeTerms_33 rfl ?_
        refine sd_ishl sD1_unlikeTerms_34 ?_
        refine sd_ior sD1_unlikeTerms_35 ?_
        refine sd_istore_n (ls' := [some (.inr 13), some (.inl (sd_or (sd_set (sd_Pu x) zi4) (sd_shl 1 (zi4 : Int)))), some (.inl (zi4 : Int))]) sD1_unlikeTerms_36 (by decide) rfl ?_
        refine sd_iinc (y := ((zi4 : Int) + 1)) (ls' := [some (.inr 13), some (.inl (sd_or (sd_set (sd_Pu x) zi4) (sd_shl 1 (zi4 : Int)))), some (.inl ((zi4 : Int) + 1))]) sD1_unlikeTerms_37 rfl (by omega) (by omega) (by decide) rfl ?_
        refine sd_goto (tgt := 4) sD1_unlikeTerms_40 (by decide) ?_
        exact sd_eqw (ls' := [some (.inr 13), some (.inl (sd_set (sd_Pu x) (zi4 + 1))), some (.inl ((zi4 + 1 : Nat) : Int))]) ihzi4 (by rw [show (sd_or (sd_set (sd_Pu x) zi4) (sd_shl 1 (zi4 : Int)) : Int) = sd_set (sd_Pu x) (zi4 + 1) from by (simp only [sd_set]; first | (rw [if_pos (by omega)]; done) | (rw [if_neg (by omega)]; done)), show (((zi4 : Int) + 1) : Int) = ((zi4 + 1 : Nat) : Int) from by omega]) rfl
  ·
    show sd_Wp sd_SC 1 sY1_unlikeTerms 4 [some (.inr 13), some (.inl (sd_set (sd_Pu x) ((x 2).toNat))), some (.inl ((((x 2).toNat) : Nat) : Int))] [] m _
    refine sd_iload_n sD1_unlikeTerms_4 rfl ?_
    refine sd_aload_n sD1_unlikeTerms_5 rfl ?_
    refine sd_getfx (v := x 2) hx sD1_unlikeTerms_6 sF1_9 sGC13_0 (by decide) rfl ?_
    refine sd_icmp_ge (tgt := 43) sD1_unlikeTerms_9 (by decide) (fun zc9 => ?_) (fun zc9 => (by exfalso; omega))
    refine sd_iload_n sD1_unlikeTerms_43 rfl ?_
    refine sd_iretp sD1_unlikeTerms_44 rfl ?_
    first | rfl | omega | (congr 1; omega)
