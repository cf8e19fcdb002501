set_option maxRecDepth 100000 in
set_option maxHeartbeats 4000000 in
theorem cC_madeBy (M : Int) (x m : sd_M) (hx : sd_ns x m) (h1 : sd_I1 x) (h2 : sd_I2 x) (hA : ∀ h : Nat, (h : Int) < x 2 → sd_bit M h → 0 ≤ x (34 + h) ∧ x (34 + h) < 6) : sd_Ct sd_SC 1 sY6_madeBy [.inr 53, .inl M] m (fun q m' => q = some (.inr 52) ∧ sd_ns x m' ∧ ∀ p, p < 6 → m' (5010 + p) = sd_mka x M p) := by
  refine sd_ct rfl (Nat.le_of_ble_eq_true rfl) (fun hok hm => ?_)
  obtain ⟨⟨i0, j0⟩, ⟨i1, j1⟩, ⟨i2, j2⟩, ⟨i3, j3⟩, ⟨i4, j4⟩, ⟨i5, j5⟩, ⟨i6, j6⟩, ⟨i7, j7⟩, ⟨i8, j8⟩⟩ := id h1
  show sd_Wp sd_SC 1 sY6_madeBy 0 [some (.inr 53), some (.inl M), none] [] m _
  refine sd_aload_n sD6_madeBy_0 rfl ?_
  refine sd_getfr sD6_madeBy_1 sF6_74 sGC53_11 ?_
  refine sd_iconst sD6_madeBy_4 (by decide) ?_
  refine sd_callN (as := [.inr 52, .inl 0]) (st := []) sD6_madeBy_5 sM6_149 rfl rfl (by decide) (Nat.le_of_ble_eq_true rfl) (cC_fill sAC52 (by decide) 0 m) (fun r m hq ho5 hm => ?_)
  obtain ⟨rfl, hfil5⟩ := hq
  have hx : sd_ns x m := by rw [hfil5]; exact hx.filc (by decide) _
  show sd_Wp sd_SC 1 sY6_madeBy 8 [some (.inr 53), some (.inl M), none] [] m _
  refine sd_iconst sD6_madeBy_8 (by decide) ?_
  refine sd_istore_n (ls' := [some (.inr 53), some (.inl M), some (.inl 0)]) sD6_madeBy_9 (by decide) rfl ?_
  refine sd_forX ((x 2).toNat) (fun zi10 : Nat => [some (.inr 53), some (.inl M), some (.inl (zi10 : Int))]) (fun zi10 : Nat => x) (fun (zi10 : Nat) (m : sd_M) => True ∧ ∀ p, p < 6 → m (5010 + p) = sd_md x M zi10 p) (by rfl) (fun zi10 hizi10 m hx hpzi10 ihzi10 => ?_) (fun m hx hpzi10 => ?_) (by exact hx) (by exact ⟨trivial, fun p hp => by rw [hfil5]; unfold sd_fil; rw [if_pos (by omega)]; rfl⟩)
  ·
    refine sd_iload_n sD6_madeBy_10 rfl ?_
    refine sd_aload_n sD6_madeBy_11 rfl ?_
    refine sd_getfr sD6_madeBy_12 sF6_21 sGC53_2 ?_
    refine sd_getfx (v := x 2) hx sD6_madeBy_15 sF6_143 sGC13_0 (by decide) rfl ?_
    refine sd_icmp_ge (tgt := 61) sD6_madeBy_18 (by decide) (fun zc18 => (by exfalso; omega)) (fun zc18 => ?_)
    refine sd_iload_n sD6_madeBy_21 rfl ?_
    refine sd_iload_n sD6_madeBy_22 rfl ?_
    refine sd_callNp (as := [.inl M, .inl (zi10 : Int)]) (st := []) (v := .inl (sd_b (sd_bit M (zi10 : Int)))) sD6_madeBy_23 sM6_153 rfl rfl (by decide) (Nat.le_of_ble_eq_true rfl) (cC_isIn M (zi10 : Int) m) (fun ho23 => ?_)
    refine sd_bif_eq (tgt := 55) sD6_madeBy_26 (by decide) (fun zc26 => ?_) (fun zc26 => ?_)
    ·
      refine sd_iinc (y := ((zi10 : Int) + 1)) (ls' := [some (.inr 53), some (.inl M), some (.inl ((zi10 : Int) + 1))]) sD6_madeBy_55 rfl (by omega) (by omega) (by decide) rfl ?_
      refine sd_goto (tgt := 10) sD6_madeBy_58 (by decide) ?_
      exact sd_eqw (ls' := [some (.inr 53), some (.inl M), some (.inl ((zi10 + 1 : Nat) : Int))]) (ihzi10 m (by exact hx) (by first | exact ⟨trivial, sd_row_F hpzi10.2 em54 (by unfold sd_md; simp only [sd_sum]; unfold sd_fmk; rw [if_pos ⟨by assumption, by omega⟩]) (fun g hg hn => by unfold sd_md; simp only [sd_sum]; rw [show sd_fmk x M g zi10 = 0 from by unfold sd_fmk; rw [if_neg (fun q => hn (by have q2 := q.2; omega))]]; omega)⟩ | exact ⟨trivial, fun p hp => by rw [hpzi10.2 p hp]; unfold sd_md; simp only [sd_sum]; rw [show sd_fmk x M p zi10 = 0 from by unfold sd_fmk; rw [if_neg (fun q => by have q1 := q.1; contradiction)]]; omega⟩)) (sd_cg rfl (sd_cg rfl (sd_cg (sd_ce (show (((zi10 : Int) + 1) : Int) = ((zi10 + 1 : Nat) : Int) from by omega)) rfl))) rfl
    ·
      have e3 := hA zi10 (by omega) (by assumption)
      have e2 := h2 zi10 (by omega)
      have e4 := sd_md_rng h2 M zi10 (x (34 + zi10)).toNat (by omega)
      refine sd_aload_n sD6_madeBy_29 rfl ?_
      refine sd_getfr sD6_madeBy_30 sF6_74 sGC53_11 ?_
      refine sd_aload_n sD6_madeBy_33 rfl ?_
      refine sd_getfr sD6_madeBy_34 sF6_21 sGC53_2 ?_
      refine sd_getfr sD6_madeBy_37 sF6_107 sGC13_3 ?_
      refine sd_iload_n sD6_madeBy_40 rfl ?_
      refine sd_ialdx (a := (34 + zi10)) (v := x (34 + zi10)) hx sD6_madeBy_41 sAC1 (by omega) rfl ?_
      refine sd_dup2 sD6_madeBy_42 ?_
      refine sd_iald (a := (5010 + ((x (34 + zi10)).toNat))) sD6_madeBy_43 sAC52 (by omega) ?_
      rw [show m (5010 + ((x (34 + zi10)).toNat)) = sd_md x M zi10 (x (34 + zi10)).toNat from hpzi10.2 _ (by omega)]
      refine sd_aload_n sD6_madeBy_44 rfl ?_
      refine sd_getfr sD6_madeBy_45 sF6_21 sGC53_2 ?_
      refine sd_getfr sD6_madeBy_48 sF6_114 sGC13_4 ?_
      refine sd_iload_n sD6_madeBy_51 rfl ?_
      refine sd_ialdx (a := (58 + zi10)) (v := x (58 + zi10)) hx sD6_madeBy_52 sAC2 (by omega) rfl ?_
      refine sd_iadd (z := (sd_md x M zi10 (x (34 + zi10)).toNat + x (58 + zi10))) sD6_madeBy_53 (by omega) (by omega) ?_
      refine sd_iastc (a := (5010 + ((x (34 + zi10)).toNat))) sd_sokC hx sD6_madeBy_54 sAC52 (by omega) (fun m hx em54 => ?_)
      refine sd_iinc (y := ((zi10 : Int) + 1)) (ls' := [some (.inr 53), some (.inl M), some (.inl ((zi10 : Int) + 1))]) sD6_madeBy_55 rfl (by omega) (by omega) (by decide) rfl ?_
      refine sd_goto (tgt := 10) sD6_madeBy_58 (by decide) ?_
      exact sd_eqw (ls' := [some (.inr 53), some (.inl M), some (.inl ((zi10 + 1 : Nat) : Int))]) (ihzi10 m (by exact hx) (by first | exact ⟨trivial, sd_row_F hpzi10.2 em54 (by unfold sd_md; simp only [sd_sum]; unfold sd_fmk; rw [if_pos ⟨by assumption, by omega⟩]) (fun g hg hn => by unfold sd_md; simp only [sd_sum]; rw [show sd_fmk x M g zi10 = 0 from by unfold sd_fmk; rw [if_neg (fun q => hn (by have q2 := q.2; omega))]]; omega)⟩ | exact ⟨trivial, fun p hp => by rw [hpzi10.2 p hp]; unfold sd_md; simp only [sd_sum]; rw [show sd_fmk x M p zi10 = 0 from by unfold sd_fmk; rw [if_neg (fun q => by have q1 := q.1; contradiction)]]; omega⟩)) (sd_cg rfl (sd_cg rfl (sd_cg (sd_ce (show (((zi10 : Int) + 1) : Int) = ((zi10 + 1 : Nat) : Int) from by omega)) rfl))) rfl
  ·
    show sd_Wp sd_SC 1 sY6_madeBy 10 [some (.inr 53), some (.inl M), some (.inl ((((x 2).toNat) : Nat) : Int))] [] m _
    refine sd_iload_n sD6_madeBy_10 rfl ?_
    refine sd_aload_n sD6_madeBy_11 rfl ?_
    refine sd_getfr sD6_madeBy_12 sF6_21 sGC53_2 ?_
    refine sd_getfx (v := x 2) hx sD6_madeBy_15 sF6_143 sGC13_0 (by decide) rfl ?_
    refine sd_icmp_ge (tgt := 61) sD6_madeBy_18 (by decide) (fun zc18 => ?_) (fun zc18 => (by exfalso; omega))
    refine sd_aload_n sD6_madeBy_61 rfl ?_
    refine sd_getfr sD6_madeBy_62 sF6_74 sGC53_11 ?_
    refine sd_areturn sD6_madeBy_65 rfl (fun hm => ?_)
    exact ⟨rfl, hx, fun p hp => hpzi10.2 p hp⟩
