set_option maxRecDepth 100000 in
set_option maxHeartbeats 4000000 in
theorem cM_wordA (fr : Int) (B : Nat → Int) (n p : Nat) (x m : sd_M) (hx : sd_ns x m) (hB : sd_RB x fr B n) (hS : sd_RS m fr n p (-1)) (hp100 : p ≤ n) (hL : sd_LT x) : sd_Ct sd_SM 2 sY11_word [.inr 15, .inl 0, .inl 1] m (sd_wP 0 fr n (sd_roA B p [0, 1, 2, 2] 0) m) := by
  refine sd_ct rfl (Nat.le_of_ble_eq_true rfl) (fun hok hm => ?_)
  have hK : sd_k2 m m := sd_k2.rf
  show sd_Wp sd_SM 2 sY11_word 0 [some (.inr 15), some (.inl 0), some (.inl 1), none, none, none, none, none] [] m _
  refine sd_iconst sD11_word_0 (by decide) ?_
  refine sd_istore_n (ls' := [some (.inr 15), some (.inl 0), some (.inl 1), some (.inl 0), none, none, none, none]) sD11_word_1 (by decide) rfl ?_
  refine sd_iconst sD11_word_2 (by decide) ?_
  refine sd_istore (ls' := [some (.inr 15), some (.inl 0), some (.inl 1), some (.inl 0), some (.inl (-1)), none, none, none]) sD11_word_3 (by decide) rfl ?_
  refine sd_iconst sD11_word_5 (by decide) ?_
  refine sd_istore (ls' := [some (.inr 15), some (.inl 0), some (.inl 1), some (.inl 0), some (.inl (-1)), some (.inl 1), none, none]) sD11_word_6 (by decide) rfl ?_
  refine sd_iconst sD11_word_8 (by decide) ?_
  refine sd_istore (ls' := [some (.inr 15), some (.inl 0), some (.inl 1), some (.inl 0), some (.inl (-1)), some (.inl 1), some (.inl (-1)), none]) sD11_word_9 (by decide) rfl ?_
  refine sd_iconst sD11_word_11 (by decide) ?_
  refine sd_istore (ls' := [some (.inr 15), some (.inl 0), some (.inl 1), some (.inl 0), some (.inl (-1)), some (.inl 1), some (.inl (-1)), some (.inl 0)]) sD11_word_12 (by decide) rfl ?_
  refine sd_forE (52) (fun zi14 : Nat => [some (.inr 15), some (.inl 0), some (.inl 1), some (.inl (sd_lw zi14)), some (.inl ((sd_wis (B p) 0 1 zi14).1)), some (.inl (sd_b (sd_bgn zi14))), some (.inl ((sd_wis (B p) 0 1 zi14).2)), some (.inl (zi14 : Int))]) (by rw [sd_b1 (Or.inl rfl : sd_bgn 0)]; rfl) (fun zi14 hizi14 ihzi14 => ?_) ?_
  ·
    have e1 := hL zi14 (by omega)
    have e2 := sd_lw_f ⟨zi14, by omega⟩
    simp only at e2
    refine sd_iload sD11_word_14 rfl ?_
    refine sd_aload_n sD11_word_16 rfl ?_
    refine sd_getfr sD11_word_17 sF11_31 sGM15_9 ?_
    refine sd_alen sD11_word_20 sAM7 (by decide) ?_
    refine sd_icmp_ge (tgt := 95) sD11_word_21 (by decide) (fun zc21 => (by exfalso; omega)) (fun zc21 => ?_)
    refine sd_iload sD11_word_24 rfl ?_
    refine sd_bif_eq (tgt := 59) sD11_word_26 (by decide) (fun zc26 => ?_) (fun zc26 => ?_)
    ·
      refine sd_aload_n sD11_word_59 rfl ?_
      refine sd_getfr sD11_word_60 sF11_31 sGM15_9 ?_
      refine sd_iload sD11_word_63 rfl ?_
      refine sd_ialdx (a := (8000 + zi14)) (v := x (8000 + zi14)) hx sD11_word_65 sAM7 (by omega) rfl ?_
      refine sd_cut (J := 74) (ls := [some (.inr 15), some (.inl 0), some (.inl 1), some (.inl (sd_lw zi14)), some (.inl ((sd_wis (B p) 0 1 zi14).1)), some (.inl (sd_b (sd_bgn zi14))), some (.inl ((sd_wis (B p) 0 1 zi14).2)), some (.inl (zi14 : Int))]) (st := []) (fun zv => zv = (sd_b (x (8000 + zi14) = 0))) (fun zv hzv => ?_) (fun K66 => ?_)
      ·
        subst hzv
        refine sd_istore (ls' := [some (.inr 15), some (.inl 0), some (.inl 1), some (.inl (sd_lw zi14)), some (.inl ((sd_wis (B p) 0 1 zi14).1)), some (.inl (sd_b (x (8000 + zi14) = 0))), some (.inl ((sd_wis (B p) 0 1 zi14).2)), some (.inl (zi14 : Int))]) sD11_word_74 (by decide) rfl ?_
        refine sd_iload_n sD11_word_76 rfl ?_
        refine sd_iload sD11_word_77 rfl ?_
        refine sd_cut (J := 87) (ls := [some (.inr 15), some (.inl 0), some (.inl 1), some (.inl (sd_lw zi14)), some (.inl ((sd_wis (B p) 0 1 zi14).1)), some (.inl (sd_b (x (8000 + zi14) = 0))), some (.inl ((sd_wis (B p) 0 1 zi14).2)), some (.inl (zi14 : Int))]) (st := [.inl (sd_lw zi14)]) (fun zv => zv = (sd_b (x (8000 + zi14) = 0))) (fun zv hzv => ?_) (fun K79 => ?_)
        ·
          subst hzv
          have zb87 := sd_b01 (x (8000 + zi14) = 0)
          refine sd_iadd (z := (sd_lw zi14 + sd_b (x (8000 + zi14) = 0))) sD11_word_87 (by omega) (by omega) ?_
          refine sd_istore_n (ls' := [some (.inr 15), some (.inl 0), some (.inl 1), some (.inl (sd_lw zi14 + sd_b (x (8000 + zi14) = 0))), some (.inl ((sd_wis (B p) 0 1 zi14).1)), some (.inl (sd_b (x (8000 + zi14) = 0))), some (.inl ((sd_wis (B p) 0 1 zi14).2)), some (.inl (zi14 : Int))]) sD11_word_88 (by decide) rfl ?_
          refine sd_iinc (y := ((zi14 : Int) + 1)) (ls' := [some (.inr 15), some (.inl 0), some (.inl 1), some (.inl (sd_lw zi14 + sd_b (x (8000 + zi14) = 0))), some (.inl ((sd_wis (B p) 0 1 zi14).1)), some (.inl (sd_b (x (8000 + zi14) = 0))), some (.inl ((sd_wis (B p) 0 1 zi14).2)), some (.inl ((zi14 : Int) + 1))]) sD11_word_89 rfl (by omega) (by omega) (by decide) rfl ?_
          refine sd_goto (tgt := 14) sD11_word_92 (by decide) ?_
          exact sd_eqw (ls' := [some (.inr 15), some (.inl 0), some (.inl 1), some (.inl (sd_lw (zi14 + 1))), some (.inl ((sd_wis (B p) 0 1 (zi14 + 1)).1)), some (.inl (sd_b (sd_bgn (zi14 + 1)))), some (.inl ((sd_wis (B p) 0 1 (zi14 + 1)).2)), some (.inl ((zi14 + 1 : Nat) : Int))]) ihzi14 (sd_cg rfl (sd_cg rfl (sd_cg rfl (sd_cg (sd_ce (show ((sd_lw zi14 + sd_b (x (8000 + zi14) = 0)) : Int) = sd_lw (zi14 + 1) from by rw [e2.1, e1])) (sd_cg (sd_ce (show ((sd_wis (B p) 0 1 zi14).1 : Int) = (sd_wis (B p) 0 1 (zi14 + 1)).1 from by simp only [sd_wis]; first | (rw [if_pos ⟨by assumption, by assumption, by rw [← e1]; assumption⟩]; done) | (rw [if_neg (fun q => by have q1 := q.1; have q2 := q.2.1; have q3 := q.2.2; rw [← e1] at q3; contradiction)]; done))) (sd_cg (sd_ce (show (sd_b (x (8000 + zi14) = 0) : Int) = sd_b (sd_bgn (zi14 + 1)) from by exact sd_bc (by rw [e1]; unfold sd_bgn; simp))) (sd_cg (sd_ce (show ((sd_wis (B p) 0 1 zi14).2 : Int) = (sd_wis (B p) 0 1 (zi14 + 1)).2 from by simp only [sd_wis]; first | (rw [if_pos ⟨by assumption, by assumption, by rw [← e1]; assumption⟩]; done) | (rw [if_neg (fun q => by have q1 := q.1; have q2 := q.2.1; have q3 := q.2.2; rw [← e1] at q3; contradiction)]; done))) (sd_cg (sd_ce (show (((zi14 : Int) + 1) : Int) = ((zi14 + 1 : Nat) : Int) from by omega)) rfl)))))))) rfl
        ·
          refine sd_bif_eq (tgt := 86) sD11_word_79 (by decide) (fun zc79 => ?_) (fun zc79 => ?_)
          ·
            refine sd_iconst sD11_word_86 (by decide) ?_
            exact K79 _ (by exact (sd_b0 (by omega)).symm)
          ·
            refine sd_iconst sD11_word_82 (by decide) ?_
            refine sd_goto (tgt := 87) sD11_word_83 (by decide) ?_
            exact K79 _ (by exact (sd_b1 (by omega)).symm)
      ·
        refine sd_if_ne (tgt := 73) sD11_word_66 (by decide) (fun zc66 => ?_) (fun zc66 => ?_)
        ·
          refine sd_iconst sD11_word_73 (by decide) ?_
          exact K66 _ (by exact (sd_b0 (by omega)).symm)
        ·
          refine sd_iconst sD11_word_69 (by decide) ?_
          refine sd_goto (tgt := 74) sD11_word_70 (by decide) ?_
          exact K66 _ (by exact (sd_b1 (by omega)).symm)
    ·
      refine sd_iload_n sD11_word_29 rfl ?_
      refine sd_iload_n sD11_word_30 rfl ?_
      refine sd_iload_n sD11_word_31 rfl ?_
      refine sd_callSp (as := [.inl (sd_lw zi14), .inl 0, .inl 1]) (st := []) (v := .inl (sd_b (0 ≤ sd_lw zi14 ∧ sd_lw zi14 ≤ 1))) sD11_word_32 sM11_56 rfl rfl (by decide) (Nat.le_of_ble_eq_true rfl) (cM_in (sd_lw zi14) 0 1 m) (fun ho32 => ?_)
      refine sd_bif_eq (tgt := 59) sD11_word_35 (by decide) (fun zc35 => ?_) (fun zc35 => ?_)
      ·
        refine sd_aload_n sD11_word_59 rfl ?_
        refine sd_getfr sD11_word_60 sF11_31 sGM15_9 ?_
        refine sd_iload sD11_word_63 rfl ?_
        refine sd_ialdx (a := (8000 + zi14)) (v := x (8000 + zi14)) hx sD11_word_65 sAM7 (by omega) rfl ?_
        refine sd_cut (J := 74) (ls := [some (.inr 15), some (.inl 0), some (.inl 1), some (.inl (sd_lw zi14)), some (.inl ((sd_wis (B p) 0 1 zi14).1)), some (.inl (sd_b (sd_bgn zi14))), some (.inl ((sd_wis (B p) 0 1 zi14).2)), some (.inl (zi14 : Int))]) (st := []) (fun zv => zv = (sd_b (x (8000 + zi14) = 0))) (fun zv hzv => ?_) (fun K66 => ?_)
        ·
          subst hzv
          refine sd_istore (ls' := [some (.inr 15), some (.inl 0), some (.inl 1), some (.inl (sd_lw zi14)), some (.inl ((sd_wis (B p) 0 1 zi14).1)), some (.inl (sd_b (x (8000 + zi14) = 0))), some (.inl ((sd_wis (B p) 0 1 zi14).2)), some (.inl (zi14 : Int))]) sD11_word_74 (by decide) rfl ?_
          refine sd_iload_n sD11_word_76 rfl ?_
          refine sd_iload sD11_word_77 rfl ?_
          refine sd_cut (J := 87) (ls := [some (.inr 15), some (.inl 0), some (.inl 1), some (.inl (sd_lw zi14)), some (.inl ((sd_wis (B p) 0 1 zi14).1)), some (.inl (sd_b (x (8000 + zi14) = 0))), some (.inl ((sd_wis (B p) 0 1 zi14).2)), some (.inl (zi14 : Int))]) (st := [.inl (sd_lw zi14)]) (fun zv => zv = (sd_b (x (8000 + zi14) = 0))) (fun zv hzv => ?_) (fun K79 => ?_)
          ·
            subst hzv
            have zb87 := sd_b01 (x (8000 + zi14) = 0)
            refine sd_iadd (z := (sd_lw zi14 + sd_b (x (8000 + zi14) = 0))) sD11_word_87 (by omega) (by omega) ?_
            refine sd_istore_n (ls' := [some (.inr 15), some (.inl 0), some (.inl 1), some (.inl (sd_lw zi14 + sd_b (x (8000 + zi14) = 0))), some (.inl ((sd_wis (B p) 0 1 zi14).1)), some (.inl (sd_b (x (8000 + zi14) = 0))), some (.inl ((sd_wis (B p) 0 1 zi14).2)), some (.inl (zi14 : Int))]) sD11_word_88 (by decide) rfl ?_
            refine sd_iinc (y := ((zi14 : Int) + 1)) (ls' := [some (.inr 15), some (.inl 0), some (.inl 1), some (.inl (sd_lw zi14 + sd_b (x (8000 + zi14) = 0))), some (.inl ((sd_wis (B p) 0 1 zi14).1)), some (.inl (sd_b (x (8000 + zi14) = 0))), some (.inl ((sd_wis (B p) 0 1 zi14).2)), some (.inl ((zi14 : Int) + 1))]) sD11_word_89 rfl (by omega) (by omega) (by decide) rfl ?_
            refine sd_goto (tgt := 14) sD11_word_92 (by decide) ?_
            exact sd_eqw (ls' := [some (.inr 15), some (.inl 0), some (.inl 1), some (.inl (sd_lw (zi14 + 1))), some (.inl ((sd_wis (B p) 0 1 (zi14 + 1)).1)), some (.inl (sd_b (sd_bgn (zi14 + 1)))), some (.inl ((sd_wis (B p) 0 1 (zi14 + 1)).2)), some (.inl ((zi14 + 1 : Nat) : Int))]) ihzi14 (sd_cg rfl (sd_cg rfl (sd_cg rfl (sd_cg (sd_ce (show ((sd_lw zi14 + sd_b (x (8000 + zi14) = 0)) : Int) = sd_lw (zi14 + 1) from by rw [e2.1, e1])) (sd_cg (sd_ce (show ((sd_wis (B p) 0 1 zi14).1 : Int) = (sd_wis (B p) 0 1 (zi14 + 1)).1 from by simp only [sd_wis]; first | (rw [if_pos ⟨by assumption, by assumption, by rw [← e1]; assumption⟩]; done) | (rw [if_neg (fun q => by have q1 := q.1; have q2 := q.2.1; have q3 := q.2.2; rw [← e1] at q3; contradiction)]; done))) (sd_cg (sd_ce (show (sd_b (x (8000 + zi14) = 0) : Int) = sd_b (sd_bgn (zi14 + 1)) from by exact sd_bc (by rw [e1]; unfold sd_bgn; simp))) (sd_cg (sd_ce (show ((sd_wis (B p) 0 1 zi14).2 : Int) = (sd_wis (B p) 0 1 (zi14 + 1)).2 from by simp only [sd_wis]; first | (rw [if_pos ⟨by assumption, by assumption, by rw [← e1]; assumption⟩]; done) | (rw [if_neg (fun q => by have q1 := q.1; have q2 := q.2.1; have q3 := q.2.2; rw [← e1] at q3; contradiction)]; done))) (sd_cg (sd_ce (show (((zi14 : Int) + 1) : Int) = ((zi14 + 1 : Nat) : Int) from by omega)) rfl)))))))) rfl
          ·
            refine sd_bif_eq (tgt := 86) sD11_word_79 (by decide) (fun zc79 => ?_) (fun zc79 => ?_)
            ·
              refine sd_iconst sD11_word_86 (by decide) ?_
              exact K79 _ (by exact (sd_b0 (by omega)).symm)
            ·
              refine sd_iconst sD11_word_82 (by decide) ?_
              refine sd_goto (tgt := 87) sD11_word_83 (by decide) ?_
              exact K79 _ (by exact (sd_b1 (by omega)).symm)
        ·
          refine sd_if_ne (tgt := 73) sD11_word_66 (by decide) (fun zc66 => ?_) (fun zc66 => ?_)
          ·
            refine sd_iconst sD11_word_73 (by decide) ?_
            exact K66 _ (by exact (sd_b0 (by omega)).symm)
          ·
            refine sd_iconst sD11_word_69 (by decide) ?_
            refine sd_goto (tgt := 74) sD11_word_70 (by decide) ?_
            exact K66 _ (by exact (sd_b1 (by omega)).symm)
      ·
        refine sd_aload_n sD11_word_38 rfl ?_
        refine sd_getfr sD11_word_39 sF11_31 sGM15_9 ?_
        refine sd_iload sD11_word_42 rfl ?_
        refine sd_ialdx (a := (8000 + zi14)) (v := x (8000 + zi14)) hx sD11_word_44 sAM7 (by omega) rfl ?_
        refine sd_aload_n sD11_word_45 rfl ?_
        refine sd_callVp (as := []) (st := [.inl (x (8000 + zi14))]) (v := .inl (B p)) sD11_word_46 sM11_164 sOM15 rfl rfl rfl (by decide) (Nat.le_of_ble_eq_true rfl) (cM_byteAt _ fr B n p _ m hx hB hS) (fun ho46 => ?_)
        refine sd_icmp_ne (tgt := 59) sD11_word_49 (by decide) (fun zc49 => ?_) (fun zc49 => ?_)
        ·
          refine sd_aload_n sD11_word_59 rfl ?_
          refine sd_getfr sD11_word_60 sF11_31 sGM15_9 ?_
          refine sd_iload sD11_word_63 rfl ?_
          refine sd_ialdx (a := (8000 + zi14)) (v := x (8000 + zi14)) hx sD11_word_65 sAM7 (by omega) rfl ?_
          refine sd_cut (J := 74) (ls := [some (.inr 15), some (.inl 0), some (.inl 1), some (.inl (sd_lw zi14)), some (.inl ((sd_wis (B p) 0 1 zi14).1)), some (.inl (sd_b (sd_bgn zi14))), some (.inl ((sd_wis (B p) 0 1 zi14).2)), some (.inl (zi14 : Int))]) (st := []) (fun zv => zv = (sd_b (x (8000 + zi14) = 0))) (fun zv hzv => ?_) (fun K66 => ?_)
          ·
            subst hzv
            refine sd_istore (ls' := [some (.inr 15), some (.inl 0), some (.inl 1), some (.inl (sd_lw zi14)), some (.inl ((sd_wis (B p) 0 1 zi14).1)), some (.inl (sd_b (x (8000 + zi14) = 0))), some (.inl ((sd_wis (B p) 0 1 zi14).2)), some (.inl (zi14 : Int))]) sD11_word_74 (by decide) rfl ?_
            refine sd_iload_n sD11_word_76 rfl ?_
            refine sd_iload sD11_word_77 rfl ?_
            refine sd_cut (J := 87) (ls := [some (.inr 15), some (.inl 0), some (.inl 1), some (.inl (sd_lw zi14)), some (.inl ((sd_wis (B p) 0 1 zi14).1)), some (.inl (sd_b (x (8000 + zi14) = 0))), some (.inl ((sd_wis (B p) 0 1 zi14).2)), some (.inl (zi14 : Int))]) (st := [.inl (sd_lw zi14)]) (fun zv => zv = (sd_b (x (8000 + zi14) = 0))) (fun zv hzv => ?_) (fun K79 => ?_)
            ·
              subst hzv
              have zb87 := sd_b01 (x (8000 + zi14) = 0)
              refine sd_iadd (z := (sd_lw zi14 + sd_b (x (8000 + zi14) = 0))) sD11_word_87 (by omega) (by omega) ?_
              refine sd_istore_n (ls' := [some (.inr 15), some (.inl 0), some (.inl 1), some (.inl (sd_lw zi14 + sd_b (x (8000 + zi14) = 0))), some (.inl ((sd_wis (B p) 0 1 zi14).1)), some (.inl (sd_b (x (8000 + zi14) = 0))), some (.inl ((sd_wis (B p) 0 1 zi14).2)), some (.inl (zi14 : Int))]) sD11_word_88 (by decide) rfl ?_
              refine sd_iinc (y := ((zi14 : Int) + 1)) (ls' := [some (.inr 15), some (.inl 0), some (.inl 1), some (.inl (sd_lw zi14 + sd_b (x (8000 + zi14) = 0))), some (.inl ((sd_wis (B p) 0 1 zi14).1)), some (.inl (sd_b (x (8000 + zi14) = 0))), some (.inl ((sd_wis (B p) 0 1 zi14).2)), some (.inl ((zi14 : Int) + 1))]) sD11_word_89 rfl (by omega) (by omega) (by decide) rfl ?_
              refine sd_goto (tgt := 14) sD11_word_92 (by decide) ?_
              exact sd_eqw (ls' := [some (.inr 15), some (.inl 0), some (.inl 1), some (.inl (sd_lw (zi14 + 1))), some (.inl ((sd_wis (B p) 0 1 (zi14 + 1)).1)), some (.inl (sd_b (sd_bgn (zi14 + 1)))), some (.inl ((sd_wis (B p) 0 1 (zi14 + 1)).2)), some (.inl ((zi14 + 1 : Nat) : Int))]) ihzi14 (sd_cg rfl (sd_cg rfl (sd_cg rfl (sd_cg (sd_ce (show ((sd_lw zi14 + sd_b (x (8000 + zi14) = 0)) : Int) = sd_lw (zi14 + 1) from by rw [e2.1, e1])) (sd_cg (sd_ce (show ((sd_wis (B p) 0 1 zi14).1 : Int) = (sd_wis (B p) 0 1 (zi14 + 1)).1 from by simp only [sd_wis]; first | (rw [if_pos ⟨by assumption, by assumption, by rw [← e1]; assumption⟩]; done) | (rw [if_neg (fun q => by have q1 := q.1; have q2 := q.2.1; have q3 := q.2.2; rw [← e1] at q3; contradiction)]; done))) (sd_cg (sd_ce (show (sd_b (x (8000 + zi14) = 0) : Int) = sd_b (sd_bgn (zi14 + 1)) from by exact sd_bc (by rw [e1]; unfold sd_bgn; simp))) (sd_cg (sd_ce (show ((sd_wis (B p) 0 1 zi14).2 : Int) = (sd_wis (B p) 0 1 (zi14 + 1)).2 from by simp only [sd_wis]; first | (rw [if_pos ⟨by assumption, by assumption, by rw [← e1]; assumption⟩]; done) | (rw [if_neg (fun q => by have q1 := q.1; have q2 := q.2.1; have q3 := q.2.2; rw [← e1] at q3; contradiction)]; done))) (sd_cg (sd_ce (show (((zi14 : Int) + 1) : Int) = ((zi14 + 1 : Nat) : Int) from by omega)) rfl)))))))) rfl
            ·
              refine sd_bif_eq (tgt := 86) sD11_word_79 (by decide) (fun zc79 => ?_) (fun zc79 => ?_)
              ·
                refine sd_iconst sD11_word_86 (by decide) ?_
                exact K79 _ (by exact (sd_b0 (by omega)).symm)
              ·
                refine sd_iconst sD11_word_82 (by decide) ?_
                refine sd_goto (tgt := 87) sD11_word_83 (by decide) ?_
                exact K79 _ (by exact (sd_b1 (by omega)).symm)
          ·
            refine sd_if_ne (tgt := 73) sD11_word_66 (by decide) (fun zc66 => ?_) (fun zc66 => ?_)
            ·
              refine sd_iconst sD11_word_73 (by decide) ?_
              exact K66 _ (by exact (sd_b0 (by omega)).symm)
            ·
              refine sd_iconst sD11_word_69 (by decide) ?_
              refine sd_goto (tgt := 74) sD11_word_70 (by decide) ?_
              exact K66 _ (by exact (sd_b1 (by omega)).symm)
        ·
          refine sd_iload_n sD11_word_52 rfl ?_
          refine sd_istore (ls' := [some (.inr 15), some (.inl 0), some (.inl 1), some (.inl (sd_lw zi14)), some (.inl (sd_lw zi14)), some (.inl (sd_b (sd_bgn zi14))), some (.inl ((sd_wis (B p) 0 1 zi14).2)), some (.inl (zi14 : Int))]) sD11_word_53 (by decide) rfl ?_
          refine sd_iload sD11_word_55 rfl ?_
          refine sd_istore (ls' := [some (.inr 15), some (.inl 0), some (.inl 1), some (.inl (sd_lw zi14)), some (.inl (sd_lw zi14)), some (.inl (sd_b (sd_bgn zi14))), some (.inl (zi14 : Int)), some (.inl (zi14 : Int))]) sD11_word_57 (by decide) rfl ?_
          refine sd_aload_n sD11_word_59 rfl ?_
          refine sd_getfr sD11_word_60 sF11_31 sGM15_9 ?_
          refine sd_iload sD11_word_63 rfl ?_
          refine sd_ialdx (a := (8000 + zi14)) (v := x (8000 + zi14)) hx sD11_word_65 sAM7 (by omega) rfl ?_
          refine sd_cut (J := 74) (ls := [some (.inr 15), some (.inl 0), some (.inl 1), some (.inl (sd_lw zi14)), some (.inl (sd_lw zi14)), some (.inl (sd_b (sd_bgn zi14))), some (.inl (zi14 : Int)), some (.inl (zi14 : Int))]) (st := []) (fun zv => zv = (sd_b (x (8000 + zi14) = 0))) (fun zv hzv => ?_) (fun K66 => ?_)
          ·
            subst hzv
            refine sd_istore (ls' := [some (.inr 15), some (.inl 0), some (.inl 1), some (.inl (sd_lw zi14)), some (.inl (sd_lw zi14)), some (.inl (sd_b (x (8000 + zi14) = 0))), some (.inl (zi14 : Int)), some (.inl (zi14 : Int))]) sD11_word_74 (by decide) rfl ?_
            refine sd_iload_n sD11_word_76 rfl ?_
            refine sd_iload sD11_word_77 rfl ?_
            refine sd_cut (J := 87) (ls := [some (.inr 15), some (.inl 0), some (.inl 1), some (.inl (sd_lw zi14)), some (.inl (sd_lw zi14)), some (.inl (sd_b (x (8000 + zi14) = 0))), some (.inl (zi14 : Int)), some (.inl (zi14 : Int))]) (st := [.inl (sd_lw zi14)]) (fun zv => zv = (sd_b (x (8000 + zi14) = 0))) (fun zv hzv => ?_) (fun K79 => ?_)
            ·
              subst hzv
              have zb87 := sd_b01 (x (8000 + zi14) = 0)
              refine sd_iadd (z := (sd_lw zi14 + sd_b (x (8000 + zi14) = 0))) sD11_word_87 (by omega) (by omega) ?_
              refine sd_istore_n (ls' := [some (.inr 15), some (.inl 0), some (.inl 1), some (.inl (sd_lw zi14 + sd_b (x (8000 + zi14) = 0))), some (.inl (sd_lw zi14)), some (.inl (sd_b (x (8000 + zi14) = 0))), some (.inl (zi14 : Int)), some (.inl (zi14 : Int))]) sD11_word_88 (by decide) rfl ?_
              refine sd_iinc (y := ((zi14 : Int) + 1)) (ls' := [some (.inr 15), some (.inl 0), some (.inl 1), some (.inl (sd_lw zi14 + sd_b (x (8000 + zi14) = 0))), some (.inl (sd_lw zi14)), some (.inl (sd_b (x (8000 + zi14) = 0))), some (.inl (zi14 : Int)), some (.inl ((zi14 : Int) + 1))]) sD11_word_89 rfl (by omega) (by omega) (by decide) rfl ?_
              refine sd_goto (tgt := 14) sD11_word_92 (by decide) ?_
              exact sd_eqw (ls' := [some (.inr 15), some (.inl 0), some (.inl 1), some (.inl (sd_lw (zi14 + 1))), some (.inl ((sd_wis (B p) 0 1 (zi14 + 1)).1)), some (.inl (sd_b (sd_bgn (zi14 + 1)))), some (.inl ((sd_wis (B p) 0 1 (zi14 + 1)).2)), some (.inl ((zi14 + 1 : Nat) : Int))]) ihzi14 (sd_cg rfl (sd_cg rfl (sd_cg rfl (sd_cg (sd_ce (show ((sd_lw zi14 + sd_b (x (8000 + zi14) = 0)) : Int) = sd_lw (zi14 + 1) from by rw [e2.1, e1])) (sd_cg (sd_ce (show (sd_lw zi14 : Int) = (sd_wis (B p) 0 1 (zi14 + 1)).1 from by simp only [sd_wis]; first | (rw [if_pos ⟨by assumption, by assumption, by rw [← e1]; assumption⟩]; done) | (rw [if_neg (fun q => by have q1 := q.1; have q2 := q.2.1; have q3 := q.2.2; rw [← e1] at q3; contradiction)]; done))) (sd_cg (sd_ce (show (sd_b (x (8000 + zi14) = 0) : Int) = sd_b (sd_bgn (zi14 + 1)) from by exact sd_bc (by rw [e1]; unfold sd_bgn; simp))) (sd_cg (sd_ce (show ((zi14 : Int) : Int) = (sd_wis (B p) 0 1 (zi14 + 1)).2 from by simp only [sd_wis]; first | (rw [if_pos ⟨by assumption, by assumption, by rw [← e1]; assumption⟩]; done) | (rw [if_neg (fun q => by have q1 := q.1; have q2 := q.2.1; have q3 := q.2.2; rw [← e1] at q3; contradiction)]; done))) (sd_cg (sd_ce (show (((zi14 : Int) + 1) : Int) = ((zi14 + 1 : Nat) : Int) from by omega)) rfl)))))))) rfl
            ·
              refine sd_bif_eq (tgt := 86) sD11_word_79 (by decide) (fun zc79 => ?_) (fun zc79 => ?_)
              ·
                refine sd_iconst sD11_word_86 (by decide) ?_
                exact K79 _ (by exact (sd_b0 (by omega)).symm)
              ·
                refine sd_iconst sD11_word_82 (by decide) ?_
                refine sd_goto (tgt := 87) sD11_word_83 (by decide) ?_
                exact K79 _ (by exact (sd_b1 (by omega)).symm)
          ·
            refine sd_if_ne (tgt := 73) sD11_word_66 (by decide) (fun zc66 => ?_) (fun zc66 => ?_)
            ·
              refine sd_iconst sD11_word_73 (by decide) ?_
              exact K66 _ (by exact (sd_b0 (by omega)).symm)
            ·
              refine sd_iconst sD11_word_69 (by decide) ?_
              refine sd_goto (tgt := 74) sD11_word_70 (by decide) ?_
              exact K66 _ (by exact (sd_b1 (by omega)).symm)
  ·
    show sd_Wp sd_SM 2 sY11_word 14 [some (.inr 15), some (.inl 0), some (.inl 1), some (.inl (sd_lw 52)), some (.inl ((sd_wis (B p) 0 1 52).1)), some (.inl (sd_b (sd_bgn 52))), some (.inl ((sd_wis (B p) 0 1 52).2)), some (.inl (52 : Int))] [] m _
    refine sd_iload sD11_word_14 rfl ?_
    refine sd_aload_n sD11_word_16 rfl ?_
    refine sd_getfr sD11_word_17 sF11_31 sGM15_9 ?_
    refine sd_alen sD11_word_20 sAM7 (by decide) ?_
    refine sd_icmp_ge (tgt := 95) sD11_word_21 (by decide) (fun zc21 => ?_) (fun zc21 => (by exfalso; omega))
    rcases sd_wisA (B p) with ⟨hb0, hw⟩ | ⟨hb0, hw⟩ | ⟨hbn, hw⟩
    ·
      refine sd_eqw (ls' := [some (.inr 15), some (.inl 0), some (.inl 1), some (.inl (sd_lw 52)), some (.inl 0), some (.inl (sd_b (sd_bgn 52))), some (.inl 0), some (.inl (52 : Int))]) ?_ (by rw [hw]) rfl
      refine sd_aload_n sD11_word_95 rfl ?_
      refine sd_callVp (as := []) (st := []) (v := .inl 1) sD11_word_96 sM11_160 sOM15 rfl rfl rfl (by decide) (Nat.le_of_ble_eq_true rfl) (cM_isGood1 fr n p _ m hx hS) (fun ho96 => ?_)
      refine sd_if_eq (tgt := 107) sD11_word_99 (by decide) (fun zc99 => (by exfalso; omega)) (fun zc99 => ?_)
      refine sd_iload sD11_word_102 rfl ?_
      refine sd_if_ge (tgt := 113) sD11_word_104 (by decide) (fun zc104 => ?_) (fun zc104 => (by exfalso; omega))
      refine sd_aload_n sD11_word_113 rfl ?_
      refine sd_callVp (as := []) (st := []) (v := .inl 1) sD11_word_114 sM11_160 sOM15 rfl rfl rfl (by decide) (Nat.le_of_ble_eq_true rfl) (cM_isGood1 fr n p _ m hx hS) (fun ho114 => ?_)
      refine sd_if_eq (tgt := 147) sD11_word_117 (by decide) (fun zc117 => (by exfalso; omega)) (fun zc117 => ?_)
      refine sd_aload_n sD11_word_120 rfl ?_
      refine sd_getfr sD11_word_121 sF11_31 sGM15_9 ?_
      refine sd_iload sD11_word_124 rfl ?_
      refine sd_ialdx (a := 8000) (v := x 8000) hx sD11_word_126 sAM7 (by omega) rfl ?_
      rw [show x 8000 = sd_wch 0 0 from (hL 0 (by decide)).trans (by decide)]
      have zw126 := (sd_wch_n (i := 0) (k := 0) (by decide) (by decide)).1.2.2
      refine sd_if_eq (tgt := 147) sD11_word_127 (by decide) (fun zc127 => (by exfalso; omega)) (fun zc127 => ?_)
      refine sd_aload_n sD11_word_130 rfl ?_
      refine sd_aload_n sD11_word_131 rfl ?_
      refine sd_getfr sD11_word_132 sF11_31 sGM15_9 ?_
      refine sd_iload sD11_word_135 rfl ?_
      refine sd_ialdx (a := 8000) (v := x 8000) hx sD11_word_137 sAM7 (by omega) rfl ?_
      rw [show x 8000 = sd_wch 0 0 from (hL 0 (by decide)).trans (by decide)]
      have zw137 := (sd_wch_n (i := 0) (k := 0) (by decide) (by decide)).1.2.2
      refine sd_callV (as := [.inl (sd_wch 0 0)]) (st := []) sD11_word_138 sM11_170 rfl rfl sOM15 rfl (by decide) (Nat.le_of_ble_eq_true rfl) (cM_byteIs1 (sd_wch 0 0) (by omega) fr B n (p + 0) _ m hx hB hS (by omega)) (fun r m hq ho138 hm => ?_)
      obtain ⟨rfl, hk138_1, hq138_1⟩ := hq
      replace hx := hk138_1.ns hx
      replace hK := hK.tr hk138_1
      rcases hq138_1 with ⟨hb138_1, hS⟩ | ⟨hb138_1, hS⟩
      ·
        have hn138_1 := hB.in (p := p + 0) (by omega)
        show sd_Wp sd_SM 2 sY11_word 141 [some (.inr 15), some (.inl 0), some (.inl 1), some (.inl (sd_lw 52)), some (.inl 0), some (.inl (sd_b (sd_bgn 52))), some (.inl 0), some (.inl (52 : Int))] [] m _
        refine sd_iinc (y := 1) (ls' := [some (.inr 15), some (.inl 0), some (.inl 1), some (.inl (sd_lw 52)), some (.inl 0), some (.inl (sd_b (sd_bgn 52))), some (.inl 1), some (.inl (52 : Int))]) sD11_word_141 rfl (by omega) (by omega) (by decide) rfl ?_
        refine sd_goto (tgt := 113) sD11_word_144 (by decide) ?_
        refine sd_aload_n sD11_word_113 rfl ?_
        refine sd_callVp (as := []) (st := []) (v := .inl 1) sD11_word_114 sM11_160 sOM15 rfl rfl rfl (by decide) (Nat.le_of_ble_eq_true rfl) (cM_isGood1 fr n (p + 1) _ m hx hS) (fun ho114 => ?_)
        refine sd_if_eq (tgt := 147) sD11_word_117 (by decide) (fun zc117 => (by exfalso; omega)) (fun zc117 => ?_)
        refine sd_aload_n sD11_word_120 rfl ?_
        refine sd_getfr sD11_word_121 sF11_31 sGM15_9 ?_
        refine sd_iload sD11_word_124 rfl ?_
        refine sd_ialdx (a := 8001) (v := x 8001) hx sD11_word_126 sAM7 (by omega) rfl ?_
        rw [show x 8001 = sd_wch 0 1 from (hL 1 (by decide)).trans (by decide)]
        have zw126 := (sd_wch_n (i := 0) (k := 1) (by decide) (by decide)).1.2.2
        refine sd_if_eq (tgt := 147) sD11_word_127 (by decide) (fun zc127 => (by exfalso; omega)) (fun zc127 => ?_)
        refine sd_aload_n sD11_word_130 rfl ?_
        refine sd_aload_n sD11_word_131 rfl ?_
        refine sd_getfr sD11_word_132 sF11_31 sGM15_9 ?_
        refine sd_iload sD11_word_135 rfl ?_
        refine sd_ialdx (a := 8001) (v := x 8001) hx sD11_word_137 sAM7 (by omega) rfl ?_
        rw [show x 8001 = sd_wch 0 1 from (hL 1 (by decide)).trans (by decide)]
        have zw137 := (sd_wch_n (i := 0) (k := 1) (by decide) (by decide)).1.2.2
        refine sd_callV (as := [.inl (sd_wch 0 1)]) (st := []) sD11_word_138 sM11_170 rfl rfl sOM15 rfl (by decide) (Nat.le_of_ble_eq_true rfl) (cM_byteIs1 (sd_wch 0 1) (by omega) fr B n (p + 1) _ m hx hB hS (by omega)) (fun r m hq ho138 hm => ?_)
        obtain ⟨rfl, hk138_2, hq138_2⟩ := hq
        replace hx := hk138_2.ns hx
        replace hK := hK.tr hk138_2
        rcases hq138_2 with ⟨hb138_2, hS⟩ | ⟨hb138_2, hS⟩
        ·
          have hn138_2 := hB.in (p := p + 1) (by omega)
          show sd_Wp sd_SM 2 sY11_word 141 [some (.inr 15), some (.inl 0), some (.inl 1), some (.inl (sd_lw 52)), some (.inl 0), some (.inl (sd_b (sd_bgn 52))), some (.inl 1), some (.inl (52 : Int))] [] m _
          refine sd_iinc (y := 2) (ls' := [some (.inr 15), some (.inl 0), some (.inl 1), some (.inl (sd_lw 52)), some (.inl 0), some (.inl (sd_b (sd_bgn 52))), some (.inl 2), some (.inl (52 : Int))]) sD11_word_141 rfl (by omega) (by omega) (by decide) rfl ?_
          refine sd_goto (tgt := 113) sD11_word_144 (by decide) ?_
          refine sd_aload_n sD11_word_113 rfl ?_
          refine sd_callVp (as := []) (st := []) (v := .inl 1) sD11_word_114 sM11_160 sOM15 rfl rfl rfl (by decide) (Nat.le_of_ble_eq_true rfl) (cM_isGood1 fr n (p + 2) _ m hx hS) (fun ho114 => ?_)
          refine sd_if_eq (tgt := 147) sD11_word_117 (by decide) (fun zc117 => (by exfalso; omega)) (fun zc117 => ?_)
          refine sd_aload_n sD11_word_120 rfl ?_
          refine sd_getfr sD11_word_121 sF11_31 sGM15_9 ?_
          refine sd_iload sD11_word_124 rfl ?_
          refine sd_ialdx (a := 8002) (v := x 8002) hx sD11_word_126 sAM7 (by omega) rfl ?_
          rw [show x 8002 = sd_wch 0 2 from (hL 2 (by decide)).trans (by decide)]
          have zw126 := (sd_wch_n (i := 0) (k := 2) (by decide) (by decide)).1.2.2
          refine sd_if_eq (tgt := 147) sD11_word_127 (by decide) (fun zc127 => (by exfalso; omega)) (fun zc127 => ?_)
          refine sd_aload_n sD11_word_130 rfl ?_
          refine sd_aload_n sD11_word_131 rfl ?_
          refine sd_getfr sD11_word_132 sF11_31 sGM15_9 ?_
          refine sd_iload sD11_word_135 rfl ?_
          refine sd_ialdx (a := 8002) (v := x 8002) hx sD11_word_137 sAM7 (by omega) rfl ?_
          rw [show x 8002 = sd_wch 0 2 from (hL 2 (by decide)).trans (by decide)]
          have zw137 := (sd_wch_n (i := 0) (k := 2) (by decide) (by decide)).1.2.2
          refine sd_callV (as := [.inl (sd_wch 0 2)]) (st := []) sD11_word_138 sM11_170 rfl rfl sOM15 rfl (by decide) (Nat.le_of_ble_eq_true rfl) (cM_byteIs1 (sd_wch 0 2) (by omega) fr B n (p + 2) _ m hx hB hS (by omega)) (fun r m hq ho138 hm => ?_)
          obtain ⟨rfl, hk138_3, hq138_3⟩ := hq
          replace hx := hk138_3.ns hx
          replace hK := hK.tr hk138_3
          rcases hq138_3 with ⟨hb138_3, hS⟩ | ⟨hb138_3, hS⟩
          ·
            have hn138_3 := hB.in (p := p + 2) (by omega)
            show sd_Wp sd_SM 2 sY11_word 141 [some (.inr 15), some (.inl 0), some (.inl 1), some (.inl (sd_lw 52)), some (.inl 0), some (.inl (sd_b (sd_bgn 52))), some (.inl 2), some (.inl (52 : Int))] [] m _
            refine sd_iinc (y := 3) (ls' := [some (.inr 15), some (.inl 0), some (.inl 1), some (.inl (sd_lw 52)), some (.inl 0), some (.inl (sd_b (sd_bgn 52))), some (.inl 3), some (.inl (52 : Int))]) sD11_word_141 rfl (by omega) (by omega) (by decide) rfl ?_
            refine sd_goto (tgt := 113) sD11_word_144 (by decide) ?_
            refine sd_aload_n sD11_word_113 rfl ?_
            refine sd_callVp (as := []) (st := []) (v := .inl 1) sD11_word_114 sM11_160 sOM15 rfl rfl rfl (by decide) (Nat.le_of_ble_eq_true rfl) (cM_isGood1 fr n (p + 3) _ m hx hS) (fun ho114 => ?_)
            refine sd_if_eq (tgt := 147) sD11_word_117 (by decide) (fun zc117 => (by exfalso; omega)) (fun zc117 => ?_)
            refine sd_aload_n sD11_word_120 rfl ?_
            refine sd_getfr sD11_word_121 sF11_31 sGM15_9 ?_
            refine sd_iload sD11_word_124 rfl ?_
            refine sd_ialdx (a := 8003) (v := x 8003) hx sD11_word_126 sAM7 (by omega) rfl ?_
            rw [show x 8003 = 0 from (hL 3 (by decide)).trans (by decide)]
            refine sd_if_eq (tgt := 147) sD11_word_127 (by decide) (fun zc127 => ?_) (fun zc127 => (by exfalso; omega))
            refine sd_aload_n sD11_word_147 rfl ?_
            refine sd_callVp (as := []) (st := []) (v := .inl 1) sD11_word_148 sM11_160 sOM15 rfl rfl rfl (by decide) (Nat.le_of_ble_eq_true rfl) (cM_isGood1 fr n (p + 3) _ m hx hS) (fun ho148 => ?_)
            refine sd_if_eq (tgt := 159) sD11_word_151 (by decide) (fun zc151 => (by exfalso; omega)) (fun zc151 => ?_)
            refine sd_iload sD11_word_154 rfl ?_
            refine sd_goto (tgt := 160) sD11_word_156 (by decide) ?_
            refine sd_ireturn sD11_word_160 rfl (fun hr hm => ?_)
            have e := sd_ff_no (B := B) (p := p) (i := 0) (fun z hz => by have hz : z < 3 := hz; rcases (show z = 0 ∨ z = 1 ∨ z = 2 by omega) with rfl | rfl | rfl <;> assumption)
            exact ⟨hK, Or.inr ⟨0, p + 3, by rw [sd_roA0 hb0, e.1, e.2, if_pos rfl]; rfl, rfl, hS, by omega, by decide⟩⟩
          ·
            show sd_Wp sd_SM 2 sY11_word 141 [some (.inr 15), some (.inl 0), some (.inl 1), some (.inl (sd_lw 52)), some (.inl 0), some (.inl (sd_b (sd_bgn 52))), some (.inl 2), some (.inl (52 : Int))] [] m _
            refine sd_iinc (y := 3) (ls' := [some (.inr 15), some (.inl 0), some (.inl 1), some (.inl (sd_lw 52)), some (.inl 0), some (.inl (sd_b (sd_bgn 52))), some (.inl 3), some (.inl (52 : Int))]) sD11_word_141 rfl (by omega) (by omega) (by decide) rfl ?_
            refine sd_goto (tgt := 113) sD11_word_144 (by decide) ?_
            refine sd_aload_n sD11_word_113 rfl ?_
            refine sd_callVp (as := []) (st := []) (v := .inl 0) sD11_word_114 sM11_160 sOM15 rfl rfl rfl (by decide) (Nat.le_of_ble_eq_true rfl) (cM_isGood0 fr n (p + 2) (p + 2) _ m hx hS) (fun ho114 => ?_)
            refine sd_if_eq (tgt := 147) sD11_word_117 (by decide) (fun zc117 => ?_) (fun zc117 => (by exfalso; omega))
            refine sd_aload_n sD11_word_147 rfl ?_
            refine sd_callVp (as := []) (st := []) (v := .inl 0) sD11_word_148 sM11_160 sOM15 rfl rfl rfl (by decide) (Nat.le_of_ble_eq_true rfl) (cM_isGood0 fr n (p + 2) (p + 2) _ m hx hS) (fun ho148 => ?_)
            refine sd_if_eq (tgt := 159) sD11_word_151 (by decide) (fun zc151 => ?_) (fun zc151 => (by exfalso; omega))
            refine sd_iconst sD11_word_159 (by decide) ?_
            refine sd_ireturn sD11_word_160 rfl (fun hr hm => ?_)
            have e := sd_ff_at (B := B) (p := p) (i := 0) (k := 2) (fun z hz => by rcases (show z = 0 ∨ z = 1 by omega) with rfl | rfl <;> assumption) hb138_3 (by decide)
            exact ⟨hK, Or.inl ⟨p + 2, by rw [sd_roA0 hb0, e.1, e.2, if_neg (by decide)], rfl, hS, by omega⟩⟩
        ·
          show sd_Wp sd_SM 2 sY11_word 141 [some (.inr 15), some (.inl 0), some (.inl 1), some (.inl (sd_lw 52)), some (.inl 0), some (.inl (sd_b (sd_bgn 52))), some (.inl 1), some (.inl (52 : Int))] [] m _
          refine sd_iinc (y := 2) (ls' := [some (.inr 15), some (.inl 0), some (.inl 1), some (.inl (sd_lw 52)), some (.inl 0), some (.inl (sd_b (sd_bgn 52))), some (.inl 2), some (.inl (52 : Int))]) sD11_word_141 rfl (by omega) (by omega) (by decide) rfl ?_
          refine sd_goto (tgt := 113) sD11_word_144 (by decide) ?_
          refine sd_aload_n sD11_word_113 rfl ?_
          refine sd_callVp (as := []) (st := []) (v := .inl 0) sD11_word_114 sM11_160 sOM15 rfl rfl rfl (by decide) (Nat.le_of_ble_eq_true rfl) (cM_isGood0 fr n (p + 1) (p + 1) _ m hx hS) (fun ho114 => ?_)
          refine sd_if_eq (tgt := 147) sD11_word_117 (by decide) (fun zc117 => ?_) (fun zc117 => (by exfalso; omega))
          refine sd_aload_n sD11_word_147 rfl ?_
          refine sd_callVp (as := []) (st := []) (v := .inl 0) sD11_word_148 sM11_160 sOM15 rfl rfl rfl (by decide) (Nat.le_of_ble_eq_true rfl) (cM_isGood0 fr n (p + 1) (p + 1) _ m hx hS) (fun ho148 => ?_)
          refine sd_if_eq (tgt := 159) sD11_word_151 (by decide) (fun zc151 => ?_) (fun zc151 => (by exfalso; omega))
          refine sd_iconst sD11_word_159 (by decide) ?_
          refine sd_ireturn sD11_word_160 rfl (fun hr hm => ?_)
          have e := sd_ff_at (B := B) (p := p) (i := 0) (k := 1) (fun z hz => by rcases (show z = 0 by omega) with rfl <;> assumption) hb138_2 (by decide)
          exact ⟨hK, Or.inl ⟨p + 1, by rw [sd_roA0 hb0, e.1, e.2, if_neg (by decide)], rfl, hS, by omega⟩⟩
      ·
        show sd_Wp sd_SM 2 sY11_word 141 [some (.inr 15), some (.inl 0), some (.inl 1), some (.inl (sd_lw 52)), some (.inl 0), some (.inl (sd_b (sd_bgn 52))), some (.inl 0), some (.inl (52 : Int))] [] m _
        refine sd_iinc (y := 1) (ls' := [some (.inr 15), some (.inl 0), some (.inl 1), some (.inl (sd_lw 52)), some (.inl 0), some (.inl (sd_b (sd_bgn 52))), some (.inl 1), some (.inl (52 : Int))]) sD11_word_141 rfl (by omega) (by omega) (by decide) rfl ?_
        refine sd_goto (tgt := 113) sD11_word_144 (by decide) ?_
        refine sd_aload_n sD11_word_113 rfl ?_
        refine sd_callVp (as := []) (st := []) (v := .inl 0) sD11_word_114 sM11_160 sOM15 rfl rfl rfl (by decide) (Nat.le_of_ble_eq_true rfl) (cM_isGood0 fr n (p + 0) (p + 0) _ m hx hS) (fun ho114 => ?_)
        refine sd_if_eq (tgt := 147) sD11_word_117 (by decide) (fun zc117 => ?_) (fun zc117 => (by exfalso; omega))
        refine sd_aload_n sD11_word_147 rfl ?_
        refine sd_callVp (as := []) (st := []) (v := .inl 0) sD11_word_148 sM11_160 sOM15 rfl rfl rfl (by decide) (Nat.le_of_ble_eq_true rfl) (cM_isGood0 fr n (p + 0) (p + 0) _ m hx hS) (fun ho148 => ?_)
        refine sd_if_eq (tgt := 159) sD11_word_151 (by decide) (fun zc151 => ?_) (fun zc151 => (by exfalso; omega))
        refine sd_iconst sD11_word_159 (by decide) ?_
        refine sd_ireturn sD11_word_160 rfl (fun hr hm => ?_)
        exact absurd hb0 hb138_1
    ·
      refine sd_eqw (ls' := [some (.inr 15), some (.inl 0), some (.inl 1), some (.inl (sd_lw 52)), some (.inl 1), some (.inl (sd_b (sd_bgn 52))), some (.inl 4), some (.inl (52 : Int))]) ?_ (by rw [hw]) rfl
      refine sd_aload_n sD11_word_95 rfl ?_
      refine sd_callVp (as := []) (st := []) (v := .inl 1) sD11_word_96 sM11_160 sOM15 rfl rfl rfl (by decide) (Nat.le_of_ble_eq_true rfl) (cM_isGood1 fr n p _ m hx hS) (fun ho96 => ?_)
      refine sd_if_eq (tgt := 107) sD11_word_99 (by decide) (fun zc99 => (by exfalso; omega)) (fun zc99 => ?_)
      refine sd_iload sD11_word_102 rfl ?_
      refine sd_if_ge (tgt := 113) sD11_word_104 (by decide) (fun zc104 => ?_) (fun zc104 => (by exfalso; omega))
      refine sd_aload_n sD11_word_113 rfl ?_
      refine sd_callVp (as := []) (st := []) (v := .inl 1) sD11_word_114 sM11_160 sOM15 rfl rfl rfl (by decide) (Nat.le_of_ble_eq_true rfl) (cM_isGood1 fr n p _ m hx hS) (fun ho114 => ?_)
      refine sd_if_eq (tgt := 147) sD11_word_117 (by decide) (fun zc117 => (by exfalso; omega)) (fun zc117 => ?_)
      refine sd_aload_n sD11_word_120 rfl ?_
      refine sd_getfr sD11_word_121 sF11_31 sGM15_9 ?_
      refine sd_iload sD11_word_124 rfl ?_
      refine sd_ialdx (a := 8004) (v := x 8004) hx sD11_word_126 sAM7 (by omega) rfl ?_
      rw [show x 8004 = sd_wch 1 0 from (hL 4 (by decide)).trans (by decide)]
      have zw126 := (sd_wch_n (i := 1) (k := 0) (by decide) (by decide)).1.2.2
      refine sd_if_eq (tgt := 147) sD11_word_127 (by decide) (fun zc127 => (by exfalso; omega)) (fun zc127 => ?_)
      refine sd_aload_n sD11_word_130 rfl ?_
      refine sd_aload_n sD11_word_131 rfl ?_
      refine sd_getfr sD11_word_132 sF11_31 sGM15_9 ?_
      refine sd_iload sD11_word_135 rfl ?_
      refine sd_ialdx (a := 8004) (v := x 8004) hx sD11_word_137 sAM7 (by omega) rfl ?_
      rw [show x 8004 = sd_wch 1 0 from (hL 4 (by decide)).trans (by decide)]
      have zw137 := (sd_wch_n (i := 1) (k := 0) (by decide) (by decide)).1.2.2
      refine sd_callV (as := [.inl (sd_wch 1 0)]) (st := []) sD11_word_138 sM11_170 rfl rfl sOM15 rfl (by decide) (Nat.le_of_ble_eq_true rfl) (cM_byteIs1 (sd_wch 1 0) (by omega) fr B n (p + 0) _ m hx hB hS (by omega)) (fun r m hq ho138 hm => ?_)
      obtain ⟨rfl, hk138_4, hq138_4⟩ := hq
      replace hx := hk138_4.ns hx
      replace hK := hK.tr hk138_4
      rcases hq138_4 with ⟨hb138_4, hS⟩ | ⟨hb138_4, hS⟩
      ·
        have hn138_4 := hB.in (p := p + 0) (by omega)
        show sd_Wp sd_SM 2 sY11_word 141 [some (.inr 15), some (.inl 0), some (.inl 1), some (.inl (sd_lw 52)), some (.inl 1), some (.inl (sd_b (sd_bgn 52))), some (.inl 4), some (.inl (52 : Int))] [] m _
        refine sd_iinc (y := 5) (ls' := [some (.inr 15), some (.inl 0), some (.inl 1), some (.inl (sd_lw 52)), some (.inl 1), some (.inl (sd_b (sd_bgn 52))), some (.inl 5), some (.inl (52 : Int))]) sD11_word_141 rfl (by omega) (by omega) (by decide) rfl ?_
        refine sd_goto (tgt := 113) sD11_word_144 (by decide) ?_
        refine sd_aload_n sD11_word_113 rfl ?_
        refine sd_callVp (as := []) (st := []) (v := .inl 1) sD11_word_114 sM11_160 sOM15 rfl rfl rfl (by decide) (Nat.le_of_ble_eq_true rfl) (cM_isGood1 fr n (p + 1) _ m hx hS) (fun ho114 => ?_)
        refine sd_if_eq (tgt := 147) sD11_word_117 (by decide) (fun zc117 => (by exfalso; omega)) (fun zc117 => ?_)
        refine sd_aload_n sD11_word_120 rfl ?_
        refine sd_getfr sD11_word_121 sF11_31 sGM15_9 ?_
        refine sd_iload sD11_word_124 rfl ?_
        refine sd_ialdx (a := 8005) (v := x 8005) hx sD11_word_126 sAM7 (by omega) rfl ?_
        rw [show x 8005 = sd_wch 1 1 from (hL 5 (by decide)).trans (by decide)]
        have zw126 := (sd_wch_n (i := 1) (k := 1) (by decide) (by decide)).1.2.2
        refine sd_if_eq (tgt := 147) sD11_word_127 (by decide) (fun zc127 => (by exfalso; omega)) (fun zc127 => ?_)
        refine sd_aload_n sD11_word_130 rfl ?_
        refine sd_aload_n sD11_word_131 rfl ?_
        refine sd_getfr sD11_word_132 sF11_31 sGM15_9 ?_
        refine sd_iload sD11_word_135 rfl ?_
        refine sd_ialdx (a := 8005) (v := x 8005) hx sD11_word_137 sAM7 (by omega) rfl ?_
        rw [show x 8005 = sd_wch 1 1 from (hL 5 (by decide)).trans (by decide)]
        have zw137 := (sd_wch_n (i := 1) (k := 1) (by decide) (by decide)).1.2.2
        refine sd_callV (as := [.inl (sd_wch 1 1)]) (st := []) sD11_word_138 sM11_170 rfl rfl sOM15 rfl (by decide) (Nat.le_of_ble_eq_true rfl) (cM_byteIs1 (sd_wch 1 1) (by omega) fr B n (p + 1) _ m hx hB hS (by omega)) (fun r m hq ho138 hm => ?_)
        obtain ⟨rfl, hk138_5, hq138_5⟩ := hq
        replace hx := hk138_5.ns hx
        replace hK := hK.tr hk138_5
        rcases hq138_5 with ⟨hb138_5, hS⟩ | ⟨hb138_5, hS⟩
        ·
          have hn138_5 := hB.in (p := p + 1) (by omega)
          show sd_Wp sd_SM 2 sY11_word 141 [some (.inr 15), some (.inl 0), some (.inl 1), some (.inl (sd_lw 52)), some (.inl 1), some (.inl (sd_b (sd_bgn 52))), some (.inl 5), some (.inl (52 : Int))] [] m _
          refine sd_iinc (y := 6) (ls' := [some (.inr 15), some (.inl 0), some (.inl 1), some (.inl (sd_lw 52)), some (.inl 1), some (.inl (sd_b (sd_bgn 52))), some (.inl 6), some (.inl (52 : Int))]) sD11_word_141 rfl (by omega) (by omega) (by decide) rfl ?_
          refine sd_goto (tgt := 113) sD11_word_144 (by decide) ?_
          refine sd_aload_n sD11_word_113 rfl ?_
          refine sd_callVp (as := []) (st := []) (v := .inl 1) sD11_word_114 sM11_160 sOM15 rfl rfl rfl (by decide) (Nat.le_of_ble_eq_true rfl) (cM_isGood1 fr n (p + 2) _ m hx hS) (fun ho114 => ?_)
          refine sd_if_eq (tgt := 147) sD11_word_117 (by decide) (fun zc117 => (by exfalso; omega)) (fun zc117 => ?_)
          refine sd_aload_n sD11_word_120 rfl ?_
          refine sd_getfr sD11_word_121 sF11_31 sGM15_9 ?_
          refine sd_iload sD11_word_124 rfl ?_
          refine sd_ialdx (a := 8006) (v := x 8006) hx sD11_word_126 sAM7 (by omega) rfl ?_
          rw [show x 8006 = sd_wch 1 2 from (hL 6 (by decide)).trans (by decide)]
          have zw126 := (sd_wch_n (i := 1) (k := 2) (by decide) (by decide)).1.2.2
          refine sd_if_eq (tgt := 147) sD11_word_127 (by decide) (fun zc127 => (by exfalso; omega)) (fun zc127 => ?_)
          refine sd_aload_n sD11_word_130 rfl ?_
          refine sd_aload_n sD11_word_131 rfl ?_
          refine sd_getfr sD11_word_132 sF11_31 sGM15_9 ?_
          refine sd_iload sD11_word_135 rfl ?_
          refine sd_ialdx (a := 8006) (v := x 8006) hx sD11_word_137 sAM7 (by omega) rfl ?_
          rw [show x 8006 = sd_wch 1 2 from (hL 6 (by decide)).trans (by decide)]
          have zw137 := (sd_wch_n (i := 1) (k := 2) (by decide) (by decide)).1.2.2
          refine sd_callV (as := [.inl (sd_wch 1 2)]) (st := []) sD11_word_138 sM11_170 rfl rfl sOM15 rfl (by decide) (Nat.le_of_ble_eq_true rfl) (cM_byteIs1 (sd_wch 1 2) (by omega) fr B n (p + 2) _ m hx hB hS (by omega)) (fun r m hq ho138 hm => ?_)
          obtain ⟨rfl, hk138_6, hq138_6⟩ := hq
          replace hx := hk138_6.ns hx
          replace hK := hK.tr hk138_6
          rcases hq138_6 with ⟨hb138_6, hS⟩ | ⟨hb138_6, hS⟩
          ·
            have hn138_6 := hB.in (p := p + 2) (by omega)
            show sd_Wp sd_SM 2 sY11_word 141 [some (.inr 15), some (.inl 0), some (.inl 1), some (.inl (sd_lw 52)), some (.inl 1), some (.inl (sd_b (sd_bgn 52))), some (.inl 6), some (.inl (52 : Int))] [] m _
            refine sd_iinc (y := 7) (ls' := [some (.inr 15), some (.inl 0), some (.inl 1), some (.inl (sd_lw 52)), some (.inl 1), some (.inl (sd_b (sd_bgn 52))), some (.inl 7), some (.inl (52 : Int))]) sD11_word_141 rfl (by omega) (by omega) (by decide) rfl ?_
            refine sd_goto (tgt := 113) sD11_word_144 (by decide) ?_
            refine sd_aload_n sD11_word_113 rfl ?_
            refine sd_callVp (as := []) (st := []) (v := .inl 1) sD11_word_114 sM11_160 sOM15 rfl rfl rfl (by decide) (Nat.le_of_ble_eq_true rfl) (cM_isGood1 fr n (p + 3) _ m hx hS) (fun ho114 => ?_)
            refine sd_if_eq (tgt := 147) sD11_word_117 (by decide) (fun zc117 => (by exfalso; omega)) (fun zc117 => ?_)
            refine sd_aload_n sD11_word_120 rfl ?_
            refine sd_getfr sD11_word_121 sF11_31 sGM15_9 ?_
            refine sd_iload sD11_word_124 rfl ?_
            refine sd_ialdx (a := 8007) (v := x 8007) hx sD11_word_126 sAM7 (by omega) rfl ?_
            rw [show x 8007 = 0 from (hL 7 (by decide)).trans (by decide)]
            refine sd_if_eq (tgt := 147) sD11_word_127 (by decide) (fun zc127 => ?_) (fun zc127 => (by exfalso; omega))
            refine sd_aload_n sD11_word_147 rfl ?_
            refine sd_callVp (as := []) (st := []) (v := .inl 1) sD11_word_148 sM11_160 sOM15 rfl rfl rfl (by decide) (Nat.le_of_ble_eq_true rfl) (cM_isGood1 fr n (p + 3) _ m hx hS) (fun ho148 => ?_)
            refine sd_if_eq (tgt := 159) sD11_word_151 (by decide) (fun zc151 => (by exfalso; omega)) (fun zc151 => ?_)
            refine sd_iload sD11_word_154 rfl ?_
            refine sd_goto (tgt := 160) sD11_word_156 (by decide) ?_
            refine sd_ireturn sD11_word_160 rfl (fun hr hm => ?_)
            have e := sd_ff_no (B := B) (p := p) (i := 1) (fun z hz => by have hz : z < 3 := hz; rcases (show z = 0 ∨ z = 1 ∨ z = 2 by omega) with rfl | rfl | rfl <;> assumption)
            exact ⟨hK, Or.inr ⟨1, p + 3, by rw [sd_roA1 hb0, e.1, e.2, if_pos rfl]; rfl, rfl, hS, by omega, by decide⟩⟩
          ·
            show sd_Wp sd_SM 2 sY11_word 141 [some (.inr 15), some (.inl 0), some (.inl 1), some (.inl (sd_lw 52)), some (.inl 1), some (.inl (sd_b (sd_bgn 52))), some (.inl 6), some (.inl (52 : Int))] [] m _
            refine sd_iinc (y := 7) (ls' := [some (.inr 15), some (.inl 0), some (.inl 1), some (.inl (sd_lw 52)), some (.inl 1), some (.inl (sd_b (sd_bgn 52))), some (.inl 7), some (.inl (52 : Int))]) sD11_word_141 rfl (by omega) (by omega) (by decide) rfl ?_
            refine sd_goto (tgt := 113) sD11_word_144 (by decide) ?_
            refine sd_aload_n sD11_word_113 rfl ?_
            refine sd_callVp (as := []) (st := []) (v := .inl 0) sD11_word_114 sM11_160 sOM15 rfl rfl rfl (by decide) (Nat.le_of_ble_eq_true rfl) (cM_isGood0 fr n (p + 2) (p + 2) _ m hx hS) (fun ho114 => ?_)
            refine sd_if_eq (tgt := 147) sD11_word_117 (by decide) (fun zc117 => ?_) (fun zc117 => (by exfalso; omega))
            refine sd_aload_n sD11_word_147 rfl ?_
            refine sd_callVp (as := []) (st := []) (v := .inl 0) sD11_word_148 sM11_160 sOM15 rfl rfl rfl (by decide) (Nat.le_of_ble_eq_true rfl) (cM_isGood0 fr n (p + 2) (p + 2) _ m hx hS) (fun ho148 => ?_)
            refine sd_if_eq (tgt := 159) sD11_word_151 (by decide) (fun zc151 => ?_) (fun zc151 => (by exfalso; omega))
            refine sd_iconst sD11_word_159 (by decide) ?_
            refine sd_ireturn sD11_word_160 rfl (fun hr hm => ?_)
            have e := sd_ff_at (B := B) (p := p) (i := 1) (k := 2) (fun z hz => by rcases (show z = 0 ∨ z = 1 by omega) with rfl | rfl <;> assumption) hb138_6 (by decide)
            exact ⟨hK, Or.inl ⟨p + 2, by rw [sd_roA1 hb0, e.1, e.2, if_neg (by decide)], rfl, hS, by omega⟩⟩
        ·
          show sd_Wp sd_SM 2 sY11_word 141 [some (.inr 15), some (.inl 0), some (.inl 1), some (.inl (sd_lw 52)), some (.inl 1), some (.inl (sd_b (sd_bgn 52))), some (.inl 5), some (.inl (52 : Int))] [] m _
          refine sd_iinc (y := 6) (ls' := [some (.inr 15), some (.inl 0), some (.inl 1), some (.inl (sd_lw 52)), some (.inl 1), some (.inl (sd_b (sd_bgn 52))), some (.inl 6), some (.inl (52 : Int))]) sD11_word_141 rfl (by omega) (by omega) (by decide) rfl ?_
          refine sd_goto (tgt := 113) sD11_word_144 (by decide) ?_
          refine sd_aload_n sD11_word_113 rfl ?_
          refine sd_callVp (as := []) (st := []) (v := .inl 0) sD11_word_114 sM11_160 sOM15 rfl rfl rfl (by decide) (Nat.le_of_ble_eq_true rfl) (cM_isGood0 fr n (p + 1) (p + 1) _ m hx hS) (fun ho114 => ?_)
          refine sd_if_eq (tgt := 147) sD11_word_117 (by decide) (fun zc117 => ?_) (fun zc117 => (by exfalso; omega))
          refine sd_aload_n sD11_word_147 rfl ?_
          refine sd_callVp (as := []) (st := []) (v := .inl 0) sD11_word_148 sM11_160 sOM15 rfl rfl rfl (by decide) (Nat.le_of_ble_eq_true rfl) (cM_isGood0 fr n (p + 1) (p + 1) _ m hx hS) (fun ho148 => ?_)
          refine sd_if_eq (tgt := 159) sD11_word_151 (by decide) (fun zc151 => ?_) (fun zc151 => (by exfalso; omega))
          refine sd_iconst sD11_word_159 (by decide) ?_
          refine sd_ireturn sD11_word_160 rfl (fun hr hm => ?_)
          have e := sd_ff_at (B := B) (p := p) (i := 1) (k := 1) (fun z hz => by rcases (show z = 0 by omega) with rfl <;> assumption) hb138_5 (by decide)
          exact ⟨hK, Or.inl ⟨p + 1, by rw [sd_roA1 hb0, e.1, e.2, if_neg (by decide)], rfl, hS, by omega⟩⟩
      ·
        show sd_Wp sd_SM 2 sY11_word 141 [some (.inr 15), some (.inl 0), some (.inl 1), some (.inl (sd_lw 52)), some (.inl 1), some (.inl (sd_b (sd_bgn 52))), some (.inl 4), some (.inl (52 : Int))] [] m _
        refine sd_iinc (y := 5) (ls' := [some (.inr 15), some (.inl 0), some (.inl 1), some (.inl (sd_lw 52)), some (.inl 1), some (.inl (sd_b (sd_bgn 52))), some (.inl 5), some (.inl (52 : Int))]) sD11_word_141 rfl (by omega) (by omega) (by decide) rfl ?_
        refine sd_goto (tgt := 113) sD11_word_144 (by decide) ?_
        refine sd_aload_n sD11_word_113 rfl ?_
        refine sd_callVp (as := []) (st := []) (v := .inl 0) sD11_word_114 sM11_160 sOM15 rfl rfl rfl (by decide) (Nat.le_of_ble_eq_true rfl) (cM_isGood0 fr n (p + 0) (p + 0) _ m hx hS) (fun ho114 => ?_)
        refine sd_if_eq (tgt := 147) sD11_word_117 (by decide) (fun zc117 => ?_) (fun zc117 => (by exfalso; omega))
        refine sd_aload_n sD11_word_147 rfl ?_
        refine sd_callVp (as := []) (st := []) (v := .inl 0) sD11_word_148 sM11_160 sOM15 rfl rfl rfl (by decide) (Nat.le_of_ble_eq_true rfl) (cM_isGood0 fr n (p + 0) (p + 0) _ m hx hS) (fun ho148 => ?_)
        refine sd_if_eq (tgt := 159) sD11_word_151 (by decide) (fun zc151 => ?_) (fun zc151 => (by exfalso; omega))
        refine sd_iconst sD11_word_159 (by decide) ?_
        refine sd_ireturn sD11_word_160 rfl (fun hr hm => ?_)
        exact absurd hb0 hb138_4
    ·
      refine sd_eqw (ls' := [some (.inr 15), some (.inl 0), some (.inl 1), some (.inl (sd_lw 52)), some (.inl (-1)), some (.inl (sd_b (sd_bgn 52))), some (.inl (-1)), some (.inl (52 : Int))]) ?_ (by rw [hw]) rfl
      refine sd_aload_n sD11_word_95 rfl ?_
      refine sd_callVp (as := []) (st := []) (v := .inl 1) sD11_word_96 sM11_160 sOM15 rfl rfl rfl (by decide) (Nat.le_of_ble_eq_true rfl) (cM_isGood1 fr n p _ m hx hS) (fun ho96 => ?_)
      refine sd_if_eq (tgt := 107) sD11_word_99 (by decide) (fun zc99 => (by exfalso; omega)) (fun zc99 => ?_)
      refine sd_iload sD11_word_102 rfl ?_
      refine sd_if_ge (tgt := 113) sD11_word_104 (by decide) (fun zc104 => (by exfalso; omega)) (fun zc104 => ?_)
      refine sd_aload_n sD11_word_107 rfl ?_
      refine sd_callV (as := []) (st := []) sD11_word_108 sM11_167 rfl rfl sOM15 rfl (by decide) (Nat.le_of_ble_eq_true rfl) (cM_wrong1 fr n p _ m hx hS) (fun r m hq ho108 hm => ?_)
      obtain ⟨rfl, hk108_7, hS⟩ := hq
      replace hx := hk108_7.ns hx
      replace hK := hK.tr hk108_7
      rcases (⟨trivial⟩ : Nonempty True) with hy108_7
      ·
        show sd_Wp sd_SM 2 sY11_word 111 [some (.inr 15), some (.inl 0), some (.inl 1), some (.inl (sd_lw 52)), some (.inl (-1)), some (.inl (sd_b (sd_bgn 52))), some (.inl (-1)), some (.inl (52 : Int))] [] m _
        refine sd_iconst sD11_word_111 (by decide) ?_
        refine sd_ireturn sD11_word_112 rfl (fun hr hm => ?_)
        exact ⟨hK, Or.inl ⟨p, sd_roAN hbn, rfl, hS, hp100⟩⟩
