set_option maxRecDepth 100000 in
set_option maxHeartbeats 4000000 in
theorem cM_works (g : Nat → Int) (x m : sd_M) (hx : sd_ns (sd_rc x g (x 8)) m) (h1 : sd_I1 x) (h5 : sd_I5 x) (hrr : sd_rr g) : sd_Ct sd_SM 1 sY11_works [.inr 15] m (fun q m' => q = some (.inl (sd_cnt (sd_sW x g) (x 4).toNat)) ∧ sd_ns (sd_rc x (sd_wr x g (x 4).toNat) (x 8 + (x 4 - sd_cnt (sd_sW x g) (x 4).toNat))) m') := by
  refine sd_ct rfl (Nat.le_of_ble_eq_true rfl) (fun hok hm => ?_)
  obtain ⟨⟨i0, j0⟩, ⟨i1, j1⟩, ⟨i2, j2⟩, ⟨i3, j3⟩, ⟨i4, j4⟩, ⟨i5, j5⟩, ⟨i6, j6⟩, ⟨i7, j7⟩, ⟨i8, j8⟩⟩ := id h1
  show sd_Wp sd_SM 1 sY11_works 0 [some (.inr 15), none, none, none] [] m _
  refine sd_iconst sD11_works_0 (by decide) ?_
  refine sd_istore_n (ls' := [some (.inr 15), some (.inl 0), none, none]) sD11_works_1 (by decide) rfl ?_
  refine sd_iconst sD11_works_2 (by decide) ?_
  refine sd_istore_n (ls' := [some (.inr 15), some (.inl 0), some (.inl 0), none]) sD11_works_3 (by decide) rfl ?_
  refine sd_forX ((x 4).toNat) (fun zi4 : Nat => [some (.inr 15), some (.inl (sd_cnt (sd_sW x g) zi4)), some (.inl (zi4 : Int)), none]) (fun zi4 : Nat => sd_rc x (sd_wr x g zi4) (x 8 + ((zi4 : Int) - sd_cnt (sd_sW x g) zi4))) (fun (zi4 : Nat) (m : sd_M) => True) (by rfl) (fun zi4 hizi4 m hx hpzi4 ihzi4 => ?_) (fun m hx hpzi4 => ?_) (by exact sd_nseq (fun j => by rw [show x 8 + (((0 : Nat) : Int) - sd_cnt (sd_sW x g) 0) = x 8 from by simp only [sd_cnt]; omega]; rfl) hx) (by trivial)
  ·
    have ec := sd_cnt_le (sd_sW x g) zi4
    refine sd_iload_n sD11_works_4 rfl ?_
    refine sd_aload_n sD11_works_5 rfl ?_
    refine sd_getfr sD11_works_6 sF11_7 sGM15_0 ?_
    refine sd_iconst sD11_works_9 (by decide) ?_
    refine sd_ialdx (a := 4) (v := x 4) hx sD11_works_10 sAM0 (by omega) (sd_rc_o (by omega) (by omega)) ?_
    refine sd_icmp_ge (tgt := 94) sD11_works_11 (by decide) (fun zc11 => (by exfalso; omega)) (fun zc11 => ?_)
    refine sd_aload_n sD11_works_14 rfl ?_
    refine sd_aload_n sD11_works_15 rfl ?_
    refine sd_getfr sD11_works_16 sF11_7 sGM15_0 ?_
    refine sd_sipush sD11_works_19 rfl (by decide) ?_
    refine sd_iload_n sD11_works_22 rfl ?_
    refine sd_callVp (as := [.inr 0, .inl 386, .inl (zi4 : Int)]) (st := []) (v := .inl (sd_lk x zi4 (sd_wr x g zi4))) sD11_works_23 sM11_129 sOM15 rfl rfl rfl (by decide) (Nat.le_of_ble_eq_true rfl) (cM_lacksD zi4 (by omega) (sd_wr x g zi4) (x 8 + ((zi4 : Int) - sd_cnt (sd_sW x g) zi4)) x m hx) (fun ho23 => ?_)
    have e9 := sd_lk_rng x zi4 (sd_wr x g zi4)
    refine sd_if_lt (tgt := 35) sD11_works_26 (by decide) (fun zc26 => ?_) (fun zc26 => ?_)
    ·
      refine sd_aload_n sD11_works_35 rfl ?_
      refine sd_getfr sD11_works_36 sF11_7 sGM15_0 ?_
      refine sd_bipush sD11_works_39 rfl (by decide) ?_
      refine sd_dup2 sD11_works_41 ?_
      refine sd_ialdx (a := 8) (v := x 8 + ((zi4 : Int) - sd_cnt (sd_sW x g) zi4)) hx sD11_works_42 sAM0 (by omega) (by unfold sd_rc; rw [if_pos rfl]) ?_
      refine sd_iconst sD11_works_43 (by decide) ?_
      refine sd_iadd (z := (x 8 + ((zi4 : Int) - sd_cnt (sd_sW x g) zi4) + 1)) sD11_works_44 (by omega) (by omega) ?_
      refine sd_iastx (a := 8) sd_sokM hx sD11_works_45 sAM0 (by omega) (fun m hx em45 => ?_)
      refine sd_iconst sD11_works_46 (by decide) ?_
      refine sd_istore_n (ls' := [some (.inr 15), some (.inl (sd_cnt (sd_sW x g) zi4)), some (.inl (zi4 : Int)), some (.inl 0)]) sD11_works_47 (by decide) rfl ?_
      refine sd_forX (6) (fun zi48 : Nat => [some (.inr 15), some (.inl (sd_cnt (sd_sW x g) zi4)), some (.inl (zi4 : Int)), some (.inl (zi48 : Int))]) (fun zi48 : Nat => sd_rc x (sd_pt (sd_wr x g zi4) (sd_tk x zi4 (sd_wr x g zi4)) zi48) ((x 8 + ((zi4 : Int) - sd_cnt (sd_sW x g) zi4)) + 1)) (fun (zi48 : Nat) (m : sd_M) => True) (by rfl) (fun zi48 hizi48 m hx hpzi48 ihzi48 => ?_) (fun m hx hpzi48 => ?_) (by exact sd_nseq (fun j => (sd_rc_8 j).trans (sd_rc_cong (fun p hp => by unfold sd_pt; rw [if_neg (by omega)]) j)) hx) (by trivial)
      ·
        have ern := sd_wr_rr h5 hrr zi4 (by omega) zi48 (by omega)
        have end_ := h5.2 (6 * zi4 + zi48) (by omega)
        refine sd_iload_n sD11_works_48 rfl ?_
        refine sd_bipush sD11_works_49 rfl (by decide) ?_
        refine sd_icmp_ge (tgt := 88) sD11_works_51 (by decide) (fun zc51 => (by exfalso; omega)) (fun zc51 => ?_)
        refine sd_aload_n sD11_works_54 rfl ?_
        refine sd_getfr sD11_works_55 sF11_7 sGM15_0 ?_
        refine sd_sipush sD11_works_58 rfl (by decide) ?_
        refine sd_iload_n sD11_works_61 rfl ?_
        refine sd_iadd (z := (386 + (zi48 : Int))) sD11_works_62 (by omega) (by omega) ?_
        refine sd_dup2 sD11_works_63 ?_
        refine sd_ialdx (a := (386 + zi48)) (v := (sd_wr x g zi4) zi48) hx sD11_works_64 sAM0 (by omega) (by rw [sd_rc_at (by omega)]; unfold sd_pt; rw [if_neg (by omega)]) ?_
        refine sd_aload_n sD11_works_65 rfl ?_
        refine sd_getfr sD11_works_66 sF11_7 sGM15_0 ?_
        refine sd_sipush sD11_works_69 rfl (by decide) ?_
        refine sd_bipush sD11_works_72 rfl (by decide) ?_
        refine sd_iload_n sD11_works_74 rfl ?_
        refine sd_imul (z := (6 * (zi4 : Int))) sD11_works_75 (by omega) (by omega) ?_
        refine sd_iadd (z := (392 + (6 * (zi4 : Int)))) sD11_works_76 (by omega) (by omega) ?_
        refine sd_iload_n sD11_works_77 rfl ?_
        refine sd_iadd (z := ((392 + (6 * (zi4 : Int))) + (zi48 : Int))) sD11_works_78 (by omega) (by omega) ?_
        refine sd_ialdx (a := (392 + (6 * zi4 + zi48))) (v := x (392 + (6 * zi4 + zi48))) hx sD11_works_79 sAM0 (by omega) (sd_rc_o (by omega) (by omega)) ?_
        refine sd_isub (z := ((sd_wr x g zi4) zi48 - (x (392 + (6 * zi4 + zi48))))) sD11_works_80 (by omega) (by omega) ?_
        refine sd_iastx (a := (386 + zi48)) sd_sokM hx sD11_works_81 sAM0 (by omega) (fun m hx em81 => ?_)
        refine sd_iinc (y := ((zi48 : Int) + 1)) (ls' := [some (.inr 15), some (.inl (sd_cnt (sd_sW x g) zi4)), some (.inl (zi4 : Int)), some (.inl ((zi48 : Int) + 1))]) sD11_works_82 rfl (by omega) (by omega) (by decide) rfl ?_
        refine sd_goto (tgt := 48) sD11_works_85 (by decide) ?_
        exact sd_eqw (ls' := [some (.inr 15), some (.inl (sd_cnt (sd_sW x g) zi4)), some (.inl (zi4 : Int)), some (.inl ((zi48 + 1 : Nat) : Int))]) (ihzi48 m (by exact sd_nseq (sd_rc_st (by omega) (by rw [sd_pt_s.1]; rfl) (fun p hp hn => sd_pt_s.2 p hn)) hx) (by trivial)) (sd_cg rfl (sd_cg rfl (sd_cg rfl (sd_cg (sd_ce (show (((zi48 : Int) + 1) : Int) = ((zi48 + 1 : Nat) : Int) from by omega)) rfl)))) rfl
      ·
        show sd_Wp sd_SM 1 sY11_works 48 [some (.inr 15), some (.inl (sd_cnt (sd_sW x g) zi4)), some (.inl (zi4 : Int)), some (.inl (6 : Int))] [] m _
        refine sd_iload_n sD11_works_48 rfl ?_
        refine sd_bipush sD11_works_49 rfl (by decide) ?_
        refine sd_icmp_ge (tgt := 88) sD11_works_51 (by decide) (fun zc51 => ?_) (fun zc51 => (by exfalso; omega))
        refine sd_iinc (y := ((zi4 : Int) + 1)) (ls' := [some (.inr 15), some (.inl (sd_cnt (sd_sW x g) zi4)), some (.inl ((zi4 : Int) + 1)), some (.inl (6 : Int))]) sD11_works_88 rfl (by omega) (by omega) (by decide) rfl ?_
        refine sd_goto (tgt := 4) sD11_works_91 (by decide) ?_
        refine sd_less (ls' := [some (.inr 15), some (.inl (sd_cnt (sd_sW x g) zi4)), some (.inl ((zi4 : Int) + 1)), none]) ?_ rfl (by intro zi zv zh; rcases zi with _ | _ | _ | _ | zi <;> first | exact zh | cases zh)
        exact sd_eqw (ls' := [some (.inr 15), some (.inl (sd_cnt (sd_sW x g) (zi4 + 1))), some (.inl ((zi4 + 1 : Nat) : Int)), none]) (ihzi4 m (by first | (refine sd_nseq (fun j => ?_) hx; simp only [sd_wr, sd_cnt]; rw [if_neg (by omega), if_pos (show sd_sW x g zi4 by show ¬ sd_lk x zi4 (sd_wr x g zi4) = -1; omega)]; congr 1; omega) | (refine sd_nseq (fun j => ?_) hx; simp only [sd_wr, sd_cnt]; rw [if_pos (show sd_lk x zi4 (sd_wr x g zi4) = -1 by omega), if_neg (show ¬ sd_sW x g zi4 from fun q => q (by omega))]; rw [show x 8 + (((zi4 + 1 : Nat) : Int) - (sd_cnt (sd_sW x g) zi4 + 0)) = x 8 + ((zi4 : Int) - sd_cnt (sd_sW x g) zi4) + 1 from by omega]; exact sd_rc_cong (fun p hp => by unfold sd_pt; rw [if_pos hp]) j)) (by trivial)) (sd_cg rfl (sd_cg (sd_ce (show (sd_cnt (sd_sW x g) zi4 : Int) = sd_cnt (sd_sW x g) (zi4 + 1) from by simp only [sd_cnt]; first | (rw [if_pos (show sd_sW x g zi4 by show ¬ sd_lk x zi4 (sd_wr x g zi4) = -1; omega)]; done) | (rw [if_neg (show ¬ sd_sW x g zi4 from fun q => q (by omega))]; omega))) (sd_cg (sd_ce (show (((zi4 : Int) + 1) : Int) = ((zi4 + 1 : Nat) : Int) from by omega)) (sd_cg rfl rfl)))) rfl
    ·
      refine sd_iinc (y := (sd_cnt (sd_sW x g) zi4 + 1)) (ls' := [some (.inr 15), some (.inl (sd_cnt (sd_sW x g) zi4 + 1)), some (.inl (zi4 : Int)), none]) sD11_works_29 rfl (by omega) (by omega) (by decide) rfl ?_
      refine sd_goto (tgt := 88) sD11_works_32 (by decide) ?_
      refine sd_iinc (y := ((zi4 : Int) + 1)) (ls' := [some (.inr 15), some (.inl (sd_cnt (sd_sW x g) zi4 + 1)), some (.inl ((zi4 : Int) + 1)), none]) sD11_works_88 rfl (by omega) (by omega) (by decide) rfl ?_
      refine sd_goto (tgt := 4) sD11_works_91 (by decide) ?_
      exact sd_eqw (ls' := [some (.inr 15), some (.inl (sd_cnt (sd_sW x g) (zi4 + 1))), some (.inl ((zi4 + 1 : Nat) : Int)), none]) (ihzi4 m (by first | (refine sd_nseq (fun j => ?_) hx; simp only [sd_wr, sd_cnt]; rw [if_neg (by omega), if_pos (show sd_sW x g zi4 by show ¬ sd_lk x zi4 (sd_wr x g zi4) = -1; omega)]; congr 1; omega) | (refine sd_nseq (fun j => ?_) hx; simp only [sd_wr, sd_cnt]; rw [if_pos (show sd_lk x zi4 (sd_wr x g zi4) = -1 by omega), if_neg (show ¬ sd_sW x g zi4 from fun q => q (by omega))]; rw [show x 8 + (((zi4 + 1 : Nat) : Int) - (sd_cnt (sd_sW x g) zi4 + 0)) = x 8 + ((zi4 : Int) - sd_cnt (sd_sW x g) zi4) + 1 from by omega]; exact sd_rc_cong (fun p hp => by unfold sd_pt; rw [if_pos hp]) j)) (by trivial)) (sd_cg rfl (sd_cg (sd_ce (show ((sd_cnt (sd_sW x g) zi4 + 1) : Int) = sd_cnt (sd_sW x g) (zi4 + 1) from by simp only [sd_cnt]; first | (rw [if_pos (show sd_sW x g zi4 by show ¬ sd_lk x zi4 (sd_wr x g zi4) = -1; omega)]; done) | (rw [if_neg (show ¬ sd_sW x g zi4 from fun q => q (by omega))]; omega))) (sd_cg (sd_ce (show (((zi4 : Int) + 1) : Int) = ((zi4 + 1 : Nat) : Int) from by omega)) (sd_cg rfl rfl)))) rfl
  ·
    show sd_Wp sd_SM 1 sY11_works 4 [some (.inr 15), some (.inl (sd_cnt (sd_sW x g) ((x 4).toNat))), some (.inl ((((x 4).toNat) : Nat) : Int)), none] [] m _
    refine sd_iload_n sD11_works_4 rfl ?_
    refine sd_aload_n sD11_works_5 rfl ?_
    refine sd_getfr sD11_works_6 sF11_7 sGM15_0 ?_
    refine sd_iconst sD11_works_9 (by decide) ?_
    refine sd_ialdx (a := 4) (v := x 4) hx sD11_works_10 sAM0 (by omega) (sd_rc_o (by omega) (by omega)) ?_
    refine sd_icmp_ge (tgt := 94) sD11_works_11 (by decide) (fun zc11 => ?_) (fun zc11 => (by exfalso; omega))
    refine sd_iload_n sD11_works_94 rfl ?_
    refine sd_ireturn sD11_works_95 rfl (fun hr hm => ?_)
    exact ⟨rfl, sd_nseq (fun j => by rw [show ((x 4).toNat : Int) = x 4 from by omega]) hx⟩
