set_option maxRecDepth 100000 in
set_option maxHeartbeats 4000000 in
theorem pM_least (W : Int) (x m : sd_M) (hx : sd_ns x m) (h1 : sd_I1 x) (h2 : sd_I2 x) (h3 : sd_I3 x) (h4 : sd_I4 x) (h5 : sd_I5 x) (h6 : sd_I6 x) (hR : sd_IR x) (hI : sd_IT x) (hL : sd_LT x) (hF : ∀ k : Nat, k < 7 → 0 ≤ x (4101 + k) ∧ x (4101 + k) ≤ 1000000) : sd_Ct sd_SM 8 sY11_least [.inr 15, .inl W] m (sd_Qp (sp_least x W)) := by
  refine sd_ct rfl (Nat.le_of_ble_eq_true rfl) (fun hok hm => ?_)
  obtain ⟨⟨i0, j0⟩, ⟨i1, j1⟩, ⟨i2, j2⟩, ⟨i3, j3⟩, ⟨i4, j4⟩, ⟨i5, j5⟩, ⟨i6, j6⟩, ⟨i7, j7⟩, ⟨i8, j8⟩⟩ := id h1
  have r_W : sd_R W := hok (.inl W) (by simp)
  show sd_Wp sd_SM 8 sY11_least 0 [some (.inr 15), some (.inl W), none, none, none, none] [] m _
  refine sd_iload_n sD11_least_0 rfl ?_
  refine sd_iconst sD11_least_1 (by decide) ?_
  refine sd_iconst sD11_least_2 (by decide) ?_
  refine sd_aload_n sD11_least_3 rfl ?_
  refine sd_getfr sD11_least_4 sF11_7 sGM15_0 ?_
  refine sd_iconst sD11_least_7 (by decide) ?_
  refine sd_ialdx (a := 4) (v := x 4) hx sD11_least_8 sAM0 (by omega) rfl ?_
  refine sd_ishl sD11_least_9 ?_
  have e1 : 1 ≤ sd_shl 1 (x 4) ∧ sd_shl 1 (x 4) ≤ 64 := by have z1 := sd_p4 h1; have z2 := Nat.two_pow_pos (x 4).toNat; omega
  refine sd_iconst sD11_least_10 (by decide) ?_
  refine sd_isub (z := (sd_shl 1 (x 4) - 1)) sD11_least_11 (by omega) (by omega) ?_
  refine sd_callSp (as := [.inl W, .inl 1, .inl (sd_shl 1 (x 4) - 1)]) (st := []) (v := .inl (sd_b (1 ≤ W ∧ W ≤ (sd_shl 1 (x 4) - 1)))) sD11_least_12 sM11_56 rfl rfl (by decide) (Nat.le_of_ble_eq_true rfl) (cM_in W 1 (sd_shl 1 (x 4) - 1) m) (fun ho12 => ?_)
  refine sd_bif_ne (tgt := 24) sD11_least_15 (by decide) (fun zc15 => ?_) (fun zc15 => ?_)
  ·
    refine sd_aload_n sD11_least_24 rfl ?_
    refine sd_callV (as := []) (st := []) sD11_least_25 sM11_133 rfl rfl sOM15 rfl (by decide) (Nat.le_of_ble_eq_true rfl) (cM_makers _ m hx h1 h2 h4 h6 hR hI hL) (fun r m hq ho25 hm => ?_)
    obtain ⟨rfl, hx⟩ := hq
    have zm25 := sd_mks_rng h1
    show sd_Wp sd_SM 8 sY11_least 28 [some (.inr 15), some (.inl W), none, none, none, none] [.inl (sd_mks x)] m _
    refine sd_istore_n (ls' := [some (.inr 15), some (.inl W), some (.inl (sd_mks x)), none, none, none]) sD11_least_28 (by decide) rfl ?_
    refine sd_iconst sD11_least_29 (by decide) ?_
    refine sd_istore_n (ls' := [some (.inr 15), some (.inl W), some (.inl (sd_mks x)), some (.inl (-1)), none, none]) sD11_least_30 (by decide) rfl ?_
    refine sd_iconst sD11_least_31 (by decide) ?_
    refine sd_istore (ls' := [some (.inr 15), some (.inl W), some (.inl (sd_mks x)), some (.inl (-1)), some (.inl 0), none]) sD11_least_32 (by decide) rfl ?_
    refine sd_iconst sD11_least_34 (by decide) ?_
    refine sd_istore (ls' := [some (.inr 15), some (.inl W), some (.inl (sd_mks x)), some (.inl (-1)), some (.inl 0), some (.inl 1)]) sD11_least_35 (by decide) rfl ?_
    refine sd_forX (sd_sqN (sd_mks x)) (fun zi37 : Nat => [some (.inr 15), some (.inl W), some (.inl (sd_mks x)), some (.inl (sd_lss x W zi37)), some (.inl (sd_sq (sd_mks x) zi37)), some (.inl (sd_b ((zi37 : Nat) < sd_sqN (sd_mks x))))]) (fun zi37 : Nat => x) (fun (zi37 : Nat) (m : sd_M) => True) (by rw [sd_b1 (sd_sqN_pos _)]; rfl) (fun zi37 hizi37 m hx hpzi37 ihzi37 => ?_) (fun m hx hpzi37 => ?_) (by exact hx) (by trivial)
    ·
      have e5 := sd_sq_rng (S := sd_mks x) (by omega) zi37
      have e6 := sd_lss_rng h1 W zi37
      have e7 := sd_sqN_le (sd_mks x)
      refine sd_iload sD11_least_37 rfl ?_
      refine sd_bif_eq (tgt := 106) sD11_least_39 (by decide) (fun zc39 => (by exfalso; omega)) (fun zc39 => ?_)
      refine sd_iload_n sD11_least_42 rfl ?_
      refine sd_if_lt (tgt := 58) sD11_least_43 (by decide) (fun zc43 => ?_) (fun zc43 => ?_)
      ·
        refine sd_aload_n sD11_least_58 rfl ?_
        refine sd_iload_n sD11_least_59 rfl ?_
        refine sd_iload sD11_least_60 rfl ?_
        refine sd_iconst sD11_least_62 (by decide) ?_
        refine sd_ixor sD11_least_63 ?_
        refine sd_iand sD11_least_64 ?_
        refine sd_callV (as := [.inl (sd_and (sd_mks x) (sd_xor (sd_sq (sd_mks x) zi37) (-1)))]) (st := []) sD11_least_65 sM11_137 rfl rfl sOM15 rfl (by decide) (Nat.le_of_ble_eq_true rfl) (cM_goesOn (sd_and (sd_mks x) (sd_xor (sd_sq (sd_mks x) zi37) (-1))) _ m hx h1 h2 h5 (sd_mks_A h1 h3 h2 (sd_andn_sub _ _)) _ rfl (sd_mka_kr h1 h2 _)) (fun r m hq ho65 hm => ?_)
        obtain ⟨rfl, hx, hsl65⟩ := hq
        show sd_Wp sd_SM 8 sY11_least 68 [some (.inr 15), some (.inl W), some (.inl (sd_mks x)), some (.inl (sd_lss x W zi37)), some (.inl (sd_sq (sd_mks x) zi37)), some (.inl (sd_b ((zi37 : Nat) < sd_sqN (sd_mks x))))] [] m _
        refine sd_aload_n sD11_least_68 rfl ?_
        refine sd_iload_n sD11_least_69 rfl ?_
        refine sd_callVp (as := [.inl W]) (st := []) (v := .inl (sd_b (sd_all x (sd_mka x (sd_and (sd_mks x) (sd_xor (sd_sq (sd_mks x) zi37) (-1)))) W))) sD11_least_70 sM11_144 sOM15 rfl rfl rfl (by decide) (Nat.le_of_ble_eq_true rfl) (cM_doStand W _ _ m hx h1 hsl65) (fun ho70 => ?_)
        refine sd_bif_eq (tgt := 81) sD11_least_73 (by decide) (fun zc73 => ?_) (fun zc73 => ?_)
        ·
          refine sd_iload_n sD11_least_81 rfl ?_
          refine sd_istore_n (ls' := [some (.inr 15), some (.inl W), some (.inl (sd_mks x)), some (.inl (sd_lss x W zi37)), some (.inl (sd_sq (sd_mks x) zi37)), some (.inl (sd_b ((zi37 : Nat) < sd_sqN (sd_mks x))))]) sD11_least_82 (by decide) rfl ?_
          refine sd_iload sD11_least_83 rfl ?_
          refine sd_iload_n sD11_least_85 rfl ?_
          refine sd_isub (z := (sd_sq (sd_mks x) zi37 - (sd_mks x))) sD11_least_86 (by omega) (by omega) ?_
          refine sd_iload_n sD11_least_87 rfl ?_
          refine sd_iand sD11_least_88 ?_
          refine sd_istore (ls' := [some (.inr 15), some (.inl W), some (.inl (sd_mks x)), some (.inl (sd_lss x W zi37)), some (.inl (sd_and (sd_sq (sd_mks x) zi37 - (sd_mks x)) (sd_mks x))), some (.inl (sd_b ((zi37 : Nat) < sd_sqN (sd_mks x))))]) sD11_least_89 (by decide) rfl ?_
          refine sd_iload sD11_least_91 rfl ?_
          refine sd_cut (J := 101) (ls := [some (.inr 15), some (.inl W), some (.inl (sd_mks x)), some (.inl (sd_lss x W zi37)), some (.inl (sd_and (sd_sq (sd_mks x) zi37 - (sd_mks x)) (sd_mks x))), some (.inl (sd_b ((zi37 : Nat) < sd_sqN (sd_mks x))))]) (st := []) (fun zv => zv = (sd_b (¬ sd_and (sd_sq (sd_mks x) zi37 - (sd_mks x)) (sd_mks x) = 0))) (fun zv hzv => ?_) (fun K93 => ?_)
          ·
            subst hzv
            refine sd_istore (ls' := [some (.inr 15), some (.inl W), some (.inl (sd_mks x)), some (.inl (sd_lss x W zi37)), some (.inl (sd_and (sd_sq (sd_mks x) zi37 - (sd_mks x)) (sd_mks x))), some (.inl (sd_b (¬ sd_and (sd_sq (sd_mks x) zi37 - (sd_mks x)) (sd_mks x) = 0)))]) sD11_least_101 (by decide) rfl ?_
            refine sd_goto (tgt := 37) sD11_least_103 (by decide) ?_
            exact sd_eqw (ls' := [some (.inr 15), some (.inl W), some (.inl (sd_mks x)), some (.inl (sd_lss x W (zi37 + 1))), some (.inl (sd_sq (sd_mks x) (zi37 + 1))), some (.inl (sd_b ((zi37 + 1 : Nat) < sd_sqN (sd_mks x))))]) (ihzi37 m (by exact hx) (by trivial)) (sd_cg rfl (sd_cg rfl (sd_cg rfl (sd_cg (sd_ce (show (sd_lss x W zi37 : Int) = sd_lss x W (zi37 + 1) from by simp only [sd_lss]; unfold sd_lsS; first | (rw [if_pos ⟨by omega, by assumption⟩]; done) | (rw [if_neg (fun q => by have q1 := q.1; have q2 := q.2; first | contradiction | omega)]; done))) (sd_cg (sd_ce (show (sd_and (sd_sq (sd_mks x) zi37 - (sd_mks x)) (sd_mks x) : Int) = sd_sq (sd_mks x) (zi37 + 1) from by rfl)) (sd_cg (sd_ce (show (sd_b (¬ sd_and (sd_sq (sd_mks x) zi37 - (sd_mks x)) (sd_mks x) = 0) : Int) = sd_b ((zi37 + 1 : Nat) < sd_sqN (sd_mks x)) from by exact sd_bc (sd_sq_0 (by omega) zi37 hizi37))) rfl)))))) rfl
          ·
            refine sd_if_eq (tgt := 100) sD11_least_93 (by decide) (fun zc93 => ?_) (fun zc93 => ?_)
            ·
              refine sd_iconst sD11_least_100 (by decide) ?_
              exact K93 _ (by exact (sd_b0 (by omega)).symm)
            ·
              refine sd_iconst sD11_least_96 (by decide) ?_
              refine sd_goto (tgt := 101) sD11_least_97 (by decide) ?_
              exact K93 _ (by exact (sd_b1 (by omega)).symm)
        ·
          refine sd_iload sD11_least_76 rfl ?_
          refine sd_goto (tgt := 82) sD11_least_78 (by decide) ?_
          refine sd_istore_n (ls' := [some (.inr 15), some (.inl W), some (.inl (sd_mks x)), some (.inl (sd_sq (sd_mks x) zi37)), some (.inl (sd_sq (sd_mks x) zi37)), some (.inl (sd_b ((zi37 : Nat) < sd_sqN (sd_mks x))))]) sD11_least_82 (by decide) rfl ?_
          refine sd_iload sD11_least_83 rfl ?_
          refine sd_iload_n sD11_least_85 rfl ?_
          refine sd_isub (z := (sd_sq (sd_mks x) zi37 - (sd_mks x))) sD11_least_86 (by omega) (by omega) ?_
          refine sd_iload_n sD11_least_87 rfl ?_
          refine sd_iand sD11_least_88 ?_
          refine sd_istore (ls' := [some (.inr 15), some (.inl W), some (.inl (sd_mks x)), some (.inl (sd_sq (sd_mks x) zi37)), some (.inl (sd_and (sd_sq (sd_mks x) zi37 - (sd_mks x)) (sd_mks x))), some (.inl (sd_b ((zi37 : Nat) < sd_sqN (sd_mks x))))]) sD11_least_89 (by decide) rfl ?_
          refine sd_iload sD11_least_91 rfl ?_
          refine sd_cut (J := 101) (ls := [some (.inr 15), some (.inl W), some (.inl (sd_mks x)), some (.inl (sd_sq (sd_mks x) zi37)), some (.inl (sd_and (sd_sq (sd_mks x) zi37 - (sd_mks x)) (sd_mks x))), some (.inl (sd_b ((zi37 : Nat) < sd_sqN (sd_mks x))))]) (st := []) (fun zv => zv = (sd_b (¬ sd_and (sd_sq (sd_mks x) zi37 - (sd_mks x)) (sd_mks x) = 0))) (fun zv hzv => ?_) (fun K93 => ?_)
          ·
            subst hzv
            refine sd_istore (ls' := [some (.inr 15), some (.inl W), some (.inl (sd_mks x)), some (.inl (sd_sq (sd_mks x) zi37)), some (.inl (sd_and (sd_sq (sd_mks x) zi37 - (sd_mks x)) (sd_mks x))), some (.inl (sd_b (¬ sd_and (sd_sq (sd_mks x) zi37 - (sd_mks x)) (sd_mks x) = 0)))]) sD11_least_101 (by decide) rfl ?_
            refine sd_goto (tgt := 37) sD11_least_103 (by decide) ?_
            exact sd_eqw (ls' := [some (.inr 15), some (.inl W), some (.inl (sd_mks x)), some (.inl (sd_lss x W (zi37 + 1))), some (.inl (sd_sq (sd_mks x) (zi37 + 1))), some (.inl (sd_b ((zi37 + 1 : Nat) < sd_sqN (sd_mks x))))]) (ihzi37 m (by exact hx) (by trivial)) (sd_cg rfl (sd_cg rfl (sd_cg rfl (sd_cg (sd_ce (show (sd_sq (sd_mks x) zi37 : Int) = sd_lss x W (zi37 + 1) from by simp only [sd_lss]; unfold sd_lsS; first | (rw [if_pos ⟨by omega, by assumption⟩]; done) | (rw [if_neg (fun q => by have q1 := q.1; have q2 := q.2; first | contradiction | omega)]; done))) (sd_cg (sd_ce (show (sd_and (sd_sq (sd_mks x) zi37 - (sd_mks x)) (sd_mks x) : Int) = sd_sq (sd_mks x) (zi37 + 1) from by rfl)) (sd_cg (sd_ce (show (sd_b (¬ sd_and (sd_sq (sd_mks x) zi37 - (sd_mks x)) (sd_mks x) = 0) : Int) = sd_b ((zi37 + 1 : Nat) < sd_sqN (sd_mks x)) from by exact sd_bc (sd_sq_0 (by omega) zi37 hizi37))) rfl)))))) rfl
          ·
            refine sd_if_eq (tgt := 100) sD11_least_93 (by decide) (fun zc93 => ?_) (fun zc93 => ?_)
            ·
              refine sd_iconst sD11_least_100 (by decide) ?_
              exact K93 _ (by exact (sd_b0 (by omega)).symm)
            ·
              refine sd_iconst sD11_least_96 (by decide) ?_
              refine sd_goto (tgt := 101) sD11_least_97 (by decide) ?_
              exact K93 _ (by exact (sd_b1 (by omega)).symm)
      ·
        refine sd_iload sD11_least_46 rfl ?_
        refine sd_callSp (as := [.inl (sd_sq (sd_mks x) zi37)]) (st := []) (v := .inl (sd_ones (sd_sq (sd_mks x) zi37))) sD11_least_48 sM11_141 rfl rfl (by decide) (Nat.le_of_ble_eq_true rfl) (cM_ones (sd_sq (sd_mks x) zi37) _ m hx  ) (fun ho48 => ?_)
        refine sd_iload_n sD11_least_51 rfl ?_
        refine sd_callSp (as := [.inl (sd_lss x W zi37)]) (st := [.inl (sd_ones (sd_sq (sd_mks x) zi37))]) (v := .inl (sd_ones (sd_lss x W zi37))) sD11_least_52 sM11_141 rfl rfl (by decide) (Nat.le_of_ble_eq_true rfl) (cM_ones (sd_lss x W zi37) _ m hx  ) (fun ho52 => ?_)
        refine sd_icmp_ge (tgt := 83) sD11_least_55 (by decide) (fun zc55 => ?_) (fun zc55 => ?_)
        ·
          refine sd_iload sD11_least_83 rfl ?_
          refine sd_iload_n sD11_least_85 rfl ?_
          refine sd_isub (z := (sd_sq (sd_mks x) zi37 - (sd_mks x))) sD11_least_86 (by omega) (by omega) ?_
          refine sd_iload_n sD11_least_87 rfl ?_
          refine sd_iand sD11_least_88 ?_
          refine sd_istore (ls' := [some (.inr 15), some (.inl W), some (.inl (sd_mks x)), some (.inl (sd_lss x W zi37)), some (.inl (sd_and (sd_sq (sd_mks x) zi37 - (sd_mks x)) (sd_mks x))), some (.inl (sd_b ((zi37 : Nat) < sd_sqN (sd_mks x))))]) sD11_least_89 (by decide) rfl ?_
          refine sd_iload sD11_least_91 rfl ?_
          refine sd_cut (J := 101) (ls := [some (.inr 15), some (.inl W), some (.inl (sd_mks x)), some (.inl (sd_lss x W zi37)), some (.inl (sd_and (sd_sq (sd_mks x) zi37 - (sd_mks x)) (sd_mks x))), some (.inl (sd_b ((zi37 : Nat) < sd_sqN (sd_mks x))))]) (st := []) (fun zv => zv = (sd_b (¬ sd_and (sd_sq (sd_mks x) zi37 - (sd_mks x)) (sd_mks x) = 0))) (fun zv hzv => ?_) (fun K93 => ?_)
          ·
            subst hzv
            refine sd_istore (ls' := [some (.inr 15), some (.inl W), some (.inl (sd_mks x)), some (.inl (sd_lss x W zi37)), some (.inl (sd_and (sd_sq (sd_mks x) zi37 - (sd_mks x)) (sd_mks x))), some (.inl (sd_b (¬ sd_and (sd_sq (sd_mks x) zi37 - (sd_mks x)) (sd_mks x) = 0)))]) sD11_least_101 (by decide) rfl ?_
            refine sd_goto (tgt := 37) sD11_least_103 (by decide) ?_
            exact sd_eqw (ls' := [some (.inr 15), some (.inl W), some (.inl (sd_mks x)), some (.inl (sd_lss x W (zi37 + 1))), some (.inl (sd_sq (sd_mks x) (zi37 + 1))), some (.inl (sd_b ((zi37 + 1 : Nat) < sd_sqN (sd_mks x))))]) (ihzi37 m (by exact hx) (by trivial)) (sd_cg rfl (sd_cg rfl (sd_cg rfl (sd_cg (sd_ce (show (sd_lss x W zi37 : Int) = sd_lss x W (zi37 + 1) from by simp only [sd_lss]; unfold sd_lsS; first | (rw [if_pos ⟨by omega, by assumption⟩]; done) | (rw [if_neg (fun q => by have q1 := q.1; have q2 := q.2; first | contradiction | omega)]; done))) (sd_cg (sd_ce (show (sd_and (sd_sq (sd_mks x) zi37 - (sd_mks x)) (sd_mks x) : Int) = sd_sq (sd_mks x) (zi37 + 1) from by rfl)) (sd_cg (sd_ce (show (sd_b (¬ sd_and (sd_sq (sd_mks x) zi37 - (sd_mks x)) (sd_mks x) = 0) : Int) = sd_b ((zi37 + 1 : Nat) < sd_sqN (sd_mks x)) from by exact sd_bc (sd_sq_0 (by omega) zi37 hizi37))) rfl)))))) rfl
          ·
            refine sd_if_eq (tgt := 100) sD11_least_93 (by decide) (fun zc93 => ?_) (fun zc93 => ?_)
            ·
              refine sd_iconst sD11_least_100 (by decide) ?_
              exact K93 _ (by exact (sd_b0 (by omega)).symm)
            ·
              refine sd_iconst sD11_least_96 (by decide) ?_
              refine sd_goto (tgt := 101) sD11_least_97 (by decide) ?_
              exact K93 _ (by exact (sd_b1 (by omega)).symm)
        ·
          refine sd_aload_n sD11_least_58 rfl ?_
          refine sd_iload_n sD11_least_59 rfl ?_
          refine sd_iload sD11_least_60 rfl ?_
          refine sd_iconst sD11_least_62 (by decide) ?_
          refine sd_ixor sD11_least_63 ?_
          refine sd_iand sD11_least_64 ?_
          refine sd_callV (as := [.inl (sd_and (sd_mks x) (sd_xor (sd_sq (sd_mks x) zi37) (-1)))]) (st := []) sD11_least_65 sM11_137 rfl rfl sOM15 rfl (by decide) (Nat.le_of_ble_eq_true rfl) (cM_goesOn (sd_and (sd_mks x) (sd_xor (sd_sq (sd_mks x) zi37) (-1))) _ m hx h1 h2 h5 (sd_mks_A h1 h3 h2 (sd_andn_sub _ _)) _ rfl (sd_mka_kr h1 h2 _)) (fun r m hq ho65 hm => ?_)
          obtain ⟨rfl, hx, hsl65⟩ := hq
          show sd_Wp sd_SM 8 sY11_least 68 [some (.inr 15), some (.inl W), some (.inl (sd_mks x)), some (.inl (sd_lss x W zi37)), some (.inl (sd_sq (sd_mks x) zi37)), some (.inl (sd_b ((zi37 : Nat) < sd_sqN (sd_mks x))))] [] m _
          refine sd_aload_n sD11_least_68 rfl ?_
          refine sd_iload_n sD11_least_69 rfl ?_
          refine sd_callVp (as := [.inl W]) (st := []) (v := .inl (sd_b (sd_all x (sd_mka x (sd_and (sd_mks x) (sd_xor (sd_sq (sd_mks x) zi37) (-1)))) W))) sD11_least_70 sM11_144 sOM15 rfl rfl rfl (by decide) (Nat.le_of_ble_eq_true rfl) (cM_doStand W _ _ m hx h1 hsl65) (fun ho70 => ?_)
          refine sd_bif_eq (tgt := 81) sD11_least_73 (by decide) (fun zc73 => ?_) (fun zc73 => ?_)
          ·
            refine sd_iload_n sD11_least_81 rfl ?_
            refine sd_istore_n (ls' := [some (.inr 15), some (.inl W), some (.inl (sd_mks x)), some (.inl (sd_lss x W zi37)), some (.inl (sd_sq (sd_mks x) zi37)), some (.inl (sd_b ((zi37 : Nat) < sd_sqN (sd_mks x))))]) sD11_least_82 (by decide) rfl ?_
            refine sd_iload sD11_least_83 rfl ?_
            refine sd_iload_n sD11_least_85 rfl ?_
            refine sd_isub (z := (sd_sq (sd_mks x) zi37 - (sd_mks x))) sD11_least_86 (by omega) (by omega) ?_
            refine sd_iload_n sD11_least_87 rfl ?_
            refine sd_iand sD11_least_88 ?_
            refine sd_istore (ls' := [some (.inr 15), some (.inl W), some (.inl (sd_mks x)), some (.inl (sd_lss x W zi37)), some (.inl (sd_and (sd_sq (sd_mks x) zi37 - (sd_mks x)) (sd_mks x))), some (.inl (sd_b ((zi37 : Nat) < sd_sqN (sd_mks x))))]) sD11_least_89 (by decide) rfl ?_
            refine sd_iload sD11_least_91 rfl ?_
            refine sd_cut (J := 101) (ls := [some (.inr 15), some (.inl W), some (.inl (sd_mks x)), some (.inl (sd_lss x W zi37)), some (.inl (sd_and (sd_sq (sd_mks x) zi37 - (sd_mks x)) (sd_mks x))), some (.inl (sd_b ((zi37 : Nat) < sd_sqN (sd_mks x))))]) (st := []) (fun zv => zv = (sd_b (¬ sd_and (sd_sq (sd_mks x) zi37 - (sd_mks x)) (sd_mks x) = 0))) (fun zv hzv => ?_) (fun K93 => ?_)
            ·
              subst hzv
              refine sd_istore (ls' := [some (.inr 15), some (.inl W), some (.inl (sd_mks x)), some (.inl (sd_lss x W zi37)), some (.inl (sd_and (sd_sq (sd_mks x) zi37 - (sd_mks x)) (sd_mks x))), some (.inl (sd_b (¬ sd_and (sd_sq (sd_mks x) zi37 - (sd_mks x)) (sd_mks x) = 0)))]) sD11_least_101 (by decide) rfl ?_
              refine sd_goto (tgt := 37) sD11_least_103 (by decide) ?_
              exact sd_eqw (ls' := [some (.inr 15), some (.inl W), some (.inl (sd_mks x)), some (.inl (sd_lss x W (zi37 + 1))), some (.inl (sd_sq (sd_mks x) (zi37 + 1))), some (.inl (sd_b ((zi37 + 1 : Nat) < sd_sqN (sd_mks x))))]) (ihzi37 m (by exact hx) (by trivial)) (sd_cg rfl (sd_cg rfl (sd_cg rfl (sd_cg (sd_ce (show (sd_lss x W zi37 : Int) = sd_lss x W (zi37 + 1) from by simp only [sd_lss]; unfold sd_lsS; first | (rw [if_pos ⟨by omega, by assumption⟩]; done) | (rw [if_neg (fun q => by have q1 := q.1; have q2 := q.2; first | contradiction | omega)]; done))) (sd_cg (sd_ce (show (sd_and (sd_sq (sd_mks x) zi37 - (sd_mks x)) (sd_mks x) : Int) = sd_sq (sd_mks x) (zi37 + 1) from by rfl)) (sd_cg (sd_ce (show (sd_b (¬ sd_and (sd_sq (sd_mks x) zi37 - (sd_mks x)) (sd_mks x) = 0) : Int) = sd_b ((zi37 + 1 : Nat) < sd_sqN (sd_mks x)) from by exact sd_bc (sd_sq_0 (by omega) zi37 hizi37))) rfl)))))) rfl
            ·
              refine sd_if_eq (tgt := 100) sD11_least_93 (by decide) (fun zc93 => ?_) (fun zc93 => ?_)
              ·
                refine sd_iconst sD11_least_100 (by decide) ?_
                exact K93 _ (by exact (sd_b0 (by omega)).symm)
              ·
                refine sd_iconst sD11_least_96 (by decide) ?_
                refine sd_goto (tgt := 101) sD11_least_97 (by decide) ?_
                exact K93 _ (by exact (sd_b1 (by omega)).symm)
          ·
            refine sd_iload sD11_least_76 rfl ?_
            refine sd_goto (tgt := 82) sD11_least_78 (by decide) ?_
            refine sd_istore_n (ls' := [some (.inr 15), some (.inl W), some (.inl (sd_mks x)), some (.inl (sd_sq (sd_mks x) zi37)), some (.inl (sd_sq (sd_mks x) zi37)), some (.inl (sd_b ((zi37 : Nat) < sd_sqN (sd_mks x))))]) sD11_least_82 (by decide) rfl ?_
            refine sd_iload sD11_least_83 rfl ?_
            refine sd_iload_n sD11_least_85 rfl ?_
            refine sd_isub (z := (sd_sq (sd_mks x) zi37 - (sd_mks x))) sD11_least_86 (by omega) (by omega) ?_
            refine sd_iload_n sD11_least_87 rfl ?_
            refine sd_iand sD11_least_88 ?_
            refine sd_istore (ls' := [some (.inr 15), some (.inl W), some (.inl (sd_mks x)), some (.inl (sd_sq (sd_mks x) zi37)), some (.inl (sd_and (sd_sq (sd_mks x) zi37 - (sd_mks x)) (sd_mks x))), some (.inl (sd_b ((zi37 : Nat) < sd_sqN (sd_mks x))))]) sD11_least_89 (by decide) rfl ?_
            refine sd_iload sD11_least_91 rfl ?_
            refine sd_cut (J := 101) (ls := [some (.inr 15), some (.inl W), some (.inl (sd_mks x)), some (.inl (sd_sq (sd_mks x) zi37)), some (.inl (sd_and (sd_sq (sd_mks x) zi37 - (sd_mks x)) (sd_mks x))), some (.inl (sd_b ((zi37 : Nat) < sd_sqN (sd_mks x))))]) (st := []) (fun zv => zv = (sd_b (¬ sd_and (sd_sq (sd_mks x) zi37 - (sd_mks x)) (sd_mks x) = 0))) (fun zv hzv => ?_) (fun K93 => ?_)
            ·
              subst hzv
              refine sd_istore (ls' := [some (.inr 15), some (.inl W), some (.inl (sd_mks x)), some (.inl (sd_sq (sd_mks x) zi37)), some (.inl (sd_and (sd_sq (sd_mks x) zi37 - (sd_mks x)) (sd_mks x))), some (.inl (sd_b (¬ sd_and (sd_sq (sd_mks x) zi37 - (sd_mks x)) (sd_mks x) = 0)))]) sD11_least_101 (by decide) rfl ?_
              refine sd_goto (tgt := 37) sD11_least_103 (by decide) ?_
              exact sd_eqw (ls' := [some (.inr 15), some (.inl W), some (.inl (sd_mks x)), some (.inl (sd_lss x W (zi37 + 1))), some (.inl (sd_sq (sd_mks x) (zi37 + 1))), some (.inl (sd_b ((zi37 + 1 : Nat) < sd_sqN (sd_mks x))))]) (ihzi37 m (by exact hx) (by trivial)) (sd_cg rfl (sd_cg rfl (sd_cg rfl (sd_cg (sd_ce (show (sd_sq (sd_mks x) zi37 : Int) = sd_lss x W (zi37 + 1) from by simp only [sd_lss]; unfold sd_lsS; first | (rw [if_pos ⟨by omega, by assumption⟩]; done) | (rw [if_neg (fun q => by have q1 := q.1; have q2 := q.2; first | contradiction | omega)]; done))) (sd_cg (sd_ce (show (sd_and (sd_sq (sd_mks x) zi37 - (sd_mks x)) (sd_mks x) : Int) = sd_sq (sd_mks x) (zi37 + 1) from by rfl)) (sd_cg (sd_ce (show (sd_b (¬ sd_and (sd_sq (sd_mks x) zi37 - (sd_mks x)) (sd_mks x) = 0) : Int) = sd_b ((zi37 + 1 : Nat) < sd_sqN (sd_mks x)) from by exact sd_bc (sd_sq_0 (by omega) zi37 hizi37))) rfl)))))) rfl
            ·
              refine sd_if_eq (tgt := 100) sD11_least_93 (by decide) (fun zc93 => ?_) (fun zc93 => ?_)
              ·
                refine sd_iconst sD11_least_100 (by decide) ?_
                exact K93 _ (by exact (sd_b0 (by omega)).symm)
              ·
                refine sd_iconst sD11_least_96 (by decide) ?_
                refine sd_goto (tgt := 101) sD11_least_97 (by decide) ?_
                exact K93 _ (by exact (sd_b1 (by omega)).symm)
    ·
      show sd_Wp sd_SM 8 sY11_least 37 [some (.inr 15), some (.inl W), some (.inl (sd_mks x)), some (.inl (sd_lss x W (sd_sqN (sd_mks x)))), some (.inl (sd_sq (sd_mks x) (sd_sqN (sd_mks x)))), some (.inl (sd_b (((sd_sqN (sd_mks x)) : Nat) < sd_sqN (sd_mks x))))] [] m _
      refine sd_iload sD11_least_37 rfl ?_
      refine sd_bif_eq (tgt := 106) sD11_least_39 (by decide) (fun zc39 => ?_) (fun zc39 => (by exfalso; omega))
      have e6 := sd_lss_rng h1 W (sd_sqN (sd_mks x))
      refine sd_iload_n sD11_least_106 rfl ?_
      refine sd_if_ge (tgt := 118) sD11_least_107 (by decide) (fun zc107 => ?_) (fun zc107 => ?_)
      ·
        refine sd_iload_n sD11_least_118 rfl ?_
        refine sd_ireturn sD11_least_119 rfl (fun hr hm => ?_)
        exact sd_done (by unfold sp_least sd_lsv; ((repeat (first | rw [if_pos (by first | assumption | omega)] | rw [if_neg (by first | assumption | omega)])); try rfl)) hx
      ·
        refine sd_aload_n sD11_least_110 rfl ?_
        refine sd_iconst sD11_least_111 (by decide) ?_
        refine sd_callV (as := [.inl 3]) (st := []) sD11_least_112 sM11_78 rfl rfl sOM15 rfl (by decide) (Nat.le_of_ble_eq_true rfl) (cM_finding 3 (by decide) _ m hx (hF 3 (by decide))) (fun r m hq ho112 hm => ?_)
        obtain ⟨rfl, hx⟩ := hq
        show sd_Wp sd_SM 8 sY11_least 115 [some (.inr 15), some (.inl W), some (.inl (sd_mks x)), some (.inl (sd_lss x W (sd_sqN (sd_mks x)))), some (.inl (sd_sq (sd_mks x) (sd_sqN (sd_mks x)))), some (.inl (sd_b (((sd_sqN (sd_mks x)) : Nat) < sd_sqN (sd_mks x))))] [.inl (-1000004)] m _
        refine sd_goto (tgt := 119) sD11_least_115 (by decide) ?_
        refine sd_ireturn sD11_least_119 rfl (fun hr hm => ?_)
        exact sd_done (by unfold sp_least sd_lsv; ((repeat (first | rw [if_pos (by first | assumption | omega)] | rw [if_neg (by first | assumption | omega)])); try rfl)) hx
  ·
    refine sd_aload_n sD11_least_18 rfl ?_
    refine sd_iconst sD11_least_19 (by decide) ?_
    refine sd_callV (as := [.inl 0]) (st := []) sD11_least_20 sM11_78 rfl rfl sOM15 rfl (by decide) (Nat.le_of_ble_eq_true rfl) (cM_finding 0 (by decide) _ m hx (hF 0 (by decide))) (fun r m hq ho20 hm => ?_)
    obtain ⟨rfl, hx⟩ := hq
    show sd_Wp sd_SM 8 sY11_least 23 [some (.inr 15), some (.inl W), none, none, none, none] [.inl (-1000001)] m _
    refine sd_ireturn sD11_least_23 rfl (fun hr hm => ?_)
    exact sd_done (by unfold sp_least sd_lsv; ((repeat (first | rw [if_pos (by first | assumption | omega)] | rw [if_neg (by first | assumption | omega)])); try rfl)) hx
