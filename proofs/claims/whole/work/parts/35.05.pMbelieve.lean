set_option maxRecDepth 100000 in
set_option maxHeartbeats 4000000 in
theorem pM_believe (x m : sd_M) (hx : sd_ns x m) (h1 : sd_I1 x) (h2 : sd_I2 x) (h7 : sd_I7 x) (hF : ∀ k : Nat, k < 7 → 0 ≤ x (4101 + k) ∧ x (4101 + k) ≤ 1000000) : sd_Ct sd_SM 2 sY11_believe [.inr 15] m (sd_Qp (sp_believe x)) := by
  refine sd_ct rfl (Nat.le_of_ble_eq_true rfl) (fun hok hm => ?_)
  obtain ⟨⟨i0, j0⟩, ⟨i1, j1⟩, ⟨i2, j2⟩, ⟨i3, j3⟩, ⟨i4, j4⟩, ⟨i5, j5⟩, ⟨i6, j6⟩, ⟨i7, j7⟩, ⟨i8, j8⟩⟩ := id h1
  show sd_Wp sd_SM 2 sY11_believe 0 [some (.inr 15), none, none] [] m _
  refine sd_aload_n sD11_believe_0 rfl ?_
  refine sd_iconst sD11_believe_1 (by decide) ?_
  refine sd_callV (as := [.inl 0]) (st := []) sD11_believe_2 sM11_202 rfl rfl sOM15 rfl (by decide) (Nat.le_of_ble_eq_true rfl) (cM_sets 0 _ m hx h1 h2 h7) (fun r m hq ho2 hm => ?_)
  obtain ⟨rfl, hx, hsq2⟩ := hq
  show sd_Wp sd_SM 2 sY11_believe 5 [some (.inr 15), none, none] [] m _
  rw [show sd_or (sd_tho x) 0 = sd_tho x from sd_or_0 (sd_setR _ _)] at hsq2
  refine sd_iconst sD11_believe_5 (by decide) ?_
  refine sd_istore_n (ls' := [some (.inr 15), some (.inl 0), none]) sD11_believe_6 (by decide) rfl ?_
  refine sd_iconst sD11_believe_7 (by decide) ?_
  refine sd_istore_n (ls' := [some (.inr 15), some (.inl 0), some (.inl 0)]) sD11_believe_8 (by decide) rfl ?_
  refine sd_forX ((x 2).toNat) (fun zi9 : Nat => [some (.inr 15), some (.inl (sd_cnt (sd_Pgd x (sd_sqd x (sd_tho x))) zi9)), some (.inl (zi9 : Int))]) (fun zi9 : Nat => sd_gd x (sd_sqd x (sd_tho x)) zi9) (fun (zi9 : Nat) (m : sd_M) => ∀ g, g < 24 → m (5550 + g) = sd_sqd x (sd_tho x) g) (by rfl) (fun zi9 hizi9 m hx hpzi9 ihzi9 => ?_) (fun m hx hpzi9 => ?_) (by rw [sd_gd_0]; exact hx) (by exact hsq2)
  ·
    have e0 : sd_gd x (sd_sqd x (sd_tho x)) zi9 2 = x 2 := sd_gd_o (by omega)
    have e1 : sd_gd x (sd_sqd x (sd_tho x)) zi9 (10 + zi9) = x (10 + zi9) := sd_gd_o (by omega)
    have e2 : sd_gd x (sd_sqd x (sd_tho x)) zi9 (202 + zi9) = x (202 + zi9) := sd_gd_o (by omega)
    have e3 : sd_gd x (sd_sqd x (sd_tho x)) zi9 (226 + zi9) = x (226 + zi9) := sd_gd_o (by omega)
    have e4 := hpzi9 zi9 (by omega)
    have e5 := sd_sqd_rng h1 (sd_tho x) zi9
    have e6 := sd_cnt_le (sd_Pgd x (sd_sqd x (sd_tho x))) zi9
    refine sd_iload_n sD11_believe_9 rfl ?_
    refine sd_aload_n sD11_believe_10 rfl ?_
    refine sd_getfr sD11_believe_11 sF11_7 sGM15_0 ?_
    refine sd_iconst sD11_believe_14 (by decide) ?_
    refine sd_ialdx (a := 2) (v := (sd_gd x (sd_sqd x (sd_tho x)) zi9) 2) hx sD11_believe_15 sAM0 (by omega) rfl ?_
    refine sd_icmp_ge (tgt := 72) sD11_believe_16 (by decide) (fun zc16 => (by exfalso; omega)) (fun zc16 => ?_)
    refine sd_iload_n sD11_believe_19 rfl ?_
    refine sd_aload_n sD11_believe_20 rfl ?_
    refine sd_iload_n sD11_believe_21 rfl ?_
    refine sd_callVp (as := [.inl (zi9 : Int)]) (st := [.inl (sd_cnt (sd_Pgd x (sd_sqd x (sd_tho x))) zi9)]) (v := .inl ((sd_gd x (sd_sqd x (sd_tho x)) zi9) (10 + zi9))) sD11_believe_22 sM11_64 sOM15 rfl rfl rfl (by decide) (Nat.le_of_ble_eq_true rfl) (cM_kindOf (zi9 : Int) _ m hx  (by omega)) (fun ho22 => ?_)
    refine sd_iconst sD11_believe_25 (by decide) ?_
    refine sd_icmp_ne (tgt := 63) sD11_believe_26 (by decide) (fun zc26 => ?_) (fun zc26 => ?_)
    ·
      refine sd_iconst sD11_believe_63 (by decide) ?_
      refine sd_iadd (z := sd_cnt (sd_Pgd x (sd_sqd x (sd_tho x))) zi9) sD11_believe_64 (by omega) (by omega) ?_
      refine sd_istore_n (ls' := [some (.inr 15), some (.inl (sd_cnt (sd_Pgd x (sd_sqd x (sd_tho x))) zi9)), some (.inl (zi9 : Int))]) sD11_believe_65 (by decide) rfl ?_
      refine sd_iinc (y := ((zi9 : Int) + 1)) (ls' := [some (.inr 15), some (.inl (sd_cnt (sd_Pgd x (sd_sqd x (sd_tho x))) zi9)), some (.inl ((zi9 : Int) + 1))]) sD11_believe_66 rfl (by omega) (by omega) (by decide) rfl ?_
      refine sd_goto (tgt := 9) sD11_believe_69 (by decide) ?_
      exact sd_eqw (ls' := [some (.inr 15), some (.inl (sd_cnt (sd_Pgd x (sd_sqd x (sd_tho x))) (zi9 + 1))), some (.inl ((zi9 + 1 : Nat) : Int))]) (ihzi9 m (by first | exact sd_nseq (sd_gd_s1 (by omega) ⟨by omega, by omega⟩) hx | exact sd_nseq (sd_gd_s0 (by omega)) hx) (by first | exact hpzi9 | exact sd_row_ke hpzi9 hpg (by omega))) (sd_cg rfl (sd_cg (sd_ce (show (sd_cnt (sd_Pgd x (sd_sqd x (sd_tho x))) zi9 : Int) = sd_cnt (sd_Pgd x (sd_sqd x (sd_tho x))) (zi9 + 1) from by simp only [sd_cnt]; first | (rw [if_neg (by omega)]; omega) | (rw [e3]; unfold sd_b; by_cases hh : x (226 + zi9) = 9 * sd_sqd x (sd_tho x) zi9; (rw [if_neg (by omega), if_neg (by omega)]); (rw [if_pos (by omega), if_pos (by omega)])))) (sd_cg (sd_ce (show (((zi9 : Int) + 1) : Int) = ((zi9 + 1 : Nat) : Int) from by omega)) rfl))) rfl
    ·
      refine sd_aload_n sD11_believe_29 rfl ?_
      refine sd_getfr sD11_believe_30 sF11_7 sGM15_0 ?_
      refine sd_sipush sD11_believe_33 rfl (by decide) ?_
      refine sd_iload_n sD11_believe_36 rfl ?_
      refine sd_iadd (z := (202 + (zi9 : Int))) sD11_believe_37 (by omega) (by omega) ?_
      refine sd_ialdx (a := (202 + zi9)) (v := (sd_gd x (sd_sqd x (sd_tho x)) zi9) (202 + zi9)) hx sD11_believe_38 sAM0 (by omega) rfl ?_
      refine sd_if_ne (tgt := 63) sD11_believe_39 (by decide) (fun zc39 => ?_) (fun zc39 => ?_)
      ·
        refine sd_iconst sD11_believe_63 (by decide) ?_
        refine sd_iadd (z := sd_cnt (sd_Pgd x (sd_sqd x (sd_tho x))) zi9) sD11_believe_64 (by omega) (by omega) ?_
        refine sd_istore_n (ls' := [some (.inr 15), some (.inl (sd_cnt (sd_Pgd x (sd_sqd x (sd_tho x))) zi9)), some (.inl (zi9 : Int))]) sD11_believe_65 (by decide) rfl ?_
        refine sd_iinc (y := ((zi9 : Int) + 1)) (ls' := [some (.inr 15), some (.inl (sd_cnt (sd_Pgd x (sd_sqd x (sd_tho x))) zi9)), some (.inl ((zi9 : Int) + 1))]) sD11_believe_66 rfl (by omega) (by omega) (by decide) rfl ?_
        refine sd_goto (tgt := 9) sD11_believe_69 (by decide) ?_
        exact sd_eqw (ls' := [some (.inr 15), some (.inl (sd_cnt (sd_Pgd x (sd_sqd x (sd_tho x))) (zi9 + 1))), some (.inl ((zi9 + 1 : Nat) : Int))]) (ihzi9 m (by first | exact sd_nseq (sd_gd_s1 (by omega) ⟨by omega, by omega⟩) hx | exact sd_nseq (sd_gd_s0 (by omega)) hx) (by first | exact hpzi9 | exact sd_row_ke hpzi9 hpg (by omega))) (sd_cg rfl (sd_cg (sd_ce (show (sd_cnt (sd_Pgd x (sd_sqd x (sd_tho x))) zi9 : Int) = sd_cnt (sd_Pgd x (sd_sqd x (sd_tho x))) (zi9 + 1) from by simp only [sd_cnt]; first | (rw [if_neg (by omega)]; omega) | (rw [e3]; unfold sd_b; by_cases hh : x (226 + zi9) = 9 * sd_sqd x (sd_tho x) zi9; (rw [if_neg (by omega), if_neg (by omega)]); (rw [if_pos (by omega), if_pos (by omega)])))) (sd_cg (sd_ce (show (((zi9 : Int) + 1) : Int) = ((zi9 + 1 : Nat) : Int) from by omega)) rfl))) rfl
      ·
        refine sd_aload_n sD11_believe_42 rfl ?_
        refine sd_sipush sD11_believe_43 rfl (by decide) ?_
        refine sd_iload_n sD11_believe_46 rfl ?_
        refine sd_iadd (z := (226 + (zi9 : Int))) sD11_believe_47 (by omega) (by omega) ?_
        refine sd_bipush sD11_believe_48 rfl (by decide) ?_
        refine sd_aload_n sD11_believe_50 rfl ?_
        refine sd_getfr sD11_believe_51 sF11_40 sGM15_19 ?_
        refine sd_iload_n sD11_believe_54 rfl ?_
        refine sd_iald (a := (5550 + zi9)) sD11_believe_55 sAM10 (by omega) ?_
        rw [show m (5550 + zi9) = sd_sqd x (sd_tho x) zi9 from hpzi9 zi9 (by omega)]
        refine sd_imul (z := (9 * (sd_sqd x (sd_tho x) zi9))) sD11_believe_56 (by omega) (by omega) ?_
        refine sd_callV (as := [.inl (226 + (zi9 : Int)), .inl (9 * (sd_sqd x (sd_tho x) zi9))]) (st := [.inl (sd_cnt (sd_Pgd x (sd_sqd x (sd_tho x))) zi9)]) sD11_believe_57 sM11_93 rfl rfl sOM15 rfl (by decide) (Nat.le_of_ble_eq_true rfl) (cM_becomeS (226 + (zi9 : Int)) (9 * (sd_sqd x (sd_tho x) zi9)) _ m hx (by omega)) (fun r m hq ho57 hm => ?_)
        rw [show ((226 + (zi9 : Int))).toNat = (226 + zi9) from by omega] at hq
        obtain ⟨rfl, hx, hpg⟩ := hq
        show sd_Wp sd_SM 2 sY11_believe 60 [some (.inr 15), some (.inl (sd_cnt (sd_Pgd x (sd_sqd x (sd_tho x))) zi9)), some (.inl (zi9 : Int))] [.inl (sd_b (¬ (sd_gd x (sd_sqd x (sd_tho x)) zi9) (226 + zi9) = (9 * (sd_sqd x (sd_tho x) zi9)))), .inl (sd_cnt (sd_Pgd x (sd_sqd x (sd_tho x))) zi9)] m _
        refine sd_goto (tgt := 64) sD11_believe_60 (by decide) ?_
        have zb64 := sd_b01 (¬ (sd_gd x (sd_sqd x (sd_tho x)) zi9) (226 + zi9) = (9 * (sd_sqd x (sd_tho x) zi9)))
        refine sd_iadd (z := (sd_cnt (sd_Pgd x (sd_sqd x (sd_tho x))) zi9 + sd_b (¬ (sd_gd x (sd_sqd x (sd_tho x)) zi9) (226 + zi9) = (9 * (sd_sqd x (sd_tho x) zi9))))) sD11_believe_64 (by omega) (by omega) ?_
        refine sd_istore_n (ls' := [some (.inr 15), some (.inl (sd_cnt (sd_Pgd x (sd_sqd x (sd_tho x))) zi9 + sd_b (¬ (sd_gd x (sd_sqd x (sd_tho x)) zi9) (226 + zi9) = (9 * (sd_sqd x (sd_tho x) zi9))))), some (.inl (zi9 : Int))]) sD11_believe_65 (by decide) rfl ?_
        refine sd_iinc (y := ((zi9 : Int) + 1)) (ls' := [some (.inr 15), some (.inl (sd_cnt (sd_Pgd x (sd_sqd x (sd_tho x))) zi9 + sd_b (¬ (sd_gd x (sd_sqd x (sd_tho x)) zi9) (226 + zi9) = (9 * (sd_sqd x (sd_tho x) zi9))))), some (.inl ((zi9 : Int) + 1))]) sD11_believe_66 rfl (by omega) (by omega) (by decide) rfl ?_
        refine sd_goto (tgt := 9) sD11_believe_69 (by decide) ?_
        exact sd_eqw (ls' := [some (.inr 15), some (.inl (sd_cnt (sd_Pgd x (sd_sqd x (sd_tho x))) (zi9 + 1))), some (.inl ((zi9 + 1 : Nat) : Int))]) (ihzi9 m (by first | exact sd_nseq (sd_gd_s1 (by omega) ⟨by omega, by omega⟩) hx | exact sd_nseq (sd_gd_s0 (by omega)) hx) (by first | exact hpzi9 | exact sd_row_ke hpzi9 hpg (by omega))) (sd_cg rfl (sd_cg (sd_ce (show ((sd_cnt (sd_Pgd x (sd_sqd x (sd_tho x))) zi9 + sd_b (¬ (sd_gd x (sd_sqd x (sd_tho x)) zi9) (226 + zi9) = (9 * (sd_sqd x (sd_tho x) zi9)))) : Int) = sd_cnt (sd_Pgd x (sd_sqd x (sd_tho x))) (zi9 + 1) from by simp only [sd_cnt]; first | (rw [if_neg (by omega)]; omega) | (rw [e3]; unfold sd_b; by_cases hh : x (226 + zi9) = 9 * sd_sqd x (sd_tho x) zi9; (rw [if_neg (by omega), if_neg (by omega)]); (rw [if_pos (by omega), if_pos (by omega)])))) (sd_cg (sd_ce (show (((zi9 : Int) + 1) : Int) = ((zi9 + 1 : Nat) : Int) from by omega)) rfl))) rfl
  ·
    show sd_Wp sd_SM 2 sY11_believe 9 [some (.inr 15), some (.inl (sd_cnt (sd_Pgd x (sd_sqd x (sd_tho x))) ((x 2).toNat))), some (.inl ((((x 2).toNat) : Nat) : Int))] [] m _
    have e0 : sd_gd x (sd_sqd x (sd_tho x)) ((x 2).toNat) 2 = x 2 := sd_gd_o (by omega)
    refine sd_iload_n sD11_believe_9 rfl ?_
    refine sd_aload_n sD11_believe_10 rfl ?_
    refine sd_getfr sD11_believe_11 sF11_7 sGM15_0 ?_
    refine sd_iconst sD11_believe_14 (by decide) ?_
    refine sd_ialdx (a := 2) (v := (sd_gd x (sd_sqd x (sd_tho x)) ((x 2).toNat)) 2) hx sD11_believe_15 sAM0 (by omega) rfl ?_
    refine sd_icmp_ge (tgt := 72) sD11_believe_16 (by decide) (fun zc16 => ?_) (fun zc16 => (by exfalso; omega))
    refine sd_iload_n sD11_believe_72 rfl ?_
    refine sd_ireturn sD11_believe_73 rfl (fun hr hm => ?_)
    exact sd_done (by unfold sp_believe; ((repeat (first | rw [if_pos (by first | assumption | omega)] | rw [if_neg (by first | assumption | omega)])); try rfl)) hx
