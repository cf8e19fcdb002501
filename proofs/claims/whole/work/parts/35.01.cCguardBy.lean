set_option maxRecDepth 100000 in
set_option maxHeartbeats 4000000 in
theorem cC_guardBy (sa : Nat → Int) (x m : sd_M) (hx : sd_ns x m) (h1 : sd_I1 x) (hs : ∀ g, g < 24 → m (5040 + g) = sa g) (hsa : ∀ g, 0 ≤ sa g ∧ sa g ≤ 9) : sd_Ct sd_SC 1 sY1_guardBySquads [.inr 13, .inr 40] m (fun r m' => r = some (.inl (sd_cnt (sd_Pgd x sa) (x 2).toNat)) ∧ sd_ns (sd_gd x sa (x 2).toNat) m') := by
  refine sd_ct rfl (Nat.le_of_ble_eq_true rfl) (fun hok hm => ?_)
  obtain ⟨⟨i0, j0⟩, ⟨i1, j1⟩, ⟨i2, j2⟩, ⟨i3, j3⟩, ⟨i4, j4⟩, ⟨i5, j5⟩, ⟨i6, j6⟩, ⟨i7, j7⟩, ⟨i8, j8⟩⟩ := id h1
  show sd_Wp sd_SC 1 sY1_guardBySquads 0 [some (.inr 13), some (.inr 40), none, none, none] [] m _
  refine sd_iconst sD1_guardBySquads_0 (by decide) ?_
  refine sd_istore_n (ls' := [some (.inr 13), some (.inr 40), some (.inl 0), none, none]) sD1_guardBySquads_1 (by decide) rfl ?_
  refine sd_iconst sD1_guardBySquads_2 (by decide) ?_
  refine sd_istore_n (ls' := [some (.inr 13), some (.inr 40), some (.inl 0), some (.inl 0), none]) sD1_guardBySquads_3 (by decide) rfl ?_
  refine sd_forX ((x 2).toNat) (fun zi4 : Nat => [some (.inr 13), some (.inr 40), some (.inl (sd_cnt (sd_Pgd x sa) zi4)), some (.inl (zi4 : Int)), none]) (fun zi4 : Nat => sd_gd x sa zi4) (fun (zi4 : Nat) (m : sd_M) => ∀ g, g < 24 → m (5040 + g) = sa g) (by rfl) (fun zi4 hizi4 m hx hpzi4 ihzi4 => ?_) (fun m hx hpzi4 => ?_) (by rw [sd_gd_0]; exact hx) (by exact hs)
  ·
    have e0 : sd_gd x sa zi4 2 = x 2 := sd_gd_o (by omega)
    have e1 : sd_gd x sa zi4 (10 + zi4) = x (10 + zi4) := sd_gd_o (by omega)
    have e2 : sd_gd x sa zi4 (202 + zi4) = x (202 + zi4) := sd_gd_o (by omega)
    have e3 : sd_gd x sa zi4 (226 + zi4) = x (226 + zi4) := sd_gd_o (by omega)
    have e4 := hpzi4 zi4 (by omega)
    have e5 := hsa zi4
    have e6 := sd_cnt_le (sd_Pgd x sa) zi4
    refine sd_iload_n sD1_guardBySquads_4 rfl ?_
    refine sd_aload_n sD1_guardBySquads_5 rfl ?_
    refine sd_getfx (v := (sd_gd x sa zi4) 2) hx sD1_guardBySquads_6 sF1_9 sGC13_0 (by decide) rfl ?_
    refine sd_icmp_ge (tgt := 56) sD1_guardBySquads_9 (by decide) (fun zc9 => (by exfalso; omega)) (fun zc9 => ?_)
    refine sd_bipush sD1_guardBySquads_12 rfl (by decide) ?_
    refine sd_aload_n sD1_guardBySquads_14 rfl ?_
    refine sd_iload_n sD1_guardBySquads_15 rfl ?_
    refine sd_iald (a := (5040 + zi4)) sD1_guardBySquads_16 sAC40 (by omega) ?_
    rw [show m (5040 + zi4) = sa zi4 from hpzi4 zi4 (by omega)]
    refine sd_imul (z := (9 * (sa zi4))) sD1_guardBySquads_17 (by omega) (by omega) ?_
    refine sd_istore (ls' := [some (.inr 13), some (.inr 40), some (.inl (sd_cnt (sd_Pgd x sa) zi4)), some (.inl (zi4 : Int)), some (.inl (9 * (sa zi4)))]) sD1_guardBySquads_18 (by decide) rfl ?_
    refine sd_aload_n sD1_guardBySquads_20 rfl ?_
    refine sd_iload_n sD1_guardBySquads_21 rfl ?_
    refine sd_callVp (as := [.inl (zi4 : Int)]) (st := []) (v := .inl (sd_b ((sd_gd x sa zi4) (10 + zi4) = 3 ∧ (sd_gd x sa zi4) (202 + zi4) = 0))) sD1_guardBySquads_22 sM1_99 sOC13 rfl rfl rfl (by decide) (Nat.le_of_ble_eq_true rfl) (cC_isFreeGate (zi4 : Int) _ m hx  (by omega)) (fun ho22 => ?_)
    refine sd_bif_eq (tgt := 50) sD1_guardBySquads_25 (by decide) (fun zc25 => ?_) (fun zc25 => ?_)
    ·
      refine sd_iinc (y := ((zi4 : Int) + 1)) (ls' := [some (.inr 13), some (.inr 40), some (.inl (sd_cnt (sd_Pgd x sa) zi4)), some (.inl ((zi4 : Int) + 1)), some (.inl (9 * (sa zi4)))]) sD1_guardBySquads_50 rfl (by omega) (by omega) (by decide) rfl ?_
      refine sd_goto (tgt := 4) sD1_guardBySquads_53 (by decide) ?_
      refine sd_less (ls' := [some (.inr 13), some (.inr 40), some (.inl (sd_cnt (sd_Pgd x sa) zi4)), some (.inl ((zi4 : Int) + 1)), none]) ?_ rfl (by intro zi zv zh; rcases zi with _ | _ | _ | _ | _ | zi <;> first | exact zh | cases zh)
      exact sd_eqw (ls' := [some (.inr 13), some (.inr 40), some (.inl (sd_cnt (sd_Pgd x sa) (zi4 + 1))), some (.inl ((zi4 + 1 : Nat) : Int)), none]) (ihzi4 m (by first | exact sd_nseq (sd_gd_s1 (by omega) ⟨by omega, by omega⟩) hx | exact sd_nseq (sd_gd_s0 (by omega)) hx) (by first | exact sd_row_ke hpzi4 em46 (by omega) | exact hpzi4)) (sd_cg rfl (sd_cg rfl (sd_cg (sd_ce (show (sd_cnt (sd_Pgd x sa) zi4 : Int) = sd_cnt (sd_Pgd x sa) (zi4 + 1) from by simp only [sd_cnt]; first | (rw [if_pos (by omega)]; done) | (rw [if_neg (by omega)]; omega))) (sd_cg (sd_ce (show (((zi4 : Int) + 1) : Int) = ((zi4 + 1 : Nat) : Int) from by omega)) (sd_cg rfl rfl))))) rfl
    ·
      refine sd_aload_n sD1_guardBySquads_28 rfl ?_
      refine sd_getfr sD1_guardBySquads_29 sF1_46 sGC13_11 ?_
      refine sd_iload_n sD1_guardBySquads_32 rfl ?_
      refine sd_ialdx (a := (226 + zi4)) (v := (sd_gd x sa zi4) (226 + zi4)) hx sD1_guardBySquads_33 sAC9 (by omega) rfl ?_
      refine sd_iload sD1_guardBySquads_34 rfl ?_
      refine sd_icmp_eq (tgt := 50) sD1_guardBySquads_36 (by decide) (fun zc36 => ?_) (fun zc36 => ?_)
      ·
        refine sd_iinc (y := ((zi4 : Int) + 1)) (ls' := [some (.inr 13), some (.inr 40), some (.inl (sd_cnt (sd_Pgd x sa) zi4)), some (.inl ((zi4 : Int) + 1)), some (.inl (9 * (sa zi4)))]) sD1_guardBySquads_50 rfl (by omega) (by omega) (by decide) rfl ?_
        refine sd_goto (tgt := 4) sD1_guardBySquads_53 (by decide) ?_
        refine sd_less (ls' := [some (.inr 13), some (.inr 40), some (.inl (sd_cnt (sd_Pgd x sa) zi4)), some (.inl ((zi4 : Int) + 1)), none]) ?_ rfl (by intro zi zv zh; rcases zi with _ | _ | _ | _ | _ | zi <;> first | exact zh | cases zh)
        exact sd_eqw (ls' := [some (.inr 13), some (.inr 40), some (.inl (sd_cnt (sd_Pgd x sa) (zi4 + 1))), some (.inl ((zi4 + 1 : Nat) : Int)), none]) (ihzi4 m (by first | exact sd_nseq (sd_gd_s1 (by omega) ⟨by omega, by omega⟩) hx | exact sd_nseq (sd_gd_s0 (by omega)) hx) (by first | exact sd_row_ke hpzi4 em46 (by omega) | exact hpzi4)) (sd_cg rfl (sd_cg rfl (sd_cg (sd_ce (show (sd_cnt (sd_Pgd x sa) zi4 : Int) = sd_cnt (sd_Pgd x sa) (zi4 + 1) from by simp only [sd_cnt]; first | (rw [if_pos (by omega)]; done) | (rw [if_neg (by omega)]; omega))) (sd_cg (sd_ce (show (((zi4 : Int) + 1) : Int) = ((zi4 + 1 : Nat) : Int) from by omega)) (sd_cg rfl rfl))))) rfl
      ·
        refine sd_aload_n sD1_guardBySquads_39 rfl ?_
        refine sd_getfr sD1_guardBySquads_40 sF1_46 sGC13_11 ?_
        refine sd_iload_n sD1_guardBySquads_43 rfl ?_
        refine sd_iload sD1_guardBySquads_44 rfl ?_
        refine sd_iastx (a := (226 + zi4)) sd_sokC hx sD1_guardBySquads_46 sAC9 (by omega) (fun m hx em46 => ?_)
        refine sd_iinc (y := (sd_cnt (sd_Pgd x sa) zi4 + 1)) (ls' := [some (.inr 13), some (.inr 40), some (.inl (sd_cnt (sd_Pgd x sa) zi4 + 1)), some (.inl (zi4 : Int)), some (.inl (9 * (sa zi4)))]) sD1_guardBySquads_47 rfl (by omega) (by omega) (by decide) rfl ?_
        refine sd_iinc (y := ((zi4 : Int) + 1)) (ls' := [some (.inr 13), some (.inr 40), some (.inl (sd_cnt (sd_Pgd x sa) zi4 + 1)), some (.inl ((zi4 : Int) + 1)), some (.inl (9 * (sa zi4)))]) sD1_guardBySquads_50 rfl (by omega) (by omega) (by decide) rfl ?_
        refine sd_goto (tgt := 4) sD1_guardBySquads_53 (by decide) ?_
        refine sd_less (ls' := [some (.inr 13), some (.inr 40), some (.inl (sd_cnt (sd_Pgd x sa) zi4 + 1)), some (.inl ((zi4 : Int) + 1)), none]) ?_ rfl (by intro zi zv zh; rcases zi with _ | _ | _ | _ | _ | zi <;> first | exact zh | cases zh)
        exact sd_eqw (ls' := [some (.inr 13), some (.inr 40), some (.inl (sd_cnt (sd_Pgd x sa) (zi4 + 1))), some (.inl ((zi4 + 1 : Nat) : Int)), none]) (ihzi4 m (by first | exact sd_nseq (sd_gd_s1 (by omega) ⟨by omega, by omega⟩) hx | exact sd_nseq (sd_gd_s0 (by omega)) hx) (by first | exact sd_row_ke hpzi4 em46 (by omega) | exact hpzi4)) (sd_cg rfl (sd_cg rfl (sd_cg (sd_ce (show ((sd_cnt (sd_Pgd x sa) zi4 + 1) : Int) = sd_cnt (sd_Pgd x sa) (zi4 + 1) from by simp only [sd_cnt]; first | (rw [if_pos (by omega)]; done) | (rw [if_neg (by omega)]; omega))) (sd_cg (sd_ce (show (((zi4 : Int) + 1) : Int) = ((zi4 + 1 : Nat) : Int) from by omega)) (sd_cg rfl rfl))))) rfl
  ·
    show sd_Wp sd_SC 1 sY1_guardBySquads 4 [some (.inr 13), some (.inr 40), some (.inl (sd_cnt (sd_Pgd x sa) ((x 2).toNat))), some (.inl ((((x 2).toNat) : Nat) : Int)), none] [] m _
    have e0 : sd_gd x sa (x 2).toNat 2 = x 2 := sd_gd_o (by omega)
    refine sd_iload_n sD1_guardBySquads_4 rfl ?_
    refine sd_aload_n sD1_guardBySquads_5 rfl ?_
    refine sd_getfx (v := (sd_gd x sa ((x 2).toNat)) 2) hx sD1_guardBySquads_6 sF1_9 sGC13_0 (by decide) rfl ?_
    refine sd_icmp_ge (tgt := 56) sD1_guardBySquads_9 (by decide) (fun zc9 => ?_) (fun zc9 => (by exfalso; omega))
    refine sd_iload_n sD1_guardBySquads_56 rfl ?_
    refine sd_ireturn sD1_guardBySquads_57 rfl (fun hr hm => ?_)
    exact ⟨rfl, hx⟩
