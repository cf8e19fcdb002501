set_option maxRecDepth 100000 in
set_option maxHeartbeats 4000000 in
theorem cM_warms (x m : sd_M) (hx : sd_ns x m) (hJ : sd_J x) : sd_Ct sd_SM 3 sY11_warms [.inr 15] m (fun r m' => r = none ∧ sd_ns (sd_wea x (x 2).toNat) m') := by
  refine sd_ct rfl (Nat.le_of_ble_eq_true rfl) (fun hok hm => ?_)
  have h1 := hJ.1
  obtain ⟨⟨i0, j0⟩, ⟨i1, j1⟩, ⟨i2, j2⟩, ⟨i3, j3⟩, ⟨i4, j4⟩, ⟨i5, j5⟩, ⟨i6, j6⟩, ⟨i7, j7⟩, ⟨i8, j8⟩⟩ := id h1
  show sd_Wp sd_SM 3 sY11_warms 0 [some (.inr 15), none] [] m _
  refine sd_iconst sD11_warms_0 (by decide) ?_
  refine sd_istore_n (ls' := [some (.inr 15), some (.inl 0)]) sD11_warms_1 (by decide) rfl ?_
  refine sd_forX ((x 2).toNat) (fun zi2 : Nat => [some (.inr 15), some (.inl (zi2 : Int))]) (fun zi2 : Nat => sd_wea x zi2) (fun (zi2 : Nat) (m : sd_M) => True) (by rfl) (fun zi2 hizi2 m hx hpzi2 ihzi2 => ?_) (fun m hx hpzi2 => ?_) (by exact hx) (by trivial)
  ·
    obtain ⟨hJ, hw2, hw3, hw0, hw1⟩ := sd_wea_J hJ zi2 (by omega)
    have h1 := hJ.1
    have h2 := hJ.2.1
    have h3 := hJ.2.2.1
    have h4 := hJ.2.2.2.1
    have h5 := hJ.2.2.2.2.1
    have h6 := hJ.2.2.2.2.2.1
    have h7 := hJ.2.2.2.2.2.2.1
    have hR := hJ.2.2.2.2.2.2.2.1
    have hI := hJ.2.2.2.2.2.2.2.2.1
    have hL := hJ.2.2.2.2.2.2.2.2.2
    have e2 := h2 zi2 (by omega)
    have hwr := sd_wth_rng h1 (zi2 : Int) (w := sd_wea x zi2 (82 + zi2)) e2.2.2.2.1
    refine sd_iload_n sD11_warms_2 rfl ?_
    refine sd_aload_n sD11_warms_3 rfl ?_
    refine sd_getfr sD11_warms_4 sF11_7 sGM15_0 ?_
    refine sd_iconst sD11_warms_7 (by decide) ?_
    refine sd_ialdx (a := 2) (v := (sd_wea x zi2) 2) hx sD11_warms_8 sAM0 (by omega) rfl ?_
    refine sd_icmp_ge (tgt := 93) sD11_warms_9 (by decide) (fun zc9 => (by exfalso; omega)) (fun zc9 => ?_)
    refine sd_aload_n sD11_warms_12 rfl ?_
    refine sd_iload_n sD11_warms_13 rfl ?_
    refine sd_callVp (as := [.inl (zi2 : Int)]) (st := []) (v := .inl (sd_b (sd_isA (sd_wea x zi2) (zi2 : Int) 1))) sD11_warms_14 sM11_72 sOM15 rfl rfl rfl (by decide) (Nat.le_of_ble_eq_true rfl) (cM_isShop (zi2 : Int) _ m hx h1 h2 ) (fun ho14 => ?_)
    refine sd_bif_eq (tgt := 87) sD11_warms_17 (by decide) (fun zc17 => ?_) (fun zc17 => ?_)
    ·
      refine sd_iinc (y := ((zi2 : Int) + 1)) (ls' := [some (.inr 15), some (.inl ((zi2 : Int) + 1))]) sD11_warms_87 rfl (by omega) (by omega) (by decide) rfl ?_
      refine sd_goto (tgt := 2) sD11_warms_90 (by decide) ?_
      exact sd_eqw (ls' := [some (.inr 15), some (.inl ((zi2 + 1 : Nat) : Int))]) (ihzi2 m (by simp only [sd_wea]; unfold sd_weS; first | (rw [if_pos (by assumption), if_pos ⟨by assumption, by assumption⟩]; exact hx) | (rw [if_pos (by assumption), if_neg (fun q => by have q1 := q.1; have q2 := q.2; first | omega | contradiction)]; exact hx) | (rw [if_neg (by assumption)]; exact hx) | (rw [if_pos (by assumption), if_neg (fun q => by have q1 := q.1; have q2 := q.2; first | omega | contradiction)]; exact sd_nseq (sd_up_self2 (by rw [sd_up_ne (by omega)])) hx)) (by trivial)) (sd_cg rfl (sd_cg (sd_ce (show (((zi2 : Int) + 1) : Int) = ((zi2 + 1 : Nat) : Int) from by omega)) rfl)) rfl
    ·
      refine sd_aload_n sD11_warms_20 rfl ?_
      refine sd_getfr sD11_warms_21 sF11_7 sGM15_0 ?_
      refine sd_bipush sD11_warms_24 rfl (by decide) ?_
      refine sd_iload_n sD11_warms_26 rfl ?_
      refine sd_iadd (z := (82 + (zi2 : Int))) sD11_warms_27 (by omega) (by omega) ?_
      refine sd_aload_n sD11_warms_28 rfl ?_
      refine sd_iload_n sD11_warms_29 rfl ?_
      refine sd_aload_n sD11_warms_30 rfl ?_
      refine sd_getfr sD11_warms_31 sF11_7 sGM15_0 ?_
      refine sd_bipush sD11_warms_34 rfl (by decide) ?_
      refine sd_iload_n sD11_warms_36 rfl ?_
      refine sd_iadd (z := (82 + (zi2 : Int))) sD11_warms_37 (by omega) (by omega) ?_
      refine sd_ialdx (a := (82 + zi2)) (v := (sd_wea x zi2) (82 + zi2)) hx sD11_warms_38 sAM0 (by omega) rfl ?_
      refine sd_callVp (as := [.inl (zi2 : Int), .inl ((sd_wea x zi2) (82 + zi2))]) (st := [.inl (82 + (zi2 : Int)), .inr 0]) (v := .inl (sd_wth (sd_wea x zi2) (zi2 : Int) ((sd_wea x zi2) (82 + zi2)))) sD11_warms_39 sM11_100 sOM15 rfl rfl rfl (by decide) (Nat.le_of_ble_eq_true rfl) (cM_nextWarmth (zi2 : Int) ((sd_wea x zi2) (82 + zi2)) _ m hx h1 h2 (by omega)) (fun ho39 => ?_)
      refine sd_iastx (a := (82 + zi2)) sd_sokM hx sD11_warms_42 sAM0 (by omega) (fun m hx em42 => ?_)
      have hJ2 := hJ.warm (k := zi2) (by omega) hwr
      have h1 := hJ2.1
      have h2 := hJ2.2.1
      have h3 := hJ2.2.2.1
      have h4 := hJ2.2.2.2.1
      have h5 := hJ2.2.2.2.2.1
      have h6 := hJ2.2.2.2.2.2.1
      have h7 := hJ2.2.2.2.2.2.2.1
      have hR := hJ2.2.2.2.2.2.2.2.1
      have hI := hJ2.2.2.2.2.2.2.2.2.1
      have hL := hJ2.2.2.2.2.2.2.2.2.2
      refine sd_aload_n sD11_warms_43 rfl ?_
      refine sd_getfr sD11_warms_44 sF11_7 sGM15_0 ?_
      refine sd_bipush sD11_warms_47 rfl (by decide) ?_
      refine sd_iload_n sD11_warms_49 rfl ?_
      refine sd_iadd (z := (106 + (zi2 : Int))) sD11_warms_50 (by omega) (by omega) ?_
      refine sd_aload_n sD11_warms_51 rfl ?_
      refine sd_getfr sD11_warms_52 sF11_7 sGM15_0 ?_
      refine sd_bipush sD11_warms_55 rfl (by decide) ?_
      refine sd_iload_n sD11_warms_57 rfl ?_
      refine sd_iadd (z := (82 + (zi2 : Int))) sD11_warms_58 (by omega) (by omega) ?_
      refine sd_ialdx (a := (82 + zi2)) (v := sd_wth (sd_wea x zi2) (zi2 : Int) ((sd_wea x zi2) (82 + zi2))) hx sD11_warms_59 sAM0 (by omega) (by simp only [sd_up]; first | (simp; done) | (repeat (first | rw [if_pos (by first | trivial | omega)] | rw [if_neg (by omega)]))) ?_
      refine sd_iconst sD11_warms_60 (by decide) ?_
      refine sd_icmp_gt (tgt := 77) sD11_warms_61 (by decide) (fun zc61 => ?_) (fun zc61 => ?_)
      ·
        refine sd_aload_n sD11_warms_77 rfl ?_
        refine sd_getfr sD11_warms_78 sF11_7 sGM15_0 ?_
        refine sd_bipush sD11_warms_81 rfl (by decide) ?_
        refine sd_iload_n sD11_warms_83 rfl ?_
        refine sd_iadd (z := (106 + (zi2 : Int))) sD11_warms_84 (by omega) (by omega) ?_
        refine sd_ialdx (a := (106 + zi2)) (v := (sd_wea x zi2) (106 + zi2)) hx sD11_warms_85 sAM0 (by omega) (by simp only [sd_up]; repeat rw [if_neg (by omega)]) ?_
        refine sd_iastx (a := (106 + zi2)) sd_sokM hx sD11_warms_86 sAM0 (by omega) (fun m hx em86 => ?_)
        refine sd_iinc (y := ((zi2 : Int) + 1)) (ls' := [some (.inr 15), some (.inl ((zi2 : Int) + 1))]) sD11_warms_87 rfl (by omega) (by omega) (by decide) rfl ?_
        refine sd_goto (tgt := 2) sD11_warms_90 (by decide) ?_
        exact sd_eqw (ls' := [some (.inr 15), some (.inl ((zi2 + 1 : Nat) : Int))]) (ihzi2 m (by simp only [sd_wea]; unfold sd_weS; first | (rw [if_pos (by assumption), if_pos ⟨by assumption, by assumption⟩]; exact hx) | (rw [if_pos (by assumption), if_neg (fun q => by have q1 := q.1; have q2 := q.2; first | omega | contradiction)]; exact hx) | (rw [if_neg (by assumption)]; exact hx) | (rw [if_pos (by assumption), if_neg (fun q => by have q1 := q.1; have q2 := q.2; first | omega | contradiction)]; exact sd_nseq (sd_up_self2 (by rw [sd_up_ne (by omega)])) hx)) (by trivial)) (sd_cg rfl (sd_cg (sd_ce (show (((zi2 : Int) + 1) : Int) = ((zi2 + 1 : Nat) : Int) from by omega)) rfl)) rfl
      ·
        refine sd_aload_n sD11_warms_64 rfl ?_
        refine sd_iload_n sD11_warms_65 rfl ?_
        refine sd_iconst sD11_warms_66 (by decide) ?_
        refine sd_callVp (as := [.inl (zi2 : Int), .inl 1]) (st := [.inl (106 + (zi2 : Int)), .inr 0]) (v := .inl (sd_b (sd_pip (sd_up (sd_wea x zi2) (82 + zi2) (sd_wth (sd_wea x zi2) (zi2 : Int) ((sd_wea x zi2) (82 + zi2)))) (zi2 : Int) 1))) sD11_warms_67 sM11_97 sOM15 rfl rfl rfl (by decide) (Nat.le_of_ble_eq_true rfl) (cM_leads (zi2 : Int) 1 _ m hx h1 h2 ) (fun ho67 => ?_)
        refine sd_bif_eq (tgt := 77) sD11_warms_70 (by decide) (fun zc70 => ?_) (fun zc70 => ?_)
        ·
          refine sd_aload_n sD11_warms_77 rfl ?_
          refine sd_getfr sD11_warms_78 sF11_7 sGM15_0 ?_
          refine sd_bipush sD11_warms_81 rfl (by decide) ?_
          refine sd_iload_n sD11_warms_83 rfl ?_
          refine sd_iadd (z := (106 + (zi2 : Int))) sD11_warms_84 (by omega) (by omega) ?_
          refine sd_ialdx (a := (106 + zi2)) (v := (sd_wea x zi2) (106 + zi2)) hx sD11_warms_85 sAM0 (by omega) (by simp only [sd_up]; repeat rw [if_neg (by omega)]) ?_
          refine sd_iastx (a := (106 + zi2)) sd_sokM hx sD11_warms_86 sAM0 (by omega) (fun m hx em86 => ?_)
          refine sd_iinc (y := ((zi2 : Int) + 1)) (ls' := [some (.inr 15), some (.inl ((zi2 : Int) + 1))]) sD11_warms_87 rfl (by omega) (by omega) (by decide) rfl ?_
          refine sd_goto (tgt := 2) sD11_warms_90 (by decide) ?_
          exact sd_eqw (ls' := [some (.inr 15), some (.inl ((zi2 + 1 : Nat) : Int))]) (ihzi2 m (by simp only [sd_wea]; unfold sd_weS; first | (rw [if_pos (by assumption), if_pos ⟨by assumption, by assumption⟩]; exact hx) | (rw [if_pos (by assumption), if_neg (fun q => by have q1 := q.1; have q2 := q.2; first | omega | contradiction)]; exact hx) | (rw [if_neg (by assumption)]; exact hx) | (rw [if_pos (by assumption), if_neg (fun q => by have q1 := q.1; have q2 := q.2; first | omega | contradiction)]; exact sd_nseq (sd_up_self2 (by rw [sd_up_ne (by omega)])) hx)) (by trivial)) (sd_cg rfl (sd_cg (sd_ce (show (((zi2 : Int) + 1) : Int) = ((zi2 + 1 : Nat) : Int) from by omega)) rfl)) rfl
        ·
          refine sd_iconst sD11_warms_73 (by decide) ?_
          refine sd_goto (tgt := 86) sD11_warms_74 (by decide) ?_
          refine sd_iastx (a := (106 + zi2)) sd_sokM hx sD11_warms_86 sAM0 (by omega) (fun m hx em86 => ?_)
          refine sd_iinc (y := ((zi2 : Int) + 1)) (ls' := [some (.inr 15), some (.inl ((zi2 : Int) + 1))]) sD11_warms_87 rfl (by omega) (by omega) (by decide) rfl ?_
          refine sd_goto (tgt := 2) sD11_warms_90 (by decide) ?_
          exact sd_eqw (ls' := [some (.inr 15), some (.inl ((zi2 + 1 : Nat) : Int))]) (ihzi2 m (by simp only [sd_wea]; unfold sd_weS; first | (rw [if_pos (by assumption), if_pos ⟨by assumption, by assumption⟩]; exact hx) | (rw [if_pos (by assumption), if_neg (fun q => by have q1 := q.1; have q2 := q.2; first | omega | contradiction)]; exact hx) | (rw [if_neg (by assumption)]; exact hx) | (rw [if_pos (by assumption), if_neg (fun q => by have q1 := q.1; have q2 := q.2; first | omega | contradiction)]; exact sd_nseq (sd_up_self2 (by rw [sd_up_ne (by omega)])) hx)) (by trivial)) (sd_cg rfl (sd_cg (sd_ce (show (((zi2 : Int) + 1) : Int) = ((zi2 + 1 : Nat) : Int) from by omega)) rfl)) rfl
  ·
    show sd_Wp sd_SM 3 sY11_warms 2 [some (.inr 15), some (.inl ((((x 2).toNat) : Nat) : Int))] [] m _
    obtain ⟨hJ, hw2, hw3, hw0, hw1⟩ := sd_wea_J hJ (x 2).toNat (by omega)
    refine sd_iload_n sD11_warms_2 rfl ?_
    refine sd_aload_n sD11_warms_3 rfl ?_
    refine sd_getfr sD11_warms_4 sF11_7 sGM15_0 ?_
    refine sd_iconst sD11_warms_7 (by decide) ?_
    refine sd_ialdx (a := 2) (v := (sd_wea x ((x 2).toNat)) 2) hx sD11_warms_8 sAM0 (by omega) rfl ?_
    refine sd_icmp_ge (tgt := 93) sD11_warms_9 (by decide) (fun zc9 => ?_) (fun zc9 => (by exfalso; omega))
    refine sd_vreturn sD11_warms_93 rfl (fun hm => ?_)
    exact ⟨rfl, hx⟩
