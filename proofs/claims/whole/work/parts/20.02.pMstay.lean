set_option maxRecDepth 100000 in
set_option maxHeartbeats 4000000 in
theorem pM_stay (i : Int) (x m : sd_M) (hx : sd_ns x m) (h1 : sd_I1 x) (h2 : sd_I2 x) (h4 : sd_I4 x) (hF : ∀ k : Nat, k < 7 → 0 ≤ x (4101 + k) ∧ x (4101 + k) ≤ 1000000) : sd_Ct sd_SM 3 sY11_stay [.inr 15, .inl i] m (sd_Qp (sp_stay x i)) := by
  refine sd_ct rfl (Nat.le_of_ble_eq_true rfl) (fun hok hm => ?_)
  obtain ⟨⟨i0, j0⟩, ⟨i1, j1⟩, ⟨i2, j2⟩, ⟨i3, j3⟩, ⟨i4, j4⟩, ⟨i5, j5⟩, ⟨i6, j6⟩, ⟨i7, j7⟩, ⟨i8, j8⟩⟩ := id h1
  have r_i : sd_R i := hok (.inl i) (by simp)
  show sd_Wp sd_SM 3 sY11_stay 0 [some (.inr 15), some (.inl i), none, none, none] [] m _
  refine sd_aload_n sD11_stay_0 rfl ?_
  refine sd_iload_n sD11_stay_1 rfl ?_
  refine sd_callVp (as := [.inl i]) (st := []) (v := .inl (sd_b (sd_isM x i))) sD11_stay_2 sM11_103 sOM15 rfl rfl rfl (by decide) (Nat.le_of_ble_eq_true rfl) (cM_isMan i _ m hx h1 ) (fun ho2 => ?_)
  refine sd_bif_ne (tgt := 14) sD11_stay_5 (by decide) (fun zc5 => ?_) (fun zc5 => ?_)
  ·
    have e4 := (h4 i.toNat (by omega)).1
    refine sd_aload_n sD11_stay_14 rfl ?_
    refine sd_getfr sD11_stay_15 sF11_7 sGM15_0 ?_
    refine sd_sipush sD11_stay_18 rfl (by decide) ?_
    refine sd_iload_n sD11_stay_21 rfl ?_
    refine sd_iadd (z := (322 + i)) sD11_stay_22 (by omega) (by omega) ?_
    refine sd_ialdx (a := (322 + i.toNat)) (v := x (322 + i.toNat)) hx sD11_stay_23 sAM0 (by omega) rfl ?_
    refine sd_if_ge (tgt := 33) sD11_stay_24 (by decide) (fun zc24 => ?_) (fun zc24 => ?_)
    ·
      have e4 := (h4 i.toNat (by omega)).1
      have e9 := (h4 i.toNat (by omega)).2.2.1
      have e10 := (h4 i.toNat (by omega)).2.1
      have e11 := (h4 i.toNat (by omega)).2.2.2.1
      refine sd_aload_n sD11_stay_33 rfl ?_
      refine sd_getfr sD11_stay_34 sF11_7 sGM15_0 ?_
      refine sd_sipush sD11_stay_37 rfl (by decide) ?_
      refine sd_iload_n sD11_stay_40 rfl ?_
      refine sd_iadd (z := (338 + i)) sD11_stay_41 (by omega) (by omega) ?_
      refine sd_ialdx (a := (338 + i.toNat)) (v := x (338 + i.toNat)) hx sD11_stay_42 sAM0 (by omega) rfl ?_
      refine sd_istore_n (ls' := [some (.inr 15), some (.inl i), some (.inl (x (338 + i.toNat))), none, none]) sD11_stay_43 (by decide) rfl ?_
      refine sd_aload_n sD11_stay_44 rfl ?_
      refine sd_getfr sD11_stay_45 sF11_7 sGM15_0 ?_
      refine sd_sipush sD11_stay_48 rfl (by decide) ?_
      refine sd_iload_n sD11_stay_51 rfl ?_
      refine sd_iadd (z := (370 + i)) sD11_stay_52 (by omega) (by omega) ?_
      refine sd_ialdx (a := (370 + i.toNat)) (v := x (370 + i.toNat)) hx sD11_stay_53 sAM0 (by omega) rfl ?_
      refine sd_istore_n (ls' := [some (.inr 15), some (.inl i), some (.inl (x (338 + i.toNat))), some (.inl (x (370 + i.toNat))), none]) sD11_stay_54 (by decide) rfl ?_
      refine sd_iconst sD11_stay_55 (by decide) ?_
      refine sd_istore (ls' := [some (.inr 15), some (.inl i), some (.inl (x (338 + i.toNat))), some (.inl (x (370 + i.toNat))), some (.inl 0)]) sD11_stay_56 (by decide) rfl ?_
      refine sd_forH (100) (fun zi58 : Nat => [some (.inr 15), some (.inl i), some (.inl (sd_wl x i.toNat zi58)), some (.inl (sd_hg x i.toNat zi58)), some (.inl (zi58 : Int))]) (fun zi58 : Nat => ∀ j, j < zi58 → ¬ sd_Pl x i.toNat j) (by rfl) (fun zi58 hizi58 hhzi58 ihzi58 => ?_) (fun hhzi58 => ?_) (by intro j hj; omega)
      ·
        have e5 := sd_wl_rng h2 h4 (i := i.toNat) (by omega) (by omega) zi58
        have e6 := sd_hg_rng h4 (i := i.toNat) (by omega) zi58
        have e8 : 0 ≤ sd_los x (x (322 + i.toNat)) (min 99 (sd_hg x i.toNat zi58 + 1)) (x (354 + i.toNat)) ((x 0 + (zi58 : Int)) % 24) ∧ sd_los x (x (322 + i.toNat)) (min 99 (sd_hg x i.toNat zi58 + 1)) (x (354 + i.toNat)) ((x 0 + (zi58 : Int)) % 24) ≤ 5 := sd_los_rng h2 (by omega)
        refine sd_iload sD11_stay_58 rfl ?_
        refine sd_bipush sD11_stay_60 rfl (by decide) ?_
        refine sd_icmp_ge (tgt := 152) sD11_stay_62 (by decide) (fun zc62 => (by exfalso; omega)) (fun zc62 => ?_)
        refine sd_iload_n sD11_stay_65 rfl ?_
        refine sd_bipush sD11_stay_66 rfl (by decide) ?_
        refine sd_cut (J := 79) (ls := [some (.inr 15), some (.inl i), some (.inl (sd_wl x i.toNat zi58)), some (.inl (sd_hg x i.toNat zi58)), some (.inl (zi58 : Int))]) (st := []) (fun zv => zv = (min 99 (sd_hg x i.toNat zi58 + 1))) (fun zv hzv => ?_) (fun K68 => ?_)
        ·
          subst hzv
          refine sd_istore_n (ls' := [some (.inr 15), some (.inl i), some (.inl (sd_wl x i.toNat zi58)), some (.inl (min 99 (sd_hg x i.toNat zi58 + 1))), some (.inl (zi58 : Int))]) sD11_stay_79 (by decide) rfl ?_
          refine sd_aload_n sD11_stay_80 rfl ?_
          refine sd_iload_n sD11_stay_81 rfl ?_
          refine sd_iload_n sD11_stay_82 rfl ?_
          refine sd_aload_n sD11_stay_83 rfl ?_
          refine sd_getfr sD11_stay_84 sF11_7 sGM15_0 ?_
          refine sd_sipush sD11_stay_87 rfl (by decide) ?_
          refine sd_iload_n sD11_stay_90 rfl ?_
          refine sd_iadd (z := (322 + i)) sD11_stay_91 (by omega) (by omega) ?_
          refine sd_ialdx (a := (322 + i.toNat)) (v := x (322 + i.toNat)) hx sD11_stay_92 sAM0 (by omega) rfl ?_
          refine sd_aload_n sD11_stay_93 rfl ?_
          refine sd_getfr sD11_stay_94 sF11_7 sGM15_0 ?_
          refine sd_sipush sD11_stay_97 rfl (by decide) ?_
          refine sd_iload_n sD11_stay_100 rfl ?_
          refine sd_iadd (z := (354 + i)) sD11_stay_101 (by omega) (by omega) ?_
          refine sd_ialdx (a := (354 + i.toNat)) (v := x (354 + i.toNat)) hx sD11_stay_102 sAM0 (by omega) rfl ?_
          refine sd_aload_n sD11_stay_103 rfl ?_
          refine sd_getfr sD11_stay_104 sF11_7 sGM15_0 ?_
          refine sd_iconst sD11_stay_107 (by decide) ?_
          refine sd_ialdx (a := 0) (v := x 0) hx sD11_stay_108 sAM0 (by omega) rfl ?_
          refine sd_iload sD11_stay_109 rfl ?_
          refine sd_iadd (z := (x 0 + (zi58 : Int))) sD11_stay_111 (by omega) (by omega) ?_
          refine sd_bipush sD11_stay_112 rfl (by decide) ?_
          refine sd_irem (z := ((x 0 + (zi58 : Int)) % 24)) sD11_stay_114 (by decide) (by exact Int.tmod_eq_emod_of_nonneg (by omega)) (by omega) ?_
          refine sd_callVp (as := [.inl (sd_wl x i.toNat zi58), .inl (min 99 (sd_hg x i.toNat zi58 + 1)), .inl (x (322 + i.toNat)), .inl (x (354 + i.toNat)), .inl ((x 0 + (zi58 : Int)) % 24)]) (st := []) (v := .inl (max 0 ((sd_wl x i.toNat zi58) - sd_los x (x (322 + i.toNat)) (min 99 (sd_hg x i.toNat zi58 + 1)) (x (354 + i.toNat)) ((x 0 + (zi58 : Int)) % 24)))) sD11_stay_115 sM11_112 sOM15 rfl rfl rfl (by decide) (Nat.le_of_ble_eq_true rfl) (cM_willThen (sd_wl x i.toNat zi58) (min 99 (sd_hg x i.toNat zi58 + 1)) (x (322 + i.toNat)) (x (354 + i.toNat)) ((x 0 + (zi58 : Int)) % 24) _ m hx h2 (by omega) (by omega)) (fun ho115 => ?_)
          refine sd_istore_n (ls' := [some (.inr 15), some (.inl i), some (.inl (max 0 ((sd_wl x i.toNat zi58) - sd_los x (x (322 + i.toNat)) (min 99 (sd_hg x i.toNat zi58 + 1)) (x (354 + i.toNat)) ((x 0 + (zi58 : Int)) % 24)))), some (.inl (min 99 (sd_hg x i.toNat zi58 + 1))), some (.inl (zi58 : Int))]) sD11_stay_118 (by decide) rfl ?_
          refine sd_iload_n sD11_stay_119 rfl ?_
          refine sd_aload_n sD11_stay_120 rfl ?_
          refine sd_getfr sD11_stay_121 sF11_7 sGM15_0 ?_
          refine sd_sipush sD11_stay_124 rfl (by decide) ?_
          refine sd_iload_n sD11_stay_127 rfl ?_
          refine sd_iadd (z := (354 + i)) sD11_stay_128 (by omega) (by omega) ?_
          refine sd_ialdx (a := (354 + i.toNat)) (v := x (354 + i.toNat)) hx sD11_stay_129 sAM0 (by omega) rfl ?_
          refine sd_bipush sD11_stay_130 rfl (by decide) ?_
          refine sd_idiv (z := (x (354 + i.toNat) / 10)) sD11_stay_132 (by decide) (by exact Int.tdiv_eq_ediv_of_nonneg (by omega)) (by omega) ?_
          refine sd_icmp_ge (tgt := 146) sD11_stay_133 (by decide) (fun zc133 => ?_) (fun zc133 => ?_)
          ·
            refine sd_iinc (y := ((zi58 : Int) + 1)) (ls' := [some (.inr 15), some (.inl i), some (.inl (max 0 ((sd_wl x i.toNat zi58) - sd_los x (x (322 + i.toNat)) (min 99 (sd_hg x i.toNat zi58 + 1)) (x (354 + i.toNat)) ((x 0 + (zi58 : Int)) % 24)))), some (.inl (min 99 (sd_hg x i.toNat zi58 + 1))), some (.inl ((zi58 : Int) + 1))]) sD11_stay_146 rfl (by omega) (by omega) (by decide) rfl ?_
            refine sd_goto (tgt := 58) sD11_stay_149 (by decide) ?_
            exact sd_eqw (ls' := [some (.inr 15), some (.inl i), some (.inl (sd_wl x i.toNat (zi58 + 1))), some (.inl (sd_hg x i.toNat (zi58 + 1))), some (.inl ((zi58 + 1 : Nat) : Int))]) (ihzi58 (by exact sd_all_succ hhzi58 (fun (hp : sd_wl x i.toNat (zi58 + 1) < x (354 + i.toNat) / 10) => by have hp2 : max 0 (sd_wl x i.toNat zi58 - sd_los x (x (322 + i.toNat)) (min 99 (sd_hg x i.toNat zi58 + 1)) (x (354 + i.toNat)) ((x 0 + zi58) % 24)) < x (354 + i.toNat) / 10 := hp; omega))) (by rw [show (max 0 ((sd_wl x i.toNat zi58) - sd_los x (x (322 + i.toNat)) (min 99 (sd_hg x i.toNat zi58 + 1)) (x (354 + i.toNat)) ((x 0 + (zi58 : Int)) % 24)) : Int) = sd_wl x i.toNat (zi58 + 1) from by rfl, show (min 99 (sd_hg x i.toNat zi58 + 1) : Int) = sd_hg x i.toNat (zi58 + 1) from by rfl, show (((zi58 : Int) + 1) : Int) = ((zi58 + 1 : Nat) : Int) from by omega]) rfl
          ·
            have zz := sd_fv_at hhzi58 zc133 (by omega)
            refine sd_aload_n sD11_stay_136 rfl ?_
            refine sd_getfr sD11_stay_137 sF11_7 sGM15_0 ?_
            refine sd_iconst sD11_stay_140 (by decide) ?_
            refine sd_ialdx (a := 0) (v := x 0) hx sD11_stay_141 sAM0 (by omega) rfl ?_
            refine sd_iload sD11_stay_142 rfl ?_
            refine sd_iadd (z := (x 0 + (zi58 : Int))) sD11_stay_144 (by omega) (by omega) ?_
            refine sd_ireturn sD11_stay_145 rfl (fun hr hm => ?_)
            exact sd_done (by unfold sp_stay; ((repeat (first | rw [if_pos (by first | assumption | omega)] | rw [if_neg (by first | assumption | omega)])); try rfl); try (rw [zz])) hx
        ·
          refine sd_icmp_ge (tgt := 77) sD11_stay_68 (by decide) (fun zc68 => ?_) (fun zc68 => ?_)
          ·
            refine sd_bipush sD11_stay_77 rfl (by decide) ?_
            exact K68 _ (by omega)
          ·
            refine sd_iload_n sD11_stay_71 rfl ?_
            refine sd_iconst sD11_stay_72 (by decide) ?_
            refine sd_iadd (z := (sd_hg x i.toNat zi58 + 1)) sD11_stay_73 (by omega) (by omega) ?_
            refine sd_goto (tgt := 79) sD11_stay_74 (by decide) ?_
            exact K68 _ (by omega)
      ·
        show sd_Wp sd_SM 3 sY11_stay 58 [some (.inr 15), some (.inl i), some (.inl (sd_wl x i.toNat 100)), some (.inl (sd_hg x i.toNat 100)), some (.inl (100 : Int))] [] m _
        refine sd_iload sD11_stay_58 rfl ?_
        refine sd_bipush sD11_stay_60 rfl (by decide) ?_
        refine sd_icmp_ge (tgt := 152) sD11_stay_62 (by decide) (fun zc62 => ?_) (fun zc62 => (by exfalso; omega))
        have zz := sd_fv_none hhzi58
        refine sd_aload_n sD11_stay_152 rfl ?_
        refine sd_iconst sD11_stay_153 (by decide) ?_
        refine sd_callV (as := [.inl 3]) (st := []) sD11_stay_154 sM11_78 rfl rfl sOM15 rfl (by decide) (Nat.le_of_ble_eq_true rfl) (cM_finding 3 (by decide) _ m hx (hF 3 (by decide))) (fun r m hq ho154 hm => ?_)
        obtain ⟨rfl, hx⟩ := hq
        show sd_Wp sd_SM 3 sY11_stay 157 [some (.inr 15), some (.inl i), some (.inl (sd_wl x i.toNat 100)), some (.inl (sd_hg x i.toNat 100)), some (.inl (100 : Int))] [.inl (-1000004)] m _
        refine sd_ireturn sD11_stay_157 rfl (fun hr hm => ?_)
        exact sd_done (by unfold sp_stay; ((repeat (first | rw [if_pos (by first | assumption | omega)] | rw [if_neg (by first | assumption | omega)])); try rfl); try (rw [zz])) hx
    ·
      refine sd_aload_n sD11_stay_27 rfl ?_
      refine sd_iconst sD11_stay_28 (by decide) ?_
      refine sd_callV (as := [.inl 4]) (st := []) sD11_stay_29 sM11_78 rfl rfl sOM15 rfl (by decide) (Nat.le_of_ble_eq_true rfl) (cM_finding 4 (by decide) _ m hx (hF 4 (by decide))) (fun r m hq ho29 hm => ?_)
      obtain ⟨rfl, hx⟩ := hq
      show sd_Wp sd_SM 3 sY11_stay 32 [some (.inr 15), some (.inl i), none, none, none] [.inl (-1000005)] m _
      refine sd_ireturn sD11_stay_32 rfl (fun hr hm => ?_)
      exact sd_done (by unfold sp_stay; ((repeat (first | rw [if_pos (by first | assumption | omega)] | rw [if_neg (by first | assumption | omega)])); try rfl); try (rw [zz])) hx
  ·
    refine sd_aload_n sD11_stay_8 rfl ?_
    refine sd_iconst sD11_stay_9 (by decide) ?_
    refine sd_callV (as := [.inl 0]) (st := []) sD11_stay_10 sM11_78 rfl rfl sOM15 rfl (by decide) (Nat.le_of_ble_eq_true rfl) (cM_finding 0 (by decide) _ m hx (hF 0 (by decide))) (fun r m hq ho10 hm => ?_)
    obtain ⟨rfl, hx⟩ := hq
    show sd_Wp sd_SM 3 sY11_stay 13 [some (.inr 15), some (.inl i), none, none, none] [.inl (-1000001)] m _
    refine sd_ireturn sD11_stay_13 rfl (fun hr hm => ?_)
    exact sd_done (by unfold sp_stay; ((repeat (first | rw [if_pos (by first | assumption | omega)] | rw [if_neg (by first | assumption | omega)])); try rfl); try (rw [zz])) hx
