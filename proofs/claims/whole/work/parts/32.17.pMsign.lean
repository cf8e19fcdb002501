set_option maxRecDepth 100000 in
set_option maxHeartbeats 4000000 in
theorem pM_sign (t : Int) (a : Int) (l : Int) (x m : sd_M) (hx : sd_ns x m) (h1 : sd_I1 x) (h2 : sd_I2 x) (hF : ∀ k : Nat, k < 7 → 0 ≤ x (4101 + k) ∧ x (4101 + k) ≤ 1000000) : sd_Ct sd_SM 3 sY11_sign [.inr 15, .inl t, .inl a, .inl l] m (sd_Qp (sp_sign x t a l)) := by
  refine sd_ct rfl (Nat.le_of_ble_eq_true rfl) (fun hok hm => ?_)
  obtain ⟨⟨i0, j0⟩, ⟨i1, j1⟩, ⟨i2, j2⟩, ⟨i3, j3⟩, ⟨i4, j4⟩, ⟨i5, j5⟩, ⟨i6, j6⟩, ⟨i7, j7⟩, ⟨i8, j8⟩⟩ := id h1
  have r_t : sd_R t := hok (.inl t) (by simp)
  have r_a : sd_R a := hok (.inl a) (by simp)
  have r_l : sd_R l := hok (.inl l) (by simp)
  show sd_Wp sd_SM 3 sY11_sign 0 [some (.inr 15), some (.inl t), some (.inl a), some (.inl l), none, none, none, none, none, none] [] m _
  refine sd_iconst sD11_sign_0 (by decide) ?_
  refine sd_istore (ls' := [some (.inr 15), some (.inl t), some (.inl a), some (.inl l), some (.inl 0), none, none, none, none, none]) sD11_sign_1 (by decide) rfl ?_
  refine sd_iconst sD11_sign_3 (by decide) ?_
  refine sd_istore (ls' := [some (.inr 15), some (.inl t), some (.inl a), some (.inl l), some (.inl 0), some (.inl 0), none, none, none, none]) sD11_sign_4 (by decide) rfl ?_
  refine sd_forE ((x 2).toNat) (fun zi6 : Nat => [some (.inr 15), some (.inl t), some (.inl a), some (.inl l), some (.inl (sd_set (sd_Pt x) zi6)), some (.inl (zi6 : Int)), none, none, none, none]) (by rfl) (fun zi6 hizi6 ihzi6 => ?_) ?_
  ·
    refine sd_iload sD11_sign_6 rfl ?_
    refine sd_aload_n sD11_sign_8 rfl ?_
    refine sd_getfr sD11_sign_9 sF11_7 sGM15_0 ?_
    refine sd_iconst sD11_sign_12 (by decide) ?_
    refine sd_ialdx (a := 2) (v := x 2) hx sD11_sign_13 sAM0 (by omega) rfl ?_
    refine sd_icmp_ge (tgt := 47) sD11_sign_14 (by decide) (fun zc14 => (by exfalso; omega)) (fun zc14 => ?_)
    refine sd_iload sD11_sign_17 rfl ?_
    refine sd_aload_n sD11_sign_19 rfl ?_
    refine sd_iload sD11_sign_20 rfl ?_
    refine sd_callVp (as := [.inl (zi6 : Int)]) (st := [.inl (sd_set (sd_Pt x) zi6)]) (v := .inl (x (10 + zi6))) sD11_sign_22 sM11_64 sOM15 rfl rfl rfl (by decide) (Nat.le_of_ble_eq_true rfl) (cM_kindOf (zi6 : Int) _ m hx  (by omega)) (fun ho22 => ?_)
    refine sd_bipush sD11_sign_25 rfl (by decide) ?_
    refine sd_icmp_ne (tgt := 37) sD11_sign_27 (by decide) (fun zc27 => ?_) (fun zc27 => ?_)
    ·
      refine sd_iconst sD11_sign_37 (by decide) ?_
      refine sd_ior sD11_sign_38 ?_
      refine sd_istore (ls' := [some (.inr 15), some (.inl t), some (.inl a), some (.inl l), some (.inl (sd_or (sd_set (sd_Pt x) zi6) 0)), some (.inl (zi6 : Int)), none, none, none, none]) sD11_sign_39 (by decide) rfl ?_
      refine sd_iinc (y := ((zi6 : Int) + 1)) (ls' := [some (.inr 15), some (.inl t), some (.inl a), some (.inl l), some (.inl (sd_or (sd_set (sd_Pt x) zi6) 0)), some (.inl ((zi6 : Int) + 1)), none, none, none, none]) sD11_sign_41 rfl (by omega) (by omega) (by decide) rfl ?_
      refine sd_goto (tgt := 6) sD11_sign_44 (by decide) ?_
      exact sd_eqw (ls' := [some (.inr 15), some (.inl t), some (.inl a), some (.inl l), some (.inl (sd_set (sd_Pt x) (zi6 + 1))), some (.inl ((zi6 + 1 : Nat) : Int)), none, none, none, none]) ihzi6 (sd_cg rfl (sd_cg rfl (sd_cg rfl (sd_cg rfl (sd_cg (sd_ce (show (sd_or (sd_set (sd_Pt x) zi6) 0 : Int) = sd_set (sd_Pt x) (zi6 + 1) from by (simp only [sd_set]; first | (rw [if_pos (by omega)]; done) | (rw [if_neg (by omega)]; exact sd_or_0 (sd_setR _ _))))) (sd_cg (sd_ce (show (((zi6 : Int) + 1) : Int) = ((zi6 + 1 : Nat) : Int) from by omega)) (sd_cg rfl (sd_cg rfl (sd_cg rfl (sd_cg rfl rfl)))))))))) rfl
    ·
      refine sd_iconst sD11_sign_30 (by decide) ?_
      refine sd_iload sD11_sign_31 rfl ?_
      refine sd_ishl sD11_sign_33 ?_
      refine sd_goto (tgt := 38) sD11_sign_34 (by decide) ?_
      refine sd_ior sD11_sign_38 ?_
      refine sd_istore (ls' := [some (.inr 15), some (.inl t), some (.inl a), some (.inl l), some (.inl (sd_or (sd_set (sd_Pt x) zi6) (sd_shl 1 (zi6 : Int)))), some (.inl (zi6 : Int)), none, none, none, none]) sD11_sign_39 (by decide) rfl ?_
      refine sd_iinc (y := ((zi6 : Int) + 1)) (ls' := [some (.inr 15), some (.inl t), some (.inl a), some (.inl l), some (.inl (sd_or (sd_set (sd_Pt x) zi6) (sd_shl 1 (zi6 : Int)))), some (.inl ((zi6 : Int) + 1)), none, none, none, none]) sD11_sign_41 rfl (by omega) (by omega) (by decide) rfl ?_
      refine sd_goto (tgt := 6) sD11_sign_44 (by decide) ?_
      exact sd_eqw (ls' := [some (.inr 15), some (.inl t), some (.inl a), some (.inl l), some (.inl (sd_set (sd_Pt x) (zi6 + 1))), some (.inl ((zi6 + 1 : Nat) : Int)), none, none, none, none]) ihzi6 (sd_cg rfl (sd_cg rfl (sd_cg rfl (sd_cg rfl (sd_cg (sd_ce (show (sd_or (sd_set (sd_Pt x) zi6) (sd_shl 1 (zi6 : Int)) : Int) = sd_set (sd_Pt x) (zi6 + 1) from by (simp only [sd_set]; first | (rw [if_pos (by omega)]; done) | (rw [if_neg (by omega)]; exact sd_or_0 (sd_setR _ _))))) (sd_cg (sd_ce (show (((zi6 : Int) + 1) : Int) = ((zi6 + 1 : Nat) : Int) from by omega)) (sd_cg rfl (sd_cg rfl (sd_cg rfl (sd_cg rfl rfl)))))))))) rfl
  ·
    show sd_Wp sd_SM 3 sY11_sign 6 [some (.inr 15), some (.inl t), some (.inl a), some (.inl l), some (.inl (sd_set (sd_Pt x) ((x 2).toNat))), some (.inl ((((x 2).toNat) : Nat) : Int)), none, none, none, none] [] m _
    refine sd_iload sD11_sign_6 rfl ?_
    refine sd_aload_n sD11_sign_8 rfl ?_
    refine sd_getfr sD11_sign_9 sF11_7 sGM15_0 ?_
    refine sd_iconst sD11_sign_12 (by decide) ?_
    refine sd_ialdx (a := 2) (v := x 2) hx sD11_sign_13 sAM0 (by omega) rfl ?_
    refine sd_icmp_ge (tgt := 47) sD11_sign_14 (by decide) (fun zc14 => ?_) (fun zc14 => (by exfalso; omega))
    refine sd_iload_n sD11_sign_47 rfl ?_
    refine sd_if_lt (tgt := 82) sD11_sign_48 (by decide) (fun zc48 => ?_) (fun zc48 => ?_)
    ·
      have zq : ¬ sd_and t (sd_xor (sd_trm x) (-1)) = 0 ∨ ¬ (0 ≤ a ∧ a ≤ 999) ∨ ¬ (0 ≤ l ∧ l ≤ 999) := by first | (have zq2 := sd_neg_sub r_t (sd_Pt x) (n := (x 2).toNat) (by omega) (by omega); exact Or.inl zq2) | exact Or.inl (by assumption) | omega
      refine sd_aload_n sD11_sign_82 rfl ?_
      refine sd_iconst sD11_sign_83 (by decide) ?_
      refine sd_callV (as := [.inl 0]) (st := []) sD11_sign_84 sM11_78 rfl rfl sOM15 rfl (by decide) (Nat.le_of_ble_eq_true rfl) (cM_finding 0 (by decide) _ m hx (hF 0 (by decide))) (fun r m hq ho84 hm => ?_)
      obtain ⟨rfl, hx⟩ := hq
      show sd_Wp sd_SM 3 sY11_sign 87 [some (.inr 15), some (.inl t), some (.inl a), some (.inl l), some (.inl (sd_set (sd_Pt x) ((x 2).toNat))), some (.inl ((((x 2).toNat) : Nat) : Int)), none, none, none, none] [.inl (-1000001)] m _
      refine sd_ireturn sD11_sign_87 rfl (fun hr hm => ?_)
      exact sd_done (by unfold sp_sign sd_sgb; ((repeat (first | rw [if_pos (by first | assumption | omega)] | rw [if_neg (by first | assumption | omega)])); try rfl)) hx
    ·
      have zt : sd_R t := r_t
      refine sd_iload_n sD11_sign_51 rfl ?_
      refine sd_iload sD11_sign_52 rfl ?_
      refine sd_iconst sD11_sign_54 (by decide) ?_
      refine sd_ixor sD11_sign_55 ?_
      refine sd_iand sD11_sign_56 ?_
      refine sd_if_ne (tgt := 82) sD11_sign_57 (by decide) (fun zc57 => ?_) (fun zc57 => ?_)
      ·
        have zq : ¬ sd_and t (sd_xor (sd_trm x) (-1)) = 0 ∨ ¬ (0 ≤ a ∧ a ≤ 999) ∨ ¬ (0 ≤ l ∧ l ≤ 999) := by first | (have zq2 := sd_neg_sub r_t (sd_Pt x) (n := (x 2).toNat) (by omega) (by omega); exact Or.inl zq2) | exact Or.inl (by assumption) | omega
        refine sd_aload_n sD11_sign_82 rfl ?_
        refine sd_iconst sD11_sign_83 (by decide) ?_
        refine sd_callV (as := [.inl 0]) (st := []) sD11_sign_84 sM11_78 rfl rfl sOM15 rfl (by decide) (Nat.le_of_ble_eq_true rfl) (cM_finding 0 (by decide) _ m hx (hF 0 (by decide))) (fun r m hq ho84 hm => ?_)
        obtain ⟨rfl, hx⟩ := hq
        show sd_Wp sd_SM 3 sY11_sign 87 [some (.inr 15), some (.inl t), some (.inl a), some (.inl l), some (.inl (sd_set (sd_Pt x) ((x 2).toNat))), some (.inl ((((x 2).toNat) : Nat) : Int)), none, none, none, none] [.inl (-1000001)] m _
        refine sd_ireturn sD11_sign_87 rfl (fun hr hm => ?_)
        exact sd_done (by unfold sp_sign sd_sgb; ((repeat (first | rw [if_pos (by first | assumption | omega)] | rw [if_neg (by first | assumption | omega)])); try rfl)) hx
      ·
        have zr := sd_sub_rng r_t (sd_Pt x) (n := (x 2).toNat) (by omega) (by assumption)
        refine sd_iload_n sD11_sign_60 rfl ?_
        refine sd_iconst sD11_sign_61 (by decide) ?_
        refine sd_sipush sD11_sign_62 rfl (by decide) ?_
        refine sd_callSp (as := [.inl a, .inl 0, .inl 999]) (st := []) (v := .inl (sd_b (0 ≤ a ∧ a ≤ 999))) sD11_sign_65 sM11_56 rfl rfl (by decide) (Nat.le_of_ble_eq_true rfl) (cM_in a 0 999 m) (fun ho65 => ?_)
        refine sd_bif_eq (tgt := 82) sD11_sign_68 (by decide) (fun zc68 => ?_) (fun zc68 => ?_)
        ·
          have zq : ¬ sd_and t (sd_xor (sd_trm x) (-1)) = 0 ∨ ¬ (0 ≤ a ∧ a ≤ 999) ∨ ¬ (0 ≤ l ∧ l ≤ 999) := by first | (have zq2 := sd_neg_sub r_t (sd_Pt x) (n := (x 2).toNat) (by omega) (by omega); exact Or.inl zq2) | exact Or.inl (by assumption) | omega
          refine sd_aload_n sD11_sign_82 rfl ?_
          refine sd_iconst sD11_sign_83 (by decide) ?_
          refine sd_callV (as := [.inl 0]) (st := []) sD11_sign_84 sM11_78 rfl rfl sOM15 rfl (by decide) (Nat.le_of_ble_eq_true rfl) (cM_finding 0 (by decide) _ m hx (hF 0 (by decide))) (fun r m hq ho84 hm => ?_)
          obtain ⟨rfl, hx⟩ := hq
          show sd_Wp sd_SM 3 sY11_sign 87 [some (.inr 15), some (.inl t), some (.inl a), some (.inl l), some (.inl (sd_set (sd_Pt x) ((x 2).toNat))), some (.inl ((((x 2).toNat) : Nat) : Int)), none, none, none, none] [.inl (-1000001)] m _
          refine sd_ireturn sD11_sign_87 rfl (fun hr hm => ?_)
          exact sd_done (by unfold sp_sign sd_sgb; ((repeat (first | rw [if_pos (by first | assumption | omega)] | rw [if_neg (by first | assumption | omega)])); try rfl)) hx
        ·
          refine sd_iload_n sD11_sign_71 rfl ?_
          refine sd_iconst sD11_sign_72 (by decide) ?_
          refine sd_sipush sD11_sign_73 rfl (by decide) ?_
          refine sd_callSp (as := [.inl l, .inl 0, .inl 999]) (st := []) (v := .inl (sd_b (0 ≤ l ∧ l ≤ 999))) sD11_sign_76 sM11_56 rfl rfl (by decide) (Nat.le_of_ble_eq_true rfl) (cM_in l 0 999 m) (fun ho76 => ?_)
          refine sd_bif_ne (tgt := 88) sD11_sign_79 (by decide) (fun zc79 => ?_) (fun zc79 => ?_)
          ·
            have zq3 : sd_and t (sd_xor (sd_trm x) (-1)) = 0 := zc57
            refine sd_iload_n sD11_sign_88 rfl ?_
            refine sd_callSp (as := [.inl t]) (st := []) (v := .inl (sd_ones t)) sD11_sign_89 sM11_141 rfl rfl (by decide) (Nat.le_of_ble_eq_true rfl) (cM_ones t _ m hx  ) (fun ho89 => ?_)
            refine sd_bipush sD11_sign_92 rfl (by decide) ?_
            refine sd_icmp_le (tgt := 104) sD11_sign_94 (by decide) (fun zc94 => ?_) (fun zc94 => ?_)
            ·
              refine sd_iconst sD11_sign_104 (by decide) ?_
              refine sd_istore (ls' := [some (.inr 15), some (.inl t), some (.inl a), some (.inl l), some (.inl (sd_set (sd_Pt x) ((x 2).toNat))), some (.inl (-1)), none, none, none, none]) sD11_sign_105 (by decide) rfl ?_
              refine sd_iconst sD11_sign_107 (by decide) ?_
              refine sd_istore (ls' := [some (.inr 15), some (.inl t), some (.inl a), some (.inl l), some (.inl (sd_set (sd_Pt x) ((x 2).toNat))), some (.inl (-1)), some (.inl 0), none, none, none]) sD11_sign_108 (by decide) rfl ?_
              refine sd_iconst sD11_sign_110 (by decide) ?_
              refine sd_istore (ls' := [some (.inr 15), some (.inl t), some (.inl a), some (.inl l), some (.inl (sd_set (sd_Pt x) ((x 2).toNat))), some (.inl (-1)), some (.inl 0), some (.inl 1), none, none]) sD11_sign_111 (by decide) rfl ?_
              refine sd_forE (sd_sqN t) (fun zi113 : Nat => [some (.inr 15), some (.inl t), some (.inl a), some (.inl l), some (.inl (sd_set (sd_Pt x) ((x 2).toNat))), some (.inl (sd_sbs x t a l zi113)), some (.inl (sd_sq t zi113)), some (.inl (sd_b ((zi113 : Nat) < sd_sqN t))), none, none]) (by rw [sd_b1 (sd_sqN_pos t)]; rfl) (fun zi113 hizi113 ihzi113 => ?_) ?_
              ·
                have e5 := sd_sq_rng (S := t) (by omega) zi113
                have e6 := sd_sbs_rng (x := x) (S := t) (by omega) a l zi113
                have e7 := sd_sqN_le t
                refine sd_iload sD11_sign_113 rfl ?_
                refine sd_bif_eq (tgt := 263) sD11_sign_115 (by decide) (fun zc115 => (by exfalso; omega)) (fun zc115 => ?_)
                refine sd_aload_n sD11_sign_118 rfl ?_
                refine sd_iload sD11_sign_119 rfl ?_
                refine sd_bipush sD11_sign_121 rfl (by decide) ?_
                refine sd_callVp (as := [.inl (sd_sq t zi113), .inl 58]) (st := []) (v := .inl (sd_smi x (sd_sq t zi113) 58)) sD11_sign_123 sM11_208 sOM15 rfl rfl rfl (by decide) (Nat.le_of_ble_eq_true rfl) (cM_sumOf58 (sd_sq t zi113) _ m hx h1 h2) (fun ho123 => ?_)
                have ze123 := sd_smi_le h1 h2 (sd_sq t zi113) (b := 58) (by omega)
                refine sd_iload_n sD11_sign_126 rfl ?_
                refine sd_cut (J := 173) (ls := [some (.inr 15), some (.inl t), some (.inl a), some (.inl l), some (.inl (sd_set (sd_Pt x) ((x 2).toNat))), some (.inl (sd_sbs x t a l zi113)), some (.inl (sd_sq t zi113)), some (.inl (sd_b ((zi113 : Nat) < sd_sqN t))), none, none]) (st := []) (fun zv => zv = (sd_b ((a ≤ sd_smi x (sd_sq t zi113) 58) ∧ (a ≤ sd_smi x (sd_sq t zi113) 298) ∧ (sd_smi x (sd_sq t zi113) 34 ≤ l) ∧ (sd_smi x (sd_sq t zi113) 274 ≤ l)))) (fun zv hzv => ?_) (fun K127 => ?_)
                ·
                  subst hzv
                  refine sd_istore (ls' := [some (.inr 15), some (.inl t), some (.inl a), some (.inl l), some (.inl (sd_set (sd_Pt x) ((x 2).toNat))), some (.inl (sd_sbs x t a l zi113)), some (.inl (sd_sq t zi113)), some (.inl (sd_b ((zi113 : Nat) < sd_sqN t))), some (.inl (sd_b ((a ≤ sd_smi x (sd_sq t zi113) 58) ∧ (a ≤ sd_smi x (sd_sq t zi113) 298) ∧ (sd_smi x (sd_sq t zi113) 34 ≤ l) ∧ (sd_smi x (sd_sq t zi113) 274 ≤ l)))), none]) sD11_sign_173 (by decide) rfl ?_
                  refine sd_iload sD11_sign_175 rfl ?_
                  refine sd_cut (J := 201) (ls := [some (.inr 15), some (.inl t), some (.inl a), some (.inl l), some (.inl (sd_set (sd_Pt x) ((x 2).toNat))), some (.inl (sd_sbs x t a l zi113)), some (.inl (sd_sq t zi113)), some (.inl (sd_b ((zi113 : Nat) < sd_sqN t))), some (.inl (sd_b ((a ≤ sd_smi x (sd_sq t zi113) 58) ∧ (a ≤ sd_smi x (sd_sq t zi113) 298) ∧ (sd_smi x (sd_sq t zi113) 34 ≤ l) ∧ (sd_smi x (sd_sq t zi113) 274 ≤ l)))), none]) (st := []) (fun zv => zv = (if sd_sbs x t a l zi113 = -1 then -1 else sd_smi x (sd_sq t zi113) 34 - sd_smi x (sd_sbs x t a l zi113) 34)) (fun zv hzv => ?_) (fun K177 => ?_)
                  ·
                    subst hzv
                    refine sd_istore (ls' := [some (.inr 15), some (.inl t), some (.inl a), some (.inl l), some (.inl (sd_set (sd_Pt x) ((x 2).toNat))), some (.inl (sd_sbs x t a l zi113)), some (.inl (sd_sq t zi113)), some (.inl (sd_b ((zi113 : Nat) < sd_sqN t))), some (.inl (sd_b ((a ≤ sd_smi x (sd_sq t zi113) 58) ∧ (a ≤ sd_smi x (sd_sq t zi113) 298) ∧ (sd_smi x (sd_sq t zi113) 34 ≤ l) ∧ (sd_smi x (sd_sq t zi113) 274 ≤ l)))), some (.inl (if sd_sbs x t a l zi113 = -1 then -1 else sd_smi x (sd_sq t zi113) 34 - sd_smi x (sd_sbs x t a l zi113) 34))]) sD11_sign_201 (by decide) rfl ?_
                    refine sd_iload sD11_sign_203 rfl ?_
                    refine sd_cut (J := 238) (ls := [some (.inr 15), some (.inl t), some (.inl a), some (.inl l), some (.inl (sd_set (sd_Pt x) ((x 2).toNat))), some (.inl (sd_sbs x t a l zi113)), some (.inl (sd_sq t zi113)), some (.inl (sd_b ((zi113 : Nat) < sd_sqN t))), some (.inl (sd_b ((a ≤ sd_smi x (sd_sq t zi113) 58) ∧ (a ≤ sd_smi x (sd_sq t zi113) 298) ∧ (sd_smi x (sd_sq t zi113) 34 ≤ l) ∧ (sd_smi x (sd_sq t zi113) 274 ≤ l)))), some (.inl (if sd_sbs x t a l zi113 = -1 then -1 else sd_smi x (sd_sq t zi113) 34 - sd_smi x (sd_sbs x t a l zi113) 34))]) (st := []) (fun zv => zv = (sd_sbs x t a l (zi113 + 1))) (fun zv hzv => ?_) (fun K205 => ?_)
                    ·
                      subst hzv
                      refine sd_istore (ls' := [some (.inr 15), some (.inl t), some (.inl a), some (.inl l), some (.inl (sd_set (sd_Pt x) ((x 2).toNat))), some (.inl (sd_sbs x t a l (zi113 + 1))), some (.inl (sd_sq t zi113)), some (.inl (sd_b ((zi113 : Nat) < sd_sqN t))), some (.inl (sd_b ((a ≤ sd_smi x (sd_sq t zi113) 58) ∧ (a ≤ sd_smi x (sd_sq t zi113) 298) ∧ (sd_smi x (sd_sq t zi113) 34 ≤ l) ∧ (sd_smi x (sd_sq t zi113) 274 ≤ l)))), some (.inl (if sd_sbs x t a l zi113 = -1 then -1 else sd_smi x (sd_sq t zi113) 34 - sd_smi x (sd_sbs x t a l zi113) 34))]) sD11_sign_238 (by decide) rfl ?_
                      refine sd_iload sD11_sign_240 rfl ?_
                      refine sd_iload_n sD11_sign_242 rfl ?_
                      refine sd_isub (z := (sd_sq t zi113 - t)) sD11_sign_243 (by omega) (by omega) ?_
                      refine sd_iload_n sD11_sign_244 rfl ?_
                      refine sd_iand sD11_sign_245 ?_
                      refine sd_istore (ls' := [some (.inr 15), some (.inl t), some (.inl a), some (.inl l), some (.inl (sd_set (sd_Pt x) ((x 2).toNat))), some (.inl (sd_sbs x t a l (zi113 + 1))), some (.inl (sd_and (sd_sq t zi113 - t) t)), some (.inl (sd_b ((zi113 : Nat) < sd_sqN t))), some (.inl (sd_b ((a ≤ sd_smi x (sd_sq t zi113) 58) ∧ (a ≤ sd_smi x (sd_sq t zi113) 298) ∧ (sd_smi x (sd_sq t zi113) 34 ≤ l) ∧ (sd_smi x (sd_sq t zi113) 274 ≤ l)))), some (.inl (if sd_sbs x t a l zi113 = -1 then -1 else sd_smi x (sd_sq t zi113) 34 - sd_smi x (sd_sbs x t a l zi113) 34))]) sD11_sign_246 (by decide) rfl ?_
                      refine sd_iload sD11_sign_248 rfl ?_
                      refine sd_cut (J := 258) (ls := [some (.inr 15), some (.inl t), some (.inl a), some (.inl l), some (.inl (sd_set (sd_Pt x) ((x 2).toNat))), some (.inl (sd_sbs x t a l (zi113 + 1))), some (.inl (sd_and (sd_sq t zi113 - t) t)), some (.inl (sd_b ((zi113 : Nat) < sd_sqN t))), some (.inl (sd_b ((a ≤ sd_smi x (sd_sq t zi113) 58) ∧ (a ≤ sd_smi x (sd_sq t zi113) 298) ∧ (sd_smi x (sd_sq t zi113) 34 ≤ l) ∧ (sd_smi x (sd_sq t zi113) 274 ≤ l)))), some (.inl (if sd_sbs x t a l zi113 = -1 then -1 else sd_smi x (sd_sq t zi113) 34 - sd_smi x (sd_sbs x t a l zi113) 34))]) (st := []) (fun zv => zv = (sd_b (¬ sd_and (sd_sq t zi113 - t) t = 0))) (fun zv hzv => ?_) (fun K250 => ?_)
                      ·
                        subst hzv
                        refine sd_istore (ls' := [some (.inr 15), some (.inl t), some (.inl a), some (.inl l), some (.inl (sd_set (sd_Pt x) ((x 2).toNat))), some (.inl (sd_sbs x t a l (zi113 + 1))), some (.inl (sd_and (sd_sq t zi113 - t) t)), some (.inl (sd_b (¬ sd_and (sd_sq t zi113 - t) t = 0))), some (.inl (sd_b ((a ≤ sd_smi x (sd_sq t zi113) 58) ∧ (a ≤ sd_smi x (sd_sq t zi113) 298) ∧ (sd_smi x (sd_sq t zi113) 34 ≤ l) ∧ (sd_smi x (sd_sq t zi113) 274 ≤ l)))), some (.inl (if sd_sbs x t a l zi113 = -1 then -1 else sd_smi x (sd_sq t zi113) 34 - sd_smi x (sd_sbs x t a l zi113) 34))]) sD11_sign_258 (by decide) rfl ?_
                        refine sd_goto (tgt := 113) sD11_sign_260 (by decide) ?_
                        refine sd_less (ls' := [some (.inr 15), some (.inl t), some (.inl a), some (.inl l), some (.inl (sd_set (sd_Pt x) ((x 2).toNat))), some (.inl (sd_sbs x t a l (zi113 + 1))), some (.inl (sd_and (sd_sq t zi113 - t) t)), some (.inl (sd_b (¬ sd_and (sd_sq t zi113 - t) t = 0))), none, none]) ?_ rfl (by intro zi zv zh; rcases zi with _ | _ | _ | _ | _ | _ | _ | _ | _ | _ | zi <;> first | exact zh | cases zh)
                        exact sd_eqw (ls' := [some (.inr 15), some (.inl t), some (.inl a), some (.inl l), some (.inl (sd_set (sd_Pt x) ((x 2).toNat))), some (.inl (sd_sbs x t a l (zi113 + 1))), some (.inl (sd_sq t (zi113 + 1))), some (.inl (sd_b ((zi113 + 1 : Nat) < sd_sqN t))), none, none]) ihzi113 (sd_cg rfl (sd_cg rfl (sd_cg rfl (sd_cg rfl (sd_cg rfl (sd_cg rfl (sd_cg (sd_ce (show (sd_and (sd_sq t zi113 - t) t : Int) = sd_sq t (zi113 + 1) from by rfl)) (sd_cg (sd_ce (show (sd_b (¬ sd_and (sd_sq t zi113 - t) t = 0) : Int) = sd_b ((zi113 + 1 : Nat) < sd_sqN t) from by exact sd_bc (sd_sq_0 (by omega) zi113 hizi113))) (sd_cg rfl (sd_cg rfl rfl)))))))))) rfl
                      ·
                        refine sd_if_eq (tgt := 257) sD11_sign_250 (by decide) (fun zc250 => ?_) (fun zc250 => ?_)
                        ·
                          refine sd_iconst sD11_sign_257 (by decide) ?_
                          exact K250 _ (by exact (sd_b0 (by omega)).symm)
                        ·
                          refine sd_iconst sD11_sign_253 (by decide) ?_
                          refine sd_goto (tgt := 258) sD11_sign_254 (by decide) ?_
                          exact K250 _ (by exact (sd_b1 (by omega)).symm)
                    ·
                      refine sd_bif_eq (tgt := 236) sD11_sign_205 (by decide) (fun zc205 => ?_) (fun zc205 => ?_)
                      ·
                        refine sd_iload sD11_sign_236 rfl ?_
                        exact K205 _ (by simp only [sd_sbs]; first | (rw [if_pos ⟨by assumption, by first | omega | (right; omega)⟩]; done) | (rw [if_neg (fun hh => by have hh1 := hh.1; have hh2 := hh.2; first | contradiction | omega)]; done))
                      ·
                        refine sd_iload sD11_sign_208 rfl ?_
                        refine sd_if_lt (tgt := 231) sD11_sign_210 (by decide) (fun zc210 => ?_) (fun zc210 => ?_)
                        ·
                          refine sd_iload sD11_sign_231 rfl ?_
                          refine sd_goto (tgt := 238) sD11_sign_233 (by decide) ?_
                          exact K205 _ (by simp only [sd_sbs]; first | (rw [if_pos ⟨by assumption, by first | omega | (right; omega)⟩]; done) | (rw [if_neg (fun hh => by have hh1 := hh.1; have hh2 := hh.2; first | contradiction | omega)]; done))
                        ·
                          refine sd_iload sD11_sign_213 rfl ?_
                          refine sd_if_ne (tgt := 236) sD11_sign_215 (by decide) (fun zc215 => ?_) (fun zc215 => ?_)
                          ·
                            refine sd_iload sD11_sign_236 rfl ?_
                            exact K205 _ (by simp only [sd_sbs]; first | (rw [if_pos ⟨by assumption, by first | omega | (right; omega)⟩]; done) | (rw [if_neg (fun hh => by have hh1 := hh.1; have hh2 := hh.2; first | contradiction | omega)]; done))
                          ·
                            refine sd_iload sD11_sign_218 rfl ?_
                            refine sd_callSp (as := [.inl (sd_sq t zi113)]) (st := []) (v := .inl (sd_ones (sd_sq t zi113))) sD11_sign_220 sM11_141 rfl rfl (by decide) (Nat.le_of_ble_eq_true rfl) (cM_ones (sd_sq t zi113) _ m hx  ) (fun ho220 => ?_)
                            refine sd_iload sD11_sign_223 rfl ?_
                            refine sd_callSp (as := [.inl (sd_sbs x t a l zi113)]) (st := [.inl (sd_ones (sd_sq t zi113))]) (v := .inl (sd_ones (sd_sbs x t a l zi113))) sD11_sign_225 sM11_141 rfl rfl (by decide) (Nat.le_of_ble_eq_true rfl) (cM_ones (sd_sbs x t a l zi113) _ m hx  ) (fun ho225 => ?_)
                            refine sd_icmp_ge (tgt := 236) sD11_sign_228 (by decide) (fun zc228 => ?_) (fun zc228 => ?_)
                            ·
                              refine sd_iload sD11_sign_236 rfl ?_
                              exact K205 _ (by simp only [sd_sbs]; first | (rw [if_pos ⟨by assumption, by first | omega | (right; omega)⟩]; done) | (rw [if_neg (fun hh => by have hh1 := hh.1; have hh2 := hh.2; first | contradiction | omega)]; done))
                            ·
                              refine sd_iload sD11_sign_231 rfl ?_
                              refine sd_goto (tgt := 238) sD11_sign_233 (by decide) ?_
                              exact K205 _ (by simp only [sd_sbs]; first | (rw [if_pos ⟨by assumption, by first | omega | (right; omega)⟩]; done) | (rw [if_neg (fun hh => by have hh1 := hh.1; have hh2 := hh.2; first | contradiction | omega)]; done))
                  ·
                    refine sd_if_ge (tgt := 184) sD11_sign_177 (by decide) (fun zc177 => ?_) (fun zc177 => ?_)
                    ·
                      refine sd_aload_n sD11_sign_184 rfl ?_
                      refine sd_iload sD11_sign_185 rfl ?_
                      refine sd_bipush sD11_sign_187 rfl (by decide) ?_
                      refine sd_callVp (as := [.inl (sd_sq t zi113), .inl 34]) (st := []) (v := .inl (sd_smi x (sd_sq t zi113) 34)) sD11_sign_189 sM11_208 sOM15 rfl rfl rfl (by decide) (Nat.le_of_ble_eq_true rfl) (cM_sumOf34 (sd_sq t zi113) _ m hx h1 h2) (fun ho189 => ?_)
                      have ze189 := sd_smi_le h1 h2 (sd_sq t zi113) (b := 34) (by omega)
                      refine sd_aload_n sD11_sign_192 rfl ?_
                      refine sd_iload sD11_sign_193 rfl ?_
                      refine sd_bipush sD11_sign_195 rfl (by decide) ?_
                      refine sd_callVp (as := [.inl (sd_sbs x t a l zi113), .inl 34]) (st := [.inl (sd_smi x (sd_sq t zi113) 34)]) (v := .inl (sd_smi x (sd_sbs x t a l zi113) 34)) sD11_sign_197 sM11_208 sOM15 rfl rfl rfl (by decide) (Nat.le_of_ble_eq_true rfl) (cM_sumOf34 (sd_sbs x t a l zi113) _ m hx h1 h2) (fun ho197 => ?_)
                      have ze197 := sd_smi_le h1 h2 (sd_sbs x t a l zi113) (b := 34) (by omega)
                      refine sd_isub (z := (sd_smi x (sd_sq t zi113) 34 - (sd_smi x (sd_sbs x t a l zi113) 34))) sD11_sign_200 (by omega) (by omega) ?_
                      exact K177 _ (by first | (rw [if_pos (by omega)]; done) | (rw [if_neg (by omega)]; done))
                    ·
                      refine sd_iconst sD11_sign_180 (by decide) ?_
                      refine sd_goto (tgt := 201) sD11_sign_181 (by decide) ?_
                      exact K177 _ (by first | (rw [if_pos (by omega)]; done) | (rw [if_neg (by omega)]; done))
                ·
                  refine sd_icmp_lt (tgt := 172) sD11_sign_127 (by decide) (fun zc127 => ?_) (fun zc127 => ?_)
                  ·
                    refine sd_iconst sD11_sign_172 (by decide) ?_
                    exact K127 _ (by exact (sd_b0 (by omega)).symm)
                  ·
                    refine sd_aload_n sD11_sign_130 rfl ?_
                    refine sd_iload sD11_sign_131 rfl ?_
                    refine sd_sipush sD11_sign_133 rfl (by decide) ?_
                    refine sd_callVp (as := [.inl (sd_sq t zi113), .inl 298]) (st := []) (v := .inl (sd_smi x (sd_sq t zi113) 298)) sD11_sign_136 sM11_208 sOM15 rfl rfl rfl (by decide) (Nat.le_of_ble_eq_true rfl) (cM_sumOf298 (sd_sq t zi113) _ m hx h1 h2) (fun ho136 => ?_)
                    have ze136 := sd_smi_le h1 h2 (sd_sq t zi113) (b := 298) (by omega)
                    refine sd_iload_n sD11_sign_139 rfl ?_
                    refine sd_icmp_lt (tgt := 172) sD11_sign_140 (by decide) (fun zc140 => ?_) (fun zc140 => ?_)
                    ·
                      refine sd_iconst sD11_sign_172 (by decide) ?_
                      exact K127 _ (by exact (sd_b0 (by omega)).symm)
                    ·
                      refine sd_aload_n sD11_sign_143 rfl ?_
                      refine sd_iload sD11_sign_144 rfl ?_
                      refine sd_bipush sD11_sign_146 rfl (by decide) ?_
                      refine sd_callVp (as := [.inl (sd_sq t zi113), .inl 34]) (st := []) (v := .inl (sd_smi x (sd_sq t zi113) 34)) sD11_sign_148 sM11_208 sOM15 rfl rfl rfl (by decide) (Nat.le_of_ble_eq_true rfl) (cM_sumOf34 (sd_sq t zi113) _ m hx h1 h2) (fun ho148 => ?_)
                      have ze148 := sd_smi_le h1 h2 (sd_sq t zi113) (b := 34) (by omega)
                      refine sd_iload_n sD11_sign_151 rfl ?_
                      refine sd_icmp_gt (tgt := 172) sD11_sign_152 (by decide) (fun zc152 => ?_) (fun zc152 => ?_)
                      ·
                        refine sd_iconst sD11_sign_172 (by decide) ?_
                        exact K127 _ (by exact (sd_b0 (by omega)).symm)
                      ·
                        refine sd_aload_n sD11_sign_155 rfl ?_
                        refine sd_iload sD11_sign_156 rfl ?_
                        refine sd_sipush sD11_sign_158 rfl (by decide) ?_
                        refine sd_callVp (as := [.inl (sd_sq t zi113), .inl 274]) (st := []) (v := .inl (sd_smi x (sd_sq t zi113) 274)) sD11_sign_161 sM11_208 sOM15 rfl rfl rfl (by decide) (Nat.le_of_ble_eq_true rfl) (cM_sumOf274 (sd_sq t zi113) _ m hx h1 h2) (fun ho161 => ?_)
                        have ze161 := sd_smi_le h1 h2 (sd_sq t zi113) (b := 274) (by omega)
                        refine sd_iload_n sD11_sign_164 rfl ?_
                        refine sd_icmp_gt (tgt := 172) sD11_sign_165 (by decide) (fun zc165 => ?_) (fun zc165 => ?_)
                        ·
                          refine sd_iconst sD11_sign_172 (by decide) ?_
                          exact K127 _ (by exact (sd_b0 (by omega)).symm)
                        ·
                          refine sd_iconst sD11_sign_168 (by decide) ?_
                          refine sd_goto (tgt := 173) sD11_sign_169 (by decide) ?_
                          exact K127 _ (by exact (sd_b1 (by omega)).symm)
              ·
                show sd_Wp sd_SM 3 sY11_sign 113 [some (.inr 15), some (.inl t), some (.inl a), some (.inl l), some (.inl (sd_set (sd_Pt x) ((x 2).toNat))), some (.inl (sd_sbs x t a l (sd_sqN t))), some (.inl (sd_sq t (sd_sqN t))), some (.inl (sd_b (((sd_sqN t) : Nat) < sd_sqN t))), none, none] [] m _
                refine sd_iload sD11_sign_113 rfl ?_
                refine sd_bif_eq (tgt := 263) sD11_sign_115 (by decide) (fun zc115 => ?_) (fun zc115 => (by exfalso; omega))
                have e6 := sd_sbs_rng (x := x) (S := t) (by omega) a l (sd_sqN t)
                refine sd_iload sD11_sign_263 rfl ?_
                refine sd_if_ge (tgt := 276) sD11_sign_265 (by decide) (fun zc265 => ?_) (fun zc265 => ?_)
                ·
                  refine sd_iload sD11_sign_276 rfl ?_
                  refine sd_ireturn sD11_sign_278 rfl (fun hr hm => ?_)
                  exact sd_done (by unfold sp_sign sd_sgb; ((repeat (first | rw [if_pos (by first | assumption | omega)] | rw [if_neg (by first | assumption | omega)])); try rfl)) hx
                ·
                  refine sd_aload_n sD11_sign_268 rfl ?_
                  refine sd_iconst sD11_sign_269 (by decide) ?_
                  refine sd_callV (as := [.inl 3]) (st := []) sD11_sign_270 sM11_78 rfl rfl sOM15 rfl (by decide) (Nat.le_of_ble_eq_true rfl) (cM_finding 3 (by decide) _ m hx (hF 3 (by decide))) (fun r m hq ho270 hm => ?_)
                  obtain ⟨rfl, hx⟩ := hq
                  show sd_Wp sd_SM 3 sY11_sign 273 [some (.inr 15), some (.inl t), some (.inl a), some (.inl l), some (.inl (sd_set (sd_Pt x) ((x 2).toNat))), some (.inl (sd_sbs x t a l (sd_sqN t))), some (.inl (sd_sq t (sd_sqN t))), some (.inl (sd_b (((sd_sqN t) : Nat) < sd_sqN t))), none, none] [.inl (-1000004)] m _
                  refine sd_goto (tgt := 278) sD11_sign_273 (by decide) ?_
                  refine sd_ireturn sD11_sign_278 rfl (fun hr hm => ?_)
                  exact sd_done (by unfold sp_sign sd_sgb; ((repeat (first | rw [if_pos (by first | assumption | omega)] | rw [if_neg (by first | assumption | omega)])); try rfl)) hx
            ·
              refine sd_aload_n sD11_sign_97 rfl ?_
              refine sd_bipush sD11_sign_98 rfl (by decide) ?_
              refine sd_callV (as := [.inl 6]) (st := []) sD11_sign_100 sM11_78 rfl rfl sOM15 rfl (by decide) (Nat.le_of_ble_eq_true rfl) (cM_finding 6 (by decide) _ m hx (hF 6 (by decide))) (fun r m hq ho100 hm => ?_)
              obtain ⟨rfl, hx⟩ := hq
              show sd_Wp sd_SM 3 sY11_sign 103 [some (.inr 15), some (.inl t), some (.inl a), some (.inl l), some (.inl (sd_set (sd_Pt x) ((x 2).toNat))), some (.inl ((((x 2).toNat) : Nat) : Int)), none, none, none, none] [.inl (-1000007)] m _
              refine sd_ireturn sD11_sign_103 rfl (fun hr hm => ?_)
              exact sd_done (by unfold sp_sign sd_sgb; ((repeat (first | rw [if_pos (by first | assumption | omega)] | rw [if_neg (by first | assumption | omega)])); try rfl)) hx
          ·
            have zq : ¬ sd_and t (sd_xor (sd_trm x) (-1)) = 0 ∨ ¬ (0 ≤ a ∧ a ≤ 999) ∨ ¬ (0 ≤ l ∧ l ≤ 999) := by first | (have zq2 := sd_neg_sub r_t (sd_Pt x) (n := (x 2).toNat) (by omega) (by omega); exact Or.inl zq2) | exact Or.inl (by assumption) | omega
            refine sd_aload_n sD11_sign_82 rfl ?_
            refine sd_iconst sD11_sign_83 (by decide) ?_
            refine sd_callV (as := [.inl 0]) (st := []) sD11_sign_84 sM11_78 rfl rfl sOM15 rfl (by decide) (Nat.le_of_ble_eq_true rfl) (cM_finding 0 (by decide) _ m hx (hF 0 (by decide))) (fun r m hq ho84 hm => ?_)
            obtain ⟨rfl, hx⟩ := hq
            show sd_Wp sd_SM 3 sY11_sign 87 [some (.inr 15), some (.inl t), some (.inl a), some (.inl l), some (.inl (sd_set (sd_Pt x) ((x 2).toNat))), some (.inl ((((x 2).toNat) : Nat) : Int)), none, none, none, none] [.inl (-1000001)] m _
            refine sd_ireturn sD11_sign_87 rfl (fun hr hm => ?_)
            exact sd_done (by unfold sp_sign sd_sgb; ((repeat (first | rw [if_pos (by first | assumption | omega)] | rw [if_neg (by first | assumption | omega)])); try rfl)) hx
