set_option maxRecDepth 100000 in
set_option maxHeartbeats 4000000 in
theorem pM_feint (g : Int) (x m : sd_M) (hx : sd_ns x m) (h1 : sd_I1 x) (h2 : sd_I2 x) (h3 : sd_I3 x) (h4 : sd_I4 x) (h7 : sd_I7 x) (hF : ∀ k : Nat, k < 7 → 0 ≤ x (4101 + k) ∧ x (4101 + k) ≤ 1000000) : sd_Ct sd_SM 4 sY11_feint [.inr 15, .inl g] m (sd_Qp (sp_feint x g)) := by
  refine sd_ct rfl (Nat.le_of_ble_eq_true rfl) (fun hok hm => ?_)
  obtain ⟨⟨i0, j0⟩, ⟨i1, j1⟩, ⟨i2, j2⟩, ⟨i3, j3⟩, ⟨i4, j4⟩, ⟨i5, j5⟩, ⟨i6, j6⟩, ⟨i7, j7⟩, ⟨i8, j8⟩⟩ := id h1
  have r_g : sd_R g := hok (.inl g) (by simp)
  show sd_Wp sd_SM 4 sY11_feint 0 [some (.inr 15), some (.inl g), none, none, none, none, none] [] m _
  refine sd_aload_n sD11_feint_0 rfl ?_
  refine sd_iload_n sD11_feint_1 rfl ?_
  refine sd_callVp (as := [.inl g]) (st := []) (v := .inl (sd_b (sd_isH x g))) sD11_feint_2 sM11_60 sOM15 rfl rfl rfl (by decide) (Nat.le_of_ble_eq_true rfl) (cM_isHold g _ m hx h1 ) (fun ho2 => ?_)
  refine sd_bif_ne (tgt := 14) sD11_feint_5 (by decide) (fun zc5 => ?_) (fun zc5 => ?_)
  ·
    refine sd_aload_n sD11_feint_14 rfl ?_
    refine sd_iload_n sD11_feint_15 rfl ?_
    refine sd_callVp (as := [.inl g]) (st := []) (v := .inl (x (10 + g.toNat))) sD11_feint_16 sM11_64 sOM15 rfl rfl rfl (by decide) (Nat.le_of_ble_eq_true rfl) (cM_kindOf g _ m hx  (by omega)) (fun ho16 => ?_)
    refine sd_iconst sD11_feint_19 (by decide) ?_
    refine sd_icmp_eq (tgt := 29) sD11_feint_20 (by decide) (fun zc20 => ?_) (fun zc20 => ?_)
    ·
      refine sd_aload_n sD11_feint_29 rfl ?_
      refine sd_getfr sD11_feint_30 sF11_7 sGM15_0 ?_
      refine sd_sipush sD11_feint_33 rfl (by decide) ?_
      refine sd_iload_n sD11_feint_36 rfl ?_
      refine sd_iadd (z := (202 + g)) sD11_feint_37 (by omega) (by omega) ?_
      refine sd_ialdx (a := (202 + g.toNat)) (v := x (202 + g.toNat)) hx sD11_feint_38 sAM0 (by omega) rfl ?_
      refine sd_iconst sD11_feint_39 (by decide) ?_
      refine sd_icmp_ne (tgt := 49) sD11_feint_40 (by decide) (fun zc40 => ?_) (fun zc40 => ?_)
      ·
        refine sd_aload_n sD11_feint_49 rfl ?_
        refine sd_iload_n sD11_feint_50 rfl ?_
        refine sd_callVp (as := [.inl g]) (st := []) (v := .inl (sd_frc x g.toNat)) sD11_feint_51 sM11_122 sOM15 rfl rfl rfl (by decide) (Nat.le_of_ble_eq_true rfl) (cM_forceAt g _ m hx h1 h2 h3 h4 (by omega)) (fun ho51 => ?_)
        have e1 := sd_p6 h1
        rw [show sd_frc x g.toNat = sd_frc x g.toNat from rfl]
        refine sd_istore_n (ls' := [some (.inr 15), some (.inl g), some (.inl (sd_frc x g.toNat)), none, none, none, none]) sD11_feint_54 (by decide) rfl ?_
        refine sd_iconst sD11_feint_55 (by decide) ?_
        refine sd_istore_n (ls' := [some (.inr 15), some (.inl g), some (.inl (sd_frc x g.toNat)), some (.inl (-1)), none, none, none]) sD11_feint_56 (by decide) rfl ?_
        refine sd_iconst sD11_feint_57 (by decide) ?_
        refine sd_istore (ls' := [some (.inr 15), some (.inl g), some (.inl (sd_frc x g.toNat)), some (.inl (-1)), some (.inl 0), none, none]) sD11_feint_58 (by decide) rfl ?_
        refine sd_forX (2 ^ (x 6).toNat) (fun zi60 : Nat => [some (.inr 15), some (.inl g), some (.inl (sd_frc x g.toNat)), some (.inl (sd_lfm x g.toNat (sd_frc x g.toNat) zi60)), some (.inl (zi60 : Int)), none, none]) (fun zi60 : Nat => x) (fun (zi60 : Nat) (m : sd_M) => True) (by rfl) (fun zi60 hizi60 m hx hpzi60 ihzi60 => ?_) (fun m hx hpzi60 => ?_) (by exact hx) (by trivial)
        ·
          have e6 := sd_lfm_rng (x := x) g.toNat (sd_frc x g.toNat) zi60 (by omega)
          have e8 := sd_sqd_rng h1 (sd_or (sd_tho x) (zi60 : Int)) g.toNat
          refine sd_iload sD11_feint_60 rfl ?_
          refine sd_iconst sD11_feint_62 (by decide) ?_
          refine sd_aload_n sD11_feint_63 rfl ?_
          refine sd_getfr sD11_feint_64 sF11_7 sGM15_0 ?_
          refine sd_bipush sD11_feint_67 rfl (by decide) ?_
          refine sd_ialdx (a := 6) (v := x 6) hx sD11_feint_69 sAM0 (by omega) rfl ?_
          refine sd_ishl sD11_feint_70 ?_
          rw [(sd_p6 h1).2]
          refine sd_icmp_ge (tgt := 189) sD11_feint_71 (by decide) (fun zc71 => (by exfalso; omega)) (fun zc71 => ?_)
          refine sd_iconst sD11_feint_74 (by decide) ?_
          refine sd_istore (ls' := [some (.inr 15), some (.inl g), some (.inl (sd_frc x g.toNat)), some (.inl (sd_lfm x g.toNat (sd_frc x g.toNat) zi60)), some (.inl (zi60 : Int)), some (.inl 1), none]) sD11_feint_75 (by decide) rfl ?_
          refine sd_iconst sD11_feint_77 (by decide) ?_
          refine sd_istore (ls' := [some (.inr 15), some (.inl g), some (.inl (sd_frc x g.toNat)), some (.inl (sd_lfm x g.toNat (sd_frc x g.toNat) zi60)), some (.inl (zi60 : Int)), some (.inl 1), some (.inl 0)]) sD11_feint_78 (by decide) rfl ?_
          refine sd_forE ((x 6).toNat) (fun zi80 : Nat => [some (.inr 15), some (.inl g), some (.inl (sd_frc x g.toNat)), some (.inl (sd_lfm x g.toNat (sd_frc x g.toNat) zi60)), some (.inl (zi60 : Int)), some (.inl (sd_b (∀ r, r < zi80 → (sd_and (sd_shr (zi60 : Int) r) 1 = 0 ∨ x (1284 + r) = 0)))), some (.inl (zi80 : Int))]) (by rw [sd_b1 (fun r hr => absurd hr (by omega))]; rfl) (fun zi80 hizi80 ihzi80 => ?_) ?_
          ·
            have e7 := (h7 zi80 (by omega)).2.2.1
            refine sd_iload sD11_feint_80 rfl ?_
            refine sd_aload_n sD11_feint_82 rfl ?_
            refine sd_getfr sD11_feint_83 sF11_7 sGM15_0 ?_
            refine sd_bipush sD11_feint_86 rfl (by decide) ?_
            refine sd_ialdx (a := 6) (v := x 6) hx sD11_feint_88 sAM0 (by omega) rfl ?_
            refine sd_icmp_ge (tgt := 132) sD11_feint_89 (by decide) (fun zc89 => (by exfalso; omega)) (fun zc89 => ?_)
            refine sd_iload sD11_feint_92 rfl ?_
            refine sd_iload sD11_feint_94 rfl ?_
            refine sd_iload sD11_feint_96 rfl ?_
            refine sd_ishr sD11_feint_98 ?_
            refine sd_iconst sD11_feint_99 (by decide) ?_
            refine sd_iand sD11_feint_100 ?_
            refine sd_cut (J := 123) (ls := [some (.inr 15), some (.inl g), some (.inl (sd_frc x g.toNat)), some (.inl (sd_lfm x g.toNat (sd_frc x g.toNat) zi60)), some (.inl (zi60 : Int)), some (.inl (sd_b (∀ r, r < zi80 → (sd_and (sd_shr (zi60 : Int) r) 1 = 0 ∨ x (1284 + r) = 0)))), some (.inl (zi80 : Int))]) (st := [.inl (sd_b (∀ r, r < zi80 → (sd_and (sd_shr (zi60 : Int) r) 1 = 0 ∨ x (1284 + r) = 0)))]) (fun zv => zv = (sd_b ((sd_and (sd_shr (zi60 : Int) (zi80 : Int)) 1 = 0) ∨ ((¬ sd_and (sd_shr (zi60 : Int) (zi80 : Int)) 1 = 0) ∧ (x (1284 + zi80) = 0))))) (fun zv hzv => ?_) (fun K101 => ?_)
            ·
              subst hzv
              refine sd_iand sD11_feint_123 ?_
              rw [sd_and_b]
              refine sd_istore (ls' := [some (.inr 15), some (.inl g), some (.inl (sd_frc x g.toNat)), some (.inl (sd_lfm x g.toNat (sd_frc x g.toNat) zi60)), some (.inl (zi60 : Int)), some (.inl (sd_b ((∀ r, r < zi80 → (sd_and (sd_shr (zi60 : Int) r) 1 = 0 ∨ x (1284 + r) = 0)) ∧ ((sd_and (sd_shr (zi60 : Int) (zi80 : Int)) 1 = 0) ∨ ((¬ sd_and (sd_shr (zi60 : Int) (zi80 : Int)) 1 = 0) ∧ (x (1284 + zi80) = 0)))))), some (.inl (zi80 : Int))]) sD11_feint_124 (by decide) rfl ?_
              refine sd_iinc (y := ((zi80 : Int) + 1)) (ls' := [some (.inr 15), some (.inl g), some (.inl (sd_frc x g.toNat)), some (.inl (sd_lfm x g.toNat (sd_frc x g.toNat) zi60)), some (.inl (zi60 : Int)), some (.inl (sd_b ((∀ r, r < zi80 → (sd_and (sd_shr (zi60 : Int) r) 1 = 0 ∨ x (1284 + r) = 0)) ∧ ((sd_and (sd_shr (zi60 : Int) (zi80 : Int)) 1 = 0) ∨ ((¬ sd_and (sd_shr (zi60 : Int) (zi80 : Int)) 1 = 0) ∧ (x (1284 + zi80) = 0)))))), some (.inl ((zi80 : Int) + 1))]) sD11_feint_126 rfl (by omega) (by omega) (by decide) rfl ?_
              refine sd_goto (tgt := 80) sD11_feint_129 (by decide) ?_
              exact sd_eqw (ls' := [some (.inr 15), some (.inl g), some (.inl (sd_frc x g.toNat)), some (.inl (sd_lfm x g.toNat (sd_frc x g.toNat) zi60)), some (.inl (zi60 : Int)), some (.inl (sd_b (∀ r, r < zi80 + 1 → (sd_and (sd_shr (zi60 : Int) r) 1 = 0 ∨ x (1284 + r) = 0)))), some (.inl ((zi80 + 1 : Nat) : Int))]) ihzi80 (sd_cg rfl (sd_cg rfl (sd_cg rfl (sd_cg rfl (sd_cg rfl (sd_cg (sd_ce (show (sd_b ((∀ r, r < zi80 → (sd_and (sd_shr (zi60 : Int) r) 1 = 0 ∨ x (1284 + r) = 0)) ∧ ((sd_and (sd_shr (zi60 : Int) (zi80 : Int)) 1 = 0) ∨ ((¬ sd_and (sd_shr (zi60 : Int) (zi80 : Int)) 1 = 0) ∧ (x (1284 + zi80) = 0)))) : Int) = sd_b (∀ r, r < zi80 + 1 → (sd_and (sd_shr (zi60 : Int) r) 1 = 0 ∨ x (1284 + r) = 0)) from by exact sd_bc (sd_ball_succ (by omega)))) (sd_cg (sd_ce (show (((zi80 : Int) + 1) : Int) = ((zi80 + 1 : Nat) : Int) from by omega)) rfl))))))) rfl
            ·
              refine sd_if_eq (tgt := 118) sD11_feint_101 (by decide) (fun zc101 => ?_) (fun zc101 => ?_)
              ·
                refine sd_iconst sD11_feint_118 (by decide) ?_
                refine sd_goto (tgt := 123) sD11_feint_119 (by decide) ?_
                exact K101 _ (by exact (sd_b1 (by omega)).symm)
              ·
                refine sd_aload_n sD11_feint_104 rfl ?_
                refine sd_getfr sD11_feint_105 sF11_7 sGM15_0 ?_
                refine sd_sipush sD11_feint_108 rfl (by decide) ?_
                refine sd_iload sD11_feint_111 rfl ?_
                refine sd_iadd (z := (1284 + (zi80 : Int))) sD11_feint_113 (by omega) (by omega) ?_
                refine sd_ialdx (a := (1284 + zi80)) (v := x (1284 + zi80)) hx sD11_feint_114 sAM0 (by omega) rfl ?_
                refine sd_if_ne (tgt := 122) sD11_feint_115 (by decide) (fun zc115 => ?_) (fun zc115 => ?_)
                ·
                  refine sd_iconst sD11_feint_122 (by decide) ?_
                  exact K101 _ (by exact (sd_b0 (by omega)).symm)
                ·
                  refine sd_iconst sD11_feint_118 (by decide) ?_
                  refine sd_goto (tgt := 123) sD11_feint_119 (by decide) ?_
                  exact K101 _ (by exact (sd_b1 (by omega)).symm)
          ·
            show sd_Wp sd_SM 4 sY11_feint 80 [some (.inr 15), some (.inl g), some (.inl (sd_frc x g.toNat)), some (.inl (sd_lfm x g.toNat (sd_frc x g.toNat) zi60)), some (.inl (zi60 : Int)), some (.inl (sd_b (∀ r, r < ((x 6).toNat) → (sd_and (sd_shr (zi60 : Int) r) 1 = 0 ∨ x (1284 + r) = 0)))), some (.inl ((((x 6).toNat) : Nat) : Int))] [] m _
            refine sd_iload sD11_feint_80 rfl ?_
            refine sd_aload_n sD11_feint_82 rfl ?_
            refine sd_getfr sD11_feint_83 sF11_7 sGM15_0 ?_
            refine sd_bipush sD11_feint_86 rfl (by decide) ?_
            refine sd_ialdx (a := 6) (v := x 6) hx sD11_feint_88 sAM0 (by omega) rfl ?_
            refine sd_icmp_ge (tgt := 132) sD11_feint_89 (by decide) (fun zc89 => ?_) (fun zc89 => (by exfalso; omega))
            refine sd_iload sD11_feint_132 rfl ?_
            refine sd_bif_eq (tgt := 183) sD11_feint_134 (by decide) (fun zc134 => ?_) (fun zc134 => ?_)
            ·
              refine sd_iinc (y := ((zi60 : Int) + 1)) (ls' := [some (.inr 15), some (.inl g), some (.inl (sd_frc x g.toNat)), some (.inl (sd_lfm x g.toNat (sd_frc x g.toNat) zi60)), some (.inl ((zi60 : Int) + 1)), some (.inl (sd_b (∀ r, r < ((x 6).toNat) → (sd_and (sd_shr (zi60 : Int) r) 1 = 0 ∨ x (1284 + r) = 0)))), some (.inl ((((x 6).toNat) : Nat) : Int))]) sD11_feint_183 rfl (by omega) (by omega) (by decide) rfl ?_
              refine sd_goto (tgt := 60) sD11_feint_186 (by decide) ?_
              refine sd_less (ls' := [some (.inr 15), some (.inl g), some (.inl (sd_frc x g.toNat)), some (.inl (sd_lfm x g.toNat (sd_frc x g.toNat) zi60)), some (.inl ((zi60 : Int) + 1)), none, none]) ?_ rfl (by intro zi zv zh; rcases zi with _ | _ | _ | _ | _ | _ | _ | zi <;> first | exact zh | cases zh)
              exact sd_eqw (ls' := [some (.inr 15), some (.inl g), some (.inl (sd_frc x g.toNat)), some (.inl (sd_lfm x g.toNat (sd_frc x g.toNat) (zi60 + 1))), some (.inl ((zi60 + 1 : Nat) : Int)), none, none]) (ihzi60 m (by exact hx) (by trivial)) (sd_cg rfl (sd_cg rfl (sd_cg rfl (sd_cg (sd_ce (show (sd_lfm x g.toNat (sd_frc x g.toNat) zi60 : Int) = sd_lfm x g.toNat (sd_frc x g.toNat) (zi60 + 1) from by simp only [sd_lfm]; first | (rw [if_neg (by assumption)]; done) | (rw [if_pos (by assumption)]; unfold sd_lst; first | (rw [if_pos ⟨⟨by omega, by omega⟩, by omega⟩]; done) | (rw [if_neg (fun q => by have q1 := q.1; have q2 := q.2; omega)]; done)))) (sd_cg (sd_ce (show (((zi60 : Int) + 1) : Int) = ((zi60 + 1 : Nat) : Int) from by omega)) (sd_cg rfl (sd_cg rfl rfl))))))) rfl
            ·
              refine sd_iload_n sD11_feint_137 rfl ?_
              refine sd_if_lt (tgt := 153) sD11_feint_138 (by decide) (fun zc138 => ?_) (fun zc138 => ?_)
              ·
                refine sd_aload_n sD11_feint_153 rfl ?_
                refine sd_iload sD11_feint_154 rfl ?_
                refine sd_callV (as := [.inl (zi60 : Int)]) (st := []) sD11_feint_156 sM11_202 rfl rfl sOM15 rfl (by decide) (Nat.le_of_ble_eq_true rfl) (cM_sets (zi60 : Int) _ m hx h1 h2 h7) (fun r m hq ho156 hm => ?_)
                obtain ⟨rfl, hx, hsq156⟩ := hq
                show sd_Wp sd_SM 4 sY11_feint 159 [some (.inr 15), some (.inl g), some (.inl (sd_frc x g.toNat)), some (.inl (sd_lfm x g.toNat (sd_frc x g.toNat) zi60)), some (.inl (zi60 : Int)), some (.inl (sd_b (∀ r, r < ((x 6).toNat) → (sd_and (sd_shr (zi60 : Int) r) 1 = 0 ∨ x (1284 + r) = 0)))), some (.inl ((((x 6).toNat) : Nat) : Int))] [] m _
                refine sd_iload_n sD11_feint_159 rfl ?_
                refine sd_if_le (tgt := 181) sD11_feint_160 (by decide) (fun zc160 => ?_) (fun zc160 => ?_)
                ·
                  refine sd_iload_n sD11_feint_181 rfl ?_
                  refine sd_istore_n (ls' := [some (.inr 15), some (.inl g), some (.inl (sd_frc x g.toNat)), some (.inl (sd_lfm x g.toNat (sd_frc x g.toNat) zi60)), some (.inl (zi60 : Int)), some (.inl (sd_b (∀ r, r < ((x 6).toNat) → (sd_and (sd_shr (zi60 : Int) r) 1 = 0 ∨ x (1284 + r) = 0)))), some (.inl ((((x 6).toNat) : Nat) : Int))]) sD11_feint_182 (by decide) rfl ?_
                  refine sd_iinc (y := ((zi60 : Int) + 1)) (ls' := [some (.inr 15), some (.inl g), some (.inl (sd_frc x g.toNat)), some (.inl (sd_lfm x g.toNat (sd_frc x g.toNat) zi60)), some (.inl ((zi60 : Int) + 1)), some (.inl (sd_b (∀ r, r < ((x 6).toNat) → (sd_and (sd_shr (zi60 : Int) r) 1 = 0 ∨ x (1284 + r) = 0)))), some (.inl ((((x 6).toNat) : Nat) : Int))]) sD11_feint_183 rfl (by omega) (by omega) (by decide) rfl ?_
                  refine sd_goto (tgt := 60) sD11_feint_186 (by decide) ?_
                  refine sd_less (ls' := [some (.inr 15), some (.inl g), some (.inl (sd_frc x g.toNat)), some (.inl (sd_lfm x g.toNat (sd_frc x g.toNat) zi60)), some (.inl ((zi60 : Int) + 1)), none, none]) ?_ rfl (by intro zi zv zh; rcases zi with _ | _ | _ | _ | _ | _ | _ | zi <;> first | exact zh | cases zh)
                  exact sd_eqw (ls' := [some (.inr 15), some (.inl g), some (.inl (sd_frc x g.toNat)), some (.inl (sd_lfm x g.toNat (sd_frc x g.toNat) (zi60 + 1))), some (.inl ((zi60 + 1 : Nat) : Int)), none, none]) (ihzi60 m (by exact hx) (by trivial)) (sd_cg rfl (sd_cg rfl (sd_cg rfl (sd_cg (sd_ce (show (sd_lfm x g.toNat (sd_frc x g.toNat) zi60 : Int) = sd_lfm x g.toNat (sd_frc x g.toNat) (zi60 + 1) from by simp only [sd_lfm]; first | (rw [if_neg (by assumption)]; done) | (rw [if_pos (by assumption)]; unfold sd_lst; first | (rw [if_pos ⟨⟨by omega, by omega⟩, by omega⟩]; done) | (rw [if_neg (fun q => by have q1 := q.1; have q2 := q.2; omega)]; done)))) (sd_cg (sd_ce (show (((zi60 : Int) + 1) : Int) = ((zi60 + 1 : Nat) : Int) from by omega)) (sd_cg rfl (sd_cg rfl rfl))))))) rfl
                ·
                  refine sd_iload_n sD11_feint_163 rfl ?_
                  refine sd_bipush sD11_feint_164 rfl (by decide) ?_
                  refine sd_aload_n sD11_feint_166 rfl ?_
                  refine sd_getfr sD11_feint_167 sF11_40 sGM15_19 ?_
                  refine sd_iload_n sD11_feint_170 rfl ?_
                  refine sd_iald (a := (5550 + g.toNat)) sD11_feint_171 sAM10 (by omega) ?_
                  rw [show m (5550 + g.toNat) = sd_sqd x (sd_or (sd_tho x) (zi60 : Int)) g.toNat from hsq156 g.toNat (by omega)]
                  refine sd_imul (z := (9 * (sd_sqd x (sd_or (sd_tho x) (zi60 : Int)) g.toNat))) sD11_feint_172 (by omega) (by omega) ?_
                  refine sd_icmp_lt (tgt := 181) sD11_feint_173 (by decide) (fun zc173 => ?_) (fun zc173 => ?_)
                  ·
                    refine sd_iload_n sD11_feint_181 rfl ?_
                    refine sd_istore_n (ls' := [some (.inr 15), some (.inl g), some (.inl (sd_frc x g.toNat)), some (.inl (sd_lfm x g.toNat (sd_frc x g.toNat) zi60)), some (.inl (zi60 : Int)), some (.inl (sd_b (∀ r, r < ((x 6).toNat) → (sd_and (sd_shr (zi60 : Int) r) 1 = 0 ∨ x (1284 + r) = 0)))), some (.inl ((((x 6).toNat) : Nat) : Int))]) sD11_feint_182 (by decide) rfl ?_
                    refine sd_iinc (y := ((zi60 : Int) + 1)) (ls' := [some (.inr 15), some (.inl g), some (.inl (sd_frc x g.toNat)), some (.inl (sd_lfm x g.toNat (sd_frc x g.toNat) zi60)), some (.inl ((zi60 : Int) + 1)), some (.inl (sd_b (∀ r, r < ((x 6).toNat) → (sd_and (sd_shr (zi60 : Int) r) 1 = 0 ∨ x (1284 + r) = 0)))), some (.inl ((((x 6).toNat) : Nat) : Int))]) sD11_feint_183 rfl (by omega) (by omega) (by decide) rfl ?_
                    refine sd_goto (tgt := 60) sD11_feint_186 (by decide) ?_
                    refine sd_less (ls' := [some (.inr 15), some (.inl g), some (.inl (sd_frc x g.toNat)), some (.inl (sd_lfm x g.toNat (sd_frc x g.toNat) zi60)), some (.inl ((zi60 : Int) + 1)), none, none]) ?_ rfl (by intro zi zv zh; rcases zi with _ | _ | _ | _ | _ | _ | _ | zi <;> first | exact zh | cases zh)
                    exact sd_eqw (ls' := [some (.inr 15), some (.inl g), some (.inl (sd_frc x g.toNat)), some (.inl (sd_lfm x g.toNat (sd_frc x g.toNat) (zi60 + 1))), some (.inl ((zi60 + 1 : Nat) : Int)), none, none]) (ihzi60 m (by exact hx) (by trivial)) (sd_cg rfl (sd_cg rfl (sd_cg rfl (sd_cg (sd_ce (show (sd_lfm x g.toNat (sd_frc x g.toNat) zi60 : Int) = sd_lfm x g.toNat (sd_frc x g.toNat) (zi60 + 1) from by simp only [sd_lfm]; first | (rw [if_neg (by assumption)]; done) | (rw [if_pos (by assumption)]; unfold sd_lst; first | (rw [if_pos ⟨⟨by omega, by omega⟩, by omega⟩]; done) | (rw [if_neg (fun q => by have q1 := q.1; have q2 := q.2; omega)]; done)))) (sd_cg (sd_ce (show (((zi60 : Int) + 1) : Int) = ((zi60 + 1 : Nat) : Int) from by omega)) (sd_cg rfl (sd_cg rfl rfl))))))) rfl
                  ·
                    refine sd_iload sD11_feint_176 rfl ?_
                    refine sd_goto (tgt := 182) sD11_feint_178 (by decide) ?_
                    refine sd_istore_n (ls' := [some (.inr 15), some (.inl g), some (.inl (sd_frc x g.toNat)), some (.inl (zi60 : Int)), some (.inl (zi60 : Int)), some (.inl (sd_b (∀ r, r < ((x 6).toNat) → (sd_and (sd_shr (zi60 : Int) r) 1 = 0 ∨ x (1284 + r) = 0)))), some (.inl ((((x 6).toNat) : Nat) : Int))]) sD11_feint_182 (by decide) rfl ?_
                    refine sd_iinc (y := ((zi60 : Int) + 1)) (ls' := [some (.inr 15), some (.inl g), some (.inl (sd_frc x g.toNat)), some (.inl (zi60 : Int)), some (.inl ((zi60 : Int) + 1)), some (.inl (sd_b (∀ r, r < ((x 6).toNat) → (sd_and (sd_shr (zi60 : Int) r) 1 = 0 ∨ x (1284 + r) = 0)))), some (.inl ((((x 6).toNat) : Nat) : Int))]) sD11_feint_183 rfl (by omega) (by omega) (by decide) rfl ?_
                    refine sd_goto (tgt := 60) sD11_feint_186 (by decide) ?_
                    refine sd_less (ls' := [some (.inr 15), some (.inl g), some (.inl (sd_frc x g.toNat)), some (.inl (zi60 : Int)), some (.inl ((zi60 : Int) + 1)), none, none]) ?_ rfl (by intro zi zv zh; rcases zi with _ | _ | _ | _ | _ | _ | _ | zi <;> first | exact zh | cases zh)
                    exact sd_eqw (ls' := [some (.inr 15), some (.inl g), some (.inl (sd_frc x g.toNat)), some (.inl (sd_lfm x g.toNat (sd_frc x g.toNat) (zi60 + 1))), some (.inl ((zi60 + 1 : Nat) : Int)), none, none]) (ihzi60 m (by exact hx) (by trivial)) (sd_cg rfl (sd_cg rfl (sd_cg rfl (sd_cg (sd_ce (show ((zi60 : Int) : Int) = sd_lfm x g.toNat (sd_frc x g.toNat) (zi60 + 1) from by simp only [sd_lfm]; first | (rw [if_neg (by assumption)]; done) | (rw [if_pos (by assumption)]; unfold sd_lst; first | (rw [if_pos ⟨⟨by omega, by omega⟩, by omega⟩]; done) | (rw [if_neg (fun q => by have q1 := q.1; have q2 := q.2; omega)]; done)))) (sd_cg (sd_ce (show (((zi60 : Int) + 1) : Int) = ((zi60 + 1 : Nat) : Int) from by omega)) (sd_cg rfl (sd_cg rfl rfl))))))) rfl
              ·
                refine sd_iload sD11_feint_141 rfl ?_
                refine sd_callSp (as := [.inl (zi60 : Int)]) (st := []) (v := .inl (sd_ones (zi60 : Int))) sD11_feint_143 sM11_141 rfl rfl (by decide) (Nat.le_of_ble_eq_true rfl) (cM_ones (zi60 : Int) _ m hx  ) (fun ho143 => ?_)
                refine sd_iload_n sD11_feint_146 rfl ?_
                refine sd_callSp (as := [.inl (sd_lfm x g.toNat (sd_frc x g.toNat) zi60)]) (st := [.inl (sd_ones (zi60 : Int))]) (v := .inl (sd_ones (sd_lfm x g.toNat (sd_frc x g.toNat) zi60))) sD11_feint_147 sM11_141 rfl rfl (by decide) (Nat.le_of_ble_eq_true rfl) (cM_ones (sd_lfm x g.toNat (sd_frc x g.toNat) zi60) _ m hx  ) (fun ho147 => ?_)
                refine sd_icmp_ge (tgt := 183) sD11_feint_150 (by decide) (fun zc150 => ?_) (fun zc150 => ?_)
                ·
                  refine sd_iinc (y := ((zi60 : Int) + 1)) (ls' := [some (.inr 15), some (.inl g), some (.inl (sd_frc x g.toNat)), some (.inl (sd_lfm x g.toNat (sd_frc x g.toNat) zi60)), some (.inl ((zi60 : Int) + 1)), some (.inl (sd_b (∀ r, r < ((x 6).toNat) → (sd_and (sd_shr (zi60 : Int) r) 1 = 0 ∨ x (1284 + r) = 0)))), some (.inl ((((x 6).toNat) : Nat) : Int))]) sD11_feint_183 rfl (by omega) (by omega) (by decide) rfl ?_
                  refine sd_goto (tgt := 60) sD11_feint_186 (by decide) ?_
                  refine sd_less (ls' := [some (.inr 15), some (.inl g), some (.inl (sd_frc x g.toNat)), some (.inl (sd_lfm x g.toNat (sd_frc x g.toNat) zi60)), some (.inl ((zi60 : Int) + 1)), none, none]) ?_ rfl (by intro zi zv zh; rcases zi with _ | _ | _ | _ | _ | _ | _ | zi <;> first | exact zh | cases zh)
                  exact sd_eqw (ls' := [some (.inr 15), some (.inl g), some (.inl (sd_frc x g.toNat)), some (.inl (sd_lfm x g.toNat (sd_frc x g.toNat) (zi60 + 1))), some (.inl ((zi60 + 1 : Nat) : Int)), none, none]) (ihzi60 m (by exact hx) (by trivial)) (sd_cg rfl (sd_cg rfl (sd_cg rfl (sd_cg (sd_ce (show (sd_lfm x g.toNat (sd_frc x g.toNat) zi60 : Int) = sd_lfm x g.toNat (sd_frc x g.toNat) (zi60 + 1) from by simp only [sd_lfm]; first | (rw [if_neg (by assumption)]; done) | (rw [if_pos (by assumption)]; unfold sd_lst; first | (rw [if_pos ⟨⟨by omega, by omega⟩, by omega⟩]; done) | (rw [if_neg (fun q => by have q1 := q.1; have q2 := q.2; omega)]; done)))) (sd_cg (sd_ce (show (((zi60 : Int) + 1) : Int) = ((zi60 + 1 : Nat) : Int) from by omega)) (sd_cg rfl (sd_cg rfl rfl))))))) rfl
                ·
                  refine sd_aload_n sD11_feint_153 rfl ?_
                  refine sd_iload sD11_feint_154 rfl ?_
                  refine sd_callV (as := [.inl (zi60 : Int)]) (st := []) sD11_feint_156 sM11_202 rfl rfl sOM15 rfl (by decide) (Nat.le_of_ble_eq_true rfl) (cM_sets (zi60 : Int) _ m hx h1 h2 h7) (fun r m hq ho156 hm => ?_)
                  obtain ⟨rfl, hx, hsq156⟩ := hq
                  show sd_Wp sd_SM 4 sY11_feint 159 [some (.inr 15), some (.inl g), some (.inl (sd_frc x g.toNat)), some (.inl (sd_lfm x g.toNat (sd_frc x g.toNat) zi60)), some (.inl (zi60 : Int)), some (.inl (sd_b (∀ r, r < ((x 6).toNat) → (sd_and (sd_shr (zi60 : Int) r) 1 = 0 ∨ x (1284 + r) = 0)))), some (.inl ((((x 6).toNat) : Nat) : Int))] [] m _
                  refine sd_iload_n sD11_feint_159 rfl ?_
                  refine sd_if_le (tgt := 181) sD11_feint_160 (by decide) (fun zc160 => ?_) (fun zc160 => ?_)
                  ·
                    refine sd_iload_n sD11_feint_181 rfl ?_
                    refine sd_istore_n (ls' := [some (.inr 15), some (.inl g), some (.inl (sd_frc x g.toNat)), some (.inl (sd_lfm x g.toNat (sd_frc x g.toNat) zi60)), some (.inl (zi60 : Int)), some (.inl (sd_b (∀ r, r < ((x 6).toNat) → (sd_and (sd_shr (zi60 : Int) r) 1 = 0 ∨ x (1284 + r) = 0)))), some (.inl ((((x 6).toNat) : Nat) : Int))]) sD11_feint_182 (by decide) rfl ?_
                    refine sd_iinc (y := ((zi60 : Int) + 1)) (ls' := [some (.inr 15), some (.inl g), some (.inl (sd_frc x g.toNat)), some (.inl (sd_lfm x g.toNat (sd_frc x g.toNat) zi60)), some (.inl ((zi60 : Int) + 1)), some (.inl (sd_b (∀ r, r < ((x 6).toNat) → (sd_and (sd_shr (zi60 : Int) r) 1 = 0 ∨ x (1284 + r) = 0)))), some (.inl ((((x 6).toNat) : Nat) : Int))]) sD11_feint_183 rfl (by omega) (by omega) (by decide) rfl ?_
                    refine sd_goto (tgt := 60) sD11_feint_186 (by decide) ?_
                    refine sd_less (ls' := [some (.inr 15), some (.inl g), some (.inl (sd_frc x g.toNat)), some (.inl (sd_lfm x g.toNat (sd_frc x g.toNat) zi60)), some (.inl ((zi60 : Int) + 1)), none, none]) ?_ rfl (by intro zi zv zh; rcases zi with _ | _ | _ | _ | _ | _ | _ | zi <;> first | exact zh | cases zh)
                    exact sd_eqw (ls' := [some (.inr 15), some (.inl g), some (.inl (sd_frc x g.toNat)), some (.inl (sd_lfm x g.toNat (sd_frc x g.toNat) (zi60 + 1))), some (.inl ((zi60 + 1 : Nat) : Int)), none, none]) (ihzi60 m (by exact hx) (by trivial)) (sd_cg rfl (sd_cg rfl (sd_cg rfl (sd_cg (sd_ce (show (sd_lfm x g.toNat (sd_frc x g.toNat) zi60 : Int) = sd_lfm x g.toNat (sd_frc x g.toNat) (zi60 + 1) from by simp only [sd_lfm]; first | (rw [if_neg (by assumption)]; done) | (rw [if_pos (by assumption)]; unfold sd_lst; first | (rw [if_pos ⟨⟨by omega, by omega⟩, by omega⟩]; done) | (rw [if_neg (fun q => by have q1 := q.1; have q2 := q.2; omega)]; done)))) (sd_cg (sd_ce (show (((zi60 : Int) + 1) : Int) = ((zi60 + 1 : Nat) : Int) from by omega)) (sd_cg rfl (sd_cg rfl rfl))))))) rfl
                  ·
                    refine sd_iload_n sD11_feint_163 rfl ?_
                    refine sd_bipush sD11_feint_164 rfl (by decide) ?_
                    refine sd_aload_n sD11_feint_166 rfl ?_
                    refine sd_getfr sD11_feint_167 sF11_40 sGM15_19 ?_
                    refine sd_iload_n sD11_feint_170 rfl ?_
                    refine sd_iald (a := (5550 + g.toNat)) sD11_feint_171 sAM10 (by omega) ?_
                    rw [show m (5550 + g.toNat) = sd_sqd x (sd_or (sd_tho x) (zi60 : Int)) g.toNat from hsq156 g.toNat (by omega)]
                    refine sd_imul (z := (9 * (sd_sqd x (sd_or (sd_tho x) (zi60 : Int)) g.toNat))) sD11_feint_172 (by omega) (by omega) ?_
                    refine sd_icmp_lt (tgt := 181) sD11_feint_173 (by decide) (fun zc173 => ?_) (fun zc173 => ?_)
                    ·
                      refine sd_iload_n sD11_feint_181 rfl ?_
                      refine sd_istore_n (ls' := [some (.inr 15), some (.inl g), some (.inl (sd_frc x g.toNat)), some (.inl (sd_lfm x g.toNat (sd_frc x g.toNat) zi60)), some (.inl (zi60 : Int)), some (.inl (sd_b (∀ r, r < ((x 6).toNat) → (sd_and (sd_shr (zi60 : Int) r) 1 = 0 ∨ x (1284 + r) = 0)))), some (.inl ((((x 6).toNat) : Nat) : Int))]) sD11_feint_182 (by decide) rfl ?_
                      refine sd_iinc (y := ((zi60 : Int) + 1)) (ls' := [some (.inr 15), some (.inl g), some (.inl (sd_frc x g.toNat)), some (.inl (sd_lfm x g.toNat (sd_frc x g.toNat) zi60)), some (.inl ((zi60 : Int) + 1)), some (.inl (sd_b (∀ r, r < ((x 6).toNat) → (sd_and (sd_shr (zi60 : Int) r) 1 = 0 ∨ x (1284 + r) = 0)))), some (.inl ((((x 6).toNat) : Nat) : Int))]) sD11_feint_183 rfl (by omega) (by omega) (by decide) rfl ?_
                      refine sd_goto (tgt := 60) sD11_feint_186 (by decide) ?_
                      refine sd_less (ls' := [some (.inr 15), some (.inl g), some (.inl (sd_frc x g.toNat)), some (.inl (sd_lfm x g.toNat (sd_frc x g.toNat) zi60)), some (.inl ((zi60 : Int) + 1)), none, none]) ?_ rfl (by intro zi zv zh; rcases zi with _ | _ | _ | _ | _ | _ | _ | zi <;> first | exact zh | cases zh)
                      exact sd_eqw (ls' := [some (.inr 15), some (.inl g), some (.inl (sd_frc x g.toNat)), some (.inl (sd_lfm x g.toNat (sd_frc x g.toNat) (zi60 + 1))), some (.inl ((zi60 + 1 : Nat) : Int)), none, none]) (ihzi60 m (by exact hx) (by trivial)) (sd_cg rfl (sd_cg rfl (sd_cg rfl (sd_cg (sd_ce (show (sd_lfm x g.toNat (sd_frc x g.toNat) zi60 : Int) = sd_lfm x g.toNat (sd_frc x g.toNat) (zi60 + 1) from by simp only [sd_lfm]; first | (rw [if_neg (by assumption)]; done) | (rw [if_pos (by assumption)]; unfold sd_lst; first | (rw [if_pos ⟨⟨by omega, by omega⟩, by omega⟩]; done) | (rw [if_neg (fun q => by have q1 := q.1; have q2 := q.2; omega)]; done)))) (sd_cg (sd_ce (show (((zi60 : Int) + 1) : Int) = ((zi60 + 1 : Nat) : Int) from by omega)) (sd_cg rfl (sd_cg rfl rfl))))))) rfl
                    ·
                      refine sd_iload sD11_feint_176 rfl ?_
                      refine sd_goto (tgt := 182) sD11_feint_178 (by decide) ?_
                      refine sd_istore_n (ls' := [some (.inr 15), some (.inl g), some (.inl (sd_frc x g.toNat)), some (.inl (zi60 : Int)), some (.inl (zi60 : Int)), some (.inl (sd_b (∀ r, r < ((x 6).toNat) → (sd_and (sd_shr (zi60 : Int) r) 1 = 0 ∨ x (1284 + r) = 0)))), some (.inl ((((x 6).toNat) : Nat) : Int))]) sD11_feint_182 (by decide) rfl ?_
                      refine sd_iinc (y := ((zi60 : Int) + 1)) (ls' := [some (.inr 15), some (.inl g), some (.inl (sd_frc x g.toNat)), some (.inl (zi60 : Int)), some (.inl ((zi60 : Int) + 1)), some (.inl (sd_b (∀ r, r < ((x 6).toNat) → (sd_and (sd_shr (zi60 : Int) r) 1 = 0 ∨ x (1284 + r) = 0)))), some (.inl ((((x 6).toNat) : Nat) : Int))]) sD11_feint_183 rfl (by omega) (by omega) (by decide) rfl ?_
                      refine sd_goto (tgt := 60) sD11_feint_186 (by decide) ?_
                      refine sd_less (ls' := [some (.inr 15), some (.inl g), some (.inl (sd_frc x g.toNat)), some (.inl (zi60 : Int)), some (.inl ((zi60 : Int) + 1)), none, none]) ?_ rfl (by intro zi zv zh; rcases zi with _ | _ | _ | _ | _ | _ | _ | zi <;> first | exact zh | cases zh)
                      exact sd_eqw (ls' := [some (.inr 15), some (.inl g), some (.inl (sd_frc x g.toNat)), some (.inl (sd_lfm x g.toNat (sd_frc x g.toNat) (zi60 + 1))), some (.inl ((zi60 + 1 : Nat) : Int)), none, none]) (ihzi60 m (by exact hx) (by trivial)) (sd_cg rfl (sd_cg rfl (sd_cg rfl (sd_cg (sd_ce (show ((zi60 : Int) : Int) = sd_lfm x g.toNat (sd_frc x g.toNat) (zi60 + 1) from by simp only [sd_lfm]; first | (rw [if_neg (by assumption)]; done) | (rw [if_pos (by assumption)]; unfold sd_lst; first | (rw [if_pos ⟨⟨by omega, by omega⟩, by omega⟩]; done) | (rw [if_neg (fun q => by have q1 := q.1; have q2 := q.2; omega)]; done)))) (sd_cg (sd_ce (show (((zi60 : Int) + 1) : Int) = ((zi60 + 1 : Nat) : Int) from by omega)) (sd_cg rfl (sd_cg rfl rfl))))))) rfl
        ·
          show sd_Wp sd_SM 4 sY11_feint 60 [some (.inr 15), some (.inl g), some (.inl (sd_frc x g.toNat)), some (.inl (sd_lfm x g.toNat (sd_frc x g.toNat) (2 ^ (x 6).toNat))), some (.inl (((2 ^ (x 6).toNat) : Nat) : Int)), none, none] [] m _
          refine sd_iload sD11_feint_60 rfl ?_
          refine sd_iconst sD11_feint_62 (by decide) ?_
          refine sd_aload_n sD11_feint_63 rfl ?_
          refine sd_getfr sD11_feint_64 sF11_7 sGM15_0 ?_
          refine sd_bipush sD11_feint_67 rfl (by decide) ?_
          refine sd_ialdx (a := 6) (v := x 6) hx sD11_feint_69 sAM0 (by omega) rfl ?_
          refine sd_ishl sD11_feint_70 ?_
          rw [(sd_p6 h1).2]
          refine sd_icmp_ge (tgt := 189) sD11_feint_71 (by decide) (fun zc71 => ?_) (fun zc71 => (by exfalso; omega))
          have e6 := sd_lfm_rng (x := x) g.toNat (sd_frc x g.toNat) (2 ^ (x 6).toNat) (by omega)
          have e9 : sd_lfv x g.toNat = sd_lfm x g.toNat (sd_frc x g.toNat) (2 ^ (x 6).toNat) := sd_lf_eq h1 h7 g.toNat _
          refine sd_iload_n sD11_feint_189 rfl ?_
          refine sd_if_ge (tgt := 201) sD11_feint_190 (by decide) (fun zc190 => ?_) (fun zc190 => ?_)
          ·
            refine sd_iload_n sD11_feint_201 rfl ?_
            refine sd_ireturn sD11_feint_202 rfl (fun hr hm => ?_)
            exact sd_done (by unfold sp_feint; ((repeat (first | rw [if_pos (by first | assumption | omega)] | rw [if_neg (by first | assumption | omega)])); try rfl); try (rw [e9])) hx
          ·
            refine sd_aload_n sD11_feint_193 rfl ?_
            refine sd_iconst sD11_feint_194 (by decide) ?_
            refine sd_callV (as := [.inl 3]) (st := []) sD11_feint_195 sM11_78 rfl rfl sOM15 rfl (by decide) (Nat.le_of_ble_eq_true rfl) (cM_finding 3 (by decide) _ m hx (hF 3 (by decide))) (fun r m hq ho195 hm => ?_)
            obtain ⟨rfl, hx⟩ := hq
            show sd_Wp sd_SM 4 sY11_feint 198 [some (.inr 15), some (.inl g), some (.inl (sd_frc x g.toNat)), some (.inl (sd_lfm x g.toNat (sd_frc x g.toNat) (2 ^ (x 6).toNat))), some (.inl (((2 ^ (x 6).toNat) : Nat) : Int)), none, none] [.inl (-1000004)] m _
            refine sd_goto (tgt := 202) sD11_feint_198 (by decide) ?_
            refine sd_ireturn sD11_feint_202 rfl (fun hr hm => ?_)
            exact sd_done (by unfold sp_feint; ((repeat (first | rw [if_pos (by first | assumption | omega)] | rw [if_neg (by first | assumption | omega)])); try rfl); try (rw [e9])) hx
      ·
        refine sd_aload_n sD11_feint_43 rfl ?_
        refine sd_iconst sD11_feint_44 (by decide) ?_
        refine sd_callV (as := [.inl 4]) (st := []) sD11_feint_45 sM11_78 rfl rfl sOM15 rfl (by decide) (Nat.le_of_ble_eq_true rfl) (cM_finding 4 (by decide) _ m hx (hF 4 (by decide))) (fun r m hq ho45 hm => ?_)
        obtain ⟨rfl, hx⟩ := hq
        show sd_Wp sd_SM 4 sY11_feint 48 [some (.inr 15), some (.inl g), none, none, none, none, none] [.inl (-1000005)] m _
        refine sd_ireturn sD11_feint_48 rfl (fun hr hm => ?_)
        exact sd_done (by unfold sp_feint; ((repeat (first | rw [if_pos (by first | assumption | omega)] | rw [if_neg (by first | assumption | omega)])); try rfl); try (rw [e9])) hx
    ·
      refine sd_aload_n sD11_feint_23 rfl ?_
      refine sd_iconst sD11_feint_24 (by decide) ?_
      refine sd_callV (as := [.inl 2]) (st := []) sD11_feint_25 sM11_78 rfl rfl sOM15 rfl (by decide) (Nat.le_of_ble_eq_true rfl) (cM_finding 2 (by decide) _ m hx (hF 2 (by decide))) (fun r m hq ho25 hm => ?_)
      obtain ⟨rfl, hx⟩ := hq
      show sd_Wp sd_SM 4 sY11_feint 28 [some (.inr 15), some (.inl g), none, none, none, none, none] [.inl (-1000003)] m _
      refine sd_ireturn sD11_feint_28 rfl (fun hr hm => ?_)
      exact sd_done (by unfold sp_feint; ((repeat (first | rw [if_pos (by first | assumption | omega)] | rw [if_neg (by first | assumption | omega)])); try rfl); try (rw [e9])) hx
  ·
    refine sd_aload_n sD11_feint_8 rfl ?_
    refine sd_iconst sD11_feint_9 (by decide) ?_
    refine sd_callV (as := [.inl 0]) (st := []) sD11_feint_10 sM11_78 rfl rfl sOM15 rfl (by decide) (Nat.le_of_ble_eq_true rfl) (cM_finding 0 (by decide) _ m hx (hF 0 (by decide))) (fun r m hq ho10 hm => ?_)
    obtain ⟨rfl, hx⟩ := hq
    show sd_Wp sd_SM 4 sY11_feint 13 [some (.inr 15), some (.inl g), none, none, none, none, none] [.inl (-1000001)] m _
    refine sd_ireturn sD11_feint_13 rfl (fun hr hm => ?_)
    exact sd_done (by unfold sp_feint; ((repeat (first | rw [if_pos (by first | assumption | omega)] | rw [if_neg (by first | assumption | omega)])); try rfl); try (rw [e9])) hx
