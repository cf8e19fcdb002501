set_option maxRecDepth 100000 in
set_option maxHeartbeats 4000000 in
theorem pM_stock (s : Int) (x m : sd_M) (hx : sd_ns x m)  (hF : ∀ k : Nat, k < 7 → 0 ≤ x (4101 + k) ∧ x (4101 + k) ≤ 1000000) (hB : sd_IB x) : sd_Ct sd_SM 2 sY11_stock [.inr 15, .inl s] m (sd_Qp (sp_stock x s)) := by
  refine sd_ct rfl (Nat.le_of_ble_eq_true rfl) (fun hok hm => ?_)
  have r_s : sd_R s := hok (.inl s) (by simp)
  show sd_Wp sd_SM 2 sY11_stock 0 [some (.inr 15), some (.inl s), none, none, none] [] m _
  refine sd_iload_n sD11_stock_0 rfl ?_
  refine sd_callSp (as := [.inl s]) (st := []) (v := .inl (sd_b (0 ≤ s ∧ s ≤ 3))) sD11_stock_1 sM11_126 rfl rfl (by decide) (Nat.le_of_ble_eq_true rfl) (cM_isSheet s _ m hx  ) (fun ho1 => ?_)
  refine sd_bif_ne (tgt := 13) sD11_stock_4 (by decide) (fun zc4 => ?_) (fun zc4 => ?_)
  ·
    have e0 := hB s.toNat (by omega)
    refine sd_aload_n sD11_stock_13 rfl ?_
    refine sd_getfr sD11_stock_14 sF11_43 sGM15_20 ?_
    refine sd_iload_n sD11_stock_17 rfl ?_
    refine sd_ialdx (a := (4250 + s.toNat)) (v := x (4250 + s.toNat)) hx sD11_stock_18 sAM11 (by omega) rfl ?_
    refine sd_if_ne (tgt := 28) sD11_stock_19 (by decide) (fun zc19 => ?_) (fun zc19 => ?_)
    ·
      have e1 := (e0.2.2.2 zc19).1
      have e2 := (e0.2.2.2 zc19).2
      clear e0
      refine sd_aload_n sD11_stock_28 rfl ?_
      refine sd_getfr sD11_stock_29 sF11_46 sGM15_21 ?_
      refine sd_iload_n sD11_stock_32 rfl ?_
      refine sd_ialdx (a := (4254 + s.toNat)) (v := x (4254 + s.toNat)) hx sD11_stock_33 sAM12 (by omega) rfl ?_
      refine sd_bipush sD11_stock_34 rfl (by decide) ?_
      refine sd_icmp_eq (tgt := 46) sD11_stock_36 (by decide) (fun zc36 => ?_) (fun zc36 => ?_)
      ·
        refine sd_iconst sD11_stock_46 (by decide) ?_
        refine sd_istore_n (ls' := [some (.inr 15), some (.inl s), some (.inl 0), none, none]) sD11_stock_47 (by decide) rfl ?_
        refine sd_forH (6) (fun zi48 : Nat => [some (.inr 15), some (.inl s), some (.inl (zi48 : Int)), none, none]) (fun zi48 : Nat => ∀ p, p < zi48 → (x ((8200 + 12 * s.toNat) + p) = -9999 ∨ (0 ≤ x ((8200 + 12 * s.toNat) + p) ∧ x ((8200 + 12 * s.toNat) + p) ≤ 9999))) (by rfl) (fun zi48 hizi48 hhzi48 ihzi48 => ?_) (fun hhzi48 => ?_) (by intro q hq; omega)
        ·
          have e5 := e2 zi48 (by omega)
          refine sd_iload_n sD11_stock_48 rfl ?_
          refine sd_bipush sD11_stock_49 rfl (by decide) ?_
          refine sd_icmp_ge (tgt := 96) sD11_stock_51 (by decide) (fun zc51 => (by exfalso; omega)) (fun zc51 => ?_)
          refine sd_aload_n sD11_stock_54 rfl ?_
          refine sd_getfr sD11_stock_55 sF11_49 sGM15_22 ?_
          refine sd_bipush sD11_stock_58 rfl (by decide) ?_
          refine sd_iload_n sD11_stock_60 rfl ?_
          refine sd_imul (z := (12 * s)) sD11_stock_61 (by omega) (by omega) ?_
          refine sd_iload_n sD11_stock_62 rfl ?_
          refine sd_iadd (z := ((12 * s) + (zi48 : Int))) sD11_stock_63 (by omega) (by omega) ?_
          refine sd_ialdx (a := (4200 + ((12 * s.toNat) + zi48))) (v := x (4200 + ((12 * s.toNat) + zi48))) hx sD11_stock_64 sAM13 (by omega) rfl ?_
          refine sd_istore_n (ls' := [some (.inr 15), some (.inl s), some (.inl (zi48 : Int)), some (.inl (x (4200 + ((12 * s.toNat) + zi48)))), none]) sD11_stock_65 (by decide) rfl ?_
          refine sd_iload_n sD11_stock_66 rfl ?_
          refine sd_sipush sD11_stock_67 rfl (by decide) ?_
          refine sd_icmp_eq (tgt := 90) sD11_stock_70 (by decide) (fun zc70 => ?_) (fun zc70 => ?_)
          ·
            refine sd_iinc (y := ((zi48 : Int) + 1)) (ls' := [some (.inr 15), some (.inl s), some (.inl ((zi48 : Int) + 1)), some (.inl (x (4200 + ((12 * s.toNat) + zi48)))), none]) sD11_stock_90 rfl (by omega) (by omega) (by decide) rfl ?_
            refine sd_goto (tgt := 48) sD11_stock_93 (by decide) ?_
            refine sd_less (ls' := [some (.inr 15), some (.inl s), some (.inl ((zi48 : Int) + 1)), none, none]) ?_ rfl (by intro zi zv zh; rcases zi with _ | _ | _ | _ | _ | zi <;> first | exact zh | cases zh)
            exact sd_eqw (ls' := [some (.inr 15), some (.inl s), some (.inl ((zi48 + 1 : Nat) : Int)), none, none]) (ihzi48 (by intro q hq; by_cases hqe : q = zi48; (subst hqe; omega); exact hhzi48 q (by omega))) (sd_cg rfl (sd_cg rfl (sd_cg (sd_ce (show (((zi48 : Int) + 1) : Int) = ((zi48 + 1 : Nat) : Int) from by omega)) (sd_cg rfl (sd_cg rfl rfl))))) rfl
          ·
            refine sd_iload_n sD11_stock_73 rfl ?_
            refine sd_iconst sD11_stock_74 (by decide) ?_
            refine sd_sipush sD11_stock_75 rfl (by decide) ?_
            refine sd_callSp (as := [.inl (x (4200 + ((12 * s.toNat) + zi48))), .inl 0, .inl 9999]) (st := []) (v := .inl (sd_b (0 ≤ x (4200 + ((12 * s.toNat) + zi48)) ∧ x (4200 + ((12 * s.toNat) + zi48)) ≤ 9999))) sD11_stock_78 sM11_56 rfl rfl (by decide) (Nat.le_of_ble_eq_true rfl) (cM_in (x (4200 + ((12 * s.toNat) + zi48))) 0 9999 m) (fun ho78 => ?_)
            refine sd_bif_ne (tgt := 90) sD11_stock_81 (by decide) (fun zc81 => ?_) (fun zc81 => ?_)
            ·
              refine sd_iinc (y := ((zi48 : Int) + 1)) (ls' := [some (.inr 15), some (.inl s), some (.inl ((zi48 : Int) + 1)), some (.inl (x (4200 + ((12 * s.toNat) + zi48)))), none]) sD11_stock_90 rfl (by omega) (by omega) (by decide) rfl ?_
              refine sd_goto (tgt := 48) sD11_stock_93 (by decide) ?_
              refine sd_less (ls' := [some (.inr 15), some (.inl s), some (.inl ((zi48 : Int) + 1)), none, none]) ?_ rfl (by intro zi zv zh; rcases zi with _ | _ | _ | _ | _ | zi <;> first | exact zh | cases zh)
              exact sd_eqw (ls' := [some (.inr 15), some (.inl s), some (.inl ((zi48 + 1 : Nat) : Int)), none, none]) (ihzi48 (by intro q hq; by_cases hqe : q = zi48; (subst hqe; omega); exact hhzi48 q (by omega))) (sd_cg rfl (sd_cg rfl (sd_cg (sd_ce (show (((zi48 : Int) + 1) : Int) = ((zi48 + 1 : Nat) : Int) from by omega)) (sd_cg rfl (sd_cg rfl rfl))))) rfl
            ·
              have zz : sd_bsk x (8200 + 12 * s.toNat) := ⟨zi48, by omega, by omega⟩
              refine sd_aload_n sD11_stock_84 rfl ?_
              refine sd_iconst sD11_stock_85 (by decide) ?_
              refine sd_callV (as := [.inl 0]) (st := []) sD11_stock_86 sM11_78 rfl rfl sOM15 rfl (by decide) (Nat.le_of_ble_eq_true rfl) (cM_finding 0 (by decide) _ m hx (hF 0 (by decide))) (fun r m hq ho86 hm => ?_)
              obtain ⟨rfl, hx⟩ := hq
              show sd_Wp sd_SM 2 sY11_stock 89 [some (.inr 15), some (.inl s), some (.inl (zi48 : Int)), some (.inl (x (4200 + ((12 * s.toNat) + zi48)))), none] [.inl (-1000001)] m _
              refine sd_ireturn sD11_stock_89 rfl (fun hr hm => ?_)
              exact sd_done (by unfold sp_stock; ((repeat (first | rw [if_pos (by first | assumption | omega)] | rw [if_neg (by first | assumption | omega)])); try rfl)) hx
        ·
          show sd_Wp sd_SM 2 sY11_stock 48 [some (.inr 15), some (.inl s), some (.inl (6 : Int)), none, none] [] m _
          refine sd_iload_n sD11_stock_48 rfl ?_
          refine sd_bipush sD11_stock_49 rfl (by decide) ?_
          refine sd_icmp_ge (tgt := 96) sD11_stock_51 (by decide) (fun zc51 => ?_) (fun zc51 => (by exfalso; omega))
          have zz : ¬ sd_bsk x (8200 + 12 * s.toNat) := fun ⟨q, h1, h2⟩ => h2 (hhzi48 q h1)
          refine sd_iconst sD11_stock_96 (by decide) ?_
          refine sd_istore_n (ls' := [some (.inr 15), some (.inl s), some (.inl 0), none, none]) sD11_stock_97 (by decide) rfl ?_
          refine sd_iconst sD11_stock_98 (by decide) ?_
          refine sd_istore_n (ls' := [some (.inr 15), some (.inl s), some (.inl 0), some (.inl 0), none]) sD11_stock_99 (by decide) rfl ?_
          refine sd_forX (6) (fun zi100 : Nat => [some (.inr 15), some (.inl s), some (.inl (sd_cnt (sd_Psk x (8200 + 12 * s.toNat)) zi100)), some (.inl (zi100 : Int)), none]) (fun zi100 : Nat => sd_stk x (8200 + 12 * s.toNat) zi100) (fun (zi100 : Nat) (m : sd_M) => True) (by rfl) (fun zi100 hizi100 m hx hpzi100 ihzi100 => ?_) (fun m hx hpzi100 => ?_) (by rw [sd_stk_0]; exact hx) (by trivial)
          ·
            refine sd_iload_n sD11_stock_100 rfl ?_
            refine sd_bipush sD11_stock_101 rfl (by decide) ?_
            refine sd_icmp_ge (tgt := 151) sD11_stock_103 (by decide) (fun zc103 => (by exfalso; omega)) (fun zc103 => ?_)
            refine sd_aload_n sD11_stock_106 rfl ?_
            refine sd_getfr sD11_stock_107 sF11_49 sGM15_22 ?_
            refine sd_bipush sD11_stock_110 rfl (by decide) ?_
            refine sd_iload_n sD11_stock_112 rfl ?_
            refine sd_imul (z := (12 * s)) sD11_stock_113 (by omega) (by omega) ?_
            refine sd_iload_n sD11_stock_114 rfl ?_
            refine sd_iadd (z := ((12 * s) + (zi100 : Int))) sD11_stock_115 (by omega) (by omega) ?_
            refine sd_ialdx (a := (4200 + ((12 * s.toNat) + zi100))) (v := (sd_stk x (8200 + 12 * s.toNat) zi100) (4200 + ((12 * s.toNat) + zi100))) hx sD11_stock_116 sAM13 (by omega) rfl ?_
            have e6 : sd_stk x (8200 + 12 * s.toNat) zi100 (4200 + ((12 * s.toNat) + zi100)) = x ((8200 + 12 * s.toNat) + zi100) := by rw [sd_stk_o (by omega)]; exact e2 zi100 (by omega)
            have e7 : sd_stk x (8200 + 12 * s.toNat) zi100 (386 + zi100) = x (386 + zi100) := sd_stk_o (by omega)
            have e3 := sd_cnt_le (sd_Psk x (8200 + 12 * s.toNat)) zi100
            refine sd_istore (ls' := [some (.inr 15), some (.inl s), some (.inl (sd_cnt (sd_Psk x (8200 + 12 * s.toNat)) zi100)), some (.inl (zi100 : Int)), some (.inl ((sd_stk x (8200 + 12 * s.toNat) zi100) (4200 + ((12 * s.toNat) + zi100))))]) sD11_stock_117 (by decide) rfl ?_
            refine sd_iload_n sD11_stock_119 rfl ?_
            refine sd_iload sD11_stock_120 rfl ?_
            refine sd_sipush sD11_stock_122 rfl (by decide) ?_
            refine sd_icmp_ne (tgt := 132) sD11_stock_125 (by decide) (fun zc125 => ?_) (fun zc125 => ?_)
            ·
              refine sd_aload_n sD11_stock_132 rfl ?_
              refine sd_sipush sD11_stock_133 rfl (by decide) ?_
              refine sd_iload_n sD11_stock_136 rfl ?_
              refine sd_iadd (z := (386 + (zi100 : Int))) sD11_stock_137 (by omega) (by omega) ?_
              refine sd_iload sD11_stock_138 rfl ?_
              refine sd_callV (as := [.inl (386 + (zi100 : Int)), .inl ((sd_stk x (8200 + 12 * s.toNat) zi100) (4200 + ((12 * s.toNat) + zi100)))]) (st := [.inl (sd_cnt (sd_Psk x (8200 + 12 * s.toNat)) zi100)]) sD11_stock_140 sM11_93 rfl rfl sOM15 rfl (by decide) (Nat.le_of_ble_eq_true rfl) (cM_become (386 + (zi100 : Int)) ((sd_stk x (8200 + 12 * s.toNat) zi100) (4200 + ((12 * s.toNat) + zi100))) _ m hx (by omega)) (fun r m hq ho140 hm => ?_)
              have hq2 : r = some (.inl (sd_b (¬ (sd_stk x (8200 + 12 * s.toNat) zi100) (386 + zi100) = (sd_stk x (8200 + 12 * s.toNat) zi100) (4200 + ((12 * s.toNat) + zi100))))) ∧ sd_ns (sd_up (sd_stk x (8200 + 12 * s.toNat) zi100) (386 + zi100) ((sd_stk x (8200 + 12 * s.toNat) zi100) (4200 + ((12 * s.toNat) + zi100)))) m := by rw [show ((386 + (zi100 : Int))).toNat = (386 + zi100) from by omega] at hq; exact hq
              obtain ⟨rfl, hx⟩ := hq2
              show sd_Wp sd_SM 2 sY11_stock 143 [some (.inr 15), some (.inl s), some (.inl (sd_cnt (sd_Psk x (8200 + 12 * s.toNat)) zi100)), some (.inl (zi100 : Int)), some (.inl ((sd_stk x (8200 + 12 * s.toNat) zi100) (4200 + ((12 * s.toNat) + zi100))))] [.inl (sd_b (¬ (sd_stk x (8200 + 12 * s.toNat) zi100) (386 + zi100) = (sd_stk x (8200 + 12 * s.toNat) zi100) (4200 + ((12 * s.toNat) + zi100)))), .inl (sd_cnt (sd_Psk x (8200 + 12 * s.toNat)) zi100)] m _
              try have e8 := sd_b01 (¬ sd_stk x (8200 + 12 * s.toNat) zi100 (386 + zi100) = sd_stk x (8200 + 12 * s.toNat) zi100 (4200 + ((12 * s.toNat) + zi100)))
              have zb143 := sd_b01 (¬ (sd_stk x (8200 + 12 * s.toNat) zi100) (386 + zi100) = (sd_stk x (8200 + 12 * s.toNat) zi100) (4200 + ((12 * s.toNat) + zi100)))
              refine sd_iadd (z := (sd_cnt (sd_Psk x (8200 + 12 * s.toNat)) zi100 + sd_b (¬ (sd_stk x (8200 + 12 * s.toNat) zi100) (386 + zi100) = (sd_stk x (8200 + 12 * s.toNat) zi100) (4200 + ((12 * s.toNat) + zi100))))) sD11_stock_143 (by omega) (by omega) ?_
              refine sd_istore_n (ls' := [some (.inr 15), some (.inl s), some (.inl (sd_cnt (sd_Psk x (8200 + 12 * s.toNat)) zi100 + sd_b (¬ (sd_stk x (8200 + 12 * s.toNat) zi100) (386 + zi100) = (sd_stk x (8200 + 12 * s.toNat) zi100) (4200 + ((12 * s.toNat) + zi100))))), some (.inl (zi100 : Int)), some (.inl ((sd_stk x (8200 + 12 * s.toNat) zi100) (4200 + ((12 * s.toNat) + zi100))))]) sD11_stock_144 (by decide) rfl ?_
              refine sd_iinc (y := ((zi100 : Int) + 1)) (ls' := [some (.inr 15), some (.inl s), some (.inl (sd_cnt (sd_Psk x (8200 + 12 * s.toNat)) zi100 + sd_b (¬ (sd_stk x (8200 + 12 * s.toNat) zi100) (386 + zi100) = (sd_stk x (8200 + 12 * s.toNat) zi100) (4200 + ((12 * s.toNat) + zi100))))), some (.inl ((zi100 : Int) + 1)), some (.inl ((sd_stk x (8200 + 12 * s.toNat) zi100) (4200 + ((12 * s.toNat) + zi100))))]) sD11_stock_145 rfl (by omega) (by omega) (by decide) rfl ?_
              refine sd_goto (tgt := 100) sD11_stock_148 (by decide) ?_
              refine sd_less (ls' := [some (.inr 15), some (.inl s), some (.inl (sd_cnt (sd_Psk x (8200 + 12 * s.toNat)) zi100 + sd_b (¬ (sd_stk x (8200 + 12 * s.toNat) zi100) (386 + zi100) = (sd_stk x (8200 + 12 * s.toNat) zi100) (4200 + ((12 * s.toNat) + zi100))))), some (.inl ((zi100 : Int) + 1)), none]) ?_ rfl (by intro zi zv zh; rcases zi with _ | _ | _ | _ | _ | zi <;> first | exact zh | cases zh)
              exact sd_eqw (ls' := [some (.inr 15), some (.inl s), some (.inl (sd_cnt (sd_Psk x (8200 + 12 * s.toNat)) (zi100 + 1))), some (.inl ((zi100 + 1 : Nat) : Int)), none]) (ihzi100 m (by first | exact sd_nseq (sd_stk_s1 e6 (by omega)) hx | exact sd_nseq (sd_stk_s0 (by omega)) hx) (by trivial)) (sd_cg rfl (sd_cg rfl (sd_cg (sd_ce (show ((sd_cnt (sd_Psk x (8200 + 12 * s.toNat)) zi100 + sd_b (¬ (sd_stk x (8200 + 12 * s.toNat) zi100) (386 + zi100) = (sd_stk x (8200 + 12 * s.toNat) zi100) (4200 + ((12 * s.toNat) + zi100)))) : Int) = sd_cnt (sd_Psk x (8200 + 12 * s.toNat)) (zi100 + 1) from by simp only [sd_cnt]; first | (rw [if_neg (by omega)]; omega) | (unfold sd_b; rw [e6, e7]; by_cases hh : x ((8200 + 12 * s.toNat) + zi100) = x (386 + zi100); (rw [if_neg (by omega), if_neg (by omega)]); (rw [if_pos (by omega), if_pos (by omega)])))) (sd_cg (sd_ce (show (((zi100 : Int) + 1) : Int) = ((zi100 + 1 : Nat) : Int) from by omega)) (sd_cg rfl rfl))))) rfl
            ·
              refine sd_iconst sD11_stock_128 (by decide) ?_
              refine sd_goto (tgt := 143) sD11_stock_129 (by decide) ?_
              try have e8 := sd_b01 (¬ sd_stk x (8200 + 12 * s.toNat) zi100 (386 + zi100) = sd_stk x (8200 + 12 * s.toNat) zi100 (4200 + ((12 * s.toNat) + zi100)))
              refine sd_iadd (z := sd_cnt (sd_Psk x (8200 + 12 * s.toNat)) zi100) sD11_stock_143 (by omega) (by omega) ?_
              refine sd_istore_n (ls' := [some (.inr 15), some (.inl s), some (.inl (sd_cnt (sd_Psk x (8200 + 12 * s.toNat)) zi100)), some (.inl (zi100 : Int)), some (.inl ((sd_stk x (8200 + 12 * s.toNat) zi100) (4200 + ((12 * s.toNat) + zi100))))]) sD11_stock_144 (by decide) rfl ?_
              refine sd_iinc (y := ((zi100 : Int) + 1)) (ls' := [some (.inr 15), some (.inl s), some (.inl (sd_cnt (sd_Psk x (8200 + 12 * s.toNat)) zi100)), some (.inl ((zi100 : Int) + 1)), some (.inl ((sd_stk x (8200 + 12 * s.toNat) zi100) (4200 + ((12 * s.toNat) + zi100))))]) sD11_stock_145 rfl (by omega) (by omega) (by decide) rfl ?_
              refine sd_goto (tgt := 100) sD11_stock_148 (by decide) ?_
              refine sd_less (ls' := [some (.inr 15), some (.inl s), some (.inl (sd_cnt (sd_Psk x (8200 + 12 * s.toNat)) zi100)), some (.inl ((zi100 : Int) + 1)), none]) ?_ rfl (by intro zi zv zh; rcases zi with _ | _ | _ | _ | _ | zi <;> first | exact zh | cases zh)
              exact sd_eqw (ls' := [some (.inr 15), some (.inl s), some (.inl (sd_cnt (sd_Psk x (8200 + 12 * s.toNat)) (zi100 + 1))), some (.inl ((zi100 + 1 : Nat) : Int)), none]) (ihzi100 m (by first | exact sd_nseq (sd_stk_s1 e6 (by omega)) hx | exact sd_nseq (sd_stk_s0 (by omega)) hx) (by trivial)) (sd_cg rfl (sd_cg rfl (sd_cg (sd_ce (show (sd_cnt (sd_Psk x (8200 + 12 * s.toNat)) zi100 : Int) = sd_cnt (sd_Psk x (8200 + 12 * s.toNat)) (zi100 + 1) from by simp only [sd_cnt]; first | (rw [if_neg (by omega)]; omega) | (unfold sd_b; rw [e6, e7]; by_cases hh : x ((8200 + 12 * s.toNat) + zi100) = x (386 + zi100); (rw [if_neg (by omega), if_neg (by omega)]); (rw [if_pos (by omega), if_pos (by omega)])))) (sd_cg (sd_ce (show (((zi100 : Int) + 1) : Int) = ((zi100 + 1 : Nat) : Int) from by omega)) (sd_cg rfl rfl))))) rfl
          ·
            show sd_Wp sd_SM 2 sY11_stock 100 [some (.inr 15), some (.inl s), some (.inl (sd_cnt (sd_Psk x (8200 + 12 * s.toNat)) 6)), some (.inl (6 : Int)), none] [] m _
            refine sd_iload_n sD11_stock_100 rfl ?_
            refine sd_bipush sD11_stock_101 rfl (by decide) ?_
            refine sd_icmp_ge (tgt := 151) sD11_stock_103 (by decide) (fun zc103 => ?_) (fun zc103 => (by exfalso; omega))
            refine sd_iload_n sD11_stock_151 rfl ?_
            refine sd_ireturn sD11_stock_152 rfl (fun hr hm => ?_)
            exact sd_done (by unfold sp_stock; ((repeat (first | rw [if_pos (by first | assumption | omega)] | rw [if_neg (by first | assumption | omega)])); try rfl)) hx
      ·
        refine sd_aload_n sD11_stock_39 rfl ?_
        refine sd_bipush sD11_stock_40 rfl (by decide) ?_
        refine sd_callV (as := [.inl 6]) (st := []) sD11_stock_42 sM11_78 rfl rfl sOM15 rfl (by decide) (Nat.le_of_ble_eq_true rfl) (cM_finding 6 (by decide) _ m hx (hF 6 (by decide))) (fun r m hq ho42 hm => ?_)
        obtain ⟨rfl, hx⟩ := hq
        show sd_Wp sd_SM 2 sY11_stock 45 [some (.inr 15), some (.inl s), none, none, none] [.inl (-1000007)] m _
        refine sd_ireturn sD11_stock_45 rfl (fun hr hm => ?_)
        exact sd_done (by unfold sp_stock; ((repeat (first | rw [if_pos (by first | assumption | omega)] | rw [if_neg (by first | assumption | omega)])); try rfl)) hx
    ·
      refine sd_aload_n sD11_stock_22 rfl ?_
      refine sd_iconst sD11_stock_23 (by decide) ?_
      refine sd_callV (as := [.inl 5]) (st := []) sD11_stock_24 sM11_78 rfl rfl sOM15 rfl (by decide) (Nat.le_of_ble_eq_true rfl) (cM_finding 5 (by decide) _ m hx (hF 5 (by decide))) (fun r m hq ho24 hm => ?_)
      obtain ⟨rfl, hx⟩ := hq
      show sd_Wp sd_SM 2 sY11_stock 27 [some (.inr 15), some (.inl s), none, none, none] [.inl (-1000006)] m _
      refine sd_ireturn sD11_stock_27 rfl (fun hr hm => ?_)
      exact sd_done (by unfold sp_stock; ((repeat (first | rw [if_pos (by first | assumption | omega)] | rw [if_neg (by first | assumption | omega)])); try rfl)) hx
  ·
    refine sd_aload_n sD11_stock_7 rfl ?_
    refine sd_iconst sD11_stock_8 (by decide) ?_
    refine sd_callV (as := [.inl 0]) (st := []) sD11_stock_9 sM11_78 rfl rfl sOM15 rfl (by decide) (Nat.le_of_ble_eq_true rfl) (cM_finding 0 (by decide) _ m hx (hF 0 (by decide))) (fun r m hq ho9 hm => ?_)
    obtain ⟨rfl, hx⟩ := hq
    show sd_Wp sd_SM 2 sY11_stock 12 [some (.inr 15), some (.inl s), none, none, none] [.inl (-1000001)] m _
    refine sd_ireturn sD11_stock_12 rfl (fun hr hm => ?_)
    exact sd_done (by unfold sp_stock; ((repeat (first | rw [if_pos (by first | assumption | omega)] | rw [if_neg (by first | assumption | omega)])); try rfl)) hx
