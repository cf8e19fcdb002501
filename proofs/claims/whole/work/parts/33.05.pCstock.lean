set_option maxRecDepth 100000 in
set_option maxHeartbeats 4000000 in
theorem pC_stock (s : Int) (x m : sd_M) (hx : sd_ns x m)  (hF : ∀ k : Nat, k < 7 → 0 ≤ x (4101 + k) ∧ x (4101 + k) ≤ 1000000) : sd_Ct sd_SC 2 sY10_stock [.inr 120, .inl s] m (sd_Qp (sp_stock x s)) := by
  refine sd_ct rfl (Nat.le_of_ble_eq_true rfl) (fun hok hm => ?_)
  have r_s : sd_R s := hok (.inl s) (by simp)
  show sd_Wp sd_SC 2 sY10_stock 0 [some (.inr 120), some (.inl s), none, none, none] [] m _
  refine sd_iload_n sD10_stock_0 rfl ?_
  refine sd_iconst sD10_stock_1 (by decide) ?_
  refine sd_iconst sD10_stock_2 (by decide) ?_
  refine sd_callSp (as := [.inl s, .inl 0, .inl 3]) (st := []) (v := .inl (sd_b (0 ≤ s ∧ s ≤ 3))) sD10_stock_3 sM10_65 rfl rfl (by decide) (Nat.le_of_ble_eq_true rfl) (cC_isWithin s 0 3 m) (fun ho3 => ?_)
  refine sd_bif_ne (tgt := 16) sD10_stock_6 (by decide) (fun zc6 => ?_) (fun zc6 => ?_)
  ·
    refine sd_aload_n sD10_stock_16 rfl ?_
    refine sd_getfr sD10_stock_17 sF10_21 sGC120_2 ?_
    refine sd_iload_n sD10_stock_20 rfl ?_
    rcases (show s = 0 ∨ s = 1 ∨ s = 2 ∨ s = 3 by omega) with zs21 | zs21 | zs21 | zs21
    ·
      subst zs21
      refine sd_aald (q := 109) sD10_stock_21 sBC116 (by decide) rfl ?_
      refine sd_astore_n (ls' := [some (.inr 120), some (.inl 0), some (.inr 109), none, none]) sD10_stock_22 (by decide) rfl ?_
      refine sd_aload_n sD10_stock_23 rfl ?_
      refine sd_callVp (as := []) (st := []) (v := .inl (sd_b (x 4250 = 0))) sD10_stock_24 sM10_192 sOC109 rfl rfl rfl (by decide) (Nat.le_of_ble_eq_true rfl) (cC_isMissing0 _ m hx) (fun ho24 => ?_)
      refine sd_bif_eq (tgt := 37) sD10_stock_27 (by decide) (fun zc27 => ?_) (fun zc27 => ?_)
      ·
        refine sd_aload_n sD10_stock_37 rfl ?_
        refine sd_getfx (v := x 8100) hx sD10_stock_38 sF10_197 sGC109_1 (by decide) rfl ?_
        refine sd_bipush sD10_stock_41 rfl (by decide) ?_
        refine sd_icmp_eq (tgt := 53) sD10_stock_43 (by decide) (fun zc43 => ?_) (fun zc43 => ?_)
        ·
          refine sd_iconst sD10_stock_53 (by decide) ?_
          refine sd_istore_n (ls' := [some (.inr 120), some (.inl 0), some (.inr 109), some (.inl 0), none]) sD10_stock_54 (by decide) rfl ?_
          refine sd_forH (6) (fun zi55 : Nat => [some (.inr 120), some (.inl 0), some (.inr 109), some (.inl (zi55 : Int)), none]) (fun zi55 : Nat => ∀ p, p < zi55 → (x (8200 + p) = -9999 ∨ (0 ≤ x (8200 + p) ∧ x (8200 + p) ≤ 9999))) (by rfl) (fun zi55 hizi55 hhzi55 ihzi55 => ?_) (fun hhzi55 => ?_) (by intro q hq; omega)
          ·
            refine sd_iload_n sD10_stock_55 rfl ?_
            refine sd_bipush sD10_stock_56 rfl (by decide) ?_
            refine sd_icmp_ge (tgt := 102) sD10_stock_58 (by decide) (fun zc58 => (by exfalso; omega)) (fun zc58 => ?_)
            refine sd_aload_n sD10_stock_61 rfl ?_
            refine sd_getfr sD10_stock_62 sF10_198 sGC109_2 ?_
            refine sd_iload_n sD10_stock_65 rfl ?_
            refine sd_ialdx (a := (8200 + zi55)) (v := x (8200 + zi55)) hx sD10_stock_66 sAC108 (by omega) rfl ?_
            refine sd_istore (ls' := [some (.inr 120), some (.inl 0), some (.inr 109), some (.inl (zi55 : Int)), some (.inl (x (8200 + zi55)))]) sD10_stock_67 (by decide) rfl ?_
            refine sd_iload sD10_stock_69 rfl ?_
            refine sd_sipush sD10_stock_71 rfl (by decide) ?_
            refine sd_icmp_eq (tgt := 96) sD10_stock_74 (by decide) (fun zc74 => ?_) (fun zc74 => ?_)
            ·
              refine sd_iinc (y := ((zi55 : Int) + 1)) (ls' := [some (.inr 120), some (.inl 0), some (.inr 109), some (.inl ((zi55 : Int) + 1)), some (.inl (x (8200 + zi55)))]) sD10_stock_96 rfl (by omega) (by omega) (by decide) rfl ?_
              refine sd_goto (tgt := 55) sD10_stock_99 (by decide) ?_
              refine sd_less (ls' := [some (.inr 120), some (.inl 0), some (.inr 109), some (.inl ((zi55 : Int) + 1)), none]) ?_ rfl (by intro zi zv zh; rcases zi with _ | _ | _ | _ | _ | zi <;> first | exact zh | cases zh)
              exact sd_eqw (ls' := [some (.inr 120), some (.inl 0), some (.inr 109), some (.inl ((zi55 + 1 : Nat) : Int)), none]) (ihzi55 (by intro q hq; by_cases hqe : q = zi55; (subst hqe; omega); exact hhzi55 q (by omega))) (sd_cg rfl (sd_cg rfl (sd_cg rfl (sd_cg (sd_ce (show (((zi55 : Int) + 1) : Int) = ((zi55 + 1 : Nat) : Int) from by omega)) (sd_cg rfl rfl))))) rfl
            ·
              refine sd_iload sD10_stock_77 rfl ?_
              refine sd_iconst sD10_stock_79 (by decide) ?_
              refine sd_sipush sD10_stock_80 rfl (by decide) ?_
              refine sd_callSp (as := [.inl (x (8200 + zi55)), .inl 0, .inl 9999]) (st := []) (v := .inl (sd_b (0 ≤ x (8200 + zi55) ∧ x (8200 + zi55) ≤ 9999))) sD10_stock_83 sM10_65 rfl rfl (by decide) (Nat.le_of_ble_eq_true rfl) (cC_isWithin (x (8200 + zi55)) 0 9999 m) (fun ho83 => ?_)
              refine sd_bif_ne (tgt := 96) sD10_stock_86 (by decide) (fun zc86 => ?_) (fun zc86 => ?_)
              ·
                refine sd_iinc (y := ((zi55 : Int) + 1)) (ls' := [some (.inr 120), some (.inl 0), some (.inr 109), some (.inl ((zi55 : Int) + 1)), some (.inl (x (8200 + zi55)))]) sD10_stock_96 rfl (by omega) (by omega) (by decide) rfl ?_
                refine sd_goto (tgt := 55) sD10_stock_99 (by decide) ?_
                refine sd_less (ls' := [some (.inr 120), some (.inl 0), some (.inr 109), some (.inl ((zi55 : Int) + 1)), none]) ?_ rfl (by intro zi zv zh; rcases zi with _ | _ | _ | _ | _ | zi <;> first | exact zh | cases zh)
                exact sd_eqw (ls' := [some (.inr 120), some (.inl 0), some (.inr 109), some (.inl ((zi55 + 1 : Nat) : Int)), none]) (ihzi55 (by intro q hq; by_cases hqe : q = zi55; (subst hqe; omega); exact hhzi55 q (by omega))) (sd_cg rfl (sd_cg rfl (sd_cg rfl (sd_cg (sd_ce (show (((zi55 : Int) + 1) : Int) = ((zi55 + 1 : Nat) : Int) from by omega)) (sd_cg rfl rfl))))) rfl
              ·
                have zz : sd_bsk x 8200 := ⟨zi55, by omega, by omega⟩
                refine sd_aload_n sD10_stock_89 rfl ?_
                refine sd_ldc (z := -1000001) sD10_stock_90 sK10_51 (by decide) ?_
                refine sd_callV (as := [.inl (-1000001)]) (st := []) sD10_stock_92 sM10_52 rfl rfl sOC120 rfl (by decide) (Nat.le_of_ble_eq_true rfl) (cC_found (-1000001) 0 (by decide) (by decide) _ m hx (hF 0 (by decide))) (fun r m hq ho92 hm => ?_)
                obtain ⟨rfl, hx⟩ := hq
                show sd_Wp sd_SC 2 sY10_stock 95 [some (.inr 120), some (.inl 0), some (.inr 109), some (.inl (zi55 : Int)), some (.inl (x (8200 + zi55)))] [.inl (-1000001)] m _
                refine sd_ireturn sD10_stock_95 rfl (fun hr hm => ?_)
                exact sd_done (by unfold sp_stock; (try simp only [Int.reduceToNat, Nat.reduceAdd, Nat.reduceMul, Nat.add_zero]); ((repeat (first | rw [if_pos (by first | assumption | omega)] | rw [if_neg (by first | assumption | omega)])); try rfl)) hx
          ·
            show sd_Wp sd_SC 2 sY10_stock 55 [some (.inr 120), some (.inl 0), some (.inr 109), some (.inl (6 : Int)), none] [] m _
            refine sd_iload_n sD10_stock_55 rfl ?_
            refine sd_bipush sD10_stock_56 rfl (by decide) ?_
            refine sd_icmp_ge (tgt := 102) sD10_stock_58 (by decide) (fun zc58 => ?_) (fun zc58 => (by exfalso; omega))
            have zz : ¬ sd_bsk x 8200 := fun ⟨q, h1, h2⟩ => h2 (hhzi55 q h1)
            refine sd_aload_n sD10_stock_102 rfl ?_
            refine sd_getfr sD10_stock_103 sF10_10 sGC120_0 ?_
            refine sd_getfr sD10_stock_106 sF10_183 sGC53_4 ?_
            refine sd_aload_n sD10_stock_109 rfl ?_
            refine sd_getfr sD10_stock_110 sF10_198 sGC109_2 ?_
            refine sd_callV (as := [.inr 108]) (st := []) sD10_stock_113 sM10_201 rfl rfl sOC23 rfl (by decide) (Nat.le_of_ble_eq_true rfl) (cC_restock0 _ m hx) (fun r m hq ho113 hm => ?_)
            obtain ⟨rfl, hx⟩ := hq
            show sd_Wp sd_SC 2 sY10_stock 116 [some (.inr 120), some (.inl 0), some (.inr 109), some (.inl (6 : Int)), none] [.inl (sd_cnt (sd_Psk x 8200) 6)] m _
            refine sd_ireturn sD10_stock_116 rfl (fun hr hm => ?_)
            exact sd_done (by unfold sp_stock; (try simp only [Int.reduceToNat, Nat.reduceAdd, Nat.reduceMul, Nat.add_zero]); ((repeat (first | rw [if_pos (by first | assumption | omega)] | rw [if_neg (by first | assumption | omega)])); try rfl)) hx
        ·
          refine sd_aload_n sD10_stock_46 rfl ?_
          refine sd_ldc (z := -1000007) sD10_stock_47 sK10_163 (by decide) ?_
          refine sd_callV (as := [.inl (-1000007)]) (st := []) sD10_stock_49 sM10_52 rfl rfl sOC120 rfl (by decide) (Nat.le_of_ble_eq_true rfl) (cC_found (-1000007) 6 (by decide) (by decide) _ m hx (hF 6 (by decide))) (fun r m hq ho49 hm => ?_)
          obtain ⟨rfl, hx⟩ := hq
          show sd_Wp sd_SC 2 sY10_stock 52 [some (.inr 120), some (.inl 0), some (.inr 109), none, none] [.inl (-1000007)] m _
          refine sd_ireturn sD10_stock_52 rfl (fun hr hm => ?_)
          exact sd_done (by unfold sp_stock; (try simp only [Int.reduceToNat, Nat.reduceAdd, Nat.reduceMul, Nat.add_zero]); ((repeat (first | rw [if_pos (by first | assumption | omega)] | rw [if_neg (by first | assumption | omega)])); try rfl)) hx
      ·
        refine sd_aload_n sD10_stock_30 rfl ?_
        refine sd_ldc (z := -1000006) sD10_stock_31 sK10_196 (by decide) ?_
        refine sd_callV (as := [.inl (-1000006)]) (st := []) sD10_stock_33 sM10_52 rfl rfl sOC120 rfl (by decide) (Nat.le_of_ble_eq_true rfl) (cC_found (-1000006) 5 (by decide) (by decide) _ m hx (hF 5 (by decide))) (fun r m hq ho33 hm => ?_)
        obtain ⟨rfl, hx⟩ := hq
        show sd_Wp sd_SC 2 sY10_stock 36 [some (.inr 120), some (.inl 0), some (.inr 109), none, none] [.inl (-1000006)] m _
        refine sd_ireturn sD10_stock_36 rfl (fun hr hm => ?_)
        exact sd_done (by unfold sp_stock; (try simp only [Int.reduceToNat, Nat.reduceAdd, Nat.reduceMul, Nat.add_zero]); ((repeat (first | rw [if_pos (by first | assumption | omega)] | rw [if_neg (by first | assumption | omega)])); try rfl)) hx
    ·
      subst zs21
      refine sd_aald (q := 111) sD10_stock_21 sBC116 (by decide) rfl ?_
      refine sd_astore_n (ls' := [some (.inr 120), some (.inl 1), some (.inr 111), none, none]) sD10_stock_22 (by decide) rfl ?_
      refine sd_aload_n sD10_stock_23 rfl ?_
      refine sd_callVp (as := []) (st := []) (v := .inl (sd_b (x 4251 = 0))) sD10_stock_24 sM10_192 sOC111 rfl rfl rfl (by decide) (Nat.le_of_ble_eq_true rfl) (cC_isMissing1 _ m hx) (fun ho24 => ?_)
      refine sd_bif_eq (tgt := 37) sD10_stock_27 (by decide) (fun zc27 => ?_) (fun zc27 => ?_)
      ·
        refine sd_aload_n sD10_stock_37 rfl ?_
        refine sd_getfx (v := x 8101) hx sD10_stock_38 sF10_197 sGC111_1 (by decide) rfl ?_
        refine sd_bipush sD10_stock_41 rfl (by decide) ?_
        refine sd_icmp_eq (tgt := 53) sD10_stock_43 (by decide) (fun zc43 => ?_) (fun zc43 => ?_)
        ·
          refine sd_iconst sD10_stock_53 (by decide) ?_
          refine sd_istore_n (ls' := [some (.inr 120), some (.inl 1), some (.inr 111), some (.inl 0), none]) sD10_stock_54 (by decide) rfl ?_
          refine sd_forH (6) (fun zi55 : Nat => [some (.inr 120), some (.inl 1), some (.inr 111), some (.inl (zi55 : Int)), none]) (fun zi55 : Nat => ∀ p, p < zi55 → (x (8212 + p) = -9999 ∨ (0 ≤ x (8212 + p) ∧ x (8212 + p) ≤ 9999))) (by rfl) (fun zi55 hizi55 hhzi55 ihzi55 => ?_) (fun hhzi55 => ?_) (by intro q hq; omega)
          ·
            refine sd_iload_n sD10_stock_55 rfl ?_
            refine sd_bipush sD10_stock_56 rfl (by decide) ?_
            refine sd_icmp_ge (tgt := 102) sD10_stock_58 (by decide) (fun zc58 => (by exfalso; omega)) (fun zc58 => ?_)
            refine sd_aload_n sD10_stock_61 rfl ?_
            refine sd_getfr sD10_stock_62 sF10_198 sGC111_2 ?_
            refine sd_iload_n sD10_stock_65 rfl ?_
            refine sd_ialdx (a := (8212 + zi55)) (v := x (8212 + zi55)) hx sD10_stock_66 sAC110 (by omega) rfl ?_
            refine sd_istore (ls' := [some (.inr 120), some (.inl 1), some (.inr 111), some (.inl (zi55 : Int)), some (.inl (x (8212 + zi55)))]) sD10_stock_67 (by decide) rfl ?_
            refine sd_iload sD10_stock_69 rfl ?_
            refine sd_sipush sD10_stock_71 rfl (by decide) ?_
            refine sd_icmp_eq (tgt := 96) sD10_stock_74 (by decide) (fun zc74 => ?_) (fun zc74 => ?_)
            ·
              refine sd_iinc (y := ((zi55 : Int) + 1)) (ls' := [some (.inr 120), some (.inl 1), some (.inr 111), some (.inl ((zi55 : Int) + 1)), some (.inl (x (8212 + zi55)))]) sD10_stock_96 rfl (by omega) (by omega) (by decide) rfl ?_
              refine sd_goto (tgt := 55) sD10_stock_99 (by decide) ?_
              refine sd_less (ls' := [some (.inr 120), some (.inl 1), some (.inr 111), some (.inl ((zi55 : Int) + 1)), none]) ?_ rfl (by intro zi zv zh; rcases zi with _ | _ | _ | _ | _ | zi <;> first | exact zh | cases zh)
              exact sd_eqw (ls' := [some (.inr 120), some (.inl 1), some (.inr 111), some (.inl ((zi55 + 1 : Nat) : Int)), none]) (ihzi55 (by intro q hq; by_cases hqe : q = zi55; (subst hqe; omega); exact hhzi55 q (by omega))) (sd_cg rfl (sd_cg rfl (sd_cg rfl (sd_cg (sd_ce (show (((zi55 : Int) + 1) : Int) = ((zi55 + 1 : Nat) : Int) from by omega)) (sd_cg rfl rfl))))) rfl
            ·
              refine sd_iload sD10_stock_77 rfl ?_
              refine sd_iconst sD10_stock_79 (by decide) ?_
              refine sd_sipush sD10_stock_80 rfl (by decide) ?_
              refine sd_callSp (as := [.inl (x (8212 + zi55)), .inl 0, .inl 9999]) (st := []) (v := .inl (sd_b (0 ≤ x (8212 + zi55) ∧ x (8212 + zi55) ≤ 9999))) sD10_stock_83 sM10_65 rfl rfl (by decide) (Nat.le_of_ble_eq_true rfl) (cC_isWithin (x (8212 + zi55)) 0 9999 m) (fun ho83 => ?_)
              refine sd_bif_ne (tgt := 96) sD10_stock_86 (by decide) (fun zc86 => ?_) (fun zc86 => ?_)
              ·
                refine sd_iinc (y := ((zi55 : Int) + 1)) (ls' := [some (.inr 120), some (.inl 1), some (.inr 111), some (.inl ((zi55 : Int) + 1)), some (.inl (x (8212 + zi55)))]) sD10_stock_96 rfl (by omega) (by omega) (by decide) rfl ?_
                refine sd_goto (tgt := 55) sD10_stock_99 (by decide) ?_
                refine sd_less (ls' := [some (.inr 120), some (.inl 1), some (.inr 111), some (.inl ((zi55 : Int) + 1)), none]) ?_ rfl (by intro zi zv zh; rcases zi with _ | _ | _ | _ | _ | zi <;> first | exact zh | cases zh)
                exact sd_eqw (ls' := [some (.inr 120), some (.inl 1), some (.inr 111), some (.inl ((zi55 + 1 : Nat) : Int)), none]) (ihzi55 (by intro q hq; by_cases hqe : q = zi55; (subst hqe; omega); exact hhzi55 q (by omega))) (sd_cg rfl (sd_cg rfl (sd_cg rfl (sd_cg (sd_ce (show (((zi55 : Int) + 1) : Int) = ((zi55 + 1 : Nat) : Int) from by omega)) (sd_cg rfl rfl))))) rfl
              ·
                have zz : sd_bsk x 8212 := ⟨zi55, by omega, by omega⟩
                refine sd_aload_n sD10_stock_89 rfl ?_
                refine sd_ldc (z := -1000001) sD10_stock_90 sK10_51 (by decide) ?_
                refine sd_callV (as := [.inl (-1000001)]) (st := []) sD10_stock_92 sM10_52 rfl rfl sOC120 rfl (by decide) (Nat.le_of_ble_eq_true rfl) (cC_found (-1000001) 0 (by decide) (by decide) _ m hx (hF 0 (by decide))) (fun r m hq ho92 hm => ?_)
                obtain ⟨rfl, hx⟩ := hq
                show sd_Wp sd_SC 2 sY10_stock 95 [some (.inr 120), some (.inl 1), some (.inr 111), some (.inl (zi55 : Int)), some (.inl (x (8212 + zi55)))] [.inl (-1000001)] m _
                refine sd_ireturn sD10_stock_95 rfl (fun hr hm => ?_)
                exact sd_done (by unfold sp_stock; (try simp only [Int.reduceToNat, Nat.reduceAdd, Nat.reduceMul, Nat.add_zero]); ((repeat (first | rw [if_pos (by first | assumption | omega)] | rw [if_neg (by first | assumption | omega)])); try rfl)) hx
          ·
            show sd_Wp sd_SC 2 sY10_stock 55 [some (.inr 120), some (.inl 1), some (.inr 111), some (.inl (6 : Int)), none] [] m _
            refine sd_iload_n sD10_stock_55 rfl ?_
            refine sd_bipush sD10_stock_56 rfl (by decide) ?_
            refine sd_icmp_ge (tgt := 102) sD10_stock_58 (by decide) (fun zc58 => ?_) (fun zc58 => (by exfalso; omega))
            have zz : ¬ sd_bsk x 8212 := fun ⟨q, h1, h2⟩ => h2 (hhzi55 q h1)
            refine sd_aload_n sD10_stock_102 rfl ?_
            refine sd_getfr sD10_stock_103 sF10_10 sGC120_0 ?_
            refine sd_getfr sD10_stock_106 sF10_183 sGC53_4 ?_
            refine sd_aload_n sD10_stock_109 rfl ?_
            refine sd_getfr sD10_stock_110 sF10_198 sGC111_2 ?_
            refine sd_callV (as := [.inr 110]) (st := []) sD10_stock_113 sM10_201 rfl rfl sOC23 rfl (by decide) (Nat.le_of_ble_eq_true rfl) (cC_restock1 _ m hx) (fun r m hq ho113 hm => ?_)
            obtain ⟨rfl, hx⟩ := hq
            show sd_Wp sd_SC 2 sY10_stock 116 [some (.inr 120), some (.inl 1), some (.inr 111), some (.inl (6 : Int)), none] [.inl (sd_cnt (sd_Psk x 8212) 6)] m _
            refine sd_ireturn sD10_stock_116 rfl (fun hr hm => ?_)
            exact sd_done (by unfold sp_stock; (try simp only [Int.reduceToNat, Nat.reduceAdd, Nat.reduceMul, Nat.add_zero]); ((repeat (first | rw [if_pos (by first | assumption | omega)] | rw [if_neg (by first | assumption | omega)])); try rfl)) hx
        ·
          refine sd_aload_n sD10_stock_46 rfl ?_
          refine sd_ldc (z := -1000007) sD10_stock_47 sK10_163 (by decide) ?_
          refine sd_callV (as := [.inl (-1000007)]) (st := []) sD10_stock_49 sM10_52 rfl rfl sOC120 rfl (by decide) (Nat.le_of_ble_eq_true rfl) (cC_found (-1000007) 6 (by decide) (by decide) _ m hx (hF 6 (by decide))) (fun r m hq ho49 hm => ?_)
          obtain ⟨rfl, hx⟩ := hq
          show sd_Wp sd_SC 2 sY10_stock 52 [some (.inr 120), some (.inl 1), some (.inr 111), none, none] [.inl (-1000007)] m _
          refine sd_ireturn sD10_stock_52 rfl (fun hr hm => ?_)
          exact sd_done (by unfold sp_stock; (try simp only [Int.reduceToNat, Nat.reduceAdd, Nat.reduceMul, Nat.add_zero]); ((repeat (first | rw [if_pos (by first | assumption | omega)] | rw [if_neg (by first | assumption | omega)])); try rfl)) hx
      ·
        refine sd_aload_n sD10_stock_30 rfl ?_
        refine sd_ldc (z := -1000006) sD10_stock_31 sK10_196 (by decide) ?_
        refine sd_callV (as := [.inl (-1000006)]) (st := []) sD10_stock_33 sM10_52 rfl rfl sOC120 rfl (by decide) (Nat.le_of_ble_eq_true rfl) (cC_found (-1000006) 5 (by decide) (by decide) _ m hx (hF 5 (by decide))) (fun r m hq ho33 hm => ?_)
        obtain ⟨rfl, hx⟩ := hq
        show sd_Wp sd_SC 2 sY10_stock 36 [some (.inr 120), some (.inl 1), some (.inr 111), none, none] [.inl (-1000006)] m _
        refine sd_ireturn sD10_stock_36 rfl (fun hr hm => ?_)
        exact sd_done (by unfold sp_stock; (try simp only [Int.reduceToNat, Nat.reduceAdd, Nat.reduceMul, Nat.add_zero]); ((repeat (first | rw [if_pos (by first | assumption | omega)] | rw [if_neg (by first | assumption | omega)])); try rfl)) hx
    ·
      subst zs21
      refine sd_aald (q := 113) sD10_stock_21 sBC116 (by decide) rfl ?_
      refine sd_astore_n (ls' := [some (.inr 120), some (.inl 2), some (.inr 113), none, none]) sD10_stock_22 (by decide) rfl ?_
      refine sd_aload_n sD10_stock_23 rfl ?_
      refine sd_callVp (as := []) (st := []) (v := .inl (sd_b (x 4252 = 0))) sD10_stock_24 sM10_192 sOC113 rfl rfl rfl (by decide) (Nat.le_of_ble_eq_true rfl) (cC_isMissing2 _ m hx) (fun ho24 => ?_)
      refine sd_bif_eq (tgt := 37) sD10_stock_27 (by decide) (fun zc27 => ?_) (fun zc27 => ?_)
      ·
        refine sd_aload_n sD10_stock_37 rfl ?_
        refine sd_getfx (v := x 8102) hx sD10_stock_38 sF10_197 sGC113_1 (by decide) rfl ?_
        refine sd_bipush sD10_stock_41 rfl (by decide) ?_
        refine sd_icmp_eq (tgt := 53) sD10_stock_43 (by decide) (fun zc43 => ?_) (fun zc43 => ?_)
        ·
          refine sd_iconst sD10_stock_53 (by decide) ?_
          refine sd_istore_n (ls' := [some (.inr 120), some (.inl 2), some (.inr 113), some (.inl 0), none]) sD10_stock_54 (by decide) rfl ?_
          refine sd_forH (6) (fun zi55 : Nat => [some (.inr 120), some (.inl 2), some (.inr 113), some (.inl (zi55 : Int)), none]) (fun zi55 : Nat => ∀ p, p < zi55 → (x (8224 + p) = -9999 ∨ (0 ≤ x (8224 + p) ∧ x (8224 + p) ≤ 9999))) (by rfl) (fun zi55 hizi55 hhzi55 ihzi55 => ?_) (fun hhzi55 => ?_) (by intro q hq; omega)
          ·
            refine sd_iload_n sD10_stock_55 rfl ?_
            refine sd_bipush sD10_stock_56 rfl (by decide) ?_
            refine sd_icmp_ge (tgt := 102) sD10_stock_58 (by decide) (fun zc58 => (by exfalso; omega)) (fun zc58 => ?_)
            refine sd_aload_n sD10_stock_61 rfl ?_
            refine sd_getfr sD10_stock_62 sF10_198 sGC113_2 ?_
            refine sd_iload_n sD10_stock_65 rfl ?_
            refine sd_ialdx (a := (8224 + zi55)) (v := x (8224 + zi55)) hx sD10_stock_66 sAC112 (by omega) rfl ?_
            refine sd_istore (ls' := [some (.inr 120), some (.inl 2), some (.inr 113), some (.inl (zi55 : Int)), some (.inl (x (8224 + zi55)))]) sD10_stock_67 (by decide) rfl ?_
            refine sd_iload sD10_stock_69 rfl ?_
            refine sd_sipush sD10_stock_71 rfl (by decide) ?_
            refine sd_icmp_eq (tgt := 96) sD10_stock_74 (by decide) (fun zc74 => ?_) (fun zc74 => ?_)
            ·
              refine sd_iinc (y := ((zi55 : Int) + 1)) (ls' := [some (.inr 120), some (.inl 2), some (.inr 113), some (.inl ((zi55 : Int) + 1)), some (.inl (x (8224 + zi55)))]) sD10_stock_96 rfl (by omega) (by omega) (by decide) rfl ?_
              refine sd_goto (tgt := 55) sD10_stock_99 (by decide) ?_
              refine sd_less (ls' := [some (.inr 120), some (.inl 2), some (.inr 113), some (.inl ((zi55 : Int) + 1)), none]) ?_ rfl (by intro zi zv zh; rcases zi with _ | _ | _ | _ | _ | zi <;> first | exact zh | cases zh)
              exact sd_eqw (ls' := [some (.inr 120), some (.inl 2), some (.inr 113), some (.inl ((zi55 + 1 : Nat) : Int)), none]) (ihzi55 (by intro q hq; by_cases hqe : q = zi55; (subst hqe; omega); exact hhzi55 q (by omega))) (sd_cg rfl (sd_cg rfl (sd_cg rfl (sd_cg (sd_ce (show (((zi55 : Int) + 1) : Int) = ((zi55 + 1 : Nat) : Int) from by omega)) (sd_cg rfl rfl))))) rfl
            ·
              refine sd_iload sD10_stock_77 rfl ?_
              refine sd_iconst sD10_stock_79 (by decide) ?_
              refine sd_sipush sD10_stock_80 rfl (by decide) ?_
              refine sd_callSp (as := [.inl (x (8224 + zi55)), .inl 0, .inl 9999]) (st := []) (v := .inl (sd_b (0 ≤ x (8224 + zi55) ∧ x (8224 + zi55) ≤ 9999))) sD10_stock_83 sM10_65 rfl rfl (by decide) (Nat.le_of_ble_eq_true rfl) (cC_isWithin (x (8224 + zi55)) 0 9999 m) (fun ho83 => ?_)
              refine sd_bif_ne (tgt := 96) sD10_stock_86 (by decide) (fun zc86 => ?_) (fun zc86 => ?_)
              ·
                refine sd_iinc (y := ((zi55 : Int) + 1)) (ls' := [some (.inr 120), some (.inl 2), some (.inr 113), some (.inl ((zi55 : Int) + 1)), some (.inl (x (8224 + zi55)))]) sD10_stock_96 rfl (by omega) (by omega) (by decide) rfl ?_
                refine sd_goto (tgt := 55) sD10_stock_99 (by decide) ?_
                refine sd_less (ls' := [some (.inr 120), some (.inl 2), some (.inr 113), some (.inl ((zi55 : Int) + 1)), none]) ?_ rfl (by intro zi zv zh; rcases zi with _ | _ | _ | _ | _ | zi <;> first | exact zh | cases zh)
                exact sd_eqw (ls' := [some (.inr 120), some (.inl 2), some (.inr 113), some (.inl ((zi55 + 1 : Nat) : Int)), none]) (ihzi55 (by intro q hq; by_cases hqe : q = zi55; (subst hqe; omega); exact hhzi55 q (by omega))) (sd_cg rfl (sd_cg rfl (sd_cg rfl (sd_cg (sd_ce (show (((zi55 : Int) + 1) : Int) = ((zi55 + 1 : Nat) : Int) from by omega)) (sd_cg rfl rfl))))) rfl
              ·
                have zz : sd_bsk x 8224 := ⟨zi55, by omega, by omega⟩
                refine sd_aload_n sD10_stock_89 rfl ?_
                refine sd_ldc (z := -1000001) sD10_stock_90 sK10_51 (by decide) ?_
                refine sd_callV (as := [.inl (-1000001)]) (st := []) sD10_stock_92 sM10_52 rfl rfl sOC120 rfl (by decide) (Nat.le_of_ble_eq_true rfl) (cC_found (-1000001) 0 (by decide) (by decide) _ m hx (hF 0 (by decide))) (fun r m hq ho92 hm => ?_)
                obtain ⟨rfl, hx⟩ := hq
                show sd_Wp sd_SC 2 sY10_stock 95 [some (.inr 120), some (.inl 2), some (.inr 113), some (.inl (zi55 : Int)), some (.inl (x (8224 + zi55)))] [.inl (-1000001)] m _
                refine sd_ireturn sD10_stock_95 rfl (fun hr hm => ?_)
                exact sd_done (by unfold sp_stock; (try simp only [Int.reduceToNat, Nat.reduceAdd, Nat.reduceMul, Nat.add_zero]); ((repeat (first | rw [if_pos (by first | assumption | omega)] | rw [if_neg (by first | assumption | omega)])); try rfl)) hx
          ·
            show sd_Wp sd_SC 2 sY10_stock 55 [some (.inr 120), some (.inl 2), some (.inr 113), some (.inl (6 : Int)), none] [] m _
            refine sd_iload_n sD10_stock_55 rfl ?_
            refine sd_bipush sD10_stock_56 rfl (by decide) ?_
            refine sd_icmp_ge (tgt := 102) sD10_stock_58 (by decide) (fun zc58 => ?_) (fun zc58 => (by exfalso; omega))
            have zz : ¬ sd_bsk x 8224 := fun ⟨q, h1, h2⟩ => h2 (hhzi55 q h1)
            refine sd_aload_n sD10_stock_102 rfl ?_
            refine sd_getfr sD10_stock_103 sF10_10 sGC120_0 ?_
            refine sd_getfr sD10_stock_106 sF10_183 sGC53_4 ?_
            refine sd_aload_n sD10_stock_109 rfl ?_
            refine sd_getfr sD10_stock_110 sF10_198 sGC113_2 ?_
            refine sd_callV (as := [.inr 112]) (st := []) sD10_stock_113 sM10_201 rfl rfl sOC23 rfl (by decide) (Nat.le_of_ble_eq_true rfl) (cC_restock2 _ m hx) (fun r m hq ho113 hm => ?_)
            obtain ⟨rfl, hx⟩ := hq
            show sd_Wp sd_SC 2 sY10_stock 116 [some (.inr 120), some (.inl 2), some (.inr 113), some (.inl (6 : Int)), none] [.inl (sd_cnt (sd_Psk x 8224) 6)] m _
            refine sd_ireturn sD10_stock_116 rfl (fun hr hm => ?_)
            exact sd_done (by unfold sp_stock; (try simp only [Int.reduceToNat, Nat.reduceAdd, Nat.reduceMul, Nat.add_zero]); ((repeat (first | rw [if_pos (by first | assumption | omega)] | rw [if_neg (by first | assumption | omega)])); try rfl)) hx
        ·
          refine sd_aload_n sD10_stock_46 rfl ?_
          refine sd_ldc (z := -1000007) sD10_stock_47 sK10_163 (by decide) ?_
          refine sd_callV (as := [.inl (-1000007)]) (st := []) sD10_stock_49 sM10_52 rfl rfl sOC120 rfl (by decide) (Nat.le_of_ble_eq_true rfl) (cC_found (-1000007) 6 (by decide) (by decide) _ m hx (hF 6 (by decide))) (fun r m hq ho49 hm => ?_)
          obtain ⟨rfl, hx⟩ := hq
          show sd_Wp sd_SC 2 sY10_stock 52 [some (.inr 120), some (.inl 2), some (.inr 113), none, none] [.inl (-1000007)] m _
          refine sd_ireturn sD10_stock_52 rfl (fun hr hm => ?_)
          exact sd_done (by unfold sp_stock; (try simp only [Int.reduceToNat, Nat.reduceAdd, Nat.reduceMul, Nat.add_zero]); ((repeat (first | rw [if_pos (by first | assumption | omega)] | rw [if_neg (by first | assumption | omega)])); try rfl)) hx
      ·
        refine sd_aload_n sD10_stock_30 rfl ?_
        refine sd_ldc (z := -1000006) sD10_stock_31 sK10_196 (by decide) ?_
        refine sd_callV (as := [.inl (-1000006)]) (st := []) sD10_stock_33 sM10_52 rfl rfl sOC120 rfl (by decide) (Nat.le_of_ble_eq_true rfl) (cC_found (-1000006) 5 (by decide) (by decide) _ m hx (hF 5 (by decide))) (fun r m hq ho33 hm => ?_)
        obtain ⟨rfl, hx⟩ := hq
        show sd_Wp sd_SC 2 sY10_stock 36 [some (.inr 120), some (.inl 2), some (.inr 113), none, none] [.inl (-1000006)] m _
        refine sd_ireturn sD10_stock_36 rfl (fun hr hm => ?_)
        exact sd_done (by unfold sp_stock; (try simp only [Int.reduceToNat, Nat.reduceAdd, Nat.reduceMul, Nat.add_zero]); ((repeat (first | rw [if_pos (by first | assumption | omega)] | rw [if_neg (by first | assumption | omega)])); try rfl)) hx
    ·
      subst zs21
      refine sd_aald (q := 115) sD10_stock_21 sBC116 (by decide) rfl ?_
      refine sd_astore_n (ls' := [some (.inr 120), some (.inl 3), some (.inr 115), none, none]) sD10_stock_22 (by decide) rfl ?_
      refine sd_aload_n sD10_stock_23 rfl ?_
      refine sd_callVp (as := []) (st := []) (v := .inl (sd_b (x 4253 = 0))) sD10_stock_24 sM10_192 sOC115 rfl rfl rfl (by decide) (Nat.le_of_ble_eq_true rfl) (cC_isMissing3 _ m hx) (fun ho24 => ?_)
      refine sd_bif_eq (tgt := 37) sD10_stock_27 (by decide) (fun zc27 => ?_) (fun zc27 => ?_)
      ·
        refine sd_aload_n sD10_stock_37 rfl ?_
        refine sd_getfx (v := x 8103) hx sD10_stock_38 sF10_197 sGC115_1 (by decide) rfl ?_
        refine sd_bipush sD10_stock_41 rfl (by decide) ?_
        refine sd_icmp_eq (tgt := 53) sD10_stock_43 (by decide) (fun zc43 => ?_) (fun zc43 => ?_)
        ·
          refine sd_iconst sD10_stock_53 (by decide) ?_
          refine sd_istore_n (ls' := [some (.inr 120), some (.inl 3), some (.inr 115), some (.inl 0), none]) sD10_stock_54 (by decide) rfl ?_
          refine sd_forH (6) (fun zi55 : Nat => [some (.inr 120), some (.inl 3), some (.inr 115), some (.inl (zi55 : Int)), none]) (fun zi55 : Nat => ∀ p, p < zi55 → (x (8236 + p) = -9999 ∨ (0 ≤ x (8236 + p) ∧ x (8236 + p) ≤ 9999))) (by rfl) (fun zi55 hizi55 hhzi55 ihzi55 => ?_) (fun hhzi55 => ?_) (by intro q hq; omega)
          ·
            refine sd_iload_n sD10_stock_55 rfl ?_
            refine sd_bipush sD10_stock_56 rfl (by decide) ?_
            refine sd_icmp_ge (tgt := 102) sD10_stock_58 (by decide) (fun zc58 => (by exfalso; omega)) (fun zc58 => ?_)
            refine sd_aload_n sD10_stock_61 rfl ?_
            refine sd_getfr sD10_stock_62 sF10_198 sGC115_2 ?_
            refine sd_iload_n sD10_stock_65 rfl ?_
            refine sd_ialdx (a := (8236 + zi55)) (v := x (8236 + zi55)) hx sD10_stock_66 sAC114 (by omega) rfl ?_
            refine sd_istore (ls' := [some (.inr 120), some (.inl 3), some (.inr 115), some (.inl (zi55 : Int)), some (.inl (x (8236 + zi55)))]) sD10_stock_67 (by decide) rfl ?_
            refine sd_iload sD10_stock_69 rfl ?_
            refine sd_sipush sD10_stock_71 rfl (by decide) ?_
            refine sd_icmp_eq (tgt := 96) sD10_stock_74 (by decide) (fun zc74 => ?_) (fun zc74 => ?_)
            ·
              refine sd_iinc (y := ((zi55 : Int) + 1)) (ls' := [some (.inr 120), some (.inl 3), some (.inr 115), some (.inl ((zi55 : Int) + 1)), some (.inl (x (8236 + zi55)))]) sD10_stock_96 rfl (by omega) (by omega) (by decide) rfl ?_
              refine sd_goto (tgt := 55) sD10_stock_99 (by decide) ?_
              refine sd_less (ls' := [some (.inr 120), some (.inl 3), some (.inr 115), some (.inl ((zi55 : Int) + 1)), none]) ?_ rfl (by intro zi zv zh; rcases zi with _ | _ | _ | _ | _ | zi <;> first | exact zh | cases zh)
              exact sd_eqw (ls' := [some (.inr 120), some (.inl 3), some (.inr 115), some (.inl ((zi55 + 1 : Nat) : Int)), none]) (ihzi55 (by intro q hq; by_cases hqe : q = zi55; (subst hqe; omega); exact hhzi55 q (by omega))) (sd_cg rfl (sd_cg rfl (sd_cg rfl (sd_cg (sd_ce (show (((zi55 : Int) + 1) : Int) = ((zi55 + 1 : Nat) : Int) from by omega)) (sd_cg rfl rfl))))) rfl
            ·
              refine sd_iload sD10_stock_77 rfl ?_
              refine sd_iconst sD10_stock_79 (by decide) ?_
              refine sd_sipush sD10_stock_80 rfl (by decide) ?_
              refine sd_callSp (as := [.inl (x (8236 + zi55)), .inl 0, .inl 9999]) (st := []) (v := .inl (sd_b (0 ≤ x (8236 + zi55) ∧ x (8236 + zi55) ≤ 9999))) sD10_stock_83 sM10_65 rfl rfl (by decide) (Nat.le_of_ble_eq_true rfl) (cC_isWithin (x (8236 + zi55)) 0 9999 m) (fun ho83 => ?_)
              refine sd_bif_ne (tgt := 96) sD10_stock_86 (by decide) (fun zc86 => ?_) (fun zc86 => ?_)
              ·
                refine sd_iinc (y := ((zi55 : Int) + 1)) (ls' := [some (.inr 120), some (.inl 3), some (.inr 115), some (.inl ((zi55 : Int) + 1)), some (.inl (x (8236 + zi55)))]) sD10_stock_96 rfl (by omega) (by omega) (by decide) rfl ?_
                refine sd_goto (tgt := 55) sD10_stock_99 (by decide) ?_
                refine sd_less (ls' := [some (.inr 120), some (.inl 3), some (.inr 115), some (.inl ((zi55 : Int) + 1)), none]) ?_ rfl (by intro zi zv zh; rcases zi with _ | _ | _ | _ | _ | zi <;> first | exact zh | cases zh)
                exact sd_eqw (ls' := [some (.inr 120), some (.inl 3), some (.inr 115), some (.inl ((zi55 + 1 : Nat) : Int)), none]) (ihzi55 (by intro q hq; by_cases hqe : q = zi55; (subst hqe; omega); exact hhzi55 q (by omega))) (sd_cg rfl (sd_cg rfl (sd_cg rfl (sd_cg (sd_ce (show (((zi55 : Int) + 1) : Int) = ((zi55 + 1 : Nat) : Int) from by omega)) (sd_cg rfl rfl))))) rfl
              ·
                have zz : sd_bsk x 8236 := ⟨zi55, by omega, by omega⟩
                refine sd_aload_n sD10_stock_89 rfl ?_
                refine sd_ldc (z := -1000001) sD10_stock_90 sK10_51 (by decide) ?_
                refine sd_callV (as := [.inl (-1000001)]) (st := []) sD10_stock_92 sM10_52 rfl rfl sOC120 rfl (by decide) (Nat.le_of_ble_eq_true rfl) (cC_found (-1000001) 0 (by decide) (by decide) _ m hx (hF 0 (by decide))) (fun r m hq ho92 hm => ?_)
                obtain ⟨rfl, hx⟩ := hq
                show sd_Wp sd_SC 2 sY10_stock 95 [some (.inr 120), some (.inl 3), some (.inr 115), some (.inl (zi55 : Int)), some (.inl (x (8236 + zi55)))] [.inl (-1000001)] m _
                refine sd_ireturn sD10_stock_95 rfl (fun hr hm => ?_)
                exact sd_done (by unfold sp_stock; (try simp only [Int.reduceToNat, Nat.reduceAdd, Nat.reduceMul, Nat.add_zero]); ((repeat (first | rw [if_pos (by first | assumption | omega)] | rw [if_neg (by first | assumption | omega)])); try rfl)) hx
          ·
            show sd_Wp sd_SC 2 sY10_stock 55 [some (.inr 120), some (.inl 3), some (.inr 115), some (.inl (6 : Int)), none] [] m _
            refine sd_iload_n sD10_stock_55 rfl ?_
            refine sd_bipush sD10_stock_56 rfl (by decide) ?_
            refine sd_icmp_ge (tgt := 102) sD10_stock_58 (by decide) (fun zc58 => ?_) (fun zc58 => (by exfalso; omega))
            have zz : ¬ sd_bsk x 8236 := fun ⟨q, h1, h2⟩ => h2 (hhzi55 q h1)
            refine sd_aload_n sD10_stock_102 rfl ?_
            refine sd_getfr sD10_stock_103 sF10_10 sGC120_0 ?_
            refine sd_getfr sD10_stock_106 sF10_183 sGC53_4 ?_
            refine sd_aload_n sD10_stock_109 rfl ?_
            refine sd_getfr sD10_stock_110 sF10_198 sGC115_2 ?_
            refine sd_callV (as := [.inr 114]) (st := []) sD10_stock_113 sM10_201 rfl rfl sOC23 rfl (by decide) (Nat.le_of_ble_eq_true rfl) (cC_restock3 _ m hx) (fun r m hq ho113 hm => ?_)
            obtain ⟨rfl, hx⟩ := hq
            show sd_Wp sd_SC 2 sY10_stock 116 [some (.inr 120), some (.inl 3), some (.inr 115), some (.inl (6 : Int)), none] [.inl (sd_cnt (sd_Psk x 8236) 6)] m _
            refine sd_ireturn sD10_stock_116 rfl (fun hr hm => ?_)
            exact sd_done (by unfold sp_stock; (try simp only [Int.reduceToNat, Nat.reduceAdd, Nat.reduceMul, Nat.add_zero]); ((repeat (first | rw [if_pos (by first | assumption | omega)] | rw [if_neg (by first | assumption | omega)])); try rfl)) hx
        ·
          refine sd_aload_n sD10_stock_46 rfl ?_
          refine sd_ldc (z := -1000007) sD10_stock_47 sK10_163 (by decide) ?_
          refine sd_callV (as := [.inl (-1000007)]) (st := []) sD10_stock_49 sM10_52 rfl rfl sOC120 rfl (by decide) (Nat.le_of_ble_eq_true rfl) (cC_found (-1000007) 6 (by decide) (by decide) _ m hx (hF 6 (by decide))) (fun r m hq ho49 hm => ?_)
          obtain ⟨rfl, hx⟩ := hq
          show sd_Wp sd_SC 2 sY10_stock 52 [some (.inr 120), some (.inl 3), some (.inr 115), none, none] [.inl (-1000007)] m _
          refine sd_ireturn sD10_stock_52 rfl (fun hr hm => ?_)
          exact sd_done (by unfold sp_stock; (try simp only [Int.reduceToNat, Nat.reduceAdd, Nat.reduceMul, Nat.add_zero]); ((repeat (first | rw [if_pos (by first | assumption | omega)] | rw [if_neg (by first | assumption | omega)])); try rfl)) hx
      ·
        refine sd_aload_n sD10_stock_30 rfl ?_
        refine sd_ldc (z := -1000006) sD10_stock_31 sK10_196 (by decide) ?_
        refine sd_callV (as := [.inl (-1000006)]) (st := []) sD10_stock_33 sM10_52 rfl rfl sOC120 rfl (by decide) (Nat.le_of_ble_eq_true rfl) (cC_found (-1000006) 5 (by decide) (by decide) _ m hx (hF 5 (by decide))) (fun r m hq ho33 hm => ?_)
        obtain ⟨rfl, hx⟩ := hq
        show sd_Wp sd_SC 2 sY10_stock 36 [some (.inr 120), some (.inl 3), some (.inr 115), none, none] [.inl (-1000006)] m _
        refine sd_ireturn sD10_stock_36 rfl (fun hr hm => ?_)
        exact sd_done (by unfold sp_stock; (try simp only [Int.reduceToNat, Nat.reduceAdd, Nat.reduceMul, Nat.add_zero]); ((repeat (first | rw [if_pos (by first | assumption | omega)] | rw [if_neg (by first | assumption | omega)])); try rfl)) hx
  ·
    refine sd_aload_n sD10_stock_9 rfl ?_
    refine sd_ldc (z := -1000001) sD10_stock_10 sK10_51 (by decide) ?_
    refine sd_callV (as := [.inl (-1000001)]) (st := []) sD10_stock_12 sM10_52 rfl rfl sOC120 rfl (by decide) (Nat.le_of_ble_eq_true rfl) (cC_found (-1000001) 0 (by decide) (by decide) _ m hx (hF 0 (by decide))) (fun r m hq ho12 hm => ?_)
    obtain ⟨rfl, hx⟩ := hq
    show sd_Wp sd_SC 2 sY10_stock 15 [some (.inr 120), some (.inl s), none, none, none] [.inl (-1000001)] m _
    refine sd_ireturn sD10_stock_15 rfl (fun hr hm => ?_)
    exact sd_done (by unfold sp_stock; (try simp only [Int.reduceToNat, Nat.reduceAdd, Nat.reduceMul, Nat.add_zero]); ((repeat (first | rw [if_pos (by first | assumption | omega)] | rw [if_neg (by first | assumption | omega)])); try rfl)) hx
