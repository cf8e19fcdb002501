set_option maxRecDepth 100000 in
set_option maxHeartbeats 4000000 in
theorem pC_judge (s : Int) (w : Int) (v : Int) (x m : sd_M) (hx : sd_ns x m) (h9 : sd_L9 x) (hF : ∀ k : Nat, k < 7 → 0 ≤ x (4101 + k) ∧ x (4101 + k) ≤ 1000000) (hB : sd_IB x) : sd_Ct sd_SC 17 sY10_judge [.inr 120, .inl s, .inl w, .inl v] m (sd_Qp (sp_judge x s w v)) := by
  refine sd_ct rfl (Nat.le_of_ble_eq_true rfl) (fun hok hm => ?_)
  have r_s : sd_R s := hok (.inl s) (by simp)
  have r_w : sd_R w := hok (.inl w) (by simp)
  have r_v : sd_R v := hok (.inl v) (by simp)
  show sd_Wp sd_SC 17 sY10_judge 0 [some (.inr 120), some (.inl s), some (.inl w), some (.inl v), none, none] [] m _
  refine sd_iload_n sD10_judge_0 rfl ?_
  refine sd_iconst sD10_judge_1 (by decide) ?_
  refine sd_iconst sD10_judge_2 (by decide) ?_
  refine sd_callSp (as := [.inl s, .inl 0, .inl 3]) (st := []) (v := .inl (sd_b (0 ≤ s ∧ s ≤ 3))) sD10_judge_3 sM10_65 rfl rfl (by decide) (Nat.le_of_ble_eq_true rfl) (cC_isWithin s 0 3 m) (fun ho3 => ?_)
  refine sd_bif_eq (tgt := 18) sD10_judge_6 (by decide) (fun zc6 => ?_) (fun zc6 => ?_)
  ·
    refine sd_aload_n sD10_judge_18 rfl ?_
    refine sd_ldc (z := -1000001) sD10_judge_19 sK10_51 (by decide) ?_
    refine sd_callV (as := [.inl (-1000001)]) (st := []) sD10_judge_21 sM10_52 rfl rfl sOC120 rfl (by decide) (Nat.le_of_ble_eq_true rfl) (cC_found (-1000001) 0 (by decide) (by decide) _ m hx (hF 0 (by decide))) (fun r m hq ho21 hm => ?_)
    obtain ⟨rfl, hx⟩ := hq
    show sd_Wp sd_SC 17 sY10_judge 24 [some (.inr 120), some (.inl s), some (.inl w), some (.inl v), none, none] [.inl (-1000001)] m _
    refine sd_ireturn sD10_judge_24 rfl (fun hr hm => ?_)
    exact sd_done (by unfold sp_judge; (try simp only [Int.reduceToNat, Nat.reduceAdd, Nat.reduceMul, Nat.add_zero]); ((repeat (first | rw [if_pos (by first | assumption | omega)] | rw [if_neg (by first | assumption | omega)])); try rfl)) hx
  ·
    refine sd_iload_n sD10_judge_9 rfl ?_
    refine sd_iload_n sD10_judge_10 rfl ?_
    refine sd_iconst sD10_judge_11 (by decide) ?_
    refine sd_callSp (as := [.inl w, .inl v, .inl 1]) (st := []) (v := .inl (sd_b (((1 ≤ w ∧ w ≤ 99) ∧ 1 ≤ v ∧ v ≤ 99) ∧ 1 ≤ 1 ∧ 1 ≤ 5))) sD10_judge_12 sM10_334 rfl rfl (by decide) (Nat.le_of_ble_eq_true rfl) (cC_areGame w v 1 m) (fun ho12 => ?_)
    refine sd_bif_ne (tgt := 25) sD10_judge_15 (by decide) (fun zc15 => ?_) (fun zc15 => ?_)
    ·
      refine sd_aload_n sD10_judge_25 rfl ?_
      refine sd_getfr sD10_judge_26 sF10_21 sGC120_2 ?_
      refine sd_iload_n sD10_judge_29 rfl ?_
      rcases (show s = 0 ∨ s = 1 ∨ s = 2 ∨ s = 3 by omega) with zs30 | zs30 | zs30 | zs30
      ·
        subst zs30
        refine sd_aald (q := 109) sD10_judge_30 sBC116 (by decide) rfl ?_
        refine sd_astore (ls' := [some (.inr 120), some (.inl 0), some (.inl w), some (.inl v), some (.inr 109), none]) sD10_judge_31 (by decide) rfl ?_
        refine sd_aload sD10_judge_33 rfl ?_
        refine sd_callVp (as := []) (st := []) (v := .inl (sd_b (x 4250 = 0))) sD10_judge_35 sM10_192 sOC109 rfl rfl rfl (by decide) (Nat.le_of_ble_eq_true rfl) (cC_isMissing0 _ m hx) (fun ho35 => ?_)
        refine sd_bif_eq (tgt := 48) sD10_judge_38 (by decide) (fun zc38 => ?_) (fun zc38 => ?_)
        ·
          refine sd_aload sD10_judge_48 rfl ?_
          refine sd_getfx (v := x 8100) hx sD10_judge_50 sF10_197 sGC109_1 (by decide) rfl ?_
          refine sd_iconst sD10_judge_53 (by decide) ?_
          refine sd_iconst sD10_judge_54 (by decide) ?_
          refine sd_callSp (as := [.inl (x 8100), .inl 1, .inl 5]) (st := []) (v := .inl (sd_b (1 ≤ x 8100 ∧ x 8100 ≤ 5))) sD10_judge_55 sM10_65 rfl rfl (by decide) (Nat.le_of_ble_eq_true rfl) (cC_isWithin (x 8100) 1 5 m) (fun ho55 => ?_)
          refine sd_bif_ne (tgt := 68) sD10_judge_58 (by decide) (fun zc58 => ?_) (fun zc58 => ?_)
          ·
            refine sd_iconst sD10_judge_68 (by decide) ?_
            refine sd_istore (ls' := [some (.inr 120), some (.inl 0), some (.inl w), some (.inl v), some (.inr 109), some (.inl 0)]) sD10_judge_69 (by decide) rfl ?_
            refine sd_forH ((x 8100).toNat) (fun zi71 : Nat => [some (.inr 120), some (.inl 0), some (.inl w), some (.inl v), some (.inr 109), some (.inl (zi71 : Int))]) (fun zi71 : Nat => ∀ q, q < zi71 → 0 ≤ sd_pl8 x 0 q ∧ sd_pl8 x 0 q ≤ 2) (by rfl) (fun zi71 hizi71 hhzi71 ihzi71 => ?_) (fun hhzi71 => ?_) (by intro q hq; omega)
            ·
              refine sd_iload sD10_judge_71 rfl ?_
              refine sd_aload sD10_judge_73 rfl ?_
              refine sd_getfx (v := x 8100) hx sD10_judge_75 sF10_197 sGC109_1 (by decide) rfl ?_
              refine sd_icmp_ge (tgt := 110) sD10_judge_78 (by decide) (fun zc78 => (by exfalso; omega)) (fun zc78 => ?_)
              refine sd_aload sD10_judge_81 rfl ?_
              refine sd_getfr sD10_judge_83 sF10_198 sGC109_2 ?_
              refine sd_iload sD10_judge_86 rfl ?_
              refine sd_ialdx (a := (8200 + zi71)) (v := x (8200 + zi71)) hx sD10_judge_88 sAC108 (by omega) rfl ?_
              refine sd_iconst sD10_judge_89 (by decide) ?_
              refine sd_iconst sD10_judge_90 (by decide) ?_
              refine sd_callSp (as := [.inl (x (8200 + zi71)), .inl 0, .inl 2]) (st := []) (v := .inl (sd_b (0 ≤ x (8200 + zi71) ∧ x (8200 + zi71) ≤ 2))) sD10_judge_91 sM10_65 rfl rfl (by decide) (Nat.le_of_ble_eq_true rfl) (cC_isWithin (x (8200 + zi71)) 0 2 m) (fun ho91 => ?_)
              refine sd_bif_ne (tgt := 104) sD10_judge_94 (by decide) (fun zc94 => ?_) (fun zc94 => ?_)
              ·
                refine sd_iinc (y := ((zi71 : Int) + 1)) (ls' := [some (.inr 120), some (.inl 0), some (.inl w), some (.inl v), some (.inr 109), some (.inl ((zi71 : Int) + 1))]) sD10_judge_104 rfl (by omega) (by omega) (by decide) rfl ?_
                refine sd_goto (tgt := 71) sD10_judge_107 (by decide) ?_
                exact sd_eqw (ls' := [some (.inr 120), some (.inl 0), some (.inl w), some (.inl v), some (.inr 109), some (.inl ((zi71 + 1 : Nat) : Int))]) (ihzi71 (by intro q hq; by_cases hqe : q = zi71; (subst hqe; unfold sd_pl8; omega); exact hhzi71 q (by omega))) (by rw [show (((zi71 : Int) + 1) : Int) = ((zi71 + 1 : Nat) : Int) from by omega]) rfl
              ·
                have zz : sd_bdp x 0 (x 8100).toNat := ⟨zi71, by omega, by unfold sd_pl8; omega⟩
                refine sd_aload_n sD10_judge_97 rfl ?_
                refine sd_ldc (z := -1000001) sD10_judge_98 sK10_51 (by decide) ?_
                refine sd_callV (as := [.inl (-1000001)]) (st := []) sD10_judge_100 sM10_52 rfl rfl sOC120 rfl (by decide) (Nat.le_of_ble_eq_true rfl) (cC_found (-1000001) 0 (by decide) (by decide) _ m hx (hF 0 (by decide))) (fun r m hq ho100 hm => ?_)
                obtain ⟨rfl, hx⟩ := hq
                show sd_Wp sd_SC 17 sY10_judge 103 [some (.inr 120), some (.inl 0), some (.inl w), some (.inl v), some (.inr 109), some (.inl (zi71 : Int))] [.inl (-1000001)] m _
                refine sd_ireturn sD10_judge_103 rfl (fun hr hm => ?_)
                exact sd_done (by unfold sp_judge; (try simp only [Int.reduceToNat, Nat.reduceAdd, Nat.reduceMul, Nat.add_zero]); ((repeat (first | rw [if_pos (by first | assumption | omega)] | rw [if_neg (by first | assumption | omega)])); try rfl)) hx
            ·
              show sd_Wp sd_SC 17 sY10_judge 71 [some (.inr 120), some (.inl 0), some (.inl w), some (.inl v), some (.inr 109), some (.inl ((((x 8100).toNat) : Nat) : Int))] [] m _
              refine sd_iload sD10_judge_71 rfl ?_
              refine sd_aload sD10_judge_73 rfl ?_
              refine sd_getfx (v := x 8100) hx sD10_judge_75 sF10_197 sGC109_1 (by decide) rfl ?_
              refine sd_icmp_ge (tgt := 110) sD10_judge_78 (by decide) (fun zc78 => ?_) (fun zc78 => (by exfalso; omega))
              have zz : ¬ sd_bdp x 0 (x 8100).toNat := fun ⟨q, h1, h2⟩ => h2 (hhzi71 q h1)
              refine sd_aload_n sD10_judge_110 rfl ?_
              refine sd_getfr sD10_judge_111 sF10_10 sGC120_0 ?_
              refine sd_getfr sD10_judge_114 sF10_324 sGC53_8 ?_
              refine sd_aload sD10_judge_117 rfl ?_
              refine sd_getfr sD10_judge_119 sF10_198 sGC109_2 ?_
              refine sd_aload sD10_judge_122 rfl ?_
              refine sd_getfx (v := x 8100) hx sD10_judge_124 sF10_197 sGC109_1 (by decide) rfl ?_
              refine sd_iload_n sD10_judge_127 rfl ?_
              refine sd_iload_n sD10_judge_128 rfl ?_
              refine sd_callV (as := [.inr 108, .inl (x 8100), .inl w, .inl v]) (st := []) sD10_judge_129 sM10_343 rfl rfl sOC49 rfl (by decide) (Nat.le_of_ble_eq_true rfl) (cC_plan0I w v (x 8100) _ m hx h9 (by omega) (by omega) (by omega) hhzi71) (fun r m hq ho129 hm => ?_)
              obtain ⟨rfl, hx⟩ := hq
              show sd_Wp sd_SC 17 sY10_judge 132 [some (.inr 120), some (.inl 0), some (.inl w), some (.inl v), some (.inr 109), some (.inl ((((x 8100).toNat) : Nat) : Int))] [.inl (sd_pv x (sd_pl8 x 0) (x 8100).toNat (x 8100).toNat w v)] m _
              refine sd_ireturn sD10_judge_132 rfl (fun hr hm => ?_)
              exact sd_done (by unfold sp_judge; (try simp only [Int.reduceToNat, Nat.reduceAdd, Nat.reduceMul, Nat.add_zero]); ((repeat (first | rw [if_pos (by first | assumption | omega)] | rw [if_neg (by first | assumption | omega)])); try rfl)) hx
          ·
            refine sd_aload_n sD10_judge_61 rfl ?_
            refine sd_ldc (z := -1000007) sD10_judge_62 sK10_163 (by decide) ?_
            refine sd_callV (as := [.inl (-1000007)]) (st := []) sD10_judge_64 sM10_52 rfl rfl sOC120 rfl (by decide) (Nat.le_of_ble_eq_true rfl) (cC_found (-1000007) 6 (by decide) (by decide) _ m hx (hF 6 (by decide))) (fun r m hq ho64 hm => ?_)
            obtain ⟨rfl, hx⟩ := hq
            show sd_Wp sd_SC 17 sY10_judge 67 [some (.inr 120), some (.inl 0), some (.inl w), some (.inl v), some (.inr 109), none] [.inl (-1000007)] m _
            refine sd_ireturn sD10_judge_67 rfl (fun hr hm => ?_)
            exact sd_done (by unfold sp_judge; (try simp only [Int.reduceToNat, Nat.reduceAdd, Nat.reduceMul, Nat.add_zero]); ((repeat (first | rw [if_pos (by first | assumption | omega)] | rw [if_neg (by first | assumption | omega)])); try rfl)) hx
        ·
          refine sd_aload_n sD10_judge_41 rfl ?_
          refine sd_ldc (z := -1000006) sD10_judge_42 sK10_196 (by decide) ?_
          refine sd_callV (as := [.inl (-1000006)]) (st := []) sD10_judge_44 sM10_52 rfl rfl sOC120 rfl (by decide) (Nat.le_of_ble_eq_true rfl) (cC_found (-1000006) 5 (by decide) (by decide) _ m hx (hF 5 (by decide))) (fun r m hq ho44 hm => ?_)
          obtain ⟨rfl, hx⟩ := hq
          show sd_Wp sd_SC 17 sY10_judge 47 [some (.inr 120), some (.inl 0), some (.inl w), some (.inl v), some (.inr 109), none] [.inl (-1000006)] m _
          refine sd_ireturn sD10_judge_47 rfl (fun hr hm => ?_)
          exact sd_done (by unfold sp_judge; (try simp only [Int.reduceToNat, Nat.reduceAdd, Nat.reduceMul, Nat.add_zero]); ((repeat (first | rw [if_pos (by first | assumption | omega)] | rw [if_neg (by first | assumption | omega)])); try rfl)) hx
      ·
        subst zs30
        refine sd_aald (q := 111) sD10_judge_30 sBC116 (by decide) rfl ?_
        refine sd_astore (ls' := [some (.inr 120), some (.inl 1), some (.inl w), some (.inl v), some (.inr 111), none]) sD10_judge_31 (by decide) rfl ?_
        refine sd_aload sD10_judge_33 rfl ?_
        refine sd_callVp (as := []) (st := []) (v := .inl (sd_b (x 4251 = 0))) sD10_judge_35 sM10_192 sOC111 rfl rfl rfl (by decide) (Nat.le_of_ble_eq_true rfl) (cC_isMissing1 _ m hx) (fun ho35 => ?_)
        refine sd_bif_eq (tgt := 48) sD10_judge_38 (by decide) (fun zc38 => ?_) (fun zc38 => ?_)
        ·
          refine sd_aload sD10_judge_48 rfl ?_
          refine sd_getfx (v := x 8101) hx sD10_judge_50 sF10_197 sGC111_1 (by decide) rfl ?_
          refine sd_iconst sD10_judge_53 (by decide) ?_
          refine sd_iconst sD10_judge_54 (by decide) ?_
          refine sd_callSp (as := [.inl (x 8101), .inl 1, .inl 5]) (st := []) (v := .inl (sd_b (1 ≤ x 8101 ∧ x 8101 ≤ 5))) sD10_judge_55 sM10_65 rfl rfl (by decide) (Nat.le_of_ble_eq_true rfl) (cC_isWithin (x 8101) 1 5 m) (fun ho55 => ?_)
          refine sd_bif_ne (tgt := 68) sD10_judge_58 (by decide) (fun zc58 => ?_) (fun zc58 => ?_)
          ·
            refine sd_iconst sD10_judge_68 (by decide) ?_
            refine sd_istore (ls' := [some (.inr 120), some (.inl 1), some (.inl w), some (.inl v), some (.inr 111), some (.inl 0)]) sD10_judge_69 (by decide) rfl ?_
            refine sd_forH ((x 8101).toNat) (fun zi71 : Nat => [some (.inr 120), some (.inl 1), some (.inl w), some (.inl v), some (.inr 111), some (.inl (zi71 : Int))]) (fun zi71 : Nat => ∀ q, q < zi71 → 0 ≤ sd_pl8 x 1 q ∧ sd_pl8 x 1 q ≤ 2) (by rfl) (fun zi71 hizi71 hhzi71 ihzi71 => ?_) (fun hhzi71 => ?_) (by intro q hq; omega)
            ·
              refine sd_iload sD10_judge_71 rfl ?_
              refine sd_aload sD10_judge_73 rfl ?_
              refine sd_getfx (v := x 8101) hx sD10_judge_75 sF10_197 sGC111_1 (by decide) rfl ?_
              refine sd_icmp_ge (tgt := 110) sD10_judge_78 (by decide) (fun zc78 => (by exfalso; omega)) (fun zc78 => ?_)
              refine sd_aload sD10_judge_81 rfl ?_
              refine sd_getfr sD10_judge_83 sF10_198 sGC111_2 ?_
              refine sd_iload sD10_judge_86 rfl ?_
              refine sd_ialdx (a := (8212 + zi71)) (v := x (8212 + zi71)) hx sD10_judge_88 sAC110 (by omega) rfl ?_
              refine sd_iconst sD10_judge_89 (by decide) ?_
              refine sd_iconst sD10_judge_90 (by decide) ?_
              refine sd_callSp (as := [.inl (x (8212 + zi71)), .inl 0, .inl 2]) (st := []) (v := .inl (sd_b (0 ≤ x (8212 + zi71) ∧ x (8212 + zi71) ≤ 2))) sD10_judge_91 sM10_65 rfl rfl (by decide) (Nat.le_of_ble_eq_true rfl) (cC_isWithin (x (8212 + zi71)) 0 2 m) (fun ho91 => ?_)
              refine sd_bif_ne (tgt := 104) sD10_judge_94 (by decide) (fun zc94 => ?_) (fun zc94 => ?_)
              ·
                refine sd_iinc (y := ((zi71 : Int) + 1)) (ls' := [some (.inr 120), some (.inl 1), some (.inl w), some (.inl v), some (.inr 111), some (.inl ((zi71 : Int) + 1))]) sD10_judge_104 rfl (by omega) (by omega) (by decide) rfl ?_
                refine sd_goto (tgt := 71) sD10_judge_107 (by decide) ?_
                exact sd_eqw (ls' := [some (.inr 120), some (.inl 1), some (.inl w), some (.inl v), some (.inr 111), some (.inl ((zi71 + 1 : Nat) : Int))]) (ihzi71 (by intro q hq; by_cases hqe : q = zi71; (subst hqe; unfold sd_pl8; omega); exact hhzi71 q (by omega))) (by rw [show (((zi71 : Int) + 1) : Int) = ((zi71 + 1 : Nat) : Int) from by omega]) rfl
              ·
                have zz : sd_bdp x 1 (x 8101).toNat := ⟨zi71, by omega, by unfold sd_pl8; omega⟩
                refine sd_aload_n sD10_judge_97 rfl ?_
                refine sd_ldc (z := -1000001) sD10_judge_98 sK10_51 (by decide) ?_
                refine sd_callV (as := [.inl (-1000001)]) (st := []) sD10_judge_100 sM10_52 rfl rfl sOC120 rfl (by decide) (Nat.le_of_ble_eq_true rfl) (cC_found (-1000001) 0 (by decide) (by decide) _ m hx (hF 0 (by decide))) (fun r m hq ho100 hm => ?_)
                obtain ⟨rfl, hx⟩ := hq
                show sd_Wp sd_SC 17 sY10_judge 103 [some (.inr 120), some (.inl 1), some (.inl w), some (.inl v), some (.inr 111), some (.inl (zi71 : Int))] [.inl (-1000001)] m _
                refine sd_ireturn sD10_judge_103 rfl (fun hr hm => ?_)
                exact sd_done (by unfold sp_judge; (try simp only [Int.reduceToNat, Nat.reduceAdd, Nat.reduceMul, Nat.add_zero]); ((repeat (first | rw [if_pos (by first | assumption | omega)] | rw [if_neg (by first | assumption | omega)])); try rfl)) hx
            ·
              show sd_Wp sd_SC 17 sY10_judge 71 [some (.inr 120), some (.inl 1), some (.inl w), some (.inl v), some (.inr 111), some (.inl ((((x 8101).toNat) : Nat) : Int))] [] m _
              refine sd_iload sD10_judge_71 rfl ?_
              refine sd_aload sD10_judge_73 rfl ?_
              refine sd_getfx (v := x 8101) hx sD10_judge_75 sF10_197 sGC111_1 (by decide) rfl ?_
              refine sd_icmp_ge (tgt := 110) sD10_judge_78 (by decide) (fun zc78 => ?_) (fun zc78 => (by exfalso; omega))
              have zz : ¬ sd_bdp x 1 (x 8101).toNat := fun ⟨q, h1, h2⟩ => h2 (hhzi71 q h1)
              refine sd_aload_n sD10_judge_110 rfl ?_
              refine sd_getfr sD10_judge_111 sF10_10 sGC120_0 ?_
              refine sd_getfr sD10_judge_114 sF10_324 sGC53_8 ?_
              refine sd_aload sD10_judge_117 rfl ?_
              refine sd_getfr sD10_judge_119 sF10_198 sGC111_2 ?_
              refine sd_aload sD10_judge_122 rfl ?_
              refine sd_getfx (v := x 8101) hx sD10_judge_124 sF10_197 sGC111_1 (by decide) rfl ?_
              refine sd_iload_n sD10_judge_127 rfl ?_
              refine sd_iload_n sD10_judge_128 rfl ?_
              refine sd_callV (as := [.inr 110, .inl (x 8101), .inl w, .inl v]) (st := []) sD10_judge_129 sM10_343 rfl rfl sOC49 rfl (by decide) (Nat.le_of_ble_eq_true rfl) (cC_plan1I w v (x 8101) _ m hx h9 (by omega) (by omega) (by omega) hhzi71) (fun r m hq ho129 hm => ?_)
              obtain ⟨rfl, hx⟩ := hq
              show sd_Wp sd_SC 17 sY10_judge 132 [some (.inr 120), some (.inl 1), some (.inl w), some (.inl v), some (.inr 111), some (.inl ((((x 8101).toNat) : Nat) : Int))] [.inl (sd_pv x (sd_pl8 x 1) (x 8101).toNat (x 8101).toNat w v)] m _
              refine sd_ireturn sD10_judge_132 rfl (fun hr hm => ?_)
              exact sd_done (by unfold sp_judge; (try simp only [Int.reduceToNat, Nat.reduceAdd, Nat.reduceMul, Nat.add_zero]); ((repeat (first | rw [if_pos (by first | assumption | omega)] | rw [if_neg (by first | assumption | omega)])); try rfl)) hx
          ·
            refine sd_aload_n sD10_judge_61 rfl ?_
            refine sd_ldc (z := -1000007) sD10_judge_62 sK10_163 (by decide) ?_
            refine sd_callV (as := [.inl (-1000007)]) (st := []) sD10_judge_64 sM10_52 rfl rfl sOC120 rfl (by decide) (Nat.le_of_ble_eq_true rfl) (cC_found (-1000007) 6 (by decide) (by decide) _ m hx (hF 6 (by decide))) (fun r m hq ho64 hm => ?_)
            obtain ⟨rfl, hx⟩ := hq
            show sd_Wp sd_SC 17 sY10_judge 67 [some (.inr 120), some (.inl 1), some (.inl w), some (.inl v), some (.inr 111), none] [.inl (-1000007)] m _
            refine sd_ireturn sD10_judge_67 rfl (fun hr hm => ?_)
            exact sd_done (by unfold sp_judge; (try simp only [Int.reduceToNat, Nat.reduceAdd, Nat.reduceMul, Nat.add_zero]); ((repeat (first | rw [if_pos (by first | assumption | omega)] | rw [if_neg (by first | assumption | omega)])); try rfl)) hx
        ·
          refine sd_aload_n sD10_judge_41 rfl ?_
          refine sd_ldc (z := -1000006) sD10_judge_42 sK10_196 (by decide) ?_
          refine sd_callV (as := [.inl (-1000006)]) (st := []) sD10_judge_44 sM10_52 rfl rfl sOC120 rfl (by decide) (Nat.le_of_ble_eq_true rfl) (cC_found (-1000006) 5 (by decide) (by decide) _ m hx (hF 5 (by decide))) (fun r m hq ho44 hm => ?_)
          obtain ⟨rfl, hx⟩ := hq
          show sd_Wp sd_SC 17 sY10_judge 47 [some (.inr 120), some (.inl 1), some (.inl w), some (.inl v), some (.inr 111), none] [.inl (-1000006)] m _
          refine sd_ireturn sD10_judge_47 rfl (fun hr hm => ?_)
          exact sd_done (by unfold sp_judge; (try simp only [Int.reduceToNat, Nat.reduceAdd, Nat.reduceMul, Nat.add_zero]); ((repeat (first | rw [if_pos (by first | assumption | omega)] | rw [if_neg (by first | assumption | omega)])); try rfl)) hx
      ·
        subst zs30
        refine sd_aald (q := 113) sD10_judge_30 sBC116 (by decide) rfl ?_
        refine sd_astore (ls' := [some (.inr 120), some (.inl 2), some (.inl w), some (.inl v), some (.inr 113), none]) sD10_judge_31 (by decide) rfl ?_
        refine sd_aload sD10_judge_33 rfl ?_
        refine sd_callVp (as := []) (st := []) (v := .inl (sd_b (x 4252 = 0))) sD10_judge_35 sM10_192 sOC113 rfl rfl rfl (by decide) (Nat.le_of_ble_eq_true rfl) (cC_isMissing2 _ m hx) (fun ho35 => ?_)
        refine sd_bif_eq (tgt := 48) sD10_judge_38 (by decide) (fun zc38 => ?_) (fun zc38 => ?_)
        ·
          refine sd_aload sD10_judge_48 rfl ?_
          refine sd_getfx (v := x 8102) hx sD10_judge_50 sF10_197 sGC113_1 (by decide) rfl ?_
          refine sd_iconst sD10_judge_53 (by decide) ?_
          refine sd_iconst sD10_judge_54 (by decide) ?_
          refine sd_callSp (as := [.inl (x 8102), .inl 1, .inl 5]) (st := []) (v := .inl (sd_b (1 ≤ x 8102 ∧ x 8102 ≤ 5))) sD10_judge_55 sM10_65 rfl rfl (by decide) (Nat.le_of_ble_eq_true rfl) (cC_isWithin (x 8102) 1 5 m) (fun ho55 => ?_)
          refine sd_bif_ne (tgt := 68) sD10_judge_58 (by decide) (fun zc58 => ?_) (fun zc58 => ?_)
          ·
            refine sd_iconst sD10_judge_68 (by decide) ?_
            refine sd_istore (ls' := [some (.inr 120), some (.inl 2), some (.inl w), some (.inl v), some (.inr 113), some (.inl 0)]) sD10_judge_69 (by decide) rfl ?_
            refine sd_forH ((x 8102).toNat) (fun zi71 : Nat => [some (.inr 120), some (.inl 2), some (.inl w), some (.inl v), some (.inr 113), some (.inl (zi71 : Int))]) (fun zi71 : Nat => ∀ q, q < zi71 → 0 ≤ sd_pl8 x 2 q ∧ sd_pl8 x 2 q ≤ 2) (by rfl) (fun zi71 hizi71 hhzi71 ihzi71 => ?_) (fun hhzi71 => ?_) (by intro q hq; omega)
            ·
              refine sd_iload sD10_judge_71 rfl ?_
              refine sd_aload sD10_judge_73 rfl ?_
              refine sd_getfx (v := x 8102) hx sD10_judge_75 sF10_197 sGC113_1 (by decide) rfl ?_
              refine sd_icmp_ge (tgt := 110) sD10_judge_78 (by decide) (fun zc78 => (by exfalso; omega)) (fun zc78 => ?_)
              refine sd_aload sD10_judge_81 rfl ?_
              refine sd_getfr sD10_judge_83 sF10_198 sGC113_2 ?_
              refine sd_iload sD10_judge_86 rfl ?_
              refine sd_ialdx (a := (8224 + zi71)) (v := x (8224 + zi71)) hx sD10_judge_88 sAC112 (by omega) rfl ?_
              refine sd_iconst sD10_judge_89 (by decide) ?_
              refine sd_iconst sD10_judge_90 (by decide) ?_
              refine sd_callSp (as := [.inl (x (8224 + zi71)), .inl 0, .inl 2]) (st := []) (v := .inl (sd_b (0 ≤ x (8224 + zi71) ∧ x (8224 + zi71) ≤ 2))) sD10_judge_91 sM10_65 rfl rfl (by decide) (Nat.le_of_ble_eq_true rfl) (cC_isWithin (x (8224 + zi71)) 0 2 m) (fun ho91 => ?_)
              refine sd_bif_ne (tgt := 104) sD10_judge_94 (by decide) (fun zc94 => ?_) (fun zc94 => ?_)
              ·
                refine sd_iinc (y := ((zi71 : Int) + 1)) (ls' := [some (.inr 120), some (.inl 2), some (.inl w), some (.inl v), some (.inr 113), some (.inl ((zi71 : Int) + 1))]) sD10_judge_104 rfl (by omega) (by omega) (by decide) rfl ?_
                refine sd_goto (tgt := 71) sD10_judge_107 (by decide) ?_
                exact sd_eqw (ls' := [some (.inr 120), some (.inl 2), some (.inl w), some (.inl v), some (.inr 113), some (.inl ((zi71 + 1 : Nat) : Int))]) (ihzi71 (by intro q hq; by_cases hqe : q = zi71; (subst hqe; unfold sd_pl8; omega); exact hhzi71 q (by omega))) (by rw [show (((zi71 : Int) + 1) : Int) = ((zi71 + 1 : Nat) : Int) from by omega]) rfl
              ·
                have zz : sd_bdp x 2 (x 8102).toNat := ⟨zi71, by omega, by unfold sd_pl8; omega⟩
                refine sd_aload_n sD10_judge_97 rfl ?_
                refine sd_ldc (z := -1000001) sD10_judge_98 sK10_51 (by decide) ?_
                refine sd_callV (as := [.inl (-1000001)]) (st := []) sD10_judge_100 sM10_52 rfl rfl sOC120 rfl (by decide) (Nat.le_of_ble_eq_true rfl) (cC_found (-1000001) 0 (by decide) (by decide) _ m hx (hF 0 (by decide))) (fun r m hq ho100 hm => ?_)
                obtain ⟨rfl, hx⟩ := hq
                show sd_Wp sd_SC 17 sY10_judge 103 [some (.inr 120), some (.inl 2), some (.inl w), some (.inl v), some (.inr 113), some (.inl (zi71 : Int))] [.inl (-1000001)] m _
                refine sd_ireturn sD10_judge_103 rfl (fun hr hm => ?_)
                exact sd_done (by unfold sp_judge; (try simp only [Int.reduceToNat, Nat.reduceAdd, Nat.reduceMul, Nat.add_zero]); ((repeat (first | rw [if_pos (by first | assumption | omega)] | rw [if_neg (by first | assumption | omega)])); try rfl)) hx
            ·
              show sd_Wp sd_SC 17 sY10_judge 71 [some (.inr 120), some (.inl 2), some (.inl w), some (.inl v), some (.inr 113), some (.inl ((((x 8102).toNat) : Nat) : Int))] [] m _
              refine sd_iload sD10_judge_71 rfl ?_
              refine sd_aload sD10_judge_73 rfl ?_
              refine sd_getfx (v := x 8102) hx sD10_judge_75 sF10_197 sGC113_1 (by decide) rfl ?_
              refine sd_icmp_ge (tgt := 110) sD10_judge_78 (by decide) (fun zc78 => ?_) (fun zc78 => (by exfalso; omega))
              have zz : ¬ sd_bdp x 2 (x 8102).toNat := fun ⟨q, h1, h2⟩ => h2 (hhzi71 q h1)
              refine sd_aload_n sD10_judge_110 rfl ?_
              refine sd_getfr sD10_judge_111 sF10_10 sGC120_0 ?_
              refine sd_getfr sD10_judge_114 sF10_324 sGC53_8 ?_
              refine sd_aload sD10_judge_117 rfl ?_
              refine sd_getfr sD10_judge_119 sF10_198 sGC113_2 ?_
              refine sd_aload sD10_judge_122 rfl ?_
              refine sd_getfx (v := x 8102) hx sD10_judge_124 sF10_197 sGC113_1 (by decide) rfl ?_
              refine sd_iload_n sD10_judge_127 rfl ?_
              refine sd_iload_n sD10_judge_128 rfl ?_
              refine sd_callV (as := [.inr 112, .inl (x 8102), .inl w, .inl v]) (st := []) sD10_judge_129 sM10_343 rfl rfl sOC49 rfl (by decide) (Nat.le_of_ble_eq_true rfl) (cC_plan2I w v (x 8102) _ m hx h9 (by omega) (by omega) (by omega) hhzi71) (fun r m hq ho129 hm => ?_)
              obtain ⟨rfl, hx⟩ := hq
              show sd_Wp sd_SC 17 sY10_judge 132 [some (.inr 120), some (.inl 2), some (.inl w), some (.inl v), some (.inr 113), some (.inl ((((x 8102).toNat) : Nat) : Int))] [.inl (sd_pv x (sd_pl8 x 2) (x 8102).toNat (x 8102).toNat w v)] m _
              refine sd_ireturn sD10_judge_132 rfl (fun hr hm => ?_)
              exact sd_done (by unfold sp_judge; (try simp only [Int.reduceToNat, Nat.reduceAdd, Nat.reduceMul, Nat.add_zero]); ((repeat (first | rw [if_pos (by first | assumption | omega)] | rw [if_neg (by first | assumption | omega)])); try rfl)) hx
          ·
            refine sd_aload_n sD10_judge_61 rfl ?_
            refine sd_ldc (z := -1000007) sD10_judge_62 sK10_163 (by decide) ?_
            refine sd_callV (as := [.inl (-1000007)]) (st := []) sD10_judge_64 sM10_52 rfl rfl sOC120 rfl (by decide) (Nat.le_of_ble_eq_true rfl) (cC_found (-1000007) 6 (by decide) (by decide) _ m hx (hF 6 (by decide))) (fun r m hq ho64 hm => ?_)
            obtain ⟨rfl, hx⟩ := hq
            show sd_Wp sd_SC 17 sY10_judge 67 [some (.inr 120), some (.inl 2), some (.inl w), some (.inl v), some (.inr 113), none] [.inl (-1000007)] m _
            refine sd_ireturn sD10_judge_67 rfl (fun hr hm => ?_)
            exact sd_done (by unfold sp_judge; (try simp only [Int.reduceToNat, Nat.reduceAdd, Nat.reduceMul, Nat.add_zero]); ((repeat (first | rw [if_pos (by first | assumption | omega)] | rw [if_neg (by first | assumption | omega)])); try rfl)) hx
        ·
          refine sd_aload_n sD10_judge_41 rfl ?_
          refine sd_ldc (z := -1000006) sD10_judge_42 sK10_196 (by decide) ?_
          refine sd_callV (as := [.inl (-1000006)]) (st := []) sD10_judge_44 sM10_52 rfl rfl sOC120 rfl (by decide) (Nat.le_of_ble_eq_true rfl) (cC_found (-1000006) 5 (by decide) (by decide) _ m hx (hF 5 (by decide))) (fun r m hq ho44 hm => ?_)
          obtain ⟨rfl, hx⟩ := hq
          show sd_Wp sd_SC 17 sY10_judge 47 [some (.inr 120), some (.inl 2), some (.inl w), some (.inl v), some (.inr 113), none] [.inl (-1000006)] m _
          refine sd_ireturn sD10_judge_47 rfl (fun hr hm => ?_)
          exact sd_done (by unfold sp_judge; (try simp only [Int.reduceToNat, Nat.reduceAdd, Nat.reduceMul, Nat.add_zero]); ((repeat (first | rw [if_pos (by first | assumption | omega)] | rw [if_neg (by first | assumption | omega)])); try rfl)) hx
      ·
        subst zs30
        refine sd_aald (q := 115) sD10_judge_30 sBC116 (by decide) rfl ?_
        refine sd_astore (ls' := [some (.inr 120), some (.inl 3), some (.inl w), some (.inl v), some (.inr 115), none]) sD10_judge_31 (by decide) rfl ?_
        refine sd_aload sD10_judge_33 rfl ?_
        refine sd_callVp (as := []) (st := []) (v := .inl (sd_b (x 4253 = 0))) sD10_judge_35 sM10_192 sOC115 rfl rfl rfl (by decide) (Nat.le_of_ble_eq_true rfl) (cC_isMissing3 _ m hx) (fun ho35 => ?_)
        refine sd_bif_eq (tgt := 48) sD10_judge_38 (by decide) (fun zc38 => ?_) (fun zc38 => ?_)
        ·
          refine sd_aload sD10_judge_48 rfl ?_
          refine sd_getfx (v := x 8103) hx sD10_judge_50 sF10_197 sGC115_1 (by decide) rfl ?_
          refine sd_iconst sD10_judge_53 (by decide) ?_
          refine sd_iconst sD10_judge_54 (by decide) ?_
          refine sd_callSp (as := [.inl (x 8103), .inl 1, .inl 5]) (st := []) (v := .inl (sd_b (1 ≤ x 8103 ∧ x 8103 ≤ 5))) sD10_judge_55 sM10_65 rfl rfl (by decide) (Nat.le_of_ble_eq_true rfl) (cC_isWithin (x 8103) 1 5 m) (fun ho55 => ?_)
          refine sd_bif_ne (tgt := 68) sD10_judge_58 (by decide) (fun zc58 => ?_) (fun zc58 => ?_)
          ·
            refine sd_iconst sD10_judge_68 (by decide) ?_
            refine sd_istore (ls' := [some (.inr 120), some (.inl 3), some (.inl w), some (.inl v), some (.inr 115), some (.inl 0)]) sD10_judge_69 (by decide) rfl ?_
            refine sd_forH ((x 8103).toNat) (fun zi71 : Nat => [some (.inr 120), some (.inl 3), some (.inl w), some (.inl v), some (.inr 115), some (.inl (zi71 : Int))]) (fun zi71 : Nat => ∀ q, q < zi71 → 0 ≤ sd_pl8 x 3 q ∧ sd_pl8 x 3 q ≤ 2) (by rfl) (fun zi71 hizi71 hhzi71 ihzi71 => ?_) (fun hhzi71 => ?_) (by intro q hq; omega)
            ·
              refine sd_iload sD10_judge_71 rfl ?_
              refine sd_aload sD10_judge_73 rfl ?_
              refine sd_getfx (v := x 8103) hx sD10_judge_75 sF10_197 sGC115_1 (by decide) rfl ?_
              refine sd_icmp_ge (tgt := 110) sD10_judge_78 (by decide) (fun zc78 => (by exfalso; omega)) (fun zc78 => ?_)
              refine sd_aload sD10_judge_81 rfl ?_
              refine sd_getfr sD10_judge_83 sF10_198 sGC115_2 ?_
              refine sd_iload sD10_judge_86 rfl ?_
              refine sd_ialdx (a := (8236 + zi71)) (v := x (8236 + zi71)) hx sD10_judge_88 sAC114 (by omega) rfl ?_
              refine sd_iconst sD10_judge_89 (by decide) ?_
              refine sd_iconst sD10_judge_90 (by decide) ?_
              refine sd_callSp (as := [.inl (x (8236 + zi71)), .inl 0, .inl 2]) (st := []) (v := .inl (sd_b (0 ≤ x (8236 + zi71) ∧ x (8236 + zi71) ≤ 2))) sD10_judge_91 sM10_65 rfl rfl (by decide) (Nat.le_of_ble_eq_true rfl) (cC_isWithin (x (8236 + zi71)) 0 2 m) (fun ho91 => ?_)
              refine sd_bif_ne (tgt := 104) sD10_judge_94 (by decide) (fun zc94 => ?_) (fun zc94 => ?_)
              ·
                refine sd_iinc (y := ((zi71 : Int) + 1)) (ls' := [some (.inr 120), some (.inl 3), some (.inl w), some (.inl v), some (.inr 115), some (.inl ((zi71 : Int) + 1))]) sD10_judge_104 rfl (by omega) (by omega) (by decide) rfl ?_
                refine sd_goto (tgt := 71) sD10_judge_107 (by decide) ?_
                exact sd_eqw (ls' := [some (.inr 120), some (.inl 3), some (.inl w), some (.inl v), some (.inr 115), some (.inl ((zi71 + 1 : Nat) : Int))]) (ihzi71 (by intro q hq; by_cases hqe : q = zi71; (subst hqe; unfold sd_pl8; omega); exact hhzi71 q (by omega))) (by rw [show (((zi71 : Int) + 1) : Int) = ((zi71 + 1 : Nat) : Int) from by omega]) rfl
              ·
                have zz : sd_bdp x 3 (x 8103).toNat := ⟨zi71, by omega, by unfold sd_pl8; omega⟩
                refine sd_aload_n sD10_judge_97 rfl ?_
                refine sd_ldc (z := -1000001) sD10_judge_98 sK10_51 (by decide) ?_
                refine sd_callV (as := [.inl (-1000001)]) (st := []) sD10_judge_100 sM10_52 rfl rfl sOC120 rfl (by decide) (Nat.le_of_ble_eq_true rfl) (cC_found (-1000001) 0 (by decide) (by decide) _ m hx (hF 0 (by decide))) (fun r m hq ho100 hm => ?_)
                obtain ⟨rfl, hx⟩ := hq
                show sd_Wp sd_SC 17 sY10_judge 103 [some (.inr 120), some (.inl 3), some (.inl w), some (.inl v), some (.inr 115), some (.inl (zi71 : Int))] [.inl (-1000001)] m _
                refine sd_ireturn sD10_judge_103 rfl (fun hr hm => ?_)
                exact sd_done (by unfold sp_judge; (try simp only [Int.reduceToNat, Nat.reduceAdd, Nat.reduceMul, Nat.add_zero]); ((repeat (first | rw [if_pos (by first | assumption | omega)] | rw [if_neg (by first | assumption | omega)])); try rfl)) hx
            ·
              show sd_Wp sd_SC 17 sY10_judge 71 [some (.inr 120), some (.inl 3), some (.inl w), some (.inl v), some (.inr 115), some (.inl ((((x 8103).toNat) : Nat) : Int))] [] m _
              refine sd_iload sD10_judge_71 rfl ?_
              refine sd_aload sD10_judge_73 rfl ?_
              refine sd_getfx (v := x 8103) hx sD10_judge_75 sF10_197 sGC115_1 (by decide) rfl ?_
              refine sd_icmp_ge (tgt := 110) sD10_judge_78 (by decide) (fun zc78 => ?_) (fun zc78 => (by exfalso; omega))
              have zz : ¬ sd_bdp x 3 (x 8103).toNat := fun ⟨q, h1, h2⟩ => h2 (hhzi71 q h1)
              refine sd_aload_n sD10_judge_110 rfl ?_
              refine sd_getfr sD10_judge_111 sF10_10 sGC120_0 ?_
              refine sd_getfr sD10_judge_114 sF10_324 sGC53_8 ?_
              refine sd_aload sD10_judge_117 rfl ?_
              refine sd_getfr sD10_judge_119 sF10_198 sGC115_2 ?_
              refine sd_aload sD10_judge_122 rfl ?_
              refine sd_getfx (v := x 8103) hx sD10_judge_124 sF10_197 sGC115_1 (by decide) rfl ?_
              refine sd_iload_n sD10_judge_127 rfl ?_
              refine sd_iload_n sD10_judge_128 rfl ?_
              refine sd_callV (as := [.inr 114, .inl (x 8103), .inl w, .inl v]) (st := []) sD10_judge_129 sM10_343 rfl rfl sOC49 rfl (by decide) (Nat.le_of_ble_eq_true rfl) (cC_plan3I w v (x 8103) _ m hx h9 (by omega) (by omega) (by omega) hhzi71) (fun r m hq ho129 hm => ?_)
              obtain ⟨rfl, hx⟩ := hq
              show sd_Wp sd_SC 17 sY10_judge 132 [some (.inr 120), some (.inl 3), some (.inl w), some (.inl v), some (.inr 115), some (.inl ((((x 8103).toNat) : Nat) : Int))] [.inl (sd_pv x (sd_pl8 x 3) (x 8103).toNat (x 8103).toNat w v)] m _
              refine sd_ireturn sD10_judge_132 rfl (fun hr hm => ?_)
              exact sd_done (by unfold sp_judge; (try simp only [Int.reduceToNat, Nat.reduceAdd, Nat.reduceMul, Nat.add_zero]); ((repeat (first | rw [if_pos (by first | assumption | omega)] | rw [if_neg (by first | assumption | omega)])); try rfl)) hx
          ·
            refine sd_aload_n sD10_judge_61 rfl ?_
            refine sd_ldc (z := -1000007) sD10_judge_62 sK10_163 (by decide) ?_
            refine sd_callV (as := [.inl (-1000007)]) (st := []) sD10_judge_64 sM10_52 rfl rfl sOC120 rfl (by decide) (Nat.le_of_ble_eq_true rfl) (cC_found (-1000007) 6 (by decide) (by decide) _ m hx (hF 6 (by decide))) (fun r m hq ho64 hm => ?_)
            obtain ⟨rfl, hx⟩ := hq
            show sd_Wp sd_SC 17 sY10_judge 67 [some (.inr 120), some (.inl 3), some (.inl w), some (.inl v), some (.inr 115), none] [.inl (-1000007)] m _
            refine sd_ireturn sD10_judge_67 rfl (fun hr hm => ?_)
            exact sd_done (by unfold sp_judge; (try simp only [Int.reduceToNat, Nat.reduceAdd, Nat.reduceMul, Nat.add_zero]); ((repeat (first | rw [if_pos (by first | assumption | omega)] | rw [if_neg (by first | assumption | omega)])); try rfl)) hx
        ·
          refine sd_aload_n sD10_judge_41 rfl ?_
          refine sd_ldc (z := -1000006) sD10_judge_42 sK10_196 (by decide) ?_
          refine sd_callV (as := [.inl (-1000006)]) (st := []) sD10_judge_44 sM10_52 rfl rfl sOC120 rfl (by decide) (Nat.le_of_ble_eq_true rfl) (cC_found (-1000006) 5 (by decide) (by decide) _ m hx (hF 5 (by decide))) (fun r m hq ho44 hm => ?_)
          obtain ⟨rfl, hx⟩ := hq
          show sd_Wp sd_SC 17 sY10_judge 47 [some (.inr 120), some (.inl 3), some (.inl w), some (.inl v), some (.inr 115), none] [.inl (-1000006)] m _
          refine sd_ireturn sD10_judge_47 rfl (fun hr hm => ?_)
          exact sd_done (by unfold sp_judge; (try simp only [Int.reduceToNat, Nat.reduceAdd, Nat.reduceMul, Nat.add_zero]); ((repeat (first | rw [if_pos (by first | assumption | omega)] | rw [if_neg (by first | assumption | omega)])); try rfl)) hx
    ·
      refine sd_aload_n sD10_judge_18 rfl ?_
      refine sd_ldc (z := -1000001) sD10_judge_19 sK10_51 (by decide) ?_
      refine sd_callV (as := [.inl (-1000001)]) (st := []) sD10_judge_21 sM10_52 rfl rfl sOC120 rfl (by decide) (Nat.le_of_ble_eq_true rfl) (cC_found (-1000001) 0 (by decide) (by decide) _ m hx (hF 0 (by decide))) (fun r m hq ho21 hm => ?_)
      obtain ⟨rfl, hx⟩ := hq
      show sd_Wp sd_SC 17 sY10_judge 24 [some (.inr 120), some (.inl s), some (.inl w), some (.inl v), none, none] [.inl (-1000001)] m _
      refine sd_ireturn sD10_judge_24 rfl (fun hr hm => ?_)
      exact sd_done (by unfold sp_judge; (try simp only [Int.reduceToNat, Nat.reduceAdd, Nat.reduceMul, Nat.add_zero]); ((repeat (first | rw [if_pos (by first | assumption | omega)] | rw [if_neg (by first | assumption | omega)])); try rfl)) hx
