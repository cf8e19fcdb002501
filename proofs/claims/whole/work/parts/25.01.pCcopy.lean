set_option maxRecDepth 100000 in
set_option maxHeartbeats 4000000 in
theorem pC_copy (s : Int) (f : Int) (t : Int) (g : Int) (n : Int) (x m : sd_M) (hx : sd_ns x m)  (hF : ∀ k : Nat, k < 7 → 0 ≤ x (4101 + k) ∧ x (4101 + k) ≤ 1000000) (hB : sd_IB x) : sd_Ct sd_SC 2 sY10_copy [.inr 120, .inl s, .inl f, .inl t, .inl g, .inl n] m (sd_Qp (spC_copy x s f t g n)) := by
  refine sd_ct rfl (Nat.le_of_ble_eq_true rfl) (fun hok hm => ?_)
  have r_s : sd_R s := hok (.inl s) (by simp)
  have r_f : sd_R f := hok (.inl f) (by simp)
  have r_t : sd_R t := hok (.inl t) (by simp)
  have r_g : sd_R g := hok (.inl g) (by simp)
  have r_n : sd_R n := hok (.inl n) (by simp)
  show sd_Wp sd_SC 2 sY10_copy 0 [some (.inr 120), some (.inl s), some (.inl f), some (.inl t), some (.inl g), some (.inl n), none, none] [] m _
  refine sd_iload_n sD10_copy_0 rfl ?_
  refine sd_iconst sD10_copy_1 (by decide) ?_
  refine sd_iconst sD10_copy_2 (by decide) ?_
  refine sd_callSp (as := [.inl s, .inl 0, .inl 3]) (st := []) (v := .inl (sd_b (0 ≤ s ∧ s ≤ 3))) sD10_copy_3 sM10_65 rfl rfl (by decide) (Nat.le_of_ble_eq_true rfl) (cC_isWithin s 0 3 m) (fun ho3 => ?_)
  refine sd_bif_eq (tgt := 18) sD10_copy_6 (by decide) (fun zc6 => ?_) (fun zc6 => ?_)
  ·
    refine sd_aload_n sD10_copy_18 rfl ?_
    refine sd_ldc (z := -1000001) sD10_copy_19 sK10_51 (by decide) ?_
    refine sd_callV (as := [.inl (-1000001)]) (st := []) sD10_copy_21 sM10_52 rfl rfl sOC120 rfl (by decide) (Nat.le_of_ble_eq_true rfl) (cC_found (-1000001) 0 (by decide) (by decide) _ m hx (hF 0 (by decide))) (fun r m hq ho21 hm => ?_)
    obtain ⟨rfl, hx⟩ := hq
    show sd_Wp sd_SC 2 sY10_copy 24 [some (.inr 120), some (.inl s), some (.inl f), some (.inl t), some (.inl g), some (.inl n), none, none] [.inl (-1000001)] m _
    refine sd_ireturn sD10_copy_24 rfl (fun hr hm => ?_)
    first | (exfalso; omega) | exact sd_done (by unfold spC_copy sp_cpy; (try simp only [Int.reduceToNat, Nat.reduceAdd, Nat.reduceMul, Nat.add_zero, not_true_eq_false, ↓reduceIte]); ((repeat (first | rw [if_pos (by first | assumption | omega)] | rw [if_neg (by first | assumption | omega)])); try rfl)) hx
  ·
    refine sd_iload_n sD10_copy_9 rfl ?_
    refine sd_iconst sD10_copy_10 (by decide) ?_
    refine sd_iconst sD10_copy_11 (by decide) ?_
    refine sd_callSp (as := [.inl t, .inl 0, .inl 3]) (st := []) (v := .inl (sd_b (0 ≤ t ∧ t ≤ 3))) sD10_copy_12 sM10_65 rfl rfl (by decide) (Nat.le_of_ble_eq_true rfl) (cC_isWithin t 0 3 m) (fun ho12 => ?_)
    refine sd_bif_ne (tgt := 25) sD10_copy_15 (by decide) (fun zc15 => ?_) (fun zc15 => ?_)
    ·
      have e0 := (hB 0 (by decide)).2.1
      have e1 := (hB 1 (by decide)).2.1
      have e2 := (hB 2 (by decide)).2.1
      have e3 := (hB 3 (by decide)).2.1
      simp only [Nat.add_zero, Nat.reduceAdd] at e0 e1 e2 e3
      refine sd_aload_n sD10_copy_25 rfl ?_
      refine sd_getfr sD10_copy_26 sF10_21 sGC120_2 ?_
      refine sd_iload_n sD10_copy_29 rfl ?_
      rcases (show s = 0 ∨ s = 1 ∨ s = 2 ∨ s = 3 by omega) with zs30 | zs30 | zs30 | zs30
      ·
        subst zs30
        refine sd_aald (q := 109) sD10_copy_30 sBC116 (by decide) rfl ?_
        refine sd_astore (ls' := [some (.inr 120), some (.inl 0), some (.inl f), some (.inl t), some (.inl g), some (.inl n), some (.inr 109), none]) sD10_copy_31 (by decide) rfl ?_
        refine sd_aload_n sD10_copy_33 rfl ?_
        refine sd_getfr sD10_copy_34 sF10_21 sGC120_2 ?_
        refine sd_iload_n sD10_copy_37 rfl ?_
        rcases (show t = 0 ∨ t = 1 ∨ t = 2 ∨ t = 3 by omega) with zs38 | zs38 | zs38 | zs38
        ·
          subst zs38
          refine sd_aald (q := 109) sD10_copy_38 sBC116 (by decide) rfl ?_
          refine sd_astore (ls' := [some (.inr 120), some (.inl 0), some (.inl f), some (.inl 0), some (.inl g), some (.inl n), some (.inr 109), some (.inr 109)]) sD10_copy_39 (by decide) rfl ?_
          refine sd_aload sD10_copy_41 rfl ?_
          refine sd_callVp (as := []) (st := []) (v := .inl (sd_b (x 4250 = 0))) sD10_copy_43 sM10_192 sOC109 rfl rfl rfl (by decide) (Nat.le_of_ble_eq_true rfl) (cC_isMissing0 _ m hx) (fun ho43 => ?_)
          refine sd_bif_ne (tgt := 57) sD10_copy_46 (by decide) (fun zc46 => ?_) (fun zc46 => ?_)
          ·
            refine sd_aload_n sD10_copy_57 rfl ?_
            refine sd_ldc (z := -1000006) sD10_copy_58 sK10_196 (by decide) ?_
            refine sd_callV (as := [.inl (-1000006)]) (st := []) sD10_copy_60 sM10_52 rfl rfl sOC120 rfl (by decide) (Nat.le_of_ble_eq_true rfl) (cC_found (-1000006) 5 (by decide) (by decide) _ m hx (hF 5 (by decide))) (fun r m hq ho60 hm => ?_)
            obtain ⟨rfl, hx⟩ := hq
            show sd_Wp sd_SC 2 sY10_copy 63 [some (.inr 120), some (.inl 0), some (.inl f), some (.inl 0), some (.inl g), some (.inl n), some (.inr 109), some (.inr 109)] [.inl (-1000006)] m _
            refine sd_ireturn sD10_copy_63 rfl (fun hr hm => ?_)
            first | (exfalso; omega) | exact sd_done (by unfold spC_copy sp_cpy; (try simp only [Int.reduceToNat, Nat.reduceAdd, Nat.reduceMul, Nat.add_zero, not_true_eq_false, ↓reduceIte]); ((repeat (first | rw [if_pos (by first | assumption | omega)] | rw [if_neg (by first | assumption | omega)])); try rfl)) hx
          ·
            refine sd_aload sD10_copy_49 rfl ?_
            refine sd_callVp (as := []) (st := []) (v := .inl (sd_b (x 4250 = 0))) sD10_copy_51 sM10_192 sOC109 rfl rfl rfl (by decide) (Nat.le_of_ble_eq_true rfl) (cC_isMissing0 _ m hx) (fun ho51 => ?_)
            refine sd_bif_eq (tgt := 64) sD10_copy_54 (by decide) (fun zc54 => ?_) (fun zc54 => ?_)
            ·
              refine sd_aload sD10_copy_64 rfl ?_
              refine sd_getfx (v := x 4250) hx sD10_copy_66 sF10_362 sGC109_0 (by decide) rfl ?_
              refine sd_aload sD10_copy_69 rfl ?_
              refine sd_getfx (v := x 4250) hx sD10_copy_71 sF10_362 sGC109_0 (by decide) rfl ?_
              refine sd_icmp_eq (tgt := 85) sD10_copy_74 (by decide) (fun zc74 => ?_) (fun zc74 => ?_)
              ·
                refine sd_aload sD10_copy_85 rfl ?_
                refine sd_iload_n sD10_copy_87 rfl ?_
                refine sd_iload sD10_copy_88 rfl ?_
                refine sd_callVp (as := [.inl f, .inl n]) (st := []) (v := .inl (sd_b (0 ≤ f ∧ 0 ≤ n ∧ f ≤ x 8100 ∧ n ≤ x 8100 - f))) sD10_copy_90 sM10_366 sOC109 rfl rfl rfl (by decide) (Nat.le_of_ble_eq_true rfl) (cC_hasNumbers0 f n _ m hx (by omega)) (fun ho90 => ?_)
                refine sd_bif_eq (tgt := 108) sD10_copy_93 (by decide) (fun zc93 => ?_) (fun zc93 => ?_)
                ·
                  refine sd_aload_n sD10_copy_108 rfl ?_
                  refine sd_ldc (z := -1000001) sD10_copy_109 sK10_51 (by decide) ?_
                  refine sd_callV (as := [.inl (-1000001)]) (st := []) sD10_copy_111 sM10_52 rfl rfl sOC120 rfl (by decide) (Nat.le_of_ble_eq_true rfl) (cC_found (-1000001) 0 (by decide) (by decide) _ m hx (hF 0 (by decide))) (fun r m hq ho111 hm => ?_)
                  obtain ⟨rfl, hx⟩ := hq
                  show sd_Wp sd_SC 2 sY10_copy 114 [some (.inr 120), some (.inl 0), some (.inl f), some (.inl 0), some (.inl g), some (.inl n), some (.inr 109), some (.inr 109)] [.inl (-1000001)] m _
                  refine sd_ireturn sD10_copy_114 rfl (fun hr hm => ?_)
                  first | (exfalso; omega) | exact sd_done (by unfold spC_copy sp_cpy; (try simp only [Int.reduceToNat, Nat.reduceAdd, Nat.reduceMul, Nat.add_zero, not_true_eq_false, ↓reduceIte]); ((repeat (first | rw [if_pos (by first | assumption | omega)] | rw [if_neg (by first | assumption | omega)])); try rfl)) hx
                ·
                  refine sd_aload sD10_copy_96 rfl ?_
                  refine sd_iload sD10_copy_98 rfl ?_
                  refine sd_iload sD10_copy_100 rfl ?_
                  refine sd_callVp (as := [.inl g, .inl n]) (st := []) (v := .inl (sd_b (0 ≤ g ∧ 0 ≤ n ∧ g ≤ x 8100 ∧ n ≤ x 8100 - g))) sD10_copy_102 sM10_366 sOC109 rfl rfl rfl (by decide) (Nat.le_of_ble_eq_true rfl) (cC_hasNumbers0 g n _ m hx (by omega)) (fun ho102 => ?_)
                  refine sd_bif_ne (tgt := 115) sD10_copy_105 (by decide) (fun zc105 => ?_) (fun zc105 => ?_)
                  ·
                    refine sd_aload sD10_copy_115 rfl ?_
                    refine sd_getfr sD10_copy_117 sF10_198 sGC109_2 ?_
                    refine sd_iload_n sD10_copy_120 rfl ?_
                    refine sd_aload sD10_copy_121 rfl ?_
                    refine sd_getfr sD10_copy_123 sF10_198 sGC109_2 ?_
                    refine sd_iload sD10_copy_126 rfl ?_
                    refine sd_iload sD10_copy_128 rfl ?_
                    refine sd_acopyx (sa := (8200 + f.toNat)) (da := (8200 + g.toNat)) (cnt := n.toNat) sd_sokC hx sD10_copy_130 sK10_369_ac sAC108 sAC108 (by decide) (Nat.le_of_ble_eq_true rfl) (by omega) (fun m hx => ?_)
                    refine sd_iload sD10_copy_133 rfl ?_
                    refine sd_ireturn sD10_copy_135 rfl (fun hr hm => ?_)
                    first | (exfalso; omega) | exact sd_done (by unfold spC_copy sp_cpy; (try simp only [Int.reduceToNat, Nat.reduceAdd, Nat.reduceMul, Nat.add_zero, not_true_eq_false, ↓reduceIte]); ((repeat (first | rw [if_pos (by first | assumption | omega)] | rw [if_neg (by first | assumption | omega)])); try rfl)) hx
                  ·
                    refine sd_aload_n sD10_copy_108 rfl ?_
                    refine sd_ldc (z := -1000001) sD10_copy_109 sK10_51 (by decide) ?_
                    refine sd_callV (as := [.inl (-1000001)]) (st := []) sD10_copy_111 sM10_52 rfl rfl sOC120 rfl (by decide) (Nat.le_of_ble_eq_true rfl) (cC_found (-1000001) 0 (by decide) (by decide) _ m hx (hF 0 (by decide))) (fun r m hq ho111 hm => ?_)
                    obtain ⟨rfl, hx⟩ := hq
                    show sd_Wp sd_SC 2 sY10_copy 114 [some (.inr 120), some (.inl 0), some (.inl f), some (.inl 0), some (.inl g), some (.inl n), some (.inr 109), some (.inr 109)] [.inl (-1000001)] m _
                    refine sd_ireturn sD10_copy_114 rfl (fun hr hm => ?_)
                    first | (exfalso; omega) | exact sd_done (by unfold spC_copy sp_cpy; (try simp only [Int.reduceToNat, Nat.reduceAdd, Nat.reduceMul, Nat.add_zero, not_true_eq_false, ↓reduceIte]); ((repeat (first | rw [if_pos (by first | assumption | omega)] | rw [if_neg (by first | assumption | omega)])); try rfl)) hx
              ·
                refine sd_aload_n sD10_copy_77 rfl ?_
                refine sd_ldcw (z := -1000003) sD10_copy_78 sK10_365 (by decide) ?_
                refine sd_callV (as := [.inl (-1000003)]) (st := []) sD10_copy_81 sM10_52 rfl rfl sOC120 rfl (by decide) (Nat.le_of_ble_eq_true rfl) (cC_found (-1000003) 2 (by decide) (by decide) _ m hx (hF 2 (by decide))) (fun r m hq ho81 hm => ?_)
                obtain ⟨rfl, hx⟩ := hq
                show sd_Wp sd_SC 2 sY10_copy 84 [some (.inr 120), some (.inl 0), some (.inl f), some (.inl 0), some (.inl g), some (.inl n), some (.inr 109), some (.inr 109)] [.inl (-1000003)] m _
                refine sd_ireturn sD10_copy_84 rfl (fun hr hm => ?_)
                first | (exfalso; omega) | exact sd_done (by unfold spC_copy sp_cpy; (try simp only [Int.reduceToNat, Nat.reduceAdd, Nat.reduceMul, Nat.add_zero, not_true_eq_false, ↓reduceIte]); ((repeat (first | rw [if_pos (by first | assumption | omega)] | rw [if_neg (by first | assumption | omega)])); try rfl)) hx
            ·
              refine sd_aload_n sD10_copy_57 rfl ?_
              refine sd_ldc (z := -1000006) sD10_copy_58 sK10_196 (by decide) ?_
              refine sd_callV (as := [.inl (-1000006)]) (st := []) sD10_copy_60 sM10_52 rfl rfl sOC120 rfl (by decide) (Nat.le_of_ble_eq_true rfl) (cC_found (-1000006) 5 (by decide) (by decide) _ m hx (hF 5 (by decide))) (fun r m hq ho60 hm => ?_)
              obtain ⟨rfl, hx⟩ := hq
              show sd_Wp sd_SC 2 sY10_copy 63 [some (.inr 120), some (.inl 0), some (.inl f), some (.inl 0), some (.inl g), some (.inl n), some (.inr 109), some (.inr 109)] [.inl (-1000006)] m _
              refine sd_ireturn sD10_copy_63 rfl (fun hr hm => ?_)
              first | (exfalso; omega) | exact sd_done (by unfold spC_copy sp_cpy; (try simp only [Int.reduceToNat, Nat.reduceAdd, Nat.reduceMul, Nat.add_zero, not_true_eq_false, ↓reduceIte]); ((repeat (first | rw [if_pos (by first | assumption | omega)] | rw [if_neg (by first | assumption | omega)])); try rfl)) hx
        ·
          subst zs38
          refine sd_aald (q := 111) sD10_copy_38 sBC116 (by decide) rfl ?_
          refine sd_astore (ls' := [some (.inr 120), some (.inl 0), some (.inl f), some (.inl 1), some (.inl g), some (.inl n), some (.inr 109), some (.inr 111)]) sD10_copy_39 (by decide) rfl ?_
          refine sd_aload sD10_copy_41 rfl ?_
          refine sd_callVp (as := []) (st := []) (v := .inl (sd_b (x 4250 = 0))) sD10_copy_43 sM10_192 sOC109 rfl rfl rfl (by decide) (Nat.le_of_ble_eq_true rfl) (cC_isMissing0 _ m hx) (fun ho43 => ?_)
          refine sd_bif_ne (tgt := 57) sD10_copy_46 (by decide) (fun zc46 => ?_) (fun zc46 => ?_)
          ·
            refine sd_aload_n sD10_copy_57 rfl ?_
            refine sd_ldc (z := -1000006) sD10_copy_58 sK10_196 (by decide) ?_
            refine sd_callV (as := [.inl (-1000006)]) (st := []) sD10_copy_60 sM10_52 rfl rfl sOC120 rfl (by decide) (Nat.le_of_ble_eq_true rfl) (cC_found (-1000006) 5 (by decide) (by decide) _ m hx (hF 5 (by decide))) (fun r m hq ho60 hm => ?_)
            obtain ⟨rfl, hx⟩ := hq
            show sd_Wp sd_SC 2 sY10_copy 63 [some (.inr 120), some (.inl 0), some (.inl f), some (.inl 1), some (.inl g), some (.inl n), some (.inr 109), some (.inr 111)] [.inl (-1000006)] m _
            refine sd_ireturn sD10_copy_63 rfl (fun hr hm => ?_)
            first | (exfalso; omega) | exact sd_done (by unfold spC_copy sp_cpy; (try simp only [Int.reduceToNat, Nat.reduceAdd, Nat.reduceMul, Nat.add_zero, not_true_eq_false, ↓reduceIte]); ((repeat (first | rw [if_pos (by first | assumption | omega)] | rw [if_neg (by first | assumption | omega)])); try rfl)) hx
          ·
            refine sd_aload sD10_copy_49 rfl ?_
            refine sd_callVp (as := []) (st := []) (v := .inl (sd_b (x 4251 = 0))) sD10_copy_51 sM10_192 sOC111 rfl rfl rfl (by decide) (Nat.le_of_ble_eq_true rfl) (cC_isMissing1 _ m hx) (fun ho51 => ?_)
            refine sd_bif_eq (tgt := 64) sD10_copy_54 (by decide) (fun zc54 => ?_) (fun zc54 => ?_)
            ·
              refine sd_aload sD10_copy_64 rfl ?_
              refine sd_getfx (v := x 4250) hx sD10_copy_66 sF10_362 sGC109_0 (by decide) rfl ?_
              refine sd_aload sD10_copy_69 rfl ?_
              refine sd_getfx (v := x 4251) hx sD10_copy_71 sF10_362 sGC111_0 (by decide) rfl ?_
              refine sd_icmp_eq (tgt := 85) sD10_copy_74 (by decide) (fun zc74 => ?_) (fun zc74 => ?_)
              ·
                refine sd_aload sD10_copy_85 rfl ?_
                refine sd_iload_n sD10_copy_87 rfl ?_
                refine sd_iload sD10_copy_88 rfl ?_
                refine sd_callVp (as := [.inl f, .inl n]) (st := []) (v := .inl (sd_b (0 ≤ f ∧ 0 ≤ n ∧ f ≤ x 8100 ∧ n ≤ x 8100 - f))) sD10_copy_90 sM10_366 sOC109 rfl rfl rfl (by decide) (Nat.le_of_ble_eq_true rfl) (cC_hasNumbers0 f n _ m hx (by omega)) (fun ho90 => ?_)
                refine sd_bif_eq (tgt := 108) sD10_copy_93 (by decide) (fun zc93 => ?_) (fun zc93 => ?_)
                ·
                  refine sd_aload_n sD10_copy_108 rfl ?_
                  refine sd_ldc (z := -1000001) sD10_copy_109 sK10_51 (by decide) ?_
                  refine sd_callV (as := [.inl (-1000001)]) (st := []) sD10_copy_111 sM10_52 rfl rfl sOC120 rfl (by decide) (Nat.le_of_ble_eq_true rfl) (cC_found (-1000001) 0 (by decide) (by decide) _ m hx (hF 0 (by decide))) (fun r m hq ho111 hm => ?_)
                  obtain ⟨rfl, hx⟩ := hq
                  show sd_Wp sd_SC 2 sY10_copy 114 [some (.inr 120), some (.inl 0), some (.inl f), some (.inl 1), some (.inl g), some (.inl n), some (.inr 109), some (.inr 111)] [.inl (-1000001)] m _
                  refine sd_ireturn sD10_copy_114 rfl (fun hr hm => ?_)
                  first | (exfalso; omega) | exact sd_done (by unfold spC_copy sp_cpy; (try simp only [Int.reduceToNat, Nat.reduceAdd, Nat.reduceMul, Nat.add_zero, not_true_eq_false, ↓reduceIte]); ((repeat (first | rw [if_pos (by first | assumption | omega)] | rw [if_neg (by first | assumption | omega)])); try rfl)) hx
                ·
                  refine sd_aload sD10_copy_96 rfl ?_
                  refine sd_iload sD10_copy_98 rfl ?_
                  refine sd_iload sD10_copy_100 rfl ?_
                  refine sd_callVp (as := [.inl g, .inl n]) (st := []) (v := .inl (sd_b (0 ≤ g ∧ 0 ≤ n ∧ g ≤ x 8101 ∧ n ≤ x 8101 - g))) sD10_copy_102 sM10_366 sOC111 rfl rfl rfl (by decide) (Nat.le_of_ble_eq_true rfl) (cC_hasNumbers1 g n _ m hx (by omega)) (fun ho102 => ?_)
                  refine sd_bif_ne (tgt := 115) sD10_copy_105 (by decide) (fun zc105 => ?_) (fun zc105 => ?_)
                  ·
                    refine sd_aload sD10_copy_115 rfl ?_
                    refine sd_getfr sD10_copy_117 sF10_198 sGC109_2 ?_
                    refine sd_iload_n sD10_copy_120 rfl ?_
                    refine sd_aload sD10_copy_121 rfl ?_
                    refine sd_getfr sD10_copy_123 sF10_198 sGC111_2 ?_
                    refine sd_iload sD10_copy_126 rfl ?_
                    refine sd_iload sD10_copy_128 rfl ?_
                    refine sd_acopyx (sa := (8200 + f.toNat)) (da := (8212 + g.toNat)) (cnt := n.toNat) sd_sokC hx sD10_copy_130 sK10_369_ac sAC108 sAC110 (by decide) (Nat.le_of_ble_eq_true rfl) (by omega) (fun m hx => ?_)
                    refine sd_iload sD10_copy_133 rfl ?_
                    refine sd_ireturn sD10_copy_135 rfl (fun hr hm => ?_)
                    first | (exfalso; omega) | exact sd_done (by unfold spC_copy sp_cpy; (try simp only [Int.reduceToNat, Nat.reduceAdd, Nat.reduceMul, Nat.add_zero, not_true_eq_false, ↓reduceIte]); ((repeat (first | rw [if_pos (by first | assumption | omega)] | rw [if_neg (by first | assumption | omega)])); try rfl)) hx
                  ·
                    refine sd_aload_n sD10_copy_108 rfl ?_
                    refine sd_ldc (z := -1000001) sD10_copy_109 sK10_51 (by decide) ?_
                    refine sd_callV (as := [.inl (-1000001)]) (st := []) sD10_copy_111 sM10_52 rfl rfl sOC120 rfl (by decide) (Nat.le_of_ble_eq_true rfl) (cC_found (-1000001) 0 (by decide) (by decide) _ m hx (hF 0 (by decide))) (fun r m hq ho111 hm => ?_)
                    obtain ⟨rfl, hx⟩ := hq
                    show sd_Wp sd_SC 2 sY10_copy 114 [some (.inr 120), some (.inl 0), some (.inl f), some (.inl 1), some (.inl g), some (.inl n), some (.inr 109), some (.inr 111)] [.inl (-1000001)] m _
                    refine sd_ireturn sD10_copy_114 rfl (fun hr hm => ?_)
                    first | (exfalso; omega) | exact sd_done (by unfold spC_copy sp_cpy; (try simp only [Int.reduceToNat, Nat.reduceAdd, Nat.reduceMul, Nat.add_zero, not_true_eq_false, ↓reduceIte]); ((repeat (first | rw [if_pos (by first | assumption | omega)] | rw [if_neg (by first | assumption | omega)])); try rfl)) hx
              ·
                refine sd_aload_n sD10_copy_77 rfl ?_
                refine sd_ldcw (z := -1000003) sD10_copy_78 sK10_365 (by decide) ?_
                refine sd_callV (as := [.inl (-1000003)]) (st := []) sD10_copy_81 sM10_52 rfl rfl sOC120 rfl (by decide) (Nat.le_of_ble_eq_true rfl) (cC_found (-1000003) 2 (by decide) (by decide) _ m hx (hF 2 (by decide))) (fun r m hq ho81 hm => ?_)
                obtain ⟨rfl, hx⟩ := hq
                show sd_Wp sd_SC 2 sY10_copy 84 [some (.inr 120), some (.inl 0), some (.inl f), some (.inl 1), some (.inl g), some (.inl n), some (.inr 109), some (.inr 111)] [.inl (-1000003)] m _
                refine sd_ireturn sD10_copy_84 rfl (fun hr hm => ?_)
                first | (exfalso; omega) | exact sd_done (by unfold spC_copy sp_cpy; (try simp only [Int.reduceToNat, Nat.reduceAdd, Nat.reduceMul, Nat.add_zero, not_true_eq_false, ↓reduceIte]); ((repeat (first | rw [if_pos (by first | assumption | omega)] | rw [if_neg (by first | assumption | omega)])); try rfl)) hx
            ·
              refine sd_aload_n sD10_copy_57 rfl ?_
              refine sd_ldc (z := -1000006) sD10_copy_58 sK10_196 (by decide) ?_
              refine sd_callV (as := [.inl (-1000006)]) (st := []) sD10_copy_60 sM10_52 rfl rfl sOC120 rfl (by decide) (Nat.le_of_ble_eq_true rfl) (cC_found (-1000006) 5 (by decide) (by decide) _ m hx (hF 5 (by decide))) (fun r m hq ho60 hm => ?_)
              obtain ⟨rfl, hx⟩ := hq
              show sd_Wp sd_SC 2 sY10_copy 63 [some (.inr 120), some (.inl 0), some (.inl f), some (.inl 1), some (.inl g), some (.inl n), some (.inr 109), some (.inr 111)] [.inl (-1000006)] m _
              refine sd_ireturn sD10_copy_63 rfl (fun hr hm => ?_)
              first | (exfalso; omega) | exact sd_done (by unfold spC_copy sp_cpy; (try simp only [Int.reduceToNat, Nat.reduceAdd, Nat.reduceMul, Nat.add_zero, not_true_eq_false, ↓reduceIte]); ((repeat (first | rw [if_pos (by first | assumption | omega)] | rw [if_neg (by first | assumption | omega)])); try rfl)) hx
        ·
          subst zs38
          refine sd_aald (q := 113) sD10_copy_38 sBC116 (by decide) rfl ?_
          refine sd_astore (ls' := [some (.inr 120), some (.inl 0), some (.inl f), some (.inl 2), some (.inl g), some (.inl n), some (.inr 109), some (.inr 113)]) sD10_copy_39 (by decide) rfl ?_
          refine sd_aload sD10_copy_41 rfl ?_
          refine sd_callVp (as := []) (st := []) (v := .inl (sd_b (x 4250 = 0))) sD10_copy_43 sM10_192 sOC109 rfl rfl rfl (by decide) (Nat.le_of_ble_eq_true rfl) (cC_isMissing0 _ m hx) (fun ho43 => ?_)
          refine sd_bif_ne (tgt := 57) sD10_copy_46 (by decide) (fun zc46 => ?_) (fun zc46 => ?_)
          ·
            refine sd_aload_n sD10_copy_57 rfl ?_
            refine sd_ldc (z := -1000006) sD10_copy_58 sK10_196 (by decide) ?_
            refine sd_callV (as := [.inl (-1000006)]) (st := []) sD10_copy_60 sM10_52 rfl rfl sOC120 rfl (by decide) (Nat.le_of_ble_eq_true rfl) (cC_found (-1000006) 5 (by decide) (by decide) _ m hx (hF 5 (by decide))) (fun r m hq ho60 hm => ?_)
            obtain ⟨rfl, hx⟩ := hq
            show sd_Wp sd_SC 2 sY10_copy 63 [some (.inr 120), some (.inl 0), some (.inl f), some (.inl 2), some (.inl g), some (.inl n), some (.inr 109), some (.inr 113)] [.inl (-1000006)] m _
            refine sd_ireturn sD10_copy_63 rfl (fun hr hm => ?_)
            first | (exfalso; omega) | exact sd_done (by unfold spC_copy sp_cpy; (try simp only [Int.reduceToNat, Nat.reduceAdd, Nat.reduceMul, Nat.add_zero, not_true_eq_false, ↓reduceIte]); ((repeat (first | rw [if_pos (by first | assumption | omega)] | rw [if_neg (by first | assumption | omega)])); try rfl)) hx
          ·
            refine sd_aload sD10_copy_49 rfl ?_
            refine sd_callVp (as := []) (st := []) (v := .inl (sd_b (x 4252 = 0))) sD10_copy_51 sM10_192 sOC113 rfl rfl rfl (by decide) (Nat.le_of_ble_eq_true rfl) (cC_isMissing2 _ m hx) (fun ho51 => ?_)
            refine sd_bif_eq (tgt := 64) sD10_copy_54 (by decide) (fun zc54 => ?_) (fun zc54 => ?_)
            ·
              refine sd_aload sD10_copy_64 rfl ?_
              refine sd_getfx (v := x 4250) hx sD10_copy_66 sF10_362 sGC109_0 (by decide) rfl ?_
              refine sd_aload sD10_copy_69 rfl ?_
              refine sd_getfx (v := x 4252) hx sD10_copy_71 sF10_362 sGC113_0 (by decide) rfl ?_
              refine sd_icmp_eq (tgt := 85) sD10_copy_74 (by decide) (fun zc74 => ?_) (fun zc74 => ?_)
              ·
                refine sd_aload sD10_copy_85 rfl ?_
                refine sd_iload_n sD10_copy_87 rfl ?_
                refine sd_iload sD10_copy_88 rfl ?_
                refine sd_callVp (as := [.inl f, .inl n]) (st := []) (v := .inl (sd_b (0 ≤ f ∧ 0 ≤ n ∧ f ≤ x 8100 ∧ n ≤ x 8100 - f))) sD10_copy_90 sM10_366 sOC109 rfl rfl rfl (by decide) (Nat.le_of_ble_eq_true rfl) (cC_hasNumbers0 f n _ m hx (by omega)) (fun ho90 => ?_)
                refine sd_bif_eq (tgt := 108) sD10_copy_93 (by decide) (fun zc93 => ?_) (fun zc93 => ?_)
                ·
                  refine sd_aload_n sD10_copy_108 rfl ?_
                  refine sd_ldc (z := -1000001) sD10_copy_109 sK10_51 (by decide) ?_
                  refine sd_callV (as := [.inl (-1000001)]) (st := []) sD10_copy_111 sM10_52 rfl rfl sOC120 rfl (by decide) (Nat.le_of_ble_eq_true rfl) (cC_found (-1000001) 0 (by decide) (by decide) _ m hx (hF 0 (by decide))) (fun r m hq ho111 hm => ?_)
                  obtain ⟨rfl, hx⟩ := hq
                  show sd_Wp sd_SC 2 sY10_copy 114 [some (.inr 120), some (.inl 0), some (.inl f), some (.inl 2), some (.inl g), some (.inl n), some (.inr 109), some (.inr 113)] [.inl (-1000001)] m _
                  refine sd_ireturn sD10_copy_114 rfl (fun hr hm => ?_)
                  first | (exfalso; omega) | exact sd_done (by unfold spC_copy sp_cpy; (try simp only [Int.reduceToNat, Nat.reduceAdd, Nat.reduceMul, Nat.add_zero, not_true_eq_false, ↓reduceIte]); ((repeat (first | rw [if_pos (by first | assumption | omega)] | rw [if_neg (by first | assumption | omega)])); try rfl)) hx
                ·
                  refine sd_aload sD10_copy_96 rfl ?_
                  refine sd_iload sD10_copy_98 rfl ?_
                  refine sd_iload sD10_copy_100 rfl ?_
                  refine sd_callVp (as := [.inl g, .inl n]) (st := []) (v := .inl (sd_b (0 ≤ g ∧ 0 ≤ n ∧ g ≤ x 8102 ∧ n ≤ x 8102 - g))) sD10_copy_102 sM10_366 sOC113 rfl rfl rfl (by decide) (Nat.le_of_ble_eq_true rfl) (cC_hasNumbers2 g n _ m hx (by omega)) (fun ho102 => ?_)
                  refine sd_bif_ne (tgt := 115) sD10_copy_105 (by decide) (fun zc105 => ?_) (fun zc105 => ?_)
                  ·
                    refine sd_aload sD10_copy_115 rfl ?_
                    refine sd_getfr sD10_copy_117 sF10_198 sGC109_2 ?_
                    refine sd_iload_n sD10_copy_120 rfl ?_
                    refine sd_aload sD10_copy_121 rfl ?_
                    refine sd_getfr sD10_copy_123 sF10_198 sGC113_2 ?_
                    refine sd_iload sD10_copy_126 rfl ?_
                    refine sd_iload sD10_copy_128 rfl ?_
                    refine sd_acopyx (sa := (8200 + f.toNat)) (da := (8224 + g.toNat)) (cnt := n.toNat) sd_sokC hx sD10_copy_130 sK10_369_ac sAC108 sAC112 (by decide) (Nat.le_of_ble_eq_true rfl) (by omega) (fun m hx => ?_)
                    refine sd_iload sD10_copy_133 rfl ?_
                    refine sd_ireturn sD10_copy_135 rfl (fun hr hm => ?_)
                    first | (exfalso; omega) | exact sd_done (by unfold spC_copy sp_cpy; (try simp only [Int.reduceToNat, Nat.reduceAdd, Nat.reduceMul, Nat.add_zero, not_true_eq_false, ↓reduceIte]); ((repeat (first | rw [if_pos (by first | assumption | omega)] | rw [if_neg (by first | assumption | omega)])); try rfl)) hx
                  ·
                    refine sd_aload_n sD10_copy_108 rfl ?_
                    refine sd_ldc (z := -1000001) sD10_copy_109 sK10_51 (by decide) ?_
                    refine sd_callV (as := [.inl (-1000001)]) (st := []) sD10_copy_111 sM10_52 rfl rfl sOC120 rfl (by decide) (Nat.le_of_ble_eq_true rfl) (cC_found (-1000001) 0 (by decide) (by decide) _ m hx (hF 0 (by decide))) (fun r m hq ho111 hm => ?_)
                    obtain ⟨rfl, hx⟩ := hq
                    show sd_Wp sd_SC 2 sY10_copy 114 [some (.inr 120), some (.inl 0), some (.inl f), some (.inl 2), some (.inl g), some (.inl n), some (.inr 109), some (.inr 113)] [.inl (-1000001)] m _
                    refine sd_ireturn sD10_copy_114 rfl (fun hr hm => ?_)
                    first | (exfalso; omega) | exact sd_done (by unfold spC_copy sp_cpy; (try simp only [Int.reduceToNat, Nat.reduceAdd, Nat.reduceMul, Nat.add_zero, not_true_eq_false, ↓reduceIte]); ((repeat (first | rw [if_pos (by first | assumption | omega)] | rw [if_neg (by first | assumption | omega)])); try rfl)) hx
              ·
                refine sd_aload_n sD10_copy_77 rfl ?_
                refine sd_ldcw (z := -1000003) sD10_copy_78 sK10_365 (by decide) ?_
                refine sd_callV (as := [.inl (-1000003)]) (st := []) sD10_copy_81 sM10_52 rfl rfl sOC120 rfl (by decide) (Nat.le_of_ble_eq_true rfl) (cC_found (-1000003) 2 (by decide) (by decide) _ m hx (hF 2 (by decide))) (fun r m hq ho81 hm => ?_)
                obtain ⟨rfl, hx⟩ := hq
                show sd_Wp sd_SC 2 sY10_copy 84 [some (.inr 120), some (.inl 0), some (.inl f), some (.inl 2), some (.inl g), some (.inl n), some (.inr 109), some (.inr 113)] [.inl (-1000003)] m _
                refine sd_ireturn sD10_copy_84 rfl (fun hr hm => ?_)
                first | (exfalso; omega) | exact sd_done (by unfold spC_copy sp_cpy; (try simp only [Int.reduceToNat, Nat.reduceAdd, Nat.reduceMul, Nat.add_zero, not_true_eq_false, ↓reduceIte]); ((repeat (first | rw [if_pos (by first | assumption | omega)] | rw [if_neg (by first | assumption | omega)])); try rfl)) hx
            ·
              refine sd_aload_n sD10_copy_57 rfl ?_
              refine sd_ldc (z := -1000006) sD10_copy_58 sK10_196 (by decide) ?_
              refine sd_callV (as := [.inl (-1000006)]) (st := []) sD10_copy_60 sM10_52 rfl rfl sOC120 rfl (by decide) (Nat.le_of_ble_eq_true rfl) (cC_found (-1000006) 5 (by decide) (by decide) _ m hx (hF 5 (by decide))) (fun r m hq ho60 hm => ?_)
              obtain ⟨rfl, hx⟩ := hq
              show sd_Wp sd_SC 2 sY10_copy 63 [some (.inr 120), some (.inl 0), some (.inl f), some (.inl 2), some (.inl g), some (.inl n), some (.inr 109), some (.inr 113)] [.inl (-1000006)] m _
              refine sd_ireturn sD10_copy_63 rfl (fun hr hm => ?_)
              first | (exfalso; omega) | exact sd_done (by unfold spC_copy sp_cpy; (try simp only [Int.reduceToNat, Nat.reduceAdd, Nat.reduceMul, Nat.add_zero, not_true_eq_false, ↓reduceIte]); ((repeat (first | rw [if_pos (by first | assumption | omega)] | rw [if_neg (by first | assumption | omega)])); try rfl)) hx
        ·
          subst zs38
          refine sd_aald (q := 115) sD10_copy_38 sBC116 (by decide) rfl ?_
          refine sd_astore (ls' := [some (.inr 120), some (.inl 0), some (.inl f), some (.inl 3), some (.inl g), some (.inl n), some (.inr 109), some (.inr 115)]) sD10_copy_39 (by decide) rfl ?_
          refine sd_aload sD10_copy_41 rfl ?_
          refine sd_callVp (as := []) (st := []) (v := .inl (sd_b (x 4250 = 0))) sD10_copy_43 sM10_192 sOC109 rfl rfl rfl (by decide) (Nat.le_of_ble_eq_true rfl) (cC_isMissing0 _ m hx) (fun ho43 => ?_)
          refine sd_bif_ne (tgt := 57) sD10_copy_46 (by decide) (fun zc46 => ?_) (fun zc46 => ?_)
          ·
            refine sd_aload_n sD10_copy_57 rfl ?_
            refine sd_ldc (z := -1000006) sD10_copy_58 sK10_196 (by decide) ?_
            refine sd_callV (as := [.inl (-1000006)]) (st := []) sD10_copy_60 sM10_52 rfl rfl sOC120 rfl (by decide) (Nat.le_of_ble_eq_true rfl) (cC_found (-1000006) 5 (by decide) (by decide) _ m hx (hF 5 (by decide))) (fun r m hq ho60 hm => ?_)
            obtain ⟨rfl, hx⟩ := hq
            show sd_Wp sd_SC 2 sY10_copy 63 [some (.inr 120), some (.inl 0), some (.inl f), some (.inl 3), some (.inl g), some (.inl n), some (.inr 109), some (.inr 115)] [.inl (-1000006)] m _
            refine sd_ireturn sD10_copy_63 rfl (fun hr hm => ?_)
            first | (exfalso; omega) | exact sd_done (by unfold spC_copy sp_cpy; (try simp only [Int.reduceToNat, Nat.reduceAdd, Nat.reduceMul, Nat.add_zero, not_true_eq_false, ↓reduceIte]); ((repeat (first | rw [if_pos (by first | assumption | omega)] | rw [if_neg (by first | assumption | omega)])); try rfl)) hx
          ·
            refine sd_aload sD10_copy_49 rfl ?_
            refine sd_callVp (as := []) (st := []) (v := .inl (sd_b (x 4253 = 0))) sD10_copy_51 sM10_192 sOC115 rfl rfl rfl (by decide) (Nat.le_of_ble_eq_true rfl) (cC_isMissing3 _ m hx) (fun ho51 => ?_)
            refine sd_bif_eq (tgt := 64) sD10_copy_54 (by decide) (fun zc54 => ?_) (fun zc54 => ?_)
            ·
              refine sd_aload sD10_copy_64 rfl ?_
              refine sd_getfx (v := x 4250) hx sD10_copy_66 sF10_362 sGC109_0 (by decide) rfl ?_
              refine sd_aload sD10_copy_69 rfl ?_
              refine sd_getfx (v := x 4253) hx sD10_copy_71 sF10_362 sGC115_0 (by decide) rfl ?_
              refine sd_icmp_eq (tgt := 85) sD10_copy_74 (by decide) (fun zc74 => ?_) (fun zc74 => ?_)
              ·
                refine sd_aload sD10_copy_85 rfl ?_
                refine sd_iload_n sD10_copy_87 rfl ?_
                refine sd_iload sD10_copy_88 rfl ?_
                refine sd_callVp (as := [.inl f, .inl n]) (st := []) (v := .inl (sd_b (0 ≤ f ∧ 0 ≤ n ∧ f ≤ x 8100 ∧ n ≤ x 8100 - f))) sD10_copy_90 sM10_366 sOC109 rfl rfl rfl (by decide) (Nat.le_of_ble_eq_true rfl) (cC_hasNumbers0 f n _ m hx (by omega)) (fun ho90 => ?_)
                refine sd_bif_eq (tgt := 108) sD10_copy_93 (by decide) (fun zc93 => ?_) (fun zc93 => ?_)
                ·
                  refine sd_aload_n sD10_copy_108 rfl ?_
                  refine sd_ldc (z := -1000001) sD10_copy_109 sK10_51 (by decide) ?_
                  refine sd_callV (as := [.inl (-1000001)]) (st := []) sD10_copy_111 sM10_52 rfl rfl sOC120 rfl (by decide) (Nat.le_of_ble_eq_true rfl) (cC_found (-1000001) 0 (by decide) (by decide) _ m hx (hF 0 (by decide))) (fun r m hq ho111 hm => ?_)
                  obtain ⟨rfl, hx⟩ := hq
                  show sd_Wp sd_SC 2 sY10_copy 114 [some (.inr 120), some (.inl 0), some (.inl f), some (.inl 3), some (.inl g), some (.inl n), some (.inr 109), some (.inr 115)] [.inl (-1000001)] m _
                  refine sd_ireturn sD10_copy_114 rfl (fun hr hm => ?_)
                  first | (exfalso; omega) | exact sd_done (by unfold spC_copy sp_cpy; (try simp only [Int.reduceToNat, Nat.reduceAdd, Nat.reduceMul, Nat.add_zero, not_true_eq_false, ↓reduceIte]); ((repeat (first | rw [if_pos (by first | assumption | omega)] | rw [if_neg (by first | assumption | omega)])); try rfl)) hx
                ·
                  refine sd_aload sD10_copy_96 rfl ?_
                  refine sd_iload sD10_copy_98 rfl ?_
                  refine sd_iload sD10_copy_100 rfl ?_
                  refine sd_callVp (as := [.inl g, .inl n]) (st := []) (v := .inl (sd_b (0 ≤ g ∧ 0 ≤ n ∧ g ≤ x 8103 ∧ n ≤ x 8103 - g))) sD10_copy_102 sM10_366 sOC115 rfl rfl rfl (by decide) (Nat.le_of_ble_eq_true rfl) (cC_hasNumbers3 g n _ m hx (by omega)) (fun ho102 => ?_)
                  refine sd_bif_ne (tgt := 115) sD10_copy_105 (by decide) (fun zc105 => ?_) (fun zc105 => ?_)
                  ·
                    refine sd_aload sD10_copy_115 rfl ?_
                    refine sd_getfr sD10_copy_117 sF10_198 sGC109_2 ?_
                    refine sd_iload_n sD10_copy_120 rfl ?_
                    refine sd_aload sD10_copy_121 rfl ?_
                    refine sd_getfr sD10_copy_123 sF10_198 sGC115_2 ?_
                    refine sd_iload sD10_copy_126 rfl ?_
                    refine sd_iload sD10_copy_128 rfl ?_
                    refine sd_acopyx (sa := (8200 + f.toNat)) (da := (8236 + g.toNat)) (cnt := n.toNat) sd_sokC hx sD10_copy_130 sK10_369_ac sAC108 sAC114 (by decide) (Nat.le_of_ble_eq_true rfl) (by omega) (fun m hx => ?_)
                    refine sd_iload sD10_copy_133 rfl ?_
                    refine sd_ireturn sD10_copy_135 rfl (fun hr hm => ?_)
                    first | (exfalso; omega) | exact sd_done (by unfold spC_copy sp_cpy; (try simp only [Int.reduceToNat, Nat.reduceAdd, Nat.reduceMul, Nat.add_zero, not_true_eq_false, ↓reduceIte]); ((repeat (first | rw [if_pos (by first | assumption | omega)] | rw [if_neg (by first | assumption | omega)])); try rfl)) hx
                  ·
                    refine sd_aload_n sD10_copy_108 rfl ?_
                    refine sd_ldc (z := -1000001) sD10_copy_109 sK10_51 (by decide) ?_
                    refine sd_callV (as := [.inl (-1000001)]) (st := []) sD10_copy_111 sM10_52 rfl rfl sOC120 rfl (by decide) (Nat.le_of_ble_eq_true rfl) (cC_found (-1000001) 0 (by decide) (by decide) _ m hx (hF 0 (by decide))) (fun r m hq ho111 hm => ?_)
                    obtain ⟨rfl, hx⟩ := hq
                    show sd_Wp sd_SC 2 sY10_copy 114 [some (.inr 120), some (.inl 0), some (.inl f), some (.inl 3), some (.inl g), some (.inl n), some (.inr 109), some (.inr 115)] [.inl (-1000001)] m _
                    refine sd_ireturn sD10_copy_114 rfl (fun hr hm => ?_)
                    first | (exfalso; omega) | exact sd_done (by unfold spC_copy sp_cpy; (try simp only [Int.reduceToNat, Nat.reduceAdd, Nat.reduceMul, Nat.add_zero, not_true_eq_false, ↓reduceIte]); ((repeat (first | rw [if_pos (by first | assumption | omega)] | rw [if_neg (by first | assumption | omega)])); try rfl)) hx
              ·
                refine sd_aload_n sD10_copy_77 rfl ?_
                refine sd_ldcw (z := -1000003) sD10_copy_78 sK10_365 (by decide) ?_
                refine sd_callV (as := [.inl (-1000003)]) (st := []) sD10_copy_81 sM10_52 rfl rfl sOC120 rfl (by decide) (Nat.le_of_ble_eq_true rfl) (cC_found (-1000003) 2 (by decide) (by decide) _ m hx (hF 2 (by decide))) (fun r m hq ho81 hm => ?_)
                obtain ⟨rfl, hx⟩ := hq
                show sd_Wp sd_SC 2 sY10_copy 84 [some (.inr 120), some (.inl 0), some (.inl f), some (.inl 3), some (.inl g), some (.inl n), some (.inr 109), some (.inr 115)] [.inl (-1000003)] m _
                refine sd_ireturn sD10_copy_84 rfl (fun hr hm => ?_)
                first | (exfalso; omega) | exact sd_done (by unfold spC_copy sp_cpy; (try simp only [Int.reduceToNat, Nat.reduceAdd, Nat.reduceMul, Nat.add_zero, not_true_eq_false, ↓reduceIte]); ((repeat (first | rw [if_pos (by first | assumption | omega)] | rw [if_neg (by first | assumption | omega)])); try rfl)) hx
            ·
              refine sd_aload_n sD10_copy_57 rfl ?_
              refine sd_ldc (z := -1000006) sD10_copy_58 sK10_196 (by decide) ?_
              refine sd_callV (as := [.inl (-1000006)]) (st := []) sD10_copy_60 sM10_52 rfl rfl sOC120 rfl (by decide) (Nat.le_of_ble_eq_true rfl) (cC_found (-1000006) 5 (by decide) (by decide) _ m hx (hF 5 (by decide))) (fun r m hq ho60 hm => ?_)
              obtain ⟨rfl, hx⟩ := hq
              show sd_Wp sd_SC 2 sY10_copy 63 [some (.inr 120), some (.inl 0), some (.inl f), some (.inl 3), some (.inl g), some (.inl n), some (.inr 109), some (.inr 115)] [.inl (-1000006)] m _
              refine sd_ireturn sD10_copy_63 rfl (fun hr hm => ?_)
              first | (exfalso; omega) | exact sd_done (by unfold spC_copy sp_cpy; (try simp only [Int.reduceToNat, Nat.reduceAdd, Nat.reduceMul, Nat.add_zero, not_true_eq_false, ↓reduceIte]); ((repeat (first | rw [if_pos (by first | assumption | omega)] | rw [if_neg (by first | assumption | omega)])); try rfl)) hx
      ·
        subst zs30
        refine sd_aald (q := 111) sD10_copy_30 sBC116 (by decide) rfl ?_
        refine sd_astore (ls' := [some (.inr 120), some (.inl 1), some (.inl f), some (.inl t), some (.inl g), some (.inl n), some (.inr 111), none]) sD10_copy_31 (by decide) rfl ?_
        refine sd_aload_n sD10_copy_33 rfl ?_
        refine sd_getfr sD10_copy_34 sF10_21 sGC120_2 ?_
        refine sd_iload_n sD10_copy_37 rfl ?_
        rcases (show t = 0 ∨ t = 1 ∨ t = 2 ∨ t = 3 by omega) with zs38 | zs38 | zs38 | zs38
        ·
          subst zs38
          refine sd_aald (q := 109) sD10_copy_38 sBC116 (by decide) rfl ?_
          refine sd_astore (ls' := [some (.inr 120), some (.inl 1), some (.inl f), some (.inl 0), some (.inl g), some (.inl n), some (.inr 111), some (.inr 109)]) sD10_copy_39 (by decide) rfl ?_
          refine sd_aload sD10_copy_41 rfl ?_
          refine sd_callVp (as := []) (st := []) (v := .inl (sd_b (x 4251 = 0))) sD10_copy_43 sM10_192 sOC111 rfl rfl rfl (by decide) (Nat.le_of_ble_eq_true rfl) (cC_isMissing1 _ m hx) (fun ho43 => ?_)
          refine sd_bif_ne (tgt := 57) sD10_copy_46 (by decide) (fun zc46 => ?_) (fun zc46 => ?_)
          ·
            refine sd_aload_n sD10_copy_57 rfl ?_
            refine sd_ldc (z := -1000006) sD10_copy_58 sK10_196 (by decide) ?_
            refine sd_callV (as := [.inl (-1000006)]) (st := []) sD10_copy_60 sM10_52 rfl rfl sOC120 rfl (by decide) (Nat.le_of_ble_eq_true rfl) (cC_found (-1000006) 5 (by decide) (by decide) _ m hx (hF 5 (by decide))) (fun r m hq ho60 hm => ?_)
            obtain ⟨rfl, hx⟩ := hq
            show sd_Wp sd_SC 2 sY10_copy 63 [some (.inr 120), some (.inl 1), some (.inl f), some (.inl 0), some (.inl g), some (.inl n), some (.inr 111), some (.inr 109)] [.inl (-1000006)] m _
            refine sd_ireturn sD10_copy_63 rfl (fun hr hm => ?_)
            first | (exfalso; omega) | exact sd_done (by unfold spC_copy sp_cpy; (try simp only [Int.reduceToNat, Nat.reduceAdd, Nat.reduceMul, Nat.add_zero, not_true_eq_false, ↓reduceIte]); ((repeat (first | rw [if_pos (by first | assumption | omega)] | rw [if_neg (by first | assumption | omega)])); try rfl)) hx
          ·
            refine sd_aload sD10_copy_49 rfl ?_
            refine sd_callVp (as := []) (st := []) (v := .inl (sd_b (x 4250 = 0))) sD10_copy_51 sM10_192 sOC109 rfl rfl rfl (by decide) (Nat.le_of_ble_eq_true rfl) (cC_isMissing0 _ m hx) (fun ho51 => ?_)
            refine sd_bif_eq (tgt := 64) sD10_copy_54 (by decide) (fun zc54 => ?_) (fun zc54 => ?_)
            ·
              refine sd_aload sD10_copy_64 rfl ?_
              refine sd_getfx (v := x 4251) hx sD10_copy_66 sF10_362 sGC111_0 (by decide) rfl ?_
              refine sd_aload sD10_copy_69 rfl ?_
              refine sd_getfx (v := x 4250) hx sD10_copy_71 sF10_362 sGC109_0 (by decide) rfl ?_
              refine sd_icmp_eq (tgt := 85) sD10_copy_74 (by decide) (fun zc74 => ?_) (fun zc74 => ?_)
              ·
                refine sd_aload sD10_copy_85 rfl ?_
                refine sd_iload_n sD10_copy_87 rfl ?_
                refine sd_iload sD10_copy_88 rfl ?_
                refine sd_callVp (as := [.inl f, .inl n]) (st := []) (v := .inl (sd_b (0 ≤ f ∧ 0 ≤ n ∧ f ≤ x 8101 ∧ n ≤ x 8101 - f))) sD10_copy_90 sM10_366 sOC111 rfl rfl rfl (by decide) (Nat.le_of_ble_eq_true rfl) (cC_hasNumbers1 f n _ m hx (by omega)) (fun ho90 => ?_)
                refine sd_bif_eq (tgt := 108) sD10_copy_93 (by decide) (fun zc93 => ?_) (fun zc93 => ?_)
                ·
                  refine sd_aload_n sD10_copy_108 rfl ?_
                  refine sd_ldc (z := -1000001) sD10_copy_109 sK10_51 (by decide) ?_
                  refine sd_callV (as := [.inl (-1000001)]) (st := []) sD10_copy_111 sM10_52 rfl rfl sOC120 rfl (by decide) (Nat.le_of_ble_eq_true rfl) (cC_found (-1000001) 0 (by decide) (by decide) _ m hx (hF 0 (by decide))) (fun r m hq ho111 hm => ?_)
                  obtain ⟨rfl, hx⟩ := hq
                  show sd_Wp sd_SC 2 sY10_copy 114 [some (.inr 120), some (.inl 1), some (.inl f), some (.inl 0), some (.inl g), some (.inl n), some (.inr 111), some (.inr 109)] [.inl (-1000001)] m _
                  refine sd_ireturn sD10_copy_114 rfl (fun hr hm => ?_)
                  first | (exfalso; omega) | exact sd_done (by unfold spC_copy sp_cpy; (try simp only [Int.reduceToNat, Nat.reduceAdd, Nat.reduceMul, Nat.add_zero, not_true_eq_false, ↓reduceIte]); ((repeat (first | rw [if_pos (by first | assumption | omega)] | rw [if_neg (by first | assumption | omega)])); try rfl)) hx
                ·
                  refine sd_aload sD10_copy_96 rfl ?_
                  refine sd_iload sD10_copy_98 rfl ?_
                  refine sd_iload sD10_copy_100 rfl ?_
                  refine sd_callVp (as := [.inl g, .inl n]) (st := []) (v := .inl (sd_b (0 ≤ g ∧ 0 ≤ n ∧ g ≤ x 8100 ∧ n ≤ x 8100 - g))) sD10_copy_102 sM10_366 sOC109 rfl rfl rfl (by decide) (Nat.le_of_ble_eq_true rfl) (cC_hasNumbers0 g n _ m hx (by omega)) (fun ho102 => ?_)
                  refine sd_bif_ne (tgt := 115) sD10_copy_105 (by decide) (fun zc105 => ?_) (fun zc105 => ?_)
                  ·
                    refine sd_aload sD10_copy_115 rfl ?_
                    refine sd_getfr sD10_copy_117 sF10_198 sGC111_2 ?_
                    refine sd_iload_n sD10_copy_120 rfl ?_
                    refine sd_aload sD10_copy_121 rfl ?_
                    refine sd_getfr sD10_copy_123 sF10_198 sGC109_2 ?_
                    refine sd_iload sD10_copy_126 rfl ?_
                    refine sd_iload sD10_copy_128 rfl ?_
                    refine sd_acopyx (sa := (8212 + f.toNat)) (da := (8200 + g.toNat)) (cnt := n.toNat) sd_sokC hx sD10_copy_130 sK10_369_ac sAC110 sAC108 (by decide) (Nat.le_of_ble_eq_true rfl) (by omega) (fun m hx => ?_)
                    refine sd_iload sD10_copy_133 rfl ?_
                    refine sd_ireturn sD10_copy_135 rfl (fun hr hm => ?_)
                    first | (exfalso; omega) | exact sd_done (by unfold spC_copy sp_cpy; (try simp only [Int.reduceToNat, Nat.reduceAdd, Nat.reduceMul, Nat.add_zero, not_true_eq_false, ↓reduceIte]); ((repeat (first | rw [if_pos (by first | assumption | omega)] | rw [if_neg (by first | assumption | omega)])); try rfl)) hx
                  ·
                    refine sd_aload_n sD10_copy_108 rfl ?_
                    refine sd_ldc (z := -1000001) sD10_copy_109 sK10_51 (by decide) ?_
                    refine sd_callV (as := [.inl (-1000001)]) (st := []) sD10_copy_111 sM10_52 rfl rfl sOC120 rfl (by decide) (Nat.le_of_ble_eq_true rfl) (cC_found (-1000001) 0 (by decide) (by decide) _ m hx (hF 0 (by decide))) (fun r m hq ho111 hm => ?_)
                    obtain ⟨rfl, hx⟩ := hq
                    show sd_Wp sd_SC 2 sY10_copy 114 [some (.inr 120), some (.inl 1), some (.inl f), some (.inl 0), some (.inl g), some (.inl n), some (.inr 111), some (.inr 109)] [.inl (-1000001)] m _
                    refine sd_ireturn sD10_copy_114 rfl (fun hr hm => ?_)
                    first | (exfalso; omega) | exact sd_done (by unfold spC_copy sp_cpy; (try simp only [Int.reduceToNat, Nat.reduceAdd, Nat.reduceMul, Nat.add_zero, not_true_eq_false, ↓reduceIte]); ((repeat (first | rw [if_pos (by first | assumption | omega)] | rw [if_neg (by first | assumption | omega)])); try rfl)) hx
              ·
                refine sd_aload_n sD10_copy_77 rfl ?_
                refine sd_ldcw (z := -1000003) sD10_copy_78 sK10_365 (by decide) ?_
                refine sd_callV (as := [.inl (-1000003)]) (st := []) sD10_copy_81 sM10_52 rfl rfl sOC120 rfl (by decide) (Nat.le_of_ble_eq_true rfl) (cC_found (-1000003) 2 (by decide) (by decide) _ m hx (hF 2 (by decide))) (fun r m hq ho81 hm => ?_)
                obtain ⟨rfl, hx⟩ := hq
                show sd_Wp sd_SC 2 sY10_copy 84 [some (.inr 120), some (.inl 1), some (.inl f), some (.inl 0), some (.inl g), some (.inl n), some (.inr 111), some (.inr 109)] [.inl (-1000003)] m _
                refine sd_ireturn sD10_copy_84 rfl (fun hr hm => ?_)
                first | (exfalso; omega) | exact sd_done (by unfold spC_copy sp_cpy; (try simp only [Int.reduceToNat, Nat.reduceAdd, Nat.reduceMul, Nat.add_zero, not_true_eq_false, ↓reduceIte]); ((repeat (first | rw [if_pos (by first | assumption | omega)] | rw [if_neg (by first | assumption | omega)])); try rfl)) hx
            ·
              refine sd_aload_n sD10_copy_57 rfl ?_
              refine sd_ldc (z := -1000006) sD10_copy_58 sK10_196 (by decide) ?_
              refine sd_callV (as := [.inl (-1000006)]) (st := []) sD10_copy_60 sM10_52 rfl rfl sOC120 rfl (by decide) (Nat.le_of_ble_eq_true rfl) (cC_found (-1000006) 5 (by decide) (by decide) _ m hx (hF 5 (by decide))) (fun r m hq ho60 hm => ?_)
              obtain ⟨rfl, hx⟩ := hq
              show sd_Wp sd_SC 2 sY10_copy 63 [some (.inr 120), some (.inl 1), some (.inl f), some (.inl 0), some (.inl g), some (.inl n), some (.inr 111), some (.inr 109)] [.inl (-1000006)] m _
              refine sd_ireturn sD10_copy_63 rfl (fun hr hm => ?_)
              first | (exfalso; omega) | exact sd_done (by unfold spC_copy sp_cpy; (try simp only [Int.reduceToNat, Nat.reduceAdd, Nat.reduceMul, Nat.add_zero, not_true_eq_false, ↓reduceIte]); ((repeat (first | rw [if_pos (by first | assumption | omega)] | rw [if_neg (by first | assumption | omega)])); try rfl)) hx
        ·
          subst zs38
          refine sd_aald (q := 111) sD10_copy_38 sBC116 (by decide) rfl ?_
          refine sd_astore (ls' := [some (.inr 120), some (.inl 1), some (.inl f), some (.inl 1), some (.inl g), some (.inl n), some (.inr 111), some (.inr 111)]) sD10_copy_39 (by decide) rfl ?_
          refine sd_aload sD10_copy_41 rfl ?_
          refine sd_callVp (as := []) (st := []) (v := .inl (sd_b (x 4251 = 0))) sD10_copy_43 sM10_192 sOC111 rfl rfl rfl (by decide) (Nat.le_of_ble_eq_true rfl) (cC_isMissing1 _ m hx) (fun ho43 => ?_)
          refine sd_bif_ne (tgt := 57) sD10_copy_46 (by decide) (fun zc46 => ?_) (fun zc46 => ?_)
          ·
            refine sd_aload_n sD10_copy_57 rfl ?_
            refine sd_ldc (z := -1000006) sD10_copy_58 sK10_196 (by decide) ?_
            refine sd_callV (as := [.inl (-1000006)]) (st := []) sD10_copy_60 sM10_52 rfl rfl sOC120 rfl (by decide) (Nat.le_of_ble_eq_true rfl) (cC_found (-1000006) 5 (by decide) (by decide) _ m hx (hF 5 (by decide))) (fun r m hq ho60 hm => ?_)
            obtain ⟨rfl, hx⟩ := hq
            show sd_Wp sd_SC 2 sY10_copy 63 [some (.inr 120), some (.inl 1), some (.inl f), some (.inl 1), some (.inl g), some (.inl n), some (.inr 111), some (.inr 111)] [.inl (-1000006)] m _
            refine sd_ireturn sD10_copy_63 rfl (fun hr hm => ?_)
            first | (exfalso; omega) | exact sd_done (by unfold spC_copy sp_cpy; (try simp only [Int.reduceToNat, Nat.reduceAdd, Nat.reduceMul, Nat.add_zero, not_true_eq_false, ↓reduceIte]); ((repeat (first | rw [if_pos (by first | assumption | omega)] | rw [if_neg (by first | assumption | omega)])); try rfl)) hx
          ·
            refine sd_aload sD10_copy_49 rfl ?_
            refine sd_callVp (as := []) (st := []) (v := .inl (sd_b (x 4251 = 0))) sD10_copy_51 sM10_192 sOC111 rfl rfl rfl (by decide) (Nat.le_of_ble_eq_true rfl) (cC_isMissing1 _ m hx) (fun ho51 => ?_)
            refine sd_bif_eq (tgt := 64) sD10_copy_54 (by decide) (fun zc54 => ?_) (fun zc54 => ?_)
            ·
              refine sd_aload sD10_copy_64 rfl ?_
              refine sd_getfx (v := x 4251) hx sD10_copy_66 sF10_362 sGC111_0 (by decide) rfl ?_
              refine sd_aload sD10_copy_69 rfl ?_
              refine sd_getfx (v := x 4251) hx sD10_copy_71 sF10_362 sGC111_0 (by decide) rfl ?_
              refine sd_icmp_eq (tgt := 85) sD10_copy_74 (by decide) (fun zc74 => ?_) (fun zc74 => ?_)
              ·
                refine sd_aload sD10_copy_85 rfl ?_
                refine sd_iload_n sD10_copy_87 rfl ?_
                refine sd_iload sD10_copy_88 rfl ?_
                refine sd_callVp (as := [.inl f, .inl n]) (st := []) (v := .inl (sd_b (0 ≤ f ∧ 0 ≤ n ∧ f ≤ x 8101 ∧ n ≤ x 8101 - f))) sD10_copy_90 sM10_366 sOC111 rfl rfl rfl (by decide) (Nat.le_of_ble_eq_true rfl) (cC_hasNumbers1 f n _ m hx (by omega)) (fun ho90 => ?_)
                refine sd_bif_eq (tgt := 108) sD10_copy_93 (by decide) (fun zc93 => ?_) (fun zc93 => ?_)
                ·
                  refine sd_aload_n sD10_copy_108 rfl ?_
                  refine sd_ldc (z := -1000001) sD10_copy_109 sK10_51 (by decide) ?_
                  refine sd_callV (as := [.inl (-1000001)]) (st := []) sD10_copy_111 sM10_52 rfl rfl sOC120 rfl (by decide) (Nat.le_of_ble_eq_true rfl) (cC_found (-1000001) 0 (by decide) (by decide) _ m hx (hF 0 (by decide))) (fun r m hq ho111 hm => ?_)
                  obtain ⟨rfl, hx⟩ := hq
                  show sd_Wp sd_SC 2 sY10_copy 114 [some (.inr 120), some (.inl 1), some (.inl f), some (.inl 1), some (.inl g), some (.inl n), some (.inr 111), some (.inr 111)] [.inl (-1000001)] m _
                  refine sd_ireturn sD10_copy_114 rfl (fun hr hm => ?_)
                  first | (exfalso; omega) | exact sd_done (by unfold spC_copy sp_cpy; (try simp only [Int.reduceToNat, Nat.reduceAdd, Nat.reduceMul, Nat.add_zero, not_true_eq_false, ↓reduceIte]); ((repeat (first | rw [if_pos (by first | assumption | omega)] | rw [if_neg (by first | assumption | omega)])); try rfl)) hx
                ·
                  refine sd_aload sD10_copy_96 rfl ?_
                  refine sd_iload sD10_copy_98 rfl ?_
                  refine sd_iload sD10_copy_100 rfl ?_
                  refine sd_callVp (as := [.inl g, .inl n]) (st := []) (v := .inl (sd_b (0 ≤ g ∧ 0 ≤ n ∧ g ≤ x 8101 ∧ n ≤ x 8101 - g))) sD10_copy_102 sM10_366 sOC111 rfl rfl rfl (by decide) (Nat.le_of_ble_eq_true rfl) (cC_hasNumbers1 g n _ m hx (by omega)) (fun ho102 => ?_)
                  refine sd_bif_ne (tgt := 115) sD10_copy_105 (by decide) (fun zc105 => ?_) (fun zc105 => ?_)
                  ·
                    refine sd_aload sD10_copy_115 rfl ?_
                    refine sd_getfr sD10_copy_117 sF10_198 sGC111_2 ?_
                    refine sd_iload_n sD10_copy_120 rfl ?_
                    refine sd_aload sD10_copy_121 rfl ?_
                    refine sd_getfr sD10_copy_123 sF10_198 sGC111_2 ?_
                    refine sd_iload sD10_copy_126 rfl ?_
                    refine sd_iload sD10_copy_128 rfl ?_
                    refine sd_acopyx (sa := (8212 + f.toNat)) (da := (8212 + g.toNat)) (cnt := n.toNat) sd_sokC hx sD10_copy_130 sK10_369_ac sAC110 sAC110 (by decide) (Nat.le_of_ble_eq_true rfl) (by omega) (fun m hx => ?_)
                    refine sd_iload sD10_copy_133 rfl ?_
                    refine sd_ireturn sD10_copy_135 rfl (fun hr hm => ?_)
                    first | (exfalso; omega) | exact sd_done (by unfold spC_copy sp_cpy; (try simp only [Int.reduceToNat, Nat.reduceAdd, Nat.reduceMul, Nat.add_zero, not_true_eq_false, ↓reduceIte]); ((repeat (first | rw [if_pos (by first | assumption | omega)] | rw [if_neg (by first | assumption | omega)])); try rfl)) hx
                  ·
                    refine sd_aload_n sD10_copy_108 rfl ?_
                    refine sd_ldc (z := -1000001) sD10_copy_109 sK10_51 (by decide) ?_
                    refine sd_callV (as := [.inl (-1000001)]) (st := []) sD10_copy_111 sM10_52 rfl rfl sOC120 rfl (by decide) (Nat.le_of_ble_eq_true rfl) (cC_found (-1000001) 0 (by decide) (by decide) _ m hx (hF 0 (by decide))) (fun r m hq ho111 hm => ?_)
                    obtain ⟨rfl, hx⟩ := hq
                    show sd_Wp sd_SC 2 sY10_copy 114 [some (.inr 120), some (.inl 1), some (.inl f), some (.inl 1), some (.inl g), some (.inl n), some (.inr 111), some (.inr 111)] [.inl (-1000001)] m _
                    refine sd_ireturn sD10_copy_114 rfl (fun hr hm => ?_)
                    first | (exfalso; omega) | exact sd_done (by unfold spC_copy sp_cpy; (try simp only [Int.reduceToNat, Nat.reduceAdd, Nat.reduceMul, Nat.add_zero, not_true_eq_false, ↓reduceIte]); ((repeat (first | rw [if_pos (by first | assumption | omega)] | rw [if_neg (by first | assumption | omega)])); try rfl)) hx
              ·
                refine sd_aload_n sD10_copy_77 rfl ?_
                refine sd_ldcw (z := -1000003) sD10_copy_78 sK10_365 (by decide) ?_
                refine sd_callV (as := [.inl (-1000003)]) (st := []) sD10_copy_81 sM10_52 rfl rfl sOC120 rfl (by decide) (Nat.le_of_ble_eq_true rfl) (cC_found (-1000003) 2 (by decide) (by decide) _ m hx (hF 2 (by decide))) (fun r m hq ho81 hm => ?_)
                obtain ⟨rfl, hx⟩ := hq
                show sd_Wp sd_SC 2 sY10_copy 84 [some (.inr 120), some (.inl 1), some (.inl f), some (.inl 1), some (.inl g), some (.inl n), some (.inr 111), some (.inr 111)] [.inl (-1000003)] m _
                refine sd_ireturn sD10_copy_84 rfl (fun hr hm => ?_)
                first | (exfalso; omega) | exact sd_done (by unfold spC_copy sp_cpy; (try simp only [Int.reduceToNat, Nat.reduceAdd, Nat.reduceMul, Nat.add_zero, not_true_eq_false, ↓reduceIte]); ((repeat (first | rw [if_pos (by first | assumption | omega)] | rw [if_neg (by first | assumption | omega)])); try rfl)) hx
            ·
              refine sd_aload_n sD10_copy_57 rfl ?_
              refine sd_ldc (z := -1000006) sD10_copy_58 sK10_196 (by decide) ?_
              refine sd_callV (as := [.inl (-1000006)]) (st := []) sD10_copy_60 sM10_52 rfl rfl sOC120 rfl (by decide) (Nat.le_of_ble_eq_true rfl) (cC_found (-1000006) 5 (by decide) (by decide) _ m hx (hF 5 (by decide))) (fun r m hq ho60 hm => ?_)
              obtain ⟨rfl, hx⟩ := hq
              show sd_Wp sd_SC 2 sY10_copy 63 [some (.inr 120), some (.inl 1), some (.inl f), some (.inl 1), some (.inl g), some (.inl n), some (.inr 111), some (.inr 111)] [.inl (-1000006)] m _
              refine sd_ireturn sD10_copy_63 rfl (fun hr hm => ?_)
              first | (exfalso; omega) | exact sd_done (by unfold spC_copy sp_cpy; (try simp only [Int.reduceToNat, Nat.reduceAdd, Nat.reduceMul, Nat.add_zero, not_true_eq_false, ↓reduceIte]); ((repeat (first | rw [if_pos (by first | assumption | omega)] | rw [if_neg (by first | assumption | omega)])); try rfl)) hx
        ·
          subst zs38
          refine sd_aald (q := 113) sD10_copy_38 sBC116 (by decide) rfl ?_
          refine sd_astore (ls' := [some (.inr 120), some (.inl 1), some (.inl f), some (.inl 2), some (.inl g), some (.inl n), some (.inr 111), some (.inr 113)]) sD10_copy_39 (by decide) rfl ?_
          refine sd_aload sD10_copy_41 rfl ?_
          refine sd_callVp (as := []) (st := []) (v := .inl (sd_b (x 4251 = 0))) sD10_copy_43 sM10_192 sOC111 rfl rfl rfl (by decide) (Nat.le_of_ble_eq_true rfl) (cC_isMissing1 _ m hx) (fun ho43 => ?_)
          refine sd_bif_ne (tgt := 57) sD10_copy_46 (by decide) (fun zc46 => ?_) (fun zc46 => ?_)
          ·
            refine sd_aload_n sD10_copy_57 rfl ?_
            refine sd_ldc (z := -1000006) sD10_copy_58 sK10_196 (by decide) ?_
            refine sd_callV (as := [.inl (-1000006)]) (st := []) sD10_copy_60 sM10_52 rfl rfl sOC120 rfl (by decide) (Nat.le_of_ble_eq_true rfl) (cC_found (-1000006) 5 (by decide) (by decide) _ m hx (hF 5 (by decide))) (fun r m hq ho60 hm => ?_)
            obtain ⟨rfl, hx⟩ := hq
            show sd_Wp sd_SC 2 sY10_copy 63 [some (.inr 120), some (.inl 1), some (.inl f), some (.inl 2), some (.inl g), some (.inl n), some (.inr 111), some (.inr 113)] [.inl (-1000006)] m _
            refine sd_ireturn sD10_copy_63 rfl (fun hr hm => ?_)
            first | (exfalso; omega) | exact sd_done (by unfold spC_copy sp_cpy; (try simp only [Int.reduceToNat, Nat.reduceAdd, Nat.reduceMul, Nat.add_zero, not_true_eq_false, ↓reduceIte]); ((repeat (first | rw [if_pos (by first | assumption | omega)] | rw [if_neg (by first | assumption | omega)])); try rfl)) hx
          ·
            refine sd_aload sD10_copy_49 rfl ?_
            refine sd_callVp (as := []) (st := []) (v := .inl (sd_b (x 4252 = 0))) sD10_copy_51 sM10_192 sOC113 rfl rfl rfl (by decide) (Nat.le_of_ble_eq_true rfl) (cC_isMissing2 _ m hx) (fun ho51 => ?_)
            refine sd_bif_eq (tgt := 64) sD10_copy_54 (by decide) (fun zc54 => ?_) (fun zc54 => ?_)
            ·
              refine sd_aload sD10_copy_64 rfl ?_
              refine sd_getfx (v := x 4251) hx sD10_copy_66 sF10_362 sGC111_0 (by decide) rfl ?_
              refine sd_aload sD10_copy_69 rfl ?_
              refine sd_getfx (v := x 4252) hx sD10_copy_71 sF10_362 sGC113_0 (by decide) rfl ?_
              refine sd_icmp_eq (tgt := 85) sD10_copy_74 (by decide) (fun zc74 => ?_) (fun zc74 => ?_)
              ·
                refine sd_aload sD10_copy_85 rfl ?_
                refine sd_iload_n sD10_copy_87 rfl ?_
                refine sd_iload sD10_copy_88 rfl ?_
                refine sd_callVp (as := [.inl f, .inl n]) (st := []) (v := .inl (sd_b (0 ≤ f ∧ 0 ≤ n ∧ f ≤ x 8101 ∧ n ≤ x 8101 - f))) sD10_copy_90 sM10_366 sOC111 rfl rfl rfl (by decide) (Nat.le_of_ble_eq_true rfl) (cC_hasNumbers1 f n _ m hx (by omega)) (fun ho90 => ?_)
                refine sd_bif_eq (tgt := 108) sD10_copy_93 (by decide) (fun zc93 => ?_) (fun zc93 => ?_)
                ·
                  refine sd_aload_n sD10_copy_108 rfl ?_
                  refine sd_ldc (z := -1000001) sD10_copy_109 sK10_51 (by decide) ?_
                  refine sd_callV (as := [.inl (-1000001)]) (st := []) sD10_copy_111 sM10_52 rfl rfl sOC120 rfl (by decide) (Nat.le_of_ble_eq_true rfl) (cC_found (-1000001) 0 (by decide) (by decide) _ m hx (hF 0 (by decide))) (fun r m hq ho111 hm => ?_)
                  obtain ⟨rfl, hx⟩ := hq
                  show sd_Wp sd_SC 2 sY10_copy 114 [some (.inr 120), some (.inl 1), some (.inl f), some (.inl 2), some (.inl g), some (.inl n), some (.inr 111), some (.inr 113)] [.inl (-1000001)] m _
                  refine sd_ireturn sD10_copy_114 rfl (fun hr hm => ?_)
                  first | (exfalso; omega) | exact sd_done (by unfold spC_copy sp_cpy; (try simp only [Int.reduceToNat, Nat.reduceAdd, Nat.reduceMul, Nat.add_zero, not_true_eq_false, ↓reduceIte]); ((repeat (first | rw [if_pos (by first | assumption | omega)] | rw [if_neg (by first | assumption | omega)])); try rfl)) hx
                ·
                  refine sd_aload sD10_copy_96 rfl ?_
                  refine sd_iload sD10_copy_98 rfl ?_
                  refine sd_iload sD10_copy_100 rfl ?_
                  refine sd_callVp (as := [.inl g, .inl n]) (st := []) (v := .inl (sd_b (0 ≤ g ∧ 0 ≤ n ∧ g ≤ x 8102 ∧ n ≤ x 8102 - g))) sD10_copy_102 sM10_366 sOC113 rfl rfl rfl (by decide) (Nat.le_of_ble_eq_true rfl) (cC_hasNumbers2 g n _ m hx (by omega)) (fun ho102 => ?_)
                  refine sd_bif_ne (tgt := 115) sD10_copy_105 (by decide) (fun zc105 => ?_) (fun zc105 => ?_)
                  ·
                    refine sd_aload sD10_copy_115 rfl ?_
                    refine sd_getfr sD10_copy_117 sF10_198 sGC111_2 ?_
                    refine sd_iload_n sD10_copy_120 rfl ?_
                    refine sd_aload sD10_copy_121 rfl ?_
                    refine sd_getfr sD10_copy_123 sF10_198 sGC113_2 ?_
                    refine sd_iload sD10_copy_126 rfl ?_
                    refine sd_iload sD10_copy_128 rfl ?_
                    refine sd_acopyx (sa := (8212 + f.toNat)) (da := (8224 + g.toNat)) (cnt := n.toNat) sd_sokC hx sD10_copy_130 sK10_369_ac sAC110 sAC112 (by decide) (Nat.le_of_ble_eq_true rfl) (by omega) (fun m hx => ?_)
                    refine sd_iload sD10_copy_133 rfl ?_
                    refine sd_ireturn sD10_copy_135 rfl (fun hr hm => ?_)
                    first | (exfalso; omega) | exact sd_done (by unfold spC_copy sp_cpy; (try simp only [Int.reduceToNat, Nat.reduceAdd, Nat.reduceMul, Nat.add_zero, not_true_eq_false, ↓reduceIte]); ((repeat (first | rw [if_pos (by first | assumption | omega)] | rw [if_neg (by first | assumption | omega)])); try rfl)) hx
                  ·
                    refine sd_aload_n sD10_copy_108 rfl ?_
                    refine sd_ldc (z := -1000001) sD10_copy_109 sK10_51 (by decide) ?_
                    refine sd_callV (as := [.inl (-1000001)]) (st := []) sD10_copy_111 sM10_52 rfl rfl sOC120 rfl (by decide) (Nat.le_of_ble_eq_true rfl) (cC_found (-1000001) 0 (by decide) (by decide) _ m hx (hF 0 (by decide))) (fun r m hq ho111 hm => ?_)
                    obtain ⟨rfl, hx⟩ := hq
                    show sd_Wp sd_SC 2 sY10_copy 114 [some (.inr 120), some (.inl 1), some (.inl f), some (.inl 2), some (.inl g), some (.inl n), some (.inr 111), some (.inr 113)] [.inl (-1000001)] m _
                    refine sd_ireturn sD10_copy_114 rfl (fun hr hm => ?_)
                    first | (exfalso; omega) | exact sd_done (by unfold spC_copy sp_cpy; (try simp only [Int.reduceToNat, Nat.reduceAdd, Nat.reduceMul, Nat.add_zero, not_true_eq_false, ↓reduceIte]); ((repeat (first | rw [if_pos (by first | assumption | omega)] | rw [if_neg (by first | assumption | omega)])); try rfl)) hx
              ·
                refine sd_aload_n sD10_copy_77 rfl ?_
                refine sd_ldcw (z := -1000003) sD10_copy_78 sK10_365 (by decide) ?_
                refine sd_callV (as := [.inl (-1000003)]) (st := []) sD10_copy_81 sM10_52 rfl rfl sOC120 rfl (by decide) (Nat.le_of_ble_eq_true rfl) (cC_found (-1000003) 2 (by decide) (by decide) _ m hx (hF 2 (by decide))) (fun r m hq ho81 hm => ?_)
                obtain ⟨rfl, hx⟩ := hq
                show sd_Wp sd_SC 2 sY10_copy 84 [some (.inr 120), some (.inl 1), some (.inl f), some (.inl 2), some (.inl g), some (.inl n), some (.inr 111), some (.inr 113)] [.inl (-1000003)] m _
                refine sd_ireturn sD10_copy_84 rfl (fun hr hm => ?_)
                first | (exfalso; omega) | exact sd_done (by unfold spC_copy sp_cpy; (try simp only [Int.reduceToNat, Nat.reduceAdd, Nat.reduceMul, Nat.add_zero, not_true_eq_false, ↓reduceIte]); ((repeat (first | rw [if_pos (by first | assumption | omega)] | rw [if_neg (by first | assumption | omega)])); try rfl)) hx
            ·
              refine sd_aload_n sD10_copy_57 rfl ?_
              refine sd_ldc (z := -1000006) sD10_copy_58 sK10_196 (by decide) ?_
              refine sd_callV (as := [.inl (-1000006)]) (st := []) sD10_copy_60 sM10_52 rfl rfl sOC120 rfl (by decide) (Nat.le_of_ble_eq_true rfl) (cC_found (-1000006) 5 (by decide) (by decide) _ m hx (hF 5 (by decide))) (fun r m hq ho60 hm => ?_)
              obtain ⟨rfl, hx⟩ := hq
              show sd_Wp sd_SC 2 sY10_copy 63 [some (.inr 120), some (.inl 1), some (.inl f), some (.inl 2), some (.inl g), some (.inl n), some (.inr 111), some (.inr 113)] [.inl (-1000006)] m _
              refine sd_ireturn sD10_copy_63 rfl (fun hr hm => ?_)
              first | (exfalso; omega) | exact sd_done (by unfold spC_copy sp_cpy; (try simp only [Int.reduceToNat, Nat.reduceAdd, Nat.reduceMul, Nat.add_zero, not_true_eq_false, ↓reduceIte]); ((repeat (first | rw [if_pos (by first | assumption | omega)] | rw [if_neg (by first | assumption | omega)])); try rfl)) hx
        ·
          subst zs38
          refine sd_aald (q := 115) sD10_copy_38 sBC116 (by decide) rfl ?_
          refine sd_astore (ls' := [some (.inr 120), some (.inl 1), some (.inl f), some (.inl 3), some (.inl g), some (.inl n), some (.inr 111), some (.inr 115)]) sD10_copy_39 (by decide) rfl ?_
          refine sd_aload sD10_copy_41 rfl ?_
          refine sd_callVp (as := []) (st := []) (v := .inl (sd_b (x 4251 = 0))) sD10_copy_43 sM10_192 sOC111 rfl rfl rfl (by decide) (Nat.le_of_ble_eq_true rfl) (cC_isMissing1 _ m hx) (fun ho43 => ?_)
          refine sd_bif_ne (tgt := 57) sD10_copy_46 (by decide) (fun zc46 => ?_) (fun zc46 => ?_)
          ·
            refine sd_aload_n sD10_copy_57 rfl ?_
            refine sd_ldc (z := -1000006) sD10_copy_58 sK10_196 (by decide) ?_
            refine sd_callV (as := [.inl (-1000006)]) (st := []) sD10_copy_60 sM10_52 rfl rfl sOC120 rfl (by decide) (Nat.le_of_ble_eq_true rfl) (cC_found (-1000006) 5 (by decide) (by decide) _ m hx (hF 5 (by decide))) (fun r m hq ho60 hm => ?_)
            obtain ⟨rfl, hx⟩ := hq
            show sd_Wp sd_SC 2 sY10_copy 63 [some (.inr 120), some (.inl 1), some (.inl f), some (.inl 3), some (.inl g), some (.inl n), some (.inr 111), some (.inr 115)] [.inl (-1000006)] m _
            refine sd_ireturn sD10_copy_63 rfl (fun hr hm => ?_)
            first | (exfalso; omega) | exact sd_done (by unfold spC_copy sp_cpy; (try simp only [Int.reduceToNat, Nat.reduceAdd, Nat.reduceMul, Nat.add_zero, not_true_eq_false, ↓reduceIte]); ((repeat (first | rw [if_pos (by first | assumption | omega)] | rw [if_neg (by first | assumption | omega)])); try rfl)) hx
          ·
            refine sd_aload sD10_copy_49 rfl ?_
            refine sd_callVp (as := []) (st := []) (v := .inl (sd_b (x 4253 = 0))) sD10_copy_51 sM10_192 sOC115 rfl rfl rfl (by decide) (Nat.le_of_ble_eq_true rfl) (cC_isMissing3 _ m hx) (fun ho51 => ?_)
            refine sd_bif_eq (tgt := 64) sD10_copy_54 (by decide) (fun zc54 => ?_) (fun zc54 => ?_)
            ·
              refine sd_aload sD10_copy_64 rfl ?_
              refine sd_getfx (v := x 4251) hx sD10_copy_66 sF10_362 sGC111_0 (by decide) rfl ?_
              refine sd_aload sD10_copy_69 rfl ?_
              refine sd_getfx (v := x 4253) hx sD10_copy_71 sF10_362 sGC115_0 (by decide) rfl ?_
              refine sd_icmp_eq (tgt := 85) sD10_copy_74 (by decide) (fun zc74 => ?_) (fun zc74 => ?_)
              ·
                refine sd_aload sD10_copy_85 rfl ?_
                refine sd_iload_n sD10_copy_87 rfl ?_
                refine sd_iload sD10_copy_88 rfl ?_
                refine sd_callVp (as := [.inl f, .inl n]) (st := []) (v := .inl (sd_b (0 ≤ f ∧ 0 ≤ n ∧ f ≤ x 8101 ∧ n ≤ x 8101 - f))) sD10_copy_90 sM10_366 sOC111 rfl rfl rfl (by decide) (Nat.le_of_ble_eq_true rfl) (cC_hasNumbers1 f n _ m hx (by omega)) (fun ho90 => ?_)
                refine sd_bif_eq (tgt := 108) sD10_copy_93 (by decide) (fun zc93 => ?_) (fun zc93 => ?_)
                ·
                  refine sd_aload_n sD10_copy_108 rfl ?_
                  refine sd_ldc (z := -1000001) sD10_copy_109 sK10_51 (by decide) ?_
                  refine sd_callV (as := [.inl (-1000001)]) (st := []) sD10_copy_111 sM10_52 rfl rfl sOC120 rfl (by decide) (Nat.le_of_ble_eq_true rfl) (cC_found (-1000001) 0 (by decide) (by decide) _ m hx (hF 0 (by decide))) (fun r m hq ho111 hm => ?_)
                  obtain ⟨rfl, hx⟩ := hq
                  show sd_Wp sd_SC 2 sY10_copy 114 [some (.inr 120), some (.inl 1), some (.inl f), some (.inl 3), some (.inl g), some (.inl n), some (.inr 111), some (.inr 115)] [.inl (-1000001)] m _
                  refine sd_ireturn sD10_copy_114 rfl (fun hr hm => ?_)
                  first | (exfalso; omega) | exact sd_done (by unfold spC_copy sp_cpy; (try simp only [Int.reduceToNat, Nat.reduceAdd, Nat.reduceMul, Nat.add_zero, not_true_eq_false, ↓reduceIte]); ((repeat (first | rw [if_pos (by first | assumption | omega)] | rw [if_neg (by first | assumption | omega)])); try rfl)) hx
                ·
                  refine sd_aload sD10_copy_96 rfl ?_
                  refine sd_iload sD10_copy_98 rfl ?_
                  refine sd_iload sD10_copy_100 rfl ?_
                  refine sd_callVp (as := [.inl g, .inl n]) (st := []) (v := .inl (sd_b (0 ≤ g ∧ 0 ≤ n ∧ g ≤ x 8103 ∧ n ≤ x 8103 - g))) sD10_copy_102 sM10_366 sOC115 rfl rfl rfl (by decide) (Nat.le_of_ble_eq_true rfl) (cC_hasNumbers3 g n _ m hx (by omega)) (fun ho102 => ?_)
                  refine sd_bif_ne (tgt := 115) sD10_copy_105 (by decide) (fun zc105 => ?_) (fun zc105 => ?_)
                  ·
                    refine sd_aload sD10_copy_115 rfl ?_
                    refine sd_getfr sD10_copy_117 sF10_198 sGC111_2 ?_
                    refine sd_iload_n sD10_copy_120 rfl ?_
                    refine sd_aload sD10_copy_121 rfl ?_
                    refine sd_getfr sD10_copy_123 sF10_198 sGC115_2 ?_
                    refine sd_iload sD10_copy_126 rfl ?_
                    refine sd_iload sD10_copy_128 rfl ?_
                    refine sd_acopyx (sa := (8212 + f.toNat)) (da := (8236 + g.toNat)) (cnt := n.toNat) sd_sokC hx sD10_copy_130 sK10_369_ac sAC110 sAC114 (by decide) (Nat.le_of_ble_eq_true rfl) (by omega) (fun m hx => ?_)
                    refine sd_iload sD10_copy_133 rfl ?_
                    refine sd_ireturn sD10_copy_135 rfl (fun hr hm => ?_)
                    first | (exfalso; omega) | exact sd_done (by unfold spC_copy sp_cpy; (try simp only [Int.reduceToNat, Nat.reduceAdd, Nat.reduceMul, Nat.add_zero, not_true_eq_false, ↓reduceIte]); ((repeat (first | rw [if_pos (by first | assumption | omega)] | rw [if_neg (by first | assumption | omega)])); try rfl)) hx
                  ·
                    refine sd_aload_n sD10_copy_108 rfl ?_
                    refine sd_ldc (z := -1000001) sD10_copy_109 sK10_51 (by decide) ?_
                    refine sd_callV (as := [.inl (-1000001)]) (st := []) sD10_copy_111 sM10_52 rfl rfl sOC120 rfl (by decide) (Nat.le_of_ble_eq_true rfl) (cC_found (-1000001) 0 (by decide) (by decide) _ m hx (hF 0 (by decide))) (fun r m hq ho111 hm => ?_)
                    obtain ⟨rfl, hx⟩ := hq
                    show sd_Wp sd_SC 2 sY10_copy 114 [some (.inr 120), some (.inl 1), some (.inl f), some (.inl 3), some (.inl g), some (.inl n), some (.inr 111), some (.inr 115)] [.inl (-1000001)] m _
                    refine sd_ireturn sD10_copy_114 rfl (fun hr hm => ?_)
                    first | (exfalso; omega) | exact sd_done (by unfold spC_copy sp_cpy; (try simp only [Int.reduceToNat, Nat.reduceAdd, Nat.reduceMul, Nat.add_zero, not_true_eq_false, ↓reduceIte]); ((repeat (first | rw [if_pos (by first | assumption | omega)] | rw [if_neg (by first | assumption | omega)])); try rfl)) hx
              ·
                refine sd_aload_n sD10_copy_77 rfl ?_
                refine sd_ldcw (z := -1000003) sD10_copy_78 sK10_365 (by decide) ?_
                refine sd_callV (as := [.inl (-1000003)]) (st := []) sD10_copy_81 sM10_52 rfl rfl sOC120 rfl (by decide) (Nat.le_of_ble_eq_true rfl) (cC_found (-1000003) 2 (by decide) (by decide) _ m hx (hF 2 (by decide))) (fun r m hq ho81 hm => ?_)
                obtain ⟨rfl, hx⟩ := hq
                show sd_Wp sd_SC 2 sY10_copy 84 [some (.inr 120), some (.inl 1), some (.inl f), some (.inl 3), some (.inl g), some (.inl n), some (.inr 111), some (.inr 115)] [.inl (-1000003)] m _
                refine sd_ireturn sD10_copy_84 rfl (fun hr hm => ?_)
                first | (exfalso; omega) | exact sd_done (by unfold spC_copy sp_cpy; (try simp only [Int.reduceToNat, Nat.reduceAdd, Nat.reduceMul, Nat.add_zero, not_true_eq_false, ↓reduceIte]); ((repeat (first | rw [if_pos (by first | assumption | omega)] | rw [if_neg (by first | assumption | omega)])); try rfl)) hx
            ·
              refine sd_aload_n sD10_copy_57 rfl ?_
              refine sd_ldc (z := -1000006) sD10_copy_58 sK10_196 (by decide) ?_
              refine sd_callV (as := [.inl (-1000006)]) (st := []) sD10_copy_60 sM10_52 rfl rfl sOC120 rfl (by decide) (Nat.le_of_ble_eq_true rfl) (cC_found (-1000006) 5 (by decide) (by decide) _ m hx (hF 5 (by decide))) (fun r m hq ho60 hm => ?_)
              obtain ⟨rfl, hx⟩ := hq
              show sd_Wp sd_SC 2 sY10_copy 63 [some (.inr 120), some (.inl 1), some (.inl f), some (.inl 3), some (.inl g), some (.inl n), some (.inr 111), some (.inr 115)] [.inl (-1000006)] m _
              refine sd_ireturn sD10_copy_63 rfl (fun hr hm => ?_)
              first | (exfalso; omega) | exact sd_done (by unfold spC_copy sp_cpy; (try simp only [Int.reduceToNat, Nat.reduceAdd, Nat.reduceMul, Nat.add_zero, not_true_eq_false, ↓reduceIte]); ((repeat (first | rw [if_pos (by first | assumption | omega)] | rw [if_neg (by first | assumption | omega)])); try rfl)) hx
      ·
        subst zs30
        refine sd_aald (q := 113) sD10_copy_30 sBC116 (by decide) rfl ?_
        refine sd_astore (ls' := [some (.inr 120), some (.inl 2), some (.inl f), some (.inl t), some (.inl g), some (.inl n), some (.inr 113), none]) sD10_copy_31 (by decide) rfl ?_
        refine sd_aload_n sD10_copy_33 rfl ?_
        refine sd_getfr sD10_copy_34 sF10_21 sGC120_2 ?_
        refine sd_iload_n sD10_copy_37 rfl ?_
        rcases (show t = 0 ∨ t = 1 ∨ t = 2 ∨ t = 3 by omega) with zs38 | zs38 | zs38 | zs38
        ·
          subst zs38
          refine sd_aald (q := 109) sD10_copy_38 sBC116 (by decide) rfl ?_
          refine sd_astore (ls' := [some (.inr 120), some (.inl 2), some (.inl f), some (.inl 0), some (.inl g), some (.inl n), some (.inr 113), some (.inr 109)]) sD10_copy_39 (by decide) rfl ?_
          refine sd_aload sD10_copy_41 rfl ?_
          refine sd_callVp (as := []) (st := []) (v := .inl (sd_b (x 4252 = 0))) sD10_copy_43 sM10_192 sOC113 rfl rfl rfl (by decide) (Nat.le_of_ble_eq_true rfl) (cC_isMissing2 _ m hx) (fun ho43 => ?_)
          refine sd_bif_ne (tgt := 57) sD10_copy_46 (by decide) (fun zc46 => ?_) (fun zc46 => ?_)
          ·
            refine sd_aload_n sD10_copy_57 rfl ?_
            refine sd_ldc (z := -1000006) sD10_copy_58 sK10_196 (by decide) ?_
            refine sd_callV (as := [.inl (-1000006)]) (st := []) sD10_copy_60 sM10_52 rfl rfl sOC120 rfl (by decide) (Nat.le_of_ble_eq_true rfl) (cC_found (-1000006) 5 (by decide) (by decide) _ m hx (hF 5 (by decide))) (fun r m hq ho60 hm => ?_)
            obtain ⟨rfl, hx⟩ := hq
            show sd_Wp sd_SC 2 sY10_copy 63 [some (.inr 120), some (.inl 2), some (.inl f), some (.inl 0), some (.inl g), some (.inl n), some (.inr 113), some (.inr 109)] [.inl (-1000006)] m _
            refine sd_ireturn sD10_copy_63 rfl (fun hr hm => ?_)
            first | (exfalso; omega) | exact sd_done (by unfold spC_copy sp_cpy; (try simp only [Int.reduceToNat, Nat.reduceAdd, Nat.reduceMul, Nat.add_zero, not_true_eq_false, ↓reduceIte]); ((repeat (first | rw [if_pos (by first | assumption | omega)] | rw [if_neg (by first | assumption | omega)])); try rfl)) hx
          ·
            refine sd_aload sD10_copy_49 rfl ?_
            refine sd_callVp (as := []) (st := []) (v := .inl (sd_b (x 4250 = 0))) sD10_copy_51 sM10_192 sOC109 rfl rfl rfl (by decide) (Nat.le_of_ble_eq_true rfl) (cC_isMissing0 _ m hx) (fun ho51 => ?_)
            refine sd_bif_eq (tgt := 64) sD10_copy_54 (by decide) (fun zc54 => ?_) (fun zc54 => ?_)
            ·
              refine sd_aload sD10_copy_64 rfl ?_
              refine sd_getfx (v := x 4252) hx sD10_copy_66 sF10_362 sGC113_0 (by decide) rfl ?_
              refine sd_aload sD10_copy_69 rfl ?_
              refine sd_getfx (v := x 4250) hx sD10_copy_71 sF10_362 sGC109_0 (by decide) rfl ?_
              refine sd_icmp_eq (tgt := 85) sD10_copy_74 (by decide) (fun zc74 => ?_) (fun zc74 => ?_)
              ·
                refine sd_aload sD10_copy_85 rfl ?_
                refine sd_iload_n sD10_copy_87 rfl ?_
                refine sd_iload sD10_copy_88 rfl ?_
                refine sd_callVp (as := [.inl f, .inl n]) (st := []) (v := .inl (sd_b (0 ≤ f ∧ 0 ≤ n ∧ f ≤ x 8102 ∧ n ≤ x 8102 - f))) sD10_copy_90 sM10_366 sOC113 rfl rfl rfl (by decide) (Nat.le_of_ble_eq_true rfl) (cC_hasNumbers2 f n _ m hx (by omega)) (fun ho90 => ?_)
                refine sd_bif_eq (tgt := 108) sD10_copy_93 (by decide) (fun zc93 => ?_) (fun zc93 => ?_)
                ·
                  refine sd_aload_n sD10_copy_108 rfl ?_
                  refine sd_ldc (z := -1000001) sD10_copy_109 sK10_51 (by decide) ?_
                  refine sd_callV (as := [.inl (-1000001)]) (st := []) sD10_copy_111 sM10_52 rfl rfl sOC120 rfl (by decide) (Nat.le_of_ble_eq_true rfl) (cC_found (-1000001) 0 (by decide) (by decide) _ m hx (hF 0 (by decide))) (fun r m hq ho111 hm => ?_)
                  obtain ⟨rfl, hx⟩ := hq
                  show sd_Wp sd_SC 2 sY10_copy 114 [some (.inr 120), some (.inl 2), some (.inl f), some (.inl 0), some (.inl g), some (.inl n), some (.inr 113), some (.inr 109)] [.inl (-1000001)] m _
                  refine sd_ireturn sD10_copy_114 rfl (fun hr hm => ?_)
                  first | (exfalso; omega) | exact sd_done (by unfold spC_copy sp_cpy; (try simp only [Int.reduceToNat, Nat.reduceAdd, Nat.reduceMul, Nat.add_zero, not_true_eq_false, ↓reduceIte]); ((repeat (first | rw [if_pos (by first | assumption | omega)] | rw [if_neg (by first | assumption | omega)])); try rfl)) hx
                ·
                  refine sd_aload sD10_copy_96 rfl ?_
                  refine sd_iload sD10_copy_98 rfl ?_
                  refine sd_iload sD10_copy_100 rfl ?_
                  refine sd_callVp (as := [.inl g, .inl n]) (st := []) (v := .inl (sd_b (0 ≤ g ∧ 0 ≤ n ∧ g ≤ x 8100 ∧ n ≤ x 8100 - g))) sD10_copy_102 sM10_366 sOC109 rfl rfl rfl (by decide) (Nat.le_of_ble_eq_true rfl) (cC_hasNumbers0 g n _ m hx (by omega)) (fun ho102 => ?_)
                  refine sd_bif_ne (tgt := 115) sD10_copy_105 (by decide) (fun zc105 => ?_) (fun zc105 => ?_)
                  ·
                    refine sd_aload sD10_copy_115 rfl ?_
                    refine sd_getfr sD10_copy_117 sF10_198 sGC113_2 ?_
                    refine sd_iload_n sD10_copy_120 rfl ?_
                    refine sd_aload sD10_copy_121 rfl ?_
                    refine sd_getfr sD10_copy_123 sF10_198 sGC109_2 ?_
                    refine sd_iload sD10_copy_126 rfl ?_
                    refine sd_iload sD10_copy_128 rfl ?_
                    refine sd_acopyx (sa := (8224 + f.toNat)) (da := (8200 + g.toNat)) (cnt := n.toNat) sd_sokC hx sD10_copy_130 sK10_369_ac sAC112 sAC108 (by decide) (Nat.le_of_ble_eq_true rfl) (by omega) (fun m hx => ?_)
                    refine sd_iload sD10_copy_133 rfl ?_
                    refine sd_ireturn sD10_copy_135 rfl (fun hr hm => ?_)
                    first | (exfalso; omega) | exact sd_done (by unfold spC_copy sp_cpy; (try simp only [Int.reduceToNat, Nat.reduceAdd, Nat.reduceMul, Nat.add_zero, not_true_eq_false, ↓reduceIte]); ((repeat (first | rw [if_pos (by first | assumption | omega)] | rw [if_neg (by first | assumption | omega)])); try rfl)) hx
                  ·
                    refine sd_aload_n sD10_copy_108 rfl ?_
                    refine sd_ldc (z := -1000001) sD10_copy_109 sK10_51 (by decide) ?_
                    refine sd_callV (as := [.inl (-1000001)]) (st := []) sD10_copy_111 sM10_52 rfl rfl sOC120 rfl (by decide) (Nat.le_of_ble_eq_true rfl) (cC_found (-1000001) 0 (by decide) (by decide) _ m hx (hF 0 (by decide))) (fun r m hq ho111 hm => ?_)
                    obtain ⟨rfl, hx⟩ := hq
                    show sd_Wp sd_SC 2 sY10_copy 114 [some (.inr 120), some (.inl 2), some (.inl f), some (.inl 0), some (.inl g), some (.inl n), some (.inr 113), some (.inr 109)] [.inl (-1000001)] m _
                    refine sd_ireturn sD10_copy_114 rfl (fun hr hm => ?_)
                    first | (exfalso; omega) | exact sd_done (by unfold spC_copy sp_cpy; (try simp only [Int.reduceToNat, Nat.reduceAdd, Nat.reduceMul, Nat.add_zero, not_true_eq_false, ↓reduceIte]); ((repeat (first | rw [if_pos (by first | assumption | omega)] | rw [if_neg (by first | assumption | omega)])); try rfl)) hx
              ·
                refine sd_aload_n sD10_copy_77 rfl ?_
                refine sd_ldcw (z := -1000003) sD10_copy_78 sK10_365 (by decide) ?_
                refine sd_callV (as := [.inl (-1000003)]) (st := []) sD10_copy_81 sM10_52 rfl rfl sOC120 rfl (by decide) (Nat.le_of_ble_eq_true rfl) (cC_found (-1000003) 2 (by decide) (by decide) _ m hx (hF 2 (by decide))) (fun r m hq ho81 hm => ?_)
                obtain ⟨rfl, hx⟩ := hq
                show sd_Wp sd_SC 2 sY10_copy 84 [some (.inr 120), some (.inl 2), some (.inl f), some (.inl 0), some (.inl g), some (.inl n), some (.inr 113), some (.inr 109)] [.inl (-1000003)] m _
                refine sd_ireturn sD10_copy_84 rfl (fun hr hm => ?_)
                first | (exfalso; omega) | exact sd_done (by unfold spC_copy sp_cpy; (try simp only [Int.reduceToNat, Nat.reduceAdd, Nat.reduceMul, Nat.add_zero, not_true_eq_false, ↓reduceIte]); ((repeat (first | rw [if_pos (by first | assumption | omega)] | rw [if_neg (by first | assumption | omega)])); try rfl)) hx
            ·
              refine sd_aload_n sD10_copy_57 rfl ?_
              refine sd_ldc (z := -1000006) sD10_copy_58 sK10_196 (by decide) ?_
              refine sd_callV (as := [.inl (-1000006)]) (st := []) sD10_copy_60 sM10_52 rfl rfl sOC120 rfl (by decide) (Nat.le_of_ble_eq_true rfl) (cC_found (-1000006) 5 (by decide) (by decide) _ m hx (hF 5 (by decide))) (fun r m hq ho60 hm => ?_)
              obtain ⟨rfl, hx⟩ := hq
              show sd_Wp sd_SC 2 sY10_copy 63 [some (.inr 120), some (.inl 2), some (.inl f), some (.inl 0), some (.inl g), some (.inl n), some (.inr 113), some (.inr 109)] [.inl (-1000006)] m _
              refine sd_ireturn sD10_copy_63 rfl (fun hr hm => ?_)
              first | (exfalso; omega) | exact sd_done (by unfold spC_copy sp_cpy; (try simp only [Int.reduceToNat, Nat.reduceAdd, Nat.reduceMul, Nat.add_zero, not_true_eq_false, ↓reduceIte]); ((repeat (first | rw [if_pos (by first | assumption | omega)] | rw [if_neg (by first | assumption | omega)])); try rfl)) hx
        ·
          subst zs38
          refine sd_aald (q := 111) sD10_copy_38 sBC116 (by decide) rfl ?_
          refine sd_astore (ls' := [some (.inr 120), some (.inl 2), some (.inl f), some (.inl 1), some (.inl g), some (.inl n), some (.inr 113), some (.inr 111)]) sD10_copy_39 (by decide) rfl ?_
          refine sd_aload sD10_copy_41 rfl ?_
          refine sd_callVp (as := []) (st := []) (v := .inl (sd_b (x 4252 = 0))) sD10_copy_43 sM10_192 sOC113 rfl rfl rfl (by decide) (Nat.le_of_ble_eq_true rfl) (cC_isMissing2 _ m hx) (fun ho43 => ?_)
          refine sd_bif_ne (tgt := 57) sD10_copy_46 (by decide) (fun zc46 => ?_) (fun zc46 => ?_)
          ·
            refine sd_aload_n sD10_copy_57 rfl ?_
            refine sd_ldc (z := -1000006) sD10_copy_58 sK10_196 (by decide) ?_
            refine sd_callV (as := [.inl (-1000006)]) (st := []) sD10_copy_60 sM10_52 rfl rfl sOC120 rfl (by decide) (Nat.le_of_ble_eq_true rfl) (cC_found (-1000006) 5 (by decide) (by decide) _ m hx (hF 5 (by decide))) (fun r m hq ho60 hm => ?_)
            obtain ⟨rfl, hx⟩ := hq
            show sd_Wp sd_SC 2 sY10_copy 63 [some (.inr 120), some (.inl 2), some (.inl f), some (.inl 1), some (.inl g), some (.inl n), some (.inr 113), some (.inr 111)] [.inl (-1000006)] m _
            refine sd_ireturn sD10_copy_63 rfl (fun hr hm => ?_)
            first | (exfalso; omega) | exact sd_done (by unfold spC_copy sp_cpy; (try simp only [Int.reduceToNat, Nat.reduceAdd, Nat.reduceMul, Nat.add_zero, not_true_eq_false, ↓reduceIte]); ((repeat (first | rw [if_pos (by first | assumption | omega)] | rw [if_neg (by first | assumption | omega)])); try rfl)) hx
          ·
            refine sd_aload sD10_copy_49 rfl ?_
            refine sd_callVp (as := []) (st := []) (v := .inl (sd_b (x 4251 = 0))) sD10_copy_51 sM10_192 sOC111 rfl rfl rfl (by decide) (Nat.le_of_ble_eq_true rfl) (cC_isMissing1 _ m hx) (fun ho51 => ?_)
            refine sd_bif_eq (tgt := 64) sD10_copy_54 (by decide) (fun zc54 => ?_) (fun zc54 => ?_)
            ·
              refine sd_aload sD10_copy_64 rfl ?_
              refine sd_getfx (v := x 4252) hx sD10_copy_66 sF10_362 sGC113_0 (by decide) rfl ?_
              refine sd_aload sD10_copy_69 rfl ?_
              refine sd_getfx (v := x 4251) hx sD10_copy_71 sF10_362 sGC111_0 (by decide) rfl ?_
              refine sd_icmp_eq (tgt := 85) sD10_copy_74 (by decide) (fun zc74 => ?_) (fun zc74 => ?_)
              ·
                refine sd_aload sD10_copy_85 rfl ?_
                refine sd_iload_n sD10_copy_87 rfl ?_
                refine sd_iload sD10_copy_88 rfl ?_
                refine sd_callVp (as := [.inl f, .inl n]) (st := []) (v := .inl (sd_b (0 ≤ f ∧ 0 ≤ n ∧ f ≤ x 8102 ∧ n ≤ x 8102 - f))) sD10_copy_90 sM10_366 sOC113 rfl rfl rfl (by decide) (Nat.le_of_ble_eq_true rfl) (cC_hasNumbers2 f n _ m hx (by omega)) (fun ho90 => ?_)
                refine sd_bif_eq (tgt := 108) sD10_copy_93 (by decide) (fun zc93 => ?_) (fun zc93 => ?_)
                ·
                  refine sd_aload_n sD10_copy_108 rfl ?_
                  refine sd_ldc (z := -1000001) sD10_copy_109 sK10_51 (by decide) ?_
                  refine sd_callV (as := [.inl (-1000001)]) (st := []) sD10_copy_111 sM10_52 rfl rfl sOC120 rfl (by decide) (Nat.le_of_ble_eq_true rfl) (cC_found (-1000001) 0 (by decide) (by decide) _ m hx (hF 0 (by decide))) (fun r m hq ho111 hm => ?_)
                  obtain ⟨rfl, hx⟩ := hq
                  show sd_Wp sd_SC 2 sY10_copy 114 [some (.inr 120), some (.inl 2), some (.inl f), some (.inl 1), some (.inl g), some (.inl n), some (.inr 113), some (.inr 111)] [.inl (-1000001)] m _
                  refine sd_ireturn sD10_copy_114 rfl (fun hr hm => ?_)
                  first | (exfalso; omega) | exact sd_done (by unfold spC_copy sp_cpy; (try simp only [Int.reduceToNat, Nat.reduceAdd, Nat.reduceMul, Nat.add_zero, not_true_eq_false, ↓reduceIte]); ((repeat (first | rw [if_pos (by first | assumption | omega)] | rw [if_neg (by first | assumption | omega)])); try rfl)) hx
                ·
                  refine sd_aload sD10_copy_96 rfl ?_
                  refine sd_iload sD10_copy_98 rfl ?_
                  refine sd_iload sD10_copy_100 rfl ?_
                  refine sd_callVp (as := [.inl g, .inl n]) (st := []) (v := .inl (sd_b (0 ≤ g ∧ 0 ≤ n ∧ g ≤ x 8101 ∧ n ≤ x 8101 - g))) sD10_copy_102 sM10_366 sOC111 rfl rfl rfl (by decide) (Nat.le_of_ble_eq_true rfl) (cC_hasNumbers1 g n _ m hx (by omega)) (fun ho102 => ?_)
                  refine sd_bif_ne (tgt := 115) sD10_copy_105 (by decide) (fun zc105 => ?_) (fun zc105 => ?_)
                  ·
                    refine sd_aload sD10_copy_115 rfl ?_
                    refine sd_getfr sD10_copy_117 sF10_198 sGC113_2 ?_
                    refine sd_iload_n sD10_copy_120 rfl ?_
                    refine sd_aload sD10_copy_121 rfl ?_
                    refine sd_getfr sD10_copy_123 sF10_198 sGC111_2 ?_
                    refine sd_iload sD10_copy_126 rfl ?_
                    refine sd_iload sD10_copy_128 rfl ?_
                    refine sd_acopyx (sa := (8224 + f.toNat)) (da := (8212 + g.toNat)) (cnt := n.toNat) sd_sokC hx sD10_copy_130 sK10_369_ac sAC112 sAC110 (by decide) (Nat.le_of_ble_eq_true rfl) (by omega) (fun m hx => ?_)
                    refine sd_iload sD10_copy_133 rfl ?_
                    refine sd_ireturn sD10_copy_135 rfl (fun hr hm => ?_)
                    first | (exfalso; omega) | exact sd_done (by unfold spC_copy sp_cpy; (try simp only [Int.reduceToNat, Nat.reduceAdd, Nat.reduceMul, Nat.add_zero, not_true_eq_false, ↓reduceIte]); ((repeat (first | rw [if_pos (by first | assumption | omega)] | rw [if_neg (by first | assumption | omega)])); try rfl)) hx
                  ·
                    refine sd_aload_n sD10_copy_108 rfl ?_
                    refine sd_ldc (z := -1000001) sD10_copy_109 sK10_51 (by decide) ?_
                    refine sd_callV (as := [.inl (-1000001)]) (st := []) sD10_copy_111 sM10_52 rfl rfl sOC120 rfl (by decide) (Nat.le_of_ble_eq_true rfl) (cC_found (-1000001) 0 (by decide) (by decide) _ m hx (hF 0 (by decide))) (fun r m hq ho111 hm => ?_)
                    obtain ⟨rfl, hx⟩ := hq
                    show sd_Wp sd_SC 2 sY10_copy 114 [some (.inr 120), some (.inl 2), some (.inl f), some (.inl 1), some (.inl g), some (.inl n), some (.inr 113), some (.inr 111)] [.inl (-1000001)] m _
                    refine sd_ireturn sD10_copy_114 rfl (fun hr hm => ?_)
                    first | (exfalso; omega) | exact sd_done (by unfold spC_copy sp_cpy; (try simp only [Int.reduceToNat, Nat.reduceAdd, Nat.reduceMul, Nat.add_zero, not_true_eq_false, ↓reduceIte]); ((repeat (first | rw [if_pos (by first | assumption | omega)] | rw [if_neg (by first | assumption | omega)])); try rfl)) hx
              ·
                refine sd_aload_n sD10_copy_77 rfl ?_
                refine sd_ldcw (z := -1000003) sD10_copy_78 sK10_365 (by decide) ?_
                refine sd_callV (as := [.inl (-1000003)]) (st := []) sD10_copy_81 sM10_52 rfl rfl sOC120 rfl (by decide) (Nat.le_of_ble_eq_true rfl) (cC_found (-1000003) 2 (by decide) (by decide) _ m hx (hF 2 (by decide))) (fun r m hq ho81 hm => ?_)
                obtain ⟨rfl, hx⟩ := hq
                show sd_Wp sd_SC 2 sY10_copy 84 [some (.inr 120), some (.inl 2), some (.inl f), some (.inl 1), some (.inl g), some (.inl n), some (.inr 113), some (.inr 111)] [.inl (-1000003)] m _
                refine sd_ireturn sD10_copy_84 rfl (fun hr hm => ?_)
                first | (exfalso; omega) | exact sd_done (by unfold spC_copy sp_cpy; (try simp only [Int.reduceToNat, Nat.reduceAdd, Nat.reduceMul, Nat.add_zero, not_true_eq_false, ↓reduceIte]); ((repeat (first | rw [if_pos (by first | assumption | omega)] | rw [if_neg (by first | assumption | omega)])); try rfl)) hx
            ·
              refine sd_aload_n sD10_copy_57 rfl ?_
              refine sd_ldc (z := -1000006) sD10_copy_58 sK10_196 (by decide) ?_
              refine sd_callV (as := [.inl (-1000006)]) (st := []) sD10_copy_60 sM10_52 rfl rfl sOC120 rfl (by decide) (Nat.le_of_ble_eq_true rfl) (cC_found (-1000006) 5 (by decide) (by decide) _ m hx (hF 5 (by decide))) (fun r m hq ho60 hm => ?_)
              obtain ⟨rfl, hx⟩ := hq
              show sd_Wp sd_SC 2 sY10_copy 63 [some (.inr 120), some (.inl 2), some (.inl f), some (.inl 1), some (.inl g), some (.inl n), some (.inr 113), some (.inr 111)] [.inl (-1000006)] m _
              refine sd_ireturn sD10_copy_63 rfl (fun hr hm => ?_)
              first | (exfalso; omega) | exact sd_done (by unfold spC_copy sp_cpy; (try simp only [Int.reduceToNat, Nat.reduceAdd, Nat.reduceMul, Nat.add_zero, not_true_eq_false, ↓reduceIte]); ((repeat (first | rw [if_pos (by first | assumption | omega)] | rw [if_neg (by first | assumption | omega)])); try rfl)) hx
        ·
          subst zs38
          refine sd_aald (q := 113) sD10_copy_38 sBC116 (by decide) rfl ?_
          refine sd_astore (ls' := [some (.inr 120), some (.inl 2), some (.inl f), some (.inl 2), some (.inl g), some (.inl n), some (.inr 113), some (.inr 113)]) sD10_copy_39 (by decide) rfl ?_
          refine sd_aload sD10_copy_41 rfl ?_
          refine sd_callVp (as := []) (st := []) (v := .inl (sd_b (x 4252 = 0))) sD10_copy_43 sM10_192 sOC113 rfl rfl rfl (by decide) (Nat.le_of_ble_eq_true rfl) (cC_isMissing2 _ m hx) (fun ho43 => ?_)
          refine sd_bif_ne (tgt := 57) sD10_copy_46 (by decide) (fun zc46 => ?_) (fun zc46 => ?_)
          ·
            refine sd_aload_n sD10_copy_57 rfl ?_
            refine sd_ldc (z := -1000006) sD10_copy_58 sK10_196 (by decide) ?_
            refine sd_callV (as := [.inl (-1000006)]) (st := []) sD10_copy_60 sM10_52 rfl rfl sOC120 rfl (by decide) (Nat.le_of_ble_eq_true rfl) (cC_found (-1000006) 5 (by decide) (by decide) _ m hx (hF 5 (by decide))) (fun r m hq ho60 hm => ?_)
            obtain ⟨rfl, hx⟩ := hq
            show sd_Wp sd_SC 2 sY10_copy 63 [some (.inr 120), some (.inl 2), some (.inl f), some (.inl 2), some (.inl g), some (.inl n), some (.inr 113), some (.inr 113)] [.inl (-1000006)] m _
            refine sd_ireturn sD10_copy_63 rfl (fun hr hm => ?_)
            first | (exfalso; omega) | exact sd_done (by unfold spC_copy sp_cpy; (try simp only [Int.reduceToNat, Nat.reduceAdd, Nat.reduceMul, Nat.add_zero, not_true_eq_false, ↓reduceIte]); ((repeat (first | rw [if_pos (by first | assumption | omega)] | rw [if_neg (by first | assumption | omega)])); try rfl)) hx
          ·
            refine sd_aload sD10_copy_49 rfl ?_
            refine sd_callVp (as := []) (st := []) (v := .inl (sd_b (x 4252 = 0))) sD10_copy_51 sM10_192 sOC113 rfl rfl rfl (by decide) (Nat.le_of_ble_eq_true rfl) (cC_isMissing2 _ m hx) (fun ho51 => ?_)
            refine sd_bif_eq (tgt := 64) sD10_copy_54 (by decide) (fun zc54 => ?_) (fun zc54 => ?_)
            ·
              refine sd_aload sD10_copy_64 rfl ?_
              refine sd_getfx (v := x 4252) hx sD10_copy_66 sF10_362 sGC113_0 (by decide) rfl ?_
              refine sd_aload sD10_copy_69 rfl ?_
              refine sd_getfx (v := x 4252) hx sD10_copy_71 sF10_362 sGC113_0 (by decide) rfl ?_
              refine sd_icmp_eq (tgt := 85) sD10_copy_74 (by decide) (fun zc74 => ?_) (fun zc74 => ?_)
              ·
                refine sd_aload sD10_copy_85 rfl ?_
                refine sd_iload_n sD10_copy_87 rfl ?_
                refine sd_iload sD10_copy_88 rfl ?_
                refine sd_callVp (as := [.inl f, .inl n]) (st := []) (v := .inl (sd_b (0 ≤ f ∧ 0 ≤ n ∧ f ≤ x 8102 ∧ n ≤ x 8102 - f))) sD10_copy_90 sM10_366 sOC113 rfl rfl rfl (by decide) (Nat.le_of_ble_eq_true rfl) (cC_hasNumbers2 f n _ m hx (by omega)) (fun ho90 => ?_)
                refine sd_bif_eq (tgt := 108) sD10_copy_93 (by decide) (fun zc93 => ?_) (fun zc93 => ?_)
                ·
                  refine sd_aload_n sD10_copy_108 rfl ?_
                  refine sd_ldc (z := -1000001) sD10_copy_109 sK10_51 (by decide) ?_
                  refine sd_callV (as := [.inl (-1000001)]) (st := []) sD10_copy_111 sM10_52 rfl rfl sOC120 rfl (by decide) (Nat.le_of_ble_eq_true rfl) (cC_found (-1000001) 0 (by decide) (by decide) _ m hx (hF 0 (by decide))) (fun r m hq ho111 hm => ?_)
                  obtain ⟨rfl, hx⟩ := hq
                  show sd_Wp sd_SC 2 sY10_copy 114 [some (.inr 120), some (.inl 2), some (.inl f), some (.inl 2), some (.inl g), some (.inl n), some (.inr 113), some (.inr 113)] [.inl (-1000001)] m _
                  refine sd_ireturn sD10_copy_114 rfl (fun hr hm => ?_)
                  first | (exfalso; omega) | exact sd_done (by unfold spC_copy sp_cpy; (try simp only [Int.reduceToNat, Nat.reduceAdd, Nat.reduceMul, Nat.add_zero, not_true_eq_false, ↓reduceIte]); ((repeat (first | rw [if_pos (by first | assumption | omega)] | rw [if_neg (by first | assumption | omega)])); try rfl)) hx
                ·
                  refine sd_aload sD10_copy_96 rfl ?_
                  refine sd_iload sD10_copy_98 rfl ?_
                  refine sd_iload sD10_copy_100 rfl ?_
                  refine sd_callVp (as := [.inl g, .inl n]) (st := []) (v := .inl (sd_b (0 ≤ g ∧ 0 ≤ n ∧ g ≤ x 8102 ∧ n ≤ x 8102 - g))) sD10_copy_102 sM10_366 sOC113 rfl rfl rfl (by decide) (Nat.le_of_ble_eq_true rfl) (cC_hasNumbers2 g n _ m hx (by omega)) (fun ho102 => ?_)
                  refine sd_bif_ne (tgt := 115) sD10_copy_105 (by decide) (fun zc105 => ?_) (fun zc105 => ?_)
                  ·
                    refine sd_aload sD10_copy_115 rfl ?_
                    refine sd_getfr sD10_copy_117 sF10_198 sGC113_2 ?_
                    refine sd_iload_n sD10_copy_120 rfl ?_
                    refine sd_aload sD10_copy_121 rfl ?_
                    refine sd_getfr sD10_copy_123 sF10_198 sGC113_2 ?_
                    refine sd_iload sD10_copy_126 rfl ?_
                    refine sd_iload sD10_copy_128 rfl ?_
                    refine sd_acopyx (sa := (8224 + f.toNat)) (da := (8224 + g.toNat)) (cnt := n.toNat) sd_sokC hx sD10_copy_130 sK10_369_ac sAC112 sAC112 (by decide) (Nat.le_of_ble_eq_true rfl) (by omega) (fun m hx => ?_)
                    refine sd_iload sD10_copy_133 rfl ?_
                    refine sd_ireturn sD10_copy_135 rfl (fun hr hm => ?_)
                    first | (exfalso; omega) | exact sd_done (by unfold spC_copy sp_cpy; (try simp only [Int.reduceToNat, Nat.reduceAdd, Nat.reduceMul, Nat.add_zero, not_true_eq_false, ↓reduceIte]); ((repeat (first | rw [if_pos (by first | assumption | omega)] | rw [if_neg (by first | assumption | omega)])); try rfl)) hx
                  ·
                    refine sd_aload_n sD10_copy_108 rfl ?_
                    refine sd_ldc (z := -1000001) sD10_copy_109 sK10_51 (by decide) ?_
                    refine sd_callV (as := [.inl (-1000001)]) (st := []) sD10_copy_111 sM10_52 rfl rfl sOC120 rfl (by decide) (Nat.le_of_ble_eq_true rfl) (cC_found (-1000001) 0 (by decide) (by decide) _ m hx (hF 0 (by decide))) (fun r m hq ho111 hm => ?_)
                    obtain ⟨rfl, hx⟩ := hq
                    show sd_Wp sd_SC 2 sY10_copy 114 [some (.inr 120), some (.inl 2), some (.inl f), some (.inl 2), some (.inl g), some (.inl n), some (.inr 113), some (.inr 113)] [.inl (-1000001)] m _
                    refine sd_ireturn sD10_copy_114 rfl (fun hr hm => ?_)
                    first | (exfalso; omega) | exact sd_done (by unfold spC_copy sp_cpy; (try simp only [Int.reduceToNat, Nat.reduceAdd, Nat.reduceMul, Nat.add_zero, not_true_eq_false, ↓reduceIte]); ((repeat (first | rw [if_pos (by first | assumption | omega)] | rw [if_neg (by first | assumption | omega)])); try rfl)) hx
              ·
                refine sd_aload_n sD10_copy_77 rfl ?_
                refine sd_ldcw (z := -1000003) sD10_copy_78 sK10_365 (by decide) ?_
                refine sd_callV (as := [.inl (-1000003)]) (st := []) sD10_copy_81 sM10_52 rfl rfl sOC120 rfl (by decide) (Nat.le_of_ble_eq_true rfl) (cC_found (-1000003) 2 (by decide) (by decide) _ m hx (hF 2 (by decide))) (fun r m hq ho81 hm => ?_)
                obtain ⟨rfl, hx⟩ := hq
                show sd_Wp sd_SC 2 sY10_copy 84 [some (.inr 120), some (.inl 2), some (.inl f), some (.inl 2), some (.inl g), some (.inl n), some (.inr 113), some (.inr 113)] [.inl (-1000003)] m _
                refine sd_ireturn sD10_copy_84 rfl (fun hr hm => ?_)
                first | (exfalso; omega) | exact sd_done (by unfold spC_copy sp_cpy; (try simp only [Int.reduceToNat, Nat.reduceAdd, Nat.reduceMul, Nat.add_zero, not_true_eq_false, ↓reduceIte]); ((repeat (first | rw [if_pos (by first | assumption | omega)] | rw [if_neg (by first | assumption | omega)])); try rfl)) hx
            ·
              refine sd_aload_n sD10_copy_57 rfl ?_
              refine sd_ldc (z := -1000006) sD10_copy_58 sK10_196 (by decide) ?_
              refine sd_callV (as := [.inl (-1000006)]) (st := []) sD10_copy_60 sM10_52 rfl rfl sOC120 rfl (by decide) (Nat.le_of_ble_eq_true rfl) (cC_found (-1000006) 5 (by decide) (by decide) _ m hx (hF 5 (by decide))) (fun r m hq ho60 hm => ?_)
              obtain ⟨rfl, hx⟩ := hq
              show sd_Wp sd_SC 2 sY10_copy 63 [some (.inr 120), some (.inl 2), some (.inl f), some (.inl 2), some (.inl g), some (.inl n), some (.inr 113), some (.inr 113)] [.inl (-1000006)] m _
              refine sd_ireturn sD10_copy_63 rfl (fun hr hm => ?_)
              first | (exfalso; omega) | exact sd_done (by unfold spC_copy sp_cpy; (try simp only [Int.reduceToNat, Nat.reduceAdd, Nat.reduceMul, Nat.add_zero, not_true_eq_false, ↓reduceIte]); ((repeat (first | rw [if_pos (by first | assumption | omega)] | rw [if_neg (by first | assumption | omega)])); try rfl)) hx
        ·
          subst zs38
          refine sd_aald (q := 115) sD10_copy_38 sBC116 (by decide) rfl ?_
          refine sd_astore (ls' := [some (.inr 120), some (.inl 2), some (.inl f), some (.inl 3), some (.inl g), some (.inl n), some (.inr 113), some (.inr 115)]) sD10_copy_39 (by decide) rfl ?_
          refine sd_aload sD10_copy_41 rfl ?_
          refine sd_callVp (as := []) (st := []) (v := .inl (sd_b (x 4252 = 0))) sD10_copy_43 sM10_192 sOC113 rfl rfl rfl (by decide) (Nat.le_of_ble_eq_true rfl) (cC_isMissing2 _ m hx) (fun ho43 => ?_)
          refine sd_bif_ne (tgt := 57) sD10_copy_46 (by decide) (fun zc46 => ?_) (fun zc46 => ?_)
          ·
            refine sd_aload_n sD10_copy_57 rfl ?_
            refine sd_ldc (z := -1000006) sD10_copy_58 sK10_196 (by decide) ?_
            refine sd_callV (as := [.inl (-1000006)]) (st := []) sD10_copy_60 sM10_52 rfl rfl sOC120 rfl (by decide) (Nat.le_of_ble_eq_true rfl) (cC_found (-1000006) 5 (by decide) (by decide) _ m hx (hF 5 (by decide))) (fun r m hq ho60 hm => ?_)
            obtain ⟨rfl, hx⟩ := hq
            show sd_Wp sd_SC 2 sY10_copy 63 [some (.inr 120), some (.inl 2), some (.inl f), some (.inl 3), some (.inl g), some (.inl n), some (.inr 113), some (.inr 115)] [.inl (-1000006)] m _
            refine sd_ireturn sD10_copy_63 rfl (fun hr hm => ?_)
            first | (exfalso; omega) | exact sd_done (by unfold spC_copy sp_cpy; (try simp only [Int.reduceToNat, Nat.reduceAdd, Nat.reduceMul, Nat.add_zero, not_true_eq_false, ↓reduceIte]); ((repeat (first | rw [if_pos (by first | assumption | omega)] | rw [if_neg (by first | assumption | omega)])); try rfl)) hx
          ·
            refine sd_aload sD10_copy_49 rfl ?_
            refine sd_callVp (as := []) (st := []) (v := .inl (sd_b (x 4253 = 0))) sD10_copy_51 sM10_192 sOC115 rfl rfl rfl (by decide) (Nat.le_of_ble_eq_true rfl) (cC_isMissing3 _ m hx) (fun ho51 => ?_)
            refine sd_bif_eq (tgt := 64) sD10_copy_54 (by decide) (fun zc54 => ?_) (fun zc54 => ?_)
            ·
              refine sd_aload sD10_copy_64 rfl ?_
              refine sd_getfx (v := x 4252) hx sD10_copy_66 sF10_362 sGC113_0 (by decide) rfl ?_
              refine sd_aload sD10_copy_69 rfl ?_
              refine sd_getfx (v := x 4253) hx sD10_copy_71 sF10_362 sGC115_0 (by decide) rfl ?_
              refine sd_icmp_eq (tgt := 85) sD10_copy_74 (by decide) (fun zc74 => ?_) (fun zc74 => ?_)
              ·
                refine sd_aload sD10_copy_85 rfl ?_
                refine sd_iload_n sD10_copy_87 rfl ?_
                refine sd_iload sD10_copy_88 rfl ?_
                refine sd_callVp (as := [.inl f, .inl n]) (st := []) (v := .inl (sd_b (0 ≤ f ∧ 0 ≤ n ∧ f ≤ x 8102 ∧ n ≤ x 8102 - f))) sD10_copy_90 sM10_366 sOC113 rfl rfl rfl (by decide) (Nat.le_of_ble_eq_true rfl) (cC_hasNumbers2 f n _ m hx (by omega)) (fun ho90 => ?_)
                refine sd_bif_eq (tgt := 108) sD10_copy_93 (by decide) (fun zc93 => ?_) (fun zc93 => ?_)
                ·
                  refine sd_aload_n sD10_copy_108 rfl ?_
                  refine sd_ldc (z := -1000001) sD10_copy_109 sK10_51 (by decide) ?_
                  refine sd_callV (as := [.inl (-1000001)]) (st := []) sD10_copy_111 sM10_52 rfl rfl sOC120 rfl (by decide) (Nat.le_of_ble_eq_true rfl) (cC_found (-1000001) 0 (by decide) (by decide) _ m hx (hF 0 (by decide))) (fun r m hq ho111 hm => ?_)
                  obtain ⟨rfl, hx⟩ := hq
                  show sd_Wp sd_SC 2 sY10_copy 114 [some (.inr 120), some (.inl 2), some (.inl f), some (.inl 3), some (.inl g), some (.inl n), some (.inr 113), some (.inr 115)] [.inl (-1000001)] m _
                  refine sd_ireturn sD10_copy_114 rfl (fun hr hm => ?_)
                  first | (exfalso; omega) | exact sd_done (by unfold spC_copy sp_cpy; (try simp only [Int.reduceToNat, Nat.reduceAdd, Nat.reduceMul, Nat.add_zero, not_true_eq_false, ↓reduceIte]); ((repeat (first | rw [if_pos (by first | assumption | omega)] | rw [if_neg (by first | assumption | omega)])); try rfl)) hx
                ·
                  refine sd_aload sD10_copy_96 rfl ?_
                  refine sd_iload sD10_copy_98 rfl ?_
                  refine sd_iload sD10_copy_100 rfl ?_
                  refine sd_callVp (as := [.inl g, .inl n]) (st := []) (v := .inl (sd_b (0 ≤ g ∧ 0 ≤ n ∧ g ≤ x 8103 ∧ n ≤ x 8103 - g))) sD10_copy_102 sM10_366 sOC115 rfl rfl rfl (by decide) (Nat.le_of_ble_eq_true rfl) (cC_hasNumbers3 g n _ m hx (by omega)) (fun ho102 => ?_)
                  refine sd_bif_ne (tgt := 115) sD10_copy_105 (by decide) (fun zc105 => ?_) (fun zc105 => ?_)
                  ·
                    refine sd_aload sD10_copy_115 rfl ?_
                    refine sd_getfr sD10_copy_117 sF10_198 sGC113_2 ?_
                    refine sd_iload_n sD10_copy_120 rfl ?_
                    refine sd_aload sD10_copy_121 rfl ?_
                    refine sd_getfr sD10_copy_123 sF10_198 sGC115_2 ?_
                    refine sd_iload sD10_copy_126 rfl ?_
                    refine sd_iload sD10_copy_128 rfl ?_
                    refine sd_acopyx (sa := (8224 + f.toNat)) (da := (8236 + g.toNat)) (cnt := n.toNat) sd_sokC hx sD10_copy_130 sK10_369_ac sAC112 sAC114 (by decide) (Nat.le_of_ble_eq_true rfl) (by omega) (fun m hx => ?_)
                    refine sd_iload sD10_copy_133 rfl ?_
                    refine sd_ireturn sD10_copy_135 rfl (fun hr hm => ?_)
                    first | (exfalso; omega) | exact sd_done (by unfold spC_copy sp_cpy; (try simp only [Int.reduceToNat, Nat.reduceAdd, Nat.reduceMul, Nat.add_zero, not_true_eq_false, ↓reduceIte]); ((repeat (first | rw [if_pos (by first | assumption | omega)] | rw [if_neg (by first | assumption | omega)])); try rfl)) hx
                  ·
                    refine sd_aload_n sD10_copy_108 rfl ?_
                    refine sd_ldc (z := -1000001) sD10_copy_109 sK10_51 (by decide) ?_
                    refine sd_callV (as := [.inl (-1000001)]) (st := []) sD10_copy_111 sM10_52 rfl rfl sOC120 rfl (by decide) (Nat.le_of_ble_eq_true rfl) (cC_found (-1000001) 0 (by decide) (by decide) _ m hx (hF 0 (by decide))) (fun r m hq ho111 hm => ?_)
                    obtain ⟨rfl, hx⟩ := hq
                    show sd_Wp sd_SC 2 sY10_copy 114 [some (.inr 120), some (.inl 2), some (.inl f), some (.inl 3), some (.inl g), some (.inl n), some (.inr 113), some (.inr 115)] [.inl (-1000001)] m _
                    refine sd_ireturn sD10_copy_114 rfl (fun hr hm => ?_)
                    first | (exfalso; omega) | exact sd_done (by unfold spC_copy sp_cpy; (try simp only [Int.reduceToNat, Nat.reduceAdd, Nat.reduceMul, Nat.add_zero, not_true_eq_false, ↓reduceIte]); ((repeat (first | rw [if_pos (by first | assumption | omega)] | rw [if_neg (by first | assumption | omega)])); try rfl)) hx
              ·
                refine sd_aload_n sD10_copy_77 rfl ?_
                refine sd_ldcw (z := -1000003) sD10_copy_78 sK10_365 (by decide) ?_
                refine sd_callV (as := [.inl (-1000003)]) (st := []) sD10_copy_81 sM10_52 rfl rfl sOC120 rfl (by decide) (Nat.le_of_ble_eq_true rfl) (cC_found (-1000003) 2 (by decide) (by decide) _ m hx (hF 2 (by decide))) (fun r m hq ho81 hm => ?_)
                obtain ⟨rfl, hx⟩ := hq
                show sd_Wp sd_SC 2 sY10_copy 84 [some (.inr 120), some (.inl 2), some (.inl f), some (.inl 3), some (.inl g), some (.inl n), some (.inr 113), some (.inr 115)] [.inl (-1000003)] m _
                refine sd_ireturn sD10_copy_84 rfl (fun hr hm => ?_)
                first | (exfalso; omega) | exact sd_done (by unfold spC_copy sp_cpy; (try simp only [Int.reduceToNat, Nat.reduceAdd, Nat.reduceMul, Nat.add_zero, not_true_eq_false, ↓reduceIte]); ((repeat (first | rw [if_pos (by first | assumption | omega)] | rw [if_neg (by first | assumption | omega)])); try rfl)) hx
            ·
              refine sd_aload_n sD10_copy_57 rfl ?_
              refine sd_ldc (z := -1000006) sD10_copy_58 sK10_196 (by decide) ?_
              refine sd_callV (as := [.inl (-1000006)]) (st := []) sD10_copy_60 sM10_52 rfl rfl sOC120 rfl (by decide) (Nat.le_of_ble_eq_true rfl) (cC_found (-1000006) 5 (by decide) (by decide) _ m hx (hF 5 (by decide))) (fun r m hq ho60 hm => ?_)
              obtain ⟨rfl, hx⟩ := hq
              show sd_Wp sd_SC 2 sY10_copy 63 [some (.inr 120), some (.inl 2), some (.inl f), some (.inl 3), some (.inl g), some (.inl n), some (.inr 113), some (.inr 115)] [.inl (-1000006)] m _
              refine sd_ireturn sD10_copy_63 rfl (fun hr hm => ?_)
              first | (exfalso; omega) | exact sd_done (by unfold spC_copy sp_cpy; (try simp only [Int.reduceToNat, Nat.reduceAdd, Nat.reduceMul, Nat.add_zero, not_true_eq_false, ↓reduceIte]); ((repeat (first | rw [if_pos (by first | assumption | omega)] | rw [if_neg (by first | assumption | omega)])); try rfl)) hx
      ·
        subst zs30
        refine sd_aald (q := 115) sD10_copy_30 sBC116 (by decide) rfl ?_
        refine sd_astore (ls' := [some (.inr 120), some (.inl 3), some (.inl f), some (.inl t), some (.inl g), some (.inl n), some (.inr 115), none]) sD10_copy_31 (by decide) rfl ?_
        refine sd_aload_n sD10_copy_33 rfl ?_
        refine sd_getfr sD10_copy_34 sF10_21 sGC120_2 ?_
        refine sd_iload_n sD10_copy_37 rfl ?_
        rcases (show t = 0 ∨ t = 1 ∨ t = 2 ∨ t = 3 by omega) with zs38 | zs38 | zs38 | zs38
        ·
          subst zs38
          refine sd_aald (q := 109) sD10_copy_38 sBC116 (by decide) rfl ?_
          refine sd_astore (ls' := [some (.inr 120), some (.inl 3), some (.inl f), some (.inl 0), some (.inl g), some (.inl n), some (.inr 115), some (.inr 109)]) sD10_copy_39 (by decide) rfl ?_
          refine sd_aload sD10_copy_41 rfl ?_
          refine sd_callVp (as := []) (st := []) (v := .inl (sd_b (x 4253 = 0))) sD10_copy_43 sM10_192 sOC115 rfl rfl rfl (by decide) (Nat.le_of_ble_eq_true rfl) (cC_isMissing3 _ m hx) (fun ho43 => ?_)
          refine sd_bif_ne (tgt := 57) sD10_copy_46 (by decide) (fun zc46 => ?_) (fun zc46 => ?_)
          ·
            refine sd_aload_n sD10_copy_57 rfl ?_
            refine sd_ldc (z := -1000006) sD10_copy_58 sK10_196 (by decide) ?_
            refine sd_callV (as := [.inl (-1000006)]) (st := []) sD10_copy_60 sM10_52 rfl rfl sOC120 rfl (by decide) (Nat.le_of_ble_eq_true rfl) (cC_found (-1000006) 5 (by decide) (by decide) _ m hx (hF 5 (by decide))) (fun r m hq ho60 hm => ?_)
            obtain ⟨rfl, hx⟩ := hq
            show sd_Wp sd_SC 2 sY10_copy 63 [some (.inr 120), some (.inl 3), some (.inl f), some (.inl 0), some (.inl g), some (.inl n), some (.inr 115), some (.inr 109)] [.inl (-1000006)] m _
            refine sd_ireturn sD10_copy_63 rfl (fun hr hm => ?_)
            first | (exfalso; omega) | exact sd_done (by unfold spC_copy sp_cpy; (try simp only [Int.reduceToNat, Nat.reduceAdd, Nat.reduceMul, Nat.add_zero, not_true_eq_false, ↓reduceIte]); ((repeat (first | rw [if_pos (by first | assumption | omega)] | rw [if_neg (by first | assumption | omega)])); try rfl)) hx
          ·
            refine sd_aload sD10_copy_49 rfl ?_
            refine sd_callVp (as := []) (st := []) (v := .inl (sd_b (x 4250 = 0))) sD10_copy_51 sM10_192 sOC109 rfl rfl rfl (by decide) (Nat.le_of_ble_eq_true rfl) (cC_isMissing0 _ m hx) (fun ho51 => ?_)
            refine sd_bif_eq (tgt := 64) sD10_copy_54 (by decide) (fun zc54 => ?_) (fun zc54 => ?_)
            ·
              refine sd_aload sD10_copy_64 rfl ?_
              refine sd_getfx (v := x 4253) hx sD10_copy_66 sF10_362 sGC115_0 (by decide) rfl ?_
              refine sd_aload sD10_copy_69 rfl ?_
              refine sd_getfx (v := x 4250) hx sD10_copy_71 sF10_362 sGC109_0 (by decide) rfl ?_
              refine sd_icmp_eq (tgt := 85) sD10_copy_74 (by decide) (fun zc74 => ?_) (fun zc74 => ?_)
              ·
                refine sd_aload sD10_copy_85 rfl ?_
                refine sd_iload_n sD10_copy_87 rfl ?_
                refine sd_iload sD10_copy_88 rfl ?_
                refine sd_callVp (as := [.inl f, .inl n]) (st := []) (v := .inl (sd_b (0 ≤ f ∧ 0 ≤ n ∧ f ≤ x 8103 ∧ n ≤ x 8103 - f))) sD10_copy_90 sM10_366 sOC115 rfl rfl rfl (by decide) (Nat.le_of_ble_eq_true rfl) (cC_hasNumbers3 f n _ m hx (by omega)) (fun ho90 => ?_)
                refine sd_bif_eq (tgt := 108) sD10_copy_93 (by decide) (fun zc93 => ?_) (fun zc93 => ?_)
                ·
                  refine sd_aload_n sD10_copy_108 rfl ?_
                  refine sd_ldc (z := -1000001) sD10_copy_109 sK10_51 (by decide) ?_
                  refine sd_callV (as := [.inl (-1000001)]) (st := []) sD10_copy_111 sM10_52 rfl rfl sOC120 rfl (by decide) (Nat.le_of_ble_eq_true rfl) (cC_found (-1000001) 0 (by decide) (by decide) _ m hx (hF 0 (by decide))) (fun r m hq ho111 hm => ?_)
                  obtain ⟨rfl, hx⟩ := hq
                  show sd_Wp sd_SC 2 sY10_copy 114 [some (.inr 120), some (.inl 3), some (.inl f), some (.inl 0), some (.inl g), some (.inl n), some (.inr 115), some (.inr 109)] [.inl (-1000001)] m _
                  refine sd_ireturn sD10_copy_114 rfl (fun hr hm => ?_)
                  first | (exfalso; omega) | exact sd_done (by unfold spC_copy sp_cpy; (try simp only [Int.reduceToNat, Nat.reduceAdd, Nat.reduceMul, Nat.add_zero, not_true_eq_false, ↓reduceIte]); ((repeat (first | rw [if_pos (by first | assumption | omega)] | rw [if_neg (by first | assumption | omega)])); try rfl)) hx
                ·
                  refine sd_aload sD10_copy_96 rfl ?_
                  refine sd_iload sD10_copy_98 rfl ?_
                  refine sd_iload sD10_copy_100 rfl ?_
                  refine sd_callVp (as := [.inl g, .inl n]) (st := []) (v := .inl (sd_b (0 ≤ g ∧ 0 ≤ n ∧ g ≤ x 8100 ∧ n ≤ x 8100 - g))) sD10_copy_102 sM10_366 sOC109 rfl rfl rfl (by decide) (Nat.le_of_ble_eq_true rfl) (cC_hasNumbers0 g n _ m hx (by omega)) (fun ho102 => ?_)
                  refine sd_bif_ne (tgt := 115) sD10_copy_105 (by decide) (fun zc105 => ?_) (fun zc105 => ?_)
                  ·
                    refine sd_aload sD10_copy_115 rfl ?_
                    refine sd_getfr sD10_copy_117 sF10_198 sGC115_2 ?_
                    refine sd_iload_n sD10_copy_120 rfl ?_
                    refine sd_aload sD10_copy_121 rfl ?_
                    refine sd_getfr sD10_copy_123 sF10_198 sGC109_2 ?_
                    refine sd_iload sD10_copy_126 rfl ?_
                    refine sd_iload sD10_copy_128 rfl ?_
                    refine sd_acopyx (sa := (8236 + f.toNat)) (da := (8200 + g.toNat)) (cnt := n.toNat) sd_sokC hx sD10_copy_130 sK10_369_ac sAC114 sAC108 (by decide) (Nat.le_of_ble_eq_true rfl) (by omega) (fun m hx => ?_)
                    refine sd_iload sD10_copy_133 rfl ?_
                    refine sd_ireturn sD10_copy_135 rfl (fun hr hm => ?_)
                    first | (exfalso; omega) | exact sd_done (by unfold spC_copy sp_cpy; (try simp only [Int.reduceToNat, Nat.reduceAdd, Nat.reduceMul, Nat.add_zero, not_true_eq_false, ↓reduceIte]); ((repeat (first | rw [if_pos (by first | assumption | omega)] | rw [if_neg (by first | assumption | omega)])); try rfl)) hx
                  ·
                    refine sd_aload_n sD10_copy_108 rfl ?_
                    refine sd_ldc (z := -1000001) sD10_copy_109 sK10_51 (by decide) ?_
                    refine sd_callV (as := [.inl (-1000001)]) (st := []) sD10_copy_111 sM10_52 rfl rfl sOC120 rfl (by decide) (Nat.le_of_ble_eq_true rfl) (cC_found (-1000001) 0 (by decide) (by decide) _ m hx (hF 0 (by decide))) (fun r m hq ho111 hm => ?_)
                    obtain ⟨rfl, hx⟩ := hq
                    show sd_Wp sd_SC 2 sY10_copy 114 [some (.inr 120), some (.inl 3), some (.inl f), some (.inl 0), some (.inl g), some (.inl n), some (.inr 115), some (.inr 109)] [.inl (-1000001)] m _
                    refine sd_ireturn sD10_copy_114 rfl (fun hr hm => ?_)
                    first | (exfalso; omega) | exact sd_done (by unfold spC_copy sp_cpy; (try simp only [Int.reduceToNat, Nat.reduceAdd, Nat.reduceMul, Nat.add_zero, not_true_eq_false, ↓reduceIte]); ((repeat (first | rw [if_pos (by first | assumption | omega)] | rw [if_neg (by first | assumption | omega)])); try rfl)) hx
              ·
                refine sd_aload_n sD10_copy_77 rfl ?_
                refine sd_ldcw (z := -1000003) sD10_copy_78 sK10_365 (by decide) ?_
                refine sd_callV (as := [.inl (-1000003)]) (st := []) sD10_copy_81 sM10_52 rfl rfl sOC120 rfl (by decide) (Nat.le_of_ble_eq_true rfl) (cC_found (-1000003) 2 (by decide) (by decide) _ m hx (hF 2 (by decide))) (fun r m hq ho81 hm => ?_)
                obtain ⟨rfl, hx⟩ := hq
                show sd_Wp sd_SC 2 sY10_copy 84 [some (.inr 120), some (.inl 3), some (.inl f), some (.inl 0), some (.inl g), some (.inl n), some (.inr 115), some (.inr 109)] [.inl (-1000003)] m _
                refine sd_ireturn sD10_copy_84 rfl (fun hr hm => ?_)
                first | (exfalso; omega) | exact sd_done (by unfold spC_copy sp_cpy; (try simp only [Int.reduceToNat, Nat.reduceAdd, Nat.reduceMul, Nat.add_zero, not_true_eq_false, ↓reduceIte]); ((repeat (first | rw [if_pos (by first | assumption | omega)] | rw [if_neg (by first | assumption | omega)])); try rfl)) hx
            ·
              refine sd_aload_n sD10_copy_57 rfl ?_
              refine sd_ldc (z := -1000006) sD10_copy_58 sK10_196 (by decide) ?_
              refine sd_callV (as := [.inl (-1000006)]) (st := []) sD10_copy_60 sM10_52 rfl rfl sOC120 rfl (by decide) (Nat.le_of_ble_eq_true rfl) (cC_found (-1000006) 5 (by decide) (by decide) _ m hx (hF 5 (by decide))) (fun r m hq ho60 hm => ?_)
              obtain ⟨rfl, hx⟩ := hq
              show sd_Wp sd_SC 2 sY10_copy 63 [some (.inr 120), some (.inl 3), some (.inl f), some (.inl 0), some (.inl g), some (.inl n), some (.inr 115), some (.inr 109)] [.inl (-1000006)] m _
              refine sd_ireturn sD10_copy_63 rfl (fun hr hm => ?_)
              first | (exfalso; omega) | exact sd_done (by unfold spC_copy sp_cpy; (try simp only [Int.reduceToNat, Nat.reduceAdd, Nat.reduceMul, Nat.add_zero, not_true_eq_false, ↓reduceIte]); ((repeat (first | rw [if_pos (by first | assumption | omega)] | rw [if_neg (by first | assumption | omega)])); try rfl)) hx
        ·
          subst zs38
          refine sd_aald (q := 111) sD10_copy_38 sBC116 (by decide) rfl ?_
          refine sd_astore (ls' := [some (.inr 120), some (.inl 3), some (.inl f), some (.inl 1), some (.inl g), some (.inl n), some (.inr 115), some (.inr 111)]) sD10_copy_39 (by decide) rfl ?_
          refine sd_aload sD10_copy_41 rfl ?_
          refine sd_callVp (as := []) (st := []) (v := .inl (sd_b (x 4253 = 0))) sD10_copy_43 sM10_192 sOC115 rfl rfl rfl (by decide) (Nat.le_of_ble_eq_true rfl) (cC_isMissing3 _ m hx) (fun ho43 => ?_)
          refine sd_bif_ne (tgt := 57) sD10_copy_46 (by decide) (fun zc46 => ?_) (fun zc46 => ?_)
          ·
            refine sd_aload_n sD10_copy_57 rfl ?_
            refine sd_ldc (z := -1000006) sD10_copy_58 sK10_196 (by decide) ?_
            refine sd_callV (as := [.inl (-1000006)]) (st := []) sD10_copy_60 sM10_52 rfl rfl sOC120 rfl (by decide) (Nat.le_of_ble_eq_true rfl) (cC_found (-1000006) 5 (by decide) (by decide) _ m hx (hF 5 (by decide))) (fun r m hq ho60 hm => ?_)
            obtain ⟨rfl, hx⟩ := hq
            show sd_Wp sd_SC 2 sY10_copy 63 [some (.inr 120), some (.inl 3), some (.inl f), some (.inl 1), some (.inl g), some (.inl n), some (.inr 115), some (.inr 111)] [.inl (-1000006)] m _
            refine sd_ireturn sD10_copy_63 rfl (fun hr hm => ?_)
            first | (exfalso; omega) | exact sd_done (by unfold spC_copy sp_cpy; (try simp only [Int.reduceToNat, Nat.reduceAdd, Nat.reduceMul, Nat.add_zero, not_true_eq_false, ↓reduceIte]); ((repeat (first | rw [if_pos (by first | assumption | omega)] | rw [if_neg (by first | assumption | omega)])); try rfl)) hx
          ·
            refine sd_aload sD10_copy_49 rfl ?_
            refine sd_callVp (as := []) (st := []) (v := .inl (sd_b (x 4251 = 0))) sD10_copy_51 sM10_192 sOC111 rfl rfl rfl (by decide) (Nat.le_of_ble_eq_true rfl) (cC_isMissing1 _ m hx) (fun ho51 => ?_)
            refine sd_bif_eq (tgt := 64) sD10_copy_54 (by decide) (fun zc54 => ?_) (fun zc54 => ?_)
            ·
              refine sd_aload sD10_copy_64 rfl ?_
              refine sd_getfx (v := x 4253) hx sD10_copy_66 sF10_362 sGC115_0 (by decide) rfl ?_
              refine sd_aload sD10_copy_69 rfl ?_
              refine sd_getfx (v := x 4251) hx sD10_copy_71 sF10_362 sGC111_0 (by decide) rfl ?_
              refine sd_icmp_eq (tgt := 85) sD10_copy_74 (by decide) (fun zc74 => ?_) (fun zc74 => ?_)
              ·
                refine sd_aload sD10_copy_85 rfl ?_
                refine sd_iload_n sD10_copy_87 rfl ?_
                refine sd_iload sD10_copy_88 rfl ?_
                refine sd_callVp (as := [.inl f, .inl n]) (st := []) (v := .inl (sd_b (0 ≤ f ∧ 0 ≤ n ∧ f ≤ x 8103 ∧ n ≤ x 8103 - f))) sD10_copy_90 sM10_366 sOC115 rfl rfl rfl (by decide) (Nat.le_of_ble_eq_true rfl) (cC_hasNumbers3 f n _ m hx (by omega)) (fun ho90 => ?_)
                refine sd_bif_eq (tgt := 108) sD10_copy_93 (by decide) (fun zc93 => ?_) (fun zc93 => ?_)
                ·
                  refine sd_aload_n sD10_copy_108 rfl ?_
                  refine sd_ldc (z := -1000001) sD10_copy_109 sK10_51 (by decide) ?_
                  refine sd_callV (as := [.inl (-1000001)]) (st := []) sD10_copy_111 sM10_52 rfl rfl sOC120 rfl (by decide) (Nat.le_of_ble_eq_true rfl) (cC_found (-1000001) 0 (by decide) (by decide) _ m hx (hF 0 (by decide))) (fun r m hq ho111 hm => ?_)
                  obtain ⟨rfl, hx⟩ := hq
                  show sd_Wp sd_SC 2 sY10_copy 114 [some (.inr 120), some (.inl 3), some (.inl f), some (.inl 1), some (.inl g), some (.inl n), some (.inr 115), some (.inr 111)] [.inl (-1000001)] m _
                  refine sd_ireturn sD10_copy_114 rfl (fun hr hm => ?_)
                  first | (exfalso; omega) | exact sd_done (by unfold spC_copy sp_cpy; (try simp only [Int.reduceToNat, Nat.reduceAdd, Nat.reduceMul, Nat.add_zero, not_true_eq_false, ↓reduceIte]); ((repeat (first | rw [if_pos (by first | assumption | omega)] | rw [if_neg (by first | assumption | omega)])); try rfl)) hx
                ·
                  refine sd_aload sD10_copy_96 rfl ?_
                  refine sd_iload sD10_copy_98 rfl ?_
                  refine sd_iload sD10_copy_100 rfl ?_
                  refine sd_callVp (as := [.inl g, .inl n]) (st := []) (v := .inl (sd_b (0 ≤ g ∧ 0 ≤ n ∧ g ≤ x 8101 ∧ n ≤ x 8101 - g))) sD10_copy_102 sM10_366 sOC111 rfl rfl rfl (by decide) (Nat.le_of_ble_eq_true rfl) (cC_hasNumbers1 g n _ m hx (by omega)) (fun ho102 => ?_)
                  refine sd_bif_ne (tgt := 115) sD10_copy_105 (by decide) (fun zc105 => ?_) (fun zc105 => ?_)
                  ·
                    refine sd_aload sD10_copy_115 rfl ?_
                    refine sd_getfr sD10_copy_117 sF10_198 sGC115_2 ?_
                    refine sd_iload_n sD10_copy_120 rfl ?_
                    refine sd_aload sD10_copy_121 rfl ?_
                    refine sd_getfr sD10_copy_123 sF10_198 sGC111_2 ?_
                    refine sd_iload sD10_copy_126 rfl ?_
                    refine sd_iload sD10_copy_128 rfl ?_
                    refine sd_acopyx (sa := (8236 + f.toNat)) (da := (8212 + g.toNat)) (cnt := n.toNat) sd_sokC hx sD10_copy_130 sK10_369_ac sAC114 sAC110 (by decide) (Nat.le_of_ble_eq_true rfl) (by omega) (fun m hx => ?_)
                    refine sd_iload sD10_copy_133 rfl ?_
                    refine sd_ireturn sD10_copy_135 rfl (fun hr hm => ?_)
                    first | (exfalso; omega) | exact sd_done (by unfold spC_copy sp_cpy; (try simp only [Int.reduceToNat, Nat.reduceAdd, Nat.reduceMul, Nat.add_zero, not_true_eq_false, ↓reduceIte]); ((repeat (first | rw [if_pos (by first | assumption | omega)] | rw [if_neg (by first | assumption | omega)])); try rfl)) hx
                  ·
                    refine sd_aload_n sD10_copy_108 rfl ?_
                    refine sd_ldc (z := -1000001) sD10_copy_109 sK10_51 (by decide) ?_
                    refine sd_callV (as := [.inl (-1000001)]) (st := []) sD10_copy_111 sM10_52 rfl rfl sOC120 rfl (by decide) (Nat.le_of_ble_eq_true rfl) (cC_found (-1000001) 0 (by decide) (by decide) _ m hx (hF 0 (by decide))) (fun r m hq ho111 hm => ?_)
                    obtain ⟨rfl, hx⟩ := hq
                    show sd_Wp sd_SC 2 sY10_copy 114 [some (.inr 120), some (.inl 3), some (.inl f), some (.inl 1), some (.inl g), some (.inl n), some (.inr 115), some (.inr 111)] [.inl (-1000001)] m _
                    refine sd_ireturn sD10_copy_114 rfl (fun hr hm => ?_)
                    first | (exfalso; omega) | exact sd_done (by unfold spC_copy sp_cpy; (try simp only [Int.reduceToNat, Nat.reduceAdd, Nat.reduceMul, Nat.add_zero, not_true_eq_false, ↓reduceIte]); ((repeat (first | rw [if_pos (by first | assumption | omega)] | rw [if_neg (by first | assumption | omega)])); try rfl)) hx
              ·
                refine sd_aload_n sD10_copy_77 rfl ?_
                refine sd_ldcw (z := -1000003) sD10_copy_78 sK10_365 (by decide) ?_
                refine sd_callV (as := [.inl (-1000003)]) (st := []) sD10_copy_81 sM10_52 rfl rfl sOC120 rfl (by decide) (Nat.le_of_ble_eq_true rfl) (cC_found (-1000003) 2 (by decide) (by decide) _ m hx (hF 2 (by decide))) (fun r m hq ho81 hm => ?_)
                obtain ⟨rfl, hx⟩ := hq
                show sd_Wp sd_SC 2 sY10_copy 84 [some (.inr 120), some (.inl 3), some (.inl f), some (.inl 1), some (.inl g), some (.inl n), some (.inr 115), some (.inr 111)] [.inl (-1000003)] m _
                refine sd_ireturn sD10_copy_84 rfl (fun hr hm => ?_)
                first | (exfalso; omega) | exact sd_done (by unfold spC_copy sp_cpy; (try simp only [Int.reduceToNat, Nat.reduceAdd, Nat.reduceMul, Nat.add_zero, not_true_eq_false, ↓reduceIte]); ((repeat (first | rw [if_pos (by first | assumption | omega)] | rw [if_neg (by first | assumption | omega)])); try rfl)) hx
            ·
              refine sd_aload_n sD10_copy_57 rfl ?_
              refine sd_ldc (z := -1000006) sD10_copy_58 sK10_196 (by decide) ?_
              refine sd_callV (as := [.inl (-1000006)]) (st := []) sD10_copy_60 sM10_52 rfl rfl sOC120 rfl (by decide) (Nat.le_of_ble_eq_true rfl) (cC_found (-1000006) 5 (by decide) (by decide) _ m hx (hF 5 (by decide))) (fun r m hq ho60 hm => ?_)
              obtain ⟨rfl, hx⟩ := hq
              show sd_Wp sd_SC 2 sY10_copy 63 [some (.inr 120), some (.inl 3), some (.inl f), some (.inl 1), some (.inl g), some (.inl n), some (.inr 115), some (.inr 111)] [.inl (-1000006)] m _
              refine sd_ireturn sD10_copy_63 rfl (fun hr hm => ?_)
              first | (exfalso; omega) | exact sd_done (by unfold spC_copy sp_cpy; (try simp only [Int.reduceToNat, Nat.reduceAdd, Nat.reduceMul, Nat.add_zero, not_true_eq_false, ↓reduceIte]); ((repeat (first | rw [if_pos (by first | assumption | omega)] | rw [if_neg (by first | assumption | omega)])); try rfl)) hx
        ·
          subst zs38
          refine sd_aald (q := 113) sD10_copy_38 sBC116 (by decide) rfl ?_
          refine sd_astore (ls' := [some (.inr 120), some (.inl 3), some (.inl f), some (.inl 2), some (.inl g), some (.inl n), some (.inr 115), some (.inr 113)]) sD10_copy_39 (by decide) rfl ?_
          refine sd_aload sD10_copy_41 rfl ?_
          refine sd_callVp (as := []) (st := []) (v := .inl (sd_b (x 4253 = 0))) sD10_copy_43 sM10_192 sOC115 rfl rfl rfl (by decide) (Nat.le_of_ble_eq_true rfl) (cC_isMissing3 _ m hx) (fun ho43 => ?_)
          refine sd_bif_ne (tgt := 57) sD10_copy_46 (by decide) (fun zc46 => ?_) (fun zc46 => ?_)
          ·
            refine sd_aload_n sD10_copy_57 rfl ?_
            refine sd_ldc (z := -1000006) sD10_copy_58 sK10_196 (by decide) ?_
            refine sd_callV (as := [.inl (-1000006)]) (st := []) sD10_copy_60 sM10_52 rfl rfl sOC120 rfl (by decide) (Nat.le_of_ble_eq_true rfl) (cC_found (-1000006) 5 (by decide) (by decide) _ m hx (hF 5 (by decide))) (fun r m hq ho60 hm => ?_)
            obtain ⟨rfl, hx⟩ := hq
            show sd_Wp sd_SC 2 sY10_copy 63 [some (.inr 120), some (.inl 3), some (.inl f), some (.inl 2), some (.inl g), some (.inl n), some (.inr 115), some (.inr 113)] [.inl (-1000006)] m _
            refine sd_ireturn sD10_copy_63 rfl (fun hr hm => ?_)
            first | (exfalso; omega) | exact sd_done (by unfold spC_copy sp_cpy; (try simp only [Int.reduceToNat, Nat.reduceAdd, Nat.reduceMul, Nat.add_zero, not_true_eq_false, ↓reduceIte]); ((repeat (first | rw [if_pos (by first | assumption | omega)] | rw [if_neg (by first | assumption | omega)])); try rfl)) hx
          ·
            refine sd_aload sD10_copy_49 rfl ?_
            refine sd_callVp (as := []) (st := []) (v := .inl (sd_b (x 4252 = 0))) sD10_copy_51 sM10_192 sOC113 rfl rfl rfl (by decide) (Nat.le_of_ble_eq_true rfl) (cC_isMissing2 _ m hx) (fun ho51 => ?_)
            refine sd_bif_eq (tgt := 64) sD10_copy_54 (by decide) (fun zc54 => ?_) (fun zc54 => ?_)
            ·
              refine sd_aload sD10_copy_64 rfl ?_
              refine sd_getfx (v := x 4253) hx sD10_copy_66 sF10_362 sGC115_0 (by decide) rfl ?_
              refine sd_aload sD10_copy_69 rfl ?_
              refine sd_getfx (v := x 4252) hx sD10_copy_71 sF10_362 sGC113_0 (by decide) rfl ?_
              refine sd_icmp_eq (tgt := 85) sD10_copy_74 (by decide) (fun zc74 => ?_) (fun zc74 => ?_)
              ·
                refine sd_aload sD10_copy_85 rfl ?_
                refine sd_iload_n sD10_copy_87 rfl ?_
                refine sd_iload sD10_copy_88 rfl ?_
                refine sd_callVp (as := [.inl f, .inl n]) (st := []) (v := .inl (sd_b (0 ≤ f ∧ 0 ≤ n ∧ f ≤ x 8103 ∧ n ≤ x 8103 - f))) sD10_copy_90 sM10_366 sOC115 rfl rfl rfl (by decide) (Nat.le_of_ble_eq_true rfl) (cC_hasNumbers3 f n _ m hx (by omega)) (fun ho90 => ?_)
                refine sd_bif_eq (tgt := 108) sD10_copy_93 (by decide) (fun zc93 => ?_) (fun zc93 => ?_)
                ·
                  refine sd_aload_n sD10_copy_108 rfl ?_
                  refine sd_ldc (z := -1000001) sD10_copy_109 sK10_51 (by decide) ?_
                  refine sd_callV (as := [.inl (-1000001)]) (st := []) sD10_copy_111 sM10_52 rfl rfl sOC120 rfl (by decide) (Nat.le_of_ble_eq_true rfl) (cC_found (-1000001) 0 (by decide) (by decide) _ m hx (hF 0 (by decide))) (fun r m hq ho111 hm => ?_)
                  obtain ⟨rfl, hx⟩ := hq
                  show sd_Wp sd_SC 2 sY10_copy 114 [some (.inr 120), some (.inl 3), some (.inl f), some (.inl 2), some (.inl g), some (.inl n), some (.inr 115), some (.inr 113)] [.inl (-1000001)] m _
                  refine sd_ireturn sD10_copy_114 rfl (fun hr hm => ?_)
                  first | (exfalso; omega) | exact sd_done (by unfold spC_copy sp_cpy; (try simp only [Int.reduceToNat, Nat.reduceAdd, Nat.reduceMul, Nat.add_zero, not_true_eq_false, ↓reduceIte]); ((repeat (first | rw [if_pos (by first | assumption | omega)] | rw [if_neg (by first | assumption | omega)])); try rfl)) hx
                ·
                  refine sd_aload sD10_copy_96 rfl ?_
                  refine sd_iload sD10_copy_98 rfl ?_
                  refine sd_iload sD10_copy_100 rfl ?_
                  refine sd_callVp (as := [.inl g, .inl n]) (st := []) (v := .inl (sd_b (0 ≤ g ∧ 0 ≤ n ∧ g ≤ x 8102 ∧ n ≤ x 8102 - g))) sD10_copy_102 sM10_366 sOC113 rfl rfl rfl (by decide) (Nat.le_of_ble_eq_true rfl) (cC_hasNumbers2 g n _ m hx (by omega)) (fun ho102 => ?_)
                  refine sd_bif_ne (tgt := 115) sD10_copy_105 (by decide) (fun zc105 => ?_) (fun zc105 => ?_)
                  ·
                    refine sd_aload sD10_copy_115 rfl ?_
                    refine sd_getfr sD10_copy_117 sF10_198 sGC115_2 ?_
                    refine sd_iload_n sD10_copy_120 rfl ?_
                    refine sd_aload sD10_copy_121 rfl ?_
                    refine sd_getfr sD10_copy_123 sF10_198 sGC113_2 ?_
                    refine sd_iload sD10_copy_126 rfl ?_
                    refine sd_iload sD10_copy_128 rfl ?_
                    refine sd_acopyx (sa := (8236 + f.toNat)) (da := (8224 + g.toNat)) (cnt := n.toNat) sd_sokC hx sD10_copy_130 sK10_369_ac sAC114 sAC112 (by decide) (Nat.le_of_ble_eq_true rfl) (by omega) (fun m hx => ?_)
                    refine sd_iload sD10_copy_133 rfl ?_
                    refine sd_ireturn sD10_copy_135 rfl (fun hr hm => ?_)
                    first | (exfalso; omega) | exact sd_done (by unfold spC_copy sp_cpy; (try simp only [Int.reduceToNat, Nat.reduceAdd, Nat.reduceMul, Nat.add_zero, not_true_eq_false, ↓reduceIte]); ((repeat (first | rw [if_pos (by first | assumption | omega)] | rw [if_neg (by first | assumption | omega)])); try rfl)) hx
                  ·
                    refine sd_aload_n sD10_copy_108 rfl ?_
                    refine sd_ldc (z := -1000001) sD10_copy_109 sK10_51 (by decide) ?_
                    refine sd_callV (as := [.inl (-1000001)]) (st := []) sD10_copy_111 sM10_52 rfl rfl sOC120 rfl (by decide) (Nat.le_of_ble_eq_true rfl) (cC_found (-1000001) 0 (by decide) (by decide) _ m hx (hF 0 (by decide))) (fun r m hq ho111 hm => ?_)
                    obtain ⟨rfl, hx⟩ := hq
                    show sd_Wp sd_SC 2 sY10_copy 114 [some (.inr 120), some (.inl 3), some (.inl f), some (.inl 2), some (.inl g), some (.inl n), some (.inr 115), some (.inr 113)] [.inl (-1000001)] m _
                    refine sd_ireturn sD10_copy_114 rfl (fun hr hm => ?_)
                    first | (exfalso; omega) | exact sd_done (by unfold spC_copy sp_cpy; (try simp only [Int.reduceToNat, Nat.reduceAdd, Nat.reduceMul, Nat.add_zero, not_true_eq_false, ↓reduceIte]); ((repeat (first | rw [if_pos (by first | assumption | omega)] | rw [if_neg (by first | assumption | omega)])); try rfl)) hx
              ·
                refine sd_aload_n sD10_copy_77 rfl ?_
                refine sd_ldcw (z := -1000003) sD10_copy_78 sK10_365 (by decide) ?_
                refine sd_callV (as := [.inl (-1000003)]) (st := []) sD10_copy_81 sM10_52 rfl rfl sOC120 rfl (by decide) (Nat.le_of_ble_eq_true rfl) (cC_found (-1000003) 2 (by decide) (by decide) _ m hx (hF 2 (by decide))) (fun r m hq ho81 hm => ?_)
                obtain ⟨rfl, hx⟩ := hq
                show sd_Wp sd_SC 2 sY10_copy 84 [some (.inr 120), some (.inl 3), some (.inl f), some (.inl 2), some (.inl g), some (.inl n), some (.inr 115), some (.inr 113)] [.inl (-1000003)] m _
                refine sd_ireturn sD10_copy_84 rfl (fun hr hm => ?_)
                first | (exfalso; omega) | exact sd_done (by unfold spC_copy sp_cpy; (try simp only [Int.reduceToNat, Nat.reduceAdd, Nat.reduceMul, Nat.add_zero, not_true_eq_false, ↓reduceIte]); ((repeat (first | rw [if_pos (by first | assumption | omega)] | rw [if_neg (by first | assumption | omega)])); try rfl)) hx
            ·
              refine sd_aload_n sD10_copy_57 rfl ?_
              refine sd_ldc (z := -1000006) sD10_copy_58 sK10_196 (by decide) ?_
              refine sd_callV (as := [.inl (-1000006)]) (st := []) sD10_copy_60 sM10_52 rfl rfl sOC120 rfl (by decide) (Nat.le_of_ble_eq_true rfl) (cC_found (-1000006) 5 (by decide) (by decide) _ m hx (hF 5 (by decide))) (fun r m hq ho60 hm => ?_)
              obtain ⟨rfl, hx⟩ := hq
              show sd_Wp sd_SC 2 sY10_copy 63 [some (.inr 120), some (.inl 3), some (.inl f), some (.inl 2), some (.inl g), some (.inl n), some (.inr 115), some (.inr 113)] [.inl (-1000006)] m _
              refine sd_ireturn sD10_copy_63 rfl (fun hr hm => ?_)
              first | (exfalso; omega) | exact sd_done (by unfold spC_copy sp_cpy; (try simp only [Int.reduceToNat, Nat.reduceAdd, Nat.reduceMul, Nat.add_zero, not_true_eq_false, ↓reduceIte]); ((repeat (first | rw [if_pos (by first | assumption | omega)] | rw [if_neg (by first | assumption | omega)])); try rfl)) hx
        ·
          subst zs38
          refine sd_aald (q := 115) sD10_copy_38 sBC116 (by decide) rfl ?_
          refine sd_astore (ls' := [some (.inr 120), some (.inl 3), some (.inl f), some (.inl 3), some (.inl g), some (.inl n), some (.inr 115), some (.inr 115)]) sD10_copy_39 (by decide) rfl ?_
          refine sd_aload sD10_copy_41 rfl ?_
          refine sd_callVp (as := []) (st := []) (v := .inl (sd_b (x 4253 = 0))) sD10_copy_43 sM10_192 sOC115 rfl rfl rfl (by decide) (Nat.le_of_ble_eq_true rfl) (cC_isMissing3 _ m hx) (fun ho43 => ?_)
          refine sd_bif_ne (tgt := 57) sD10_copy_46 (by decide) (fun zc46 => ?_) (fun zc46 => ?_)
          ·
            refine sd_aload_n sD10_copy_57 rfl ?_
            refine sd_ldc (z := -1000006) sD10_copy_58 sK10_196 (by decide) ?_
            refine sd_callV (as := [.inl (-1000006)]) (st := []) sD10_copy_60 sM10_52 rfl rfl sOC120 rfl (by decide) (Nat.le_of_ble_eq_true rfl) (cC_found (-1000006) 5 (by decide) (by decide) _ m hx (hF 5 (by decide))) (fun r m hq ho60 hm => ?_)
            obtain ⟨rfl, hx⟩ := hq
            show sd_Wp sd_SC 2 sY10_copy 63 [some (.inr 120), some (.inl 3), some (.inl f), some (.inl 3), some (.inl g), some (.inl n), some (.inr 115), some (.inr 115)] [.inl (-1000006)] m _
            refine sd_ireturn sD10_copy_63 rfl (fun hr hm => ?_)
            first | (exfalso; omega) | exact sd_done (by unfold spC_copy sp_cpy; (try simp only [Int.reduceToNat, Nat.reduceAdd, Nat.reduceMul, Nat.add_zero, not_true_eq_false, ↓reduceIte]); ((repeat (first | rw [if_pos (by first | assumption | omega)] | rw [if_neg (by first | assumption | omega)])); try rfl)) hx
          ·
            refine sd_aload sD10_copy_49 rfl ?_
            refine sd_callVp (as := []) (st := []) (v := .inl (sd_b (x 4253 = 0))) sD10_copy_51 sM10_192 sOC115 rfl rfl rfl (by decide) (Nat.le_of_ble_eq_true rfl) (cC_isMissing3 _ m hx) (fun ho51 => ?_)
            refine sd_bif_eq (tgt := 64) sD10_copy_54 (by decide) (fun zc54 => ?_) (fun zc54 => ?_)
            ·
              refine sd_aload sD10_copy_64 rfl ?_
              refine sd_getfx (v := x 4253) hx sD10_copy_66 sF10_362 sGC115_0 (by decide) rfl ?_
              refine sd_aload sD10_copy_69 rfl ?_
              refine sd_getfx (v := x 4253) hx sD10_copy_71 sF10_362 sGC115_0 (by decide) rfl ?_
              refine sd_icmp_eq (tgt := 85) sD10_copy_74 (by decide) (fun zc74 => ?_) (fun zc74 => ?_)
              ·
                refine sd_aload sD10_copy_85 rfl ?_
                refine sd_iload_n sD10_copy_87 rfl ?_
                refine sd_iload sD10_copy_88 rfl ?_
                refine sd_callVp (as := [.inl f, .inl n]) (st := []) (v := .inl (sd_b (0 ≤ f ∧ 0 ≤ n ∧ f ≤ x 8103 ∧ n ≤ x 8103 - f))) sD10_copy_90 sM10_366 sOC115 rfl rfl rfl (by decide) (Nat.le_of_ble_eq_true rfl) (cC_hasNumbers3 f n _ m hx (by omega)) (fun ho90 => ?_)
                refine sd_bif_eq (tgt := 108) sD10_copy_93 (by decide) (fun zc93 => ?_) (fun zc93 => ?_)
                ·
                  refine sd_aload_n sD10_copy_108 rfl ?_
                  refine sd_ldc (z := -1000001) sD10_copy_109 sK10_51 (by decide) ?_
                  refine sd_callV (as := [.inl (-1000001)]) (st := []) sD10_copy_111 sM10_52 rfl rfl sOC120 rfl (by decide) (Nat.le_of_ble_eq_true rfl) (cC_found (-1000001) 0 (by decide) (by decide) _ m hx (hF 0 (by decide))) (fun r m hq ho111 hm => ?_)
                  obtain ⟨rfl, hx⟩ := hq
                  show sd_Wp sd_SC 2 sY10_copy 114 [some (.inr 120), some (.inl 3), some (.inl f), some (.inl 3), some (.inl g), some (.inl n), some (.inr 115), some (.inr 115)] [.inl (-1000001)] m _
                  refine sd_ireturn sD10_copy_114 rfl (fun hr hm => ?_)
                  first | (exfalso; omega) | exact sd_done (by unfold spC_copy sp_cpy; (try simp only [Int.reduceToNat, Nat.reduceAdd, Nat.reduceMul, Nat.add_zero, not_true_eq_false, ↓reduceIte]); ((repeat (first | rw [if_pos (by first | assumption | omega)] | rw [if_neg (by first | assumption | omega)])); try rfl)) hx
                ·
                  refine sd_aload sD10_copy_96 rfl ?_
                  refine sd_iload sD10_copy_98 rfl ?_
                  refine sd_iload sD10_copy_100 rfl ?_
                  refine sd_callVp (as := [.inl g, .inl n]) (st := []) (v := .inl (sd_b (0 ≤ g ∧ 0 ≤ n ∧ g ≤ x 8103 ∧ n ≤ x 8103 - g))) sD10_copy_102 sM10_366 sOC115 rfl rfl rfl (by decide) (Nat.le_of_ble_eq_true rfl) (cC_hasNumbers3 g n _ m hx (by omega)) (fun ho102 => ?_)
                  refine sd_bif_ne (tgt := 115) sD10_copy_105 (by decide) (fun zc105 => ?_) (fun zc105 => ?_)
                  ·
                    refine sd_aload sD10_copy_115 rfl ?_
                    refine sd_getfr sD10_copy_117 sF10_198 sGC115_2 ?_
                    refine sd_iload_n sD10_copy_120 rfl ?_
                    refine sd_aload sD10_copy_121 rfl ?_
                    refine sd_getfr sD10_copy_123 sF10_198 sGC115_2 ?_
                    refine sd_iload sD10_copy_126 rfl ?_
                    refine sd_iload sD10_copy_128 rfl ?_
                    refine sd_acopyx (sa := (8236 + f.toNat)) (da := (8236 + g.toNat)) (cnt := n.toNat) sd_sokC hx sD10_copy_130 sK10_369_ac sAC114 sAC114 (by decide) (Nat.le_of_ble_eq_true rfl) (by omega) (fun m hx => ?_)
                    refine sd_iload sD10_copy_133 rfl ?_
                    refine sd_ireturn sD10_copy_135 rfl (fun hr hm => ?_)
                    first | (exfalso; omega) | exact sd_done (by unfold spC_copy sp_cpy; (try simp only [Int.reduceToNat, Nat.reduceAdd, Nat.reduceMul, Nat.add_zero, not_true_eq_false, ↓reduceIte]); ((repeat (first | rw [if_pos (by first | assumption | omega)] | rw [if_neg (by first | assumption | omega)])); try rfl)) hx
                  ·
                    refine sd_aload_n sD10_copy_108 rfl ?_
                    refine sd_ldc (z := -1000001) sD10_copy_109 sK10_51 (by decide) ?_
                    refine sd_callV (as := [.inl (-1000001)]) (st := []) sD10_copy_111 sM10_52 rfl rfl sOC120 rfl (by decide) (Nat.le_of_ble_eq_true rfl) (cC_found (-1000001) 0 (by decide) (by decide) _ m hx (hF 0 (by decide))) (fun r m hq ho111 hm => ?_)
                    obtain ⟨rfl, hx⟩ := hq
                    show sd_Wp sd_SC 2 sY10_copy 114 [some (.inr 120), some (.inl 3), some (.inl f), some (.inl 3), some (.inl g), some (.inl n), some (.inr 115), some (.inr 115)] [.inl (-1000001)] m _
                    refine sd_ireturn sD10_copy_114 rfl (fun hr hm => ?_)
                    first | (exfalso; omega) | exact sd_done (by unfold spC_copy sp_cpy; (try simp only [Int.reduceToNat, Nat.reduceAdd, Nat.reduceMul, Nat.add_zero, not_true_eq_false, ↓reduceIte]); ((repeat (first | rw [if_pos (by first | assumption | omega)] | rw [if_neg (by first | assumption | omega)])); try rfl)) hx
              ·
                refine sd_aload_n sD10_copy_77 rfl ?_
                refine sd_ldcw (z := -1000003) sD10_copy_78 sK10_365 (by decide) ?_
                refine sd_callV (as := [.inl (-1000003)]) (st := []) sD10_copy_81 sM10_52 rfl rfl sOC120 rfl (by decide) (Nat.le_of_ble_eq_true rfl) (cC_found (-1000003) 2 (by decide) (by decide) _ m hx (hF 2 (by decide))) (fun r m hq ho81 hm => ?_)
                obtain ⟨rfl, hx⟩ := hq
                show sd_Wp sd_SC 2 sY10_copy 84 [some (.inr 120), some (.inl 3), some (.inl f), some (.inl 3), some (.inl g), some (.inl n), some (.inr 115), some (.inr 115)] [.inl (-1000003)] m _
                refine sd_ireturn sD10_copy_84 rfl (fun hr hm => ?_)
                first | (exfalso; omega) | exact sd_done (by unfold spC_copy sp_cpy; (try simp only [Int.reduceToNat, Nat.reduceAdd, Nat.reduceMul, Nat.add_zero, not_true_eq_false, ↓reduceIte]); ((repeat (first | rw [if_pos (by first | assumption | omega)] | rw [if_neg (by first | assumption | omega)])); try rfl)) hx
            ·
              refine sd_aload_n sD10_copy_57 rfl ?_
              refine sd_ldc (z := -1000006) sD10_copy_58 sK10_196 (by decide) ?_
              refine sd_callV (as := [.inl (-1000006)]) (st := []) sD10_copy_60 sM10_52 rfl rfl sOC120 rfl (by decide) (Nat.le_of_ble_eq_true rfl) (cC_found (-1000006) 5 (by decide) (by decide) _ m hx (hF 5 (by decide))) (fun r m hq ho60 hm => ?_)
              obtain ⟨rfl, hx⟩ := hq
              show sd_Wp sd_SC 2 sY10_copy 63 [some (.inr 120), some (.inl 3), some (.inl f), some (.inl 3), some (.inl g), some (.inl n), some (.inr 115), some (.inr 115)] [.inl (-1000006)] m _
              refine sd_ireturn sD10_copy_63 rfl (fun hr hm => ?_)
              first | (exfalso; omega) | exact sd_done (by unfold spC_copy sp_cpy; (try simp only [Int.reduceToNat, Nat.reduceAdd, Nat.reduceMul, Nat.add_zero, not_true_eq_false, ↓reduceIte]); ((repeat (first | rw [if_pos (by first | assumption | omega)] | rw [if_neg (by first | assumption | omega)])); try rfl)) hx
    ·
      refine sd_aload_n sD10_copy_18 rfl ?_
      refine sd_ldc (z := -1000001) sD10_copy_19 sK10_51 (by decide) ?_
      refine sd_callV (as := [.inl (-1000001)]) (st := []) sD10_copy_21 sM10_52 rfl rfl sOC120 rfl (by decide) (Nat.le_of_ble_eq_true rfl) (cC_found (-1000001) 0 (by decide) (by decide) _ m hx (hF 0 (by decide))) (fun r m hq ho21 hm => ?_)
      obtain ⟨rfl, hx⟩ := hq
      show sd_Wp sd_SC 2 sY10_copy 24 [some (.inr 120), some (.inl s), some (.inl f), some (.inl t), some (.inl g), some (.inl n), none, none] [.inl (-1000001)] m _
      refine sd_ireturn sD10_copy_24 rfl (fun hr hm => ?_)
      first | (exfalso; omega) | exact sd_done (by unfold spC_copy sp_cpy; (try simp only [Int.reduceToNat, Nat.reduceAdd, Nat.reduceMul, Nat.add_zero, not_true_eq_false, ↓reduceIte]); ((repeat (first | rw [if_pos (by first | assumption | omega)] | rw [if_neg (by first | assumption | omega)])); try rfl)) hx
