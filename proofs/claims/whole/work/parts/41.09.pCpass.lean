set_option maxRecDepth 100000 in
set_option maxHeartbeats 4000000 in
theorem pC_pass (h : Int) (n : Int) (x m : sd_M) (hx : sd_ns x m) (h1 : sd_I1 x) (h2 : sd_I2 x) (h4 : sd_I4 x) (h6 : sd_I6 x) (hR : sd_IR x) (hF : ∀ k : Nat, k < 7 → 0 ≤ x (4101 + k) ∧ x (4101 + k) ≤ 1000000) : sd_Ct sd_SC 4 sY10_pass [.inr 120, .inl h, .inl n] m (sd_Qp (sp_pass x h n)) := by
  refine sd_ct rfl (Nat.le_of_ble_eq_true rfl) (fun hok hm => ?_)
  obtain ⟨⟨i0, j0⟩, ⟨i1, j1⟩, ⟨i2, j2⟩, ⟨i3, j3⟩, ⟨i4, j4⟩, ⟨i5, j5⟩, ⟨i6, j6⟩, ⟨i7, j7⟩, ⟨i8, j8⟩⟩ := id h1
  have r_h : sd_R h := hok (.inl h) (by simp)
  have r_n : sd_R n := hok (.inl n) (by simp)
  show sd_Wp sd_SC 4 sY10_pass 0 [some (.inr 120), some (.inl h), some (.inl n), none] [] m _
  refine sd_iload_n sD10_pass_0 rfl ?_
  refine sd_iconst sD10_pass_1 (by decide) ?_
  refine sd_bipush sD10_pass_2 rfl (by decide) ?_
  refine sd_callSp (as := [.inl n, .inl 0, .inl 9]) (st := []) (v := .inl (sd_b (0 ≤ n ∧ n ≤ 9))) sD10_pass_4 sM10_65 rfl rfl (by decide) (Nat.le_of_ble_eq_true rfl) (cC_isWithin n 0 9 m) (fun ho4 => ?_)
  refine sd_bif_ne (tgt := 17) sD10_pass_7 (by decide) (fun zc7 => ?_) (fun zc7 => ?_)
  ·
    refine sd_aload_n sD10_pass_17 rfl ?_
    refine sd_getfr sD10_pass_18 sF10_10 sGC120_0 ?_
    refine sd_getfr sD10_pass_21 sF10_41 sGC53_2 ?_
    refine sd_iload_n sD10_pass_24 rfl ?_
    refine sd_iconst sD10_pass_25 (by decide) ?_
    refine sd_callVp (as := [.inl h, .inl 2]) (st := []) (v := .inl (sd_fo x h 2)) sD10_pass_26 sM10_69 sOC13 rfl rfl rfl (by decide) (Nat.le_of_ble_eq_true rfl) (cC_findingOf h 2 _ m hx h1 h2) (fun ho26 => ?_)
    rcases (show sd_fo x h 2 = 0 ∨ sd_fo x h 2 = -1000003 ∨ sd_fo x h 2 = -1000001 from sd_fo_or x h 2) with zf29 | zf29 | zf29
    ·
      refine sd_eqs (ls' := [some (.inr 120), some (.inl h), some (.inl n), none]) (st' := [.inl 0]) ?_ rfl (by rw [zf29])
      have zA26 := sd_foA zf29
      refine sd_istore_n (ls' := [some (.inr 120), some (.inl h), some (.inl n), some (.inl 0)]) sD10_pass_29 (by decide) rfl ?_
      refine sd_iload_n sD10_pass_30 rfl ?_
      refine sd_if_eq (tgt := 40) sD10_pass_31 (by decide) (fun zc31 => ?_) (fun zc31 => (by exfalso; omega))
      refine sd_aload_n sD10_pass_40 rfl ?_
      refine sd_getfr sD10_pass_41 sF10_10 sGC120_0 ?_
      refine sd_getfr sD10_pass_44 sF10_145 sGC53_5 ?_
      refine sd_aload_n sD10_pass_47 rfl ?_
      refine sd_getfr sD10_pass_48 sF10_10 sGC120_0 ?_
      refine sd_iconst sD10_pass_51 (by decide) ?_
      refine sd_iload_n sD10_pass_52 rfl ?_
      refine sd_callV (as := [.inl 1, .inl h]) (st := [.inr 36]) sD10_pass_53 sM10_149 rfl rfl sOC53 rfl (by decide) (Nat.le_of_ble_eq_true rfl) (cC_clauseAt 1 h _ m hx (by omega) h1 h2 h4 h6 hR) (fun r m hq ho53 hm => ?_)
      obtain ⟨rfl, hx⟩ := hq
      have zk53 := sd_clx_rng h1 hR 1 h
      show sd_Wp sd_SC 4 sY10_pass 56 [some (.inr 120), some (.inl h), some (.inl n), some (.inl 0)] [.inl (sd_clx x 1 h), .inr 36] m _
      refine sd_callVp (as := [.inl (sd_clx x 1 h)]) (st := []) (v := .inl (sd_b (sd_brs x (sd_clx x 1 h)))) sD10_pass_56 sM10_152 sOC36 rfl rfl rfl (by decide) (Nat.le_of_ble_eq_true rfl) (cC_bars (sd_clx x 1 h) _ m hx  (by omega)) (fun ho56 => ?_)
      refine sd_bif_eq (tgt := 69) sD10_pass_59 (by decide) (fun zc59 => ?_) (fun zc59 => ?_)
      ·
        refine sd_aload_n sD10_pass_69 rfl ?_
        refine sd_getfr sD10_pass_70 sF10_10 sGC120_0 ?_
        refine sd_getfr sD10_pass_73 sF10_41 sGC53_2 ?_
        refine sd_iload_n sD10_pass_76 rfl ?_
        refine sd_iload_n sD10_pass_77 rfl ?_
        refine sd_callVp (as := [.inl h, .inl n]) (st := []) (v := .inl (sd_b (x (178 + h.toNat) + n ≤ x (34 + h.toNat) ∧ x (154 + h.toNat) + n ≤ 99))) sD10_pass_78 sM10_157 sOC13 rfl rfl rfl (by decide) (Nat.le_of_ble_eq_true rfl) (cC_letsIn h n _ m hx h2 (by omega) (by omega)) (fun ho78 => ?_)
        refine sd_bif_eq (tgt := 99) sD10_pass_81 (by decide) (fun zc81 => ?_) (fun zc81 => ?_)
        ·
          refine sd_aload_n sD10_pass_99 rfl ?_
          refine sd_ldc (z := -1000007) sD10_pass_100 sK10_163 (by decide) ?_
          refine sd_callV (as := [.inl (-1000007)]) (st := []) sD10_pass_102 sM10_52 rfl rfl sOC120 rfl (by decide) (Nat.le_of_ble_eq_true rfl) (cC_found (-1000007) 6 (by decide) (by decide) _ m hx (hF 6 (by decide))) (fun r m hq ho102 hm => ?_)
          obtain ⟨rfl, hx⟩ := hq
          show sd_Wp sd_SC 4 sY10_pass 105 [some (.inr 120), some (.inl h), some (.inl n), some (.inl 0)] [.inl (-1000007)] m _
          refine sd_ireturn sD10_pass_105 rfl (fun hr hm => ?_)
          exact sd_done (by unfold sp_pass; ((repeat (first | rw [if_pos (by first | assumption | omega)] | rw [if_neg (by first | assumption | omega)] | rw [if_pos (by first | exact Or.inl (by assumption) | exact Or.inr (by assumption))] | rw [if_neg (fun q => by rcases q with q | q; omega; contradiction)])); try rfl)) hx
        ·
          refine sd_aload_n sD10_pass_84 rfl ?_
          refine sd_getfr sD10_pass_85 sF10_10 sGC120_0 ?_
          refine sd_getfr sD10_pass_88 sF10_41 sGC53_2 ?_
          refine sd_iload_n sD10_pass_91 rfl ?_
          refine sd_iload_n sD10_pass_92 rfl ?_
          refine sd_callV (as := [.inl h, .inl n]) (st := []) sD10_pass_93 sM10_160 rfl rfl sOC13 rfl (by decide) (Nat.le_of_ble_eq_true rfl) (cC_addMeals h n _ m hx (by omega) (by omega) h2) (fun r m hq ho93 hm => ?_)
          obtain ⟨rfl, hx⟩ := hq
          show sd_Wp sd_SC 4 sY10_pass 96 [some (.inr 120), some (.inl h), some (.inl n), some (.inl 0)] [.inl (x (154 + h.toNat) + n)] m _
          refine sd_goto (tgt := 105) sD10_pass_96 (by decide) ?_
          refine sd_ireturn sD10_pass_105 rfl (fun hr hm => ?_)
          exact sd_done (by unfold sp_pass; ((repeat (first | rw [if_pos (by first | assumption | omega)] | rw [if_neg (by first | assumption | omega)] | rw [if_pos (by first | exact Or.inl (by assumption) | exact Or.inr (by assumption))] | rw [if_neg (fun q => by rcases q with q | q; omega; contradiction)])); try rfl)) hx
      ·
        refine sd_aload_n sD10_pass_62 rfl ?_
        refine sd_ldc (z := -1000005) sD10_pass_63 sK10_123 (by decide) ?_
        refine sd_callV (as := [.inl (-1000005)]) (st := []) sD10_pass_65 sM10_52 rfl rfl sOC120 rfl (by decide) (Nat.le_of_ble_eq_true rfl) (cC_found (-1000005) 4 (by decide) (by decide) _ m hx (hF 4 (by decide))) (fun r m hq ho65 hm => ?_)
        obtain ⟨rfl, hx⟩ := hq
        show sd_Wp sd_SC 4 sY10_pass 68 [some (.inr 120), some (.inl h), some (.inl n), some (.inl 0)] [.inl (-1000005)] m _
        refine sd_ireturn sD10_pass_68 rfl (fun hr hm => ?_)
        exact sd_done (by unfold sp_pass; ((repeat (first | rw [if_pos (by first | assumption | omega)] | rw [if_neg (by first | assumption | omega)] | rw [if_pos (by first | exact Or.inl (by assumption) | exact Or.inr (by assumption))] | rw [if_neg (fun q => by rcases q with q | q; omega; contradiction)])); try rfl)) hx
    ·
      refine sd_eqs (ls' := [some (.inr 120), some (.inl h), some (.inl n), none]) (st' := [.inl (-1000003)]) ?_ rfl (by rw [zf29])
      have zA26 := sd_foK zf29
      refine sd_istore_n (ls' := [some (.inr 120), some (.inl h), some (.inl n), some (.inl (-1000003))]) sD10_pass_29 (by decide) rfl ?_
      refine sd_iload_n sD10_pass_30 rfl ?_
      refine sd_if_eq (tgt := 40) sD10_pass_31 (by decide) (fun zc31 => (by exfalso; omega)) (fun zc31 => ?_)
      refine sd_aload_n sD10_pass_34 rfl ?_
      refine sd_iload_n sD10_pass_35 rfl ?_
      refine sd_callV (as := [.inl (-1000003)]) (st := []) sD10_pass_36 sM10_52 rfl rfl sOC120 rfl (by decide) (Nat.le_of_ble_eq_true rfl) (cC_found (-1000003) 2 (by decide) (by decide) _ m hx (hF 2 (by decide))) (fun r m hq ho36 hm => ?_)
      obtain ⟨rfl, hx⟩ := hq
      show sd_Wp sd_SC 4 sY10_pass 39 [some (.inr 120), some (.inl h), some (.inl n), some (.inl (-1000003))] [.inl (-1000003)] m _
      refine sd_ireturn sD10_pass_39 rfl (fun hr hm => ?_)
      exact sd_done (by unfold sp_pass; ((repeat (first | rw [if_pos (by first | assumption | omega)] | rw [if_neg (by first | assumption | omega)] | rw [if_pos (by first | exact Or.inl (by assumption) | exact Or.inr (by assumption))] | rw [if_neg (fun q => by rcases q with q | q; omega; contradiction)])); try rfl)) hx
    ·
      refine sd_eqs (ls' := [some (.inr 120), some (.inl h), some (.inl n), none]) (st' := [.inl (-1000001)]) ?_ rfl (by rw [zf29])
      have zA26 := sd_foB zf29
      refine sd_istore_n (ls' := [some (.inr 120), some (.inl h), some (.inl n), some (.inl (-1000001))]) sD10_pass_29 (by decide) rfl ?_
      refine sd_iload_n sD10_pass_30 rfl ?_
      refine sd_if_eq (tgt := 40) sD10_pass_31 (by decide) (fun zc31 => (by exfalso; omega)) (fun zc31 => ?_)
      refine sd_aload_n sD10_pass_34 rfl ?_
      refine sd_iload_n sD10_pass_35 rfl ?_
      refine sd_callV (as := [.inl (-1000001)]) (st := []) sD10_pass_36 sM10_52 rfl rfl sOC120 rfl (by decide) (Nat.le_of_ble_eq_true rfl) (cC_found (-1000001) 0 (by decide) (by decide) _ m hx (hF 0 (by decide))) (fun r m hq ho36 hm => ?_)
      obtain ⟨rfl, hx⟩ := hq
      show sd_Wp sd_SC 4 sY10_pass 39 [some (.inr 120), some (.inl h), some (.inl n), some (.inl (-1000001))] [.inl (-1000001)] m _
      refine sd_ireturn sD10_pass_39 rfl (fun hr hm => ?_)
      exact sd_done (by unfold sp_pass; ((repeat (first | rw [if_pos (by first | assumption | omega)] | rw [if_neg (by first | assumption | omega)] | rw [if_pos (by first | exact Or.inl (by assumption) | exact Or.inr (by assumption))] | rw [if_neg (fun q => by rcases q with q | q; omega; contradiction)])); try rfl)) hx
  ·
    refine sd_aload_n sD10_pass_10 rfl ?_
    refine sd_ldc (z := -1000001) sD10_pass_11 sK10_51 (by decide) ?_
    refine sd_callV (as := [.inl (-1000001)]) (st := []) sD10_pass_13 sM10_52 rfl rfl sOC120 rfl (by decide) (Nat.le_of_ble_eq_true rfl) (cC_found (-1000001) 0 (by decide) (by decide) _ m hx (hF 0 (by decide))) (fun r m hq ho13 hm => ?_)
    obtain ⟨rfl, hx⟩ := hq
    show sd_Wp sd_SC 4 sY10_pass 16 [some (.inr 120), some (.inl h), some (.inl n), none] [.inl (-1000001)] m _
    refine sd_ireturn sD10_pass_16 rfl (fun hr hm => ?_)
    exact sd_done (by unfold sp_pass; ((repeat (first | rw [if_pos (by first | assumption | omega)] | rw [if_neg (by first | assumption | omega)] | rw [if_pos (by first | exact Or.inl (by assumption) | exact Or.inr (by assumption))] | rw [if_neg (fun q => by rcases q with q | q; omega; contradiction)])); try rfl)) hx
