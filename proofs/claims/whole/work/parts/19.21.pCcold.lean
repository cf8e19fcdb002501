set_option maxRecDepth 100000 in
set_option maxHeartbeats 4000000 in
theorem pC_cold (h : Int) (v : Int) (x m : sd_M) (hx : sd_ns x m) (h1 : sd_I1 x) (h2 : sd_I2 x) (hF : ∀ k : Nat, k < 7 → 0 ≤ x (4101 + k) ∧ x (4101 + k) ≤ 1000000) : sd_Ct sd_SC 3 sY10_cold [.inr 120, .inl h, .inl v] m (sd_Qp (sp_cold x h v)) := by
  refine sd_ct rfl (Nat.le_of_ble_eq_true rfl) (fun hok hm => ?_)
  obtain ⟨⟨i0, j0⟩, ⟨i1, j1⟩, ⟨i2, j2⟩, ⟨i3, j3⟩, ⟨i4, j4⟩, ⟨i5, j5⟩, ⟨i6, j6⟩, ⟨i7, j7⟩, ⟨i8, j8⟩⟩ := id h1
  have r_h : sd_R h := hok (.inl h) (by simp)
  have r_v : sd_R v := hok (.inl v) (by simp)
  show sd_Wp sd_SC 3 sY10_cold 0 [some (.inr 120), some (.inl h), some (.inl v), none] [] m _
  refine sd_iload_n sD10_cold_0 rfl ?_
  refine sd_iconst sD10_cold_1 (by decide) ?_
  refine sd_bipush sD10_cold_2 rfl (by decide) ?_
  refine sd_callSp (as := [.inl v, .inl 0, .inl 20]) (st := []) (v := .inl (sd_b (0 ≤ v ∧ v ≤ 20))) sD10_cold_4 sM10_65 rfl rfl (by decide) (Nat.le_of_ble_eq_true rfl) (cC_isWithin v 0 20 m) (fun ho4 => ?_)
  refine sd_bif_ne (tgt := 17) sD10_cold_7 (by decide) (fun zc7 => ?_) (fun zc7 => ?_)
  ·
    refine sd_aload_n sD10_cold_17 rfl ?_
    refine sd_getfr sD10_cold_18 sF10_10 sGC120_0 ?_
    refine sd_getfr sD10_cold_21 sF10_41 sGC53_2 ?_
    refine sd_iload_n sD10_cold_24 rfl ?_
    refine sd_iconst sD10_cold_25 (by decide) ?_
    refine sd_callVp (as := [.inl h, .inl 1]) (st := []) (v := .inl (sd_fo x h 1)) sD10_cold_26 sM10_69 sOC13 rfl rfl rfl (by decide) (Nat.le_of_ble_eq_true rfl) (cC_findingOf h 1 _ m hx h1 h2) (fun ho26 => ?_)
    rcases (show sd_fo x h 1 = 0 ∨ sd_fo x h 1 = -1000003 ∨ sd_fo x h 1 = -1000001 from sd_fo_or x h 1) with zf29 | zf29 | zf29
    ·
      refine sd_eqs (ls' := [some (.inr 120), some (.inl h), some (.inl v), none]) (st' := [.inl 0]) ?_ rfl (by rw [zf29])
      have zA26 := sd_foA zf29
      refine sd_istore_n (ls' := [some (.inr 120), some (.inl h), some (.inl v), some (.inl 0)]) sD10_cold_29 (by decide) rfl ?_
      refine sd_iload_n sD10_cold_30 rfl ?_
      refine sd_if_ne (tgt := 50) sD10_cold_31 (by decide) (fun zc31 => (by exfalso; omega)) (fun zc31 => ?_)
      refine sd_aload_n sD10_cold_34 rfl ?_
      refine sd_aload_n sD10_cold_35 rfl ?_
      refine sd_getfr sD10_cold_36 sF10_10 sGC120_0 ?_
      refine sd_iload_n sD10_cold_39 rfl ?_
      refine sd_iload_n sD10_cold_40 rfl ?_
      refine sd_callVp (as := [.inl h, .inl v]) (st := [.inr 120]) (v := .inl (sd_fc x h v)) sD10_cold_41 sM10_100 sOC53 rfl rfl rfl (by decide) (Nat.le_of_ble_eq_true rfl) (cC_firstCold h v _ m hx h1 h2 (by omega)) (fun ho41 => ?_)
      by_cases zo44 : sd_fc x h v = -1
      ·
        refine sd_callV (as := [.inl (sd_fc x h v)]) (st := []) sD10_cold_44 sM10_103 rfl rfl sOC120 rfl (by decide) (Nat.le_of_ble_eq_true rfl) (cC_orNone3 (sd_fc x h v) zo44 _ m hx hF) (fun r m hq ho44 hm => ?_)
        obtain ⟨rfl, hx⟩ := hq
        show sd_Wp sd_SC 3 sY10_cold 47 [some (.inr 120), some (.inl h), some (.inl v), some (.inl 0)] [.inl (-1000004)] m _
        refine sd_goto (tgt := 55) sD10_cold_47 (by decide) ?_
        refine sd_ireturn sD10_cold_55 rfl (fun hr hm => ?_)
        exact sd_done (by unfold sp_cold; ((repeat (first | rw [if_pos (by first | assumption | omega)] | rw [if_neg (by first | assumption | omega)])); try rfl)) hx
      ·
        refine sd_callV (as := [.inl (sd_fc x h v)]) (st := []) sD10_cold_44 sM10_103 rfl rfl sOC120 rfl (by decide) (Nat.le_of_ble_eq_true rfl) (cC_orNoneS (sd_fc x h v) zo44 _ m hx) (fun r m hq ho44 hm => ?_)
        obtain ⟨rfl, hx⟩ := hq
        show sd_Wp sd_SC 3 sY10_cold 47 [some (.inr 120), some (.inl h), some (.inl v), some (.inl 0)] [.inl (sd_fc x h v)] m _
        refine sd_goto (tgt := 55) sD10_cold_47 (by decide) ?_
        refine sd_ireturn sD10_cold_55 rfl (fun hr hm => ?_)
        exact sd_done (by unfold sp_cold; ((repeat (first | rw [if_pos (by first | assumption | omega)] | rw [if_neg (by first | assumption | omega)])); try rfl)) hx
    ·
      refine sd_eqs (ls' := [some (.inr 120), some (.inl h), some (.inl v), none]) (st' := [.inl (-1000003)]) ?_ rfl (by rw [zf29])
      have zA26 := sd_foK zf29
      refine sd_istore_n (ls' := [some (.inr 120), some (.inl h), some (.inl v), some (.inl (-1000003))]) sD10_cold_29 (by decide) rfl ?_
      refine sd_iload_n sD10_cold_30 rfl ?_
      refine sd_if_ne (tgt := 50) sD10_cold_31 (by decide) (fun zc31 => ?_) (fun zc31 => (by exfalso; omega))
      refine sd_aload_n sD10_cold_50 rfl ?_
      refine sd_iload_n sD10_cold_51 rfl ?_
      refine sd_callV (as := [.inl (-1000003)]) (st := []) sD10_cold_52 sM10_52 rfl rfl sOC120 rfl (by decide) (Nat.le_of_ble_eq_true rfl) (cC_found (-1000003) 2 (by decide) (by decide) _ m hx (hF 2 (by decide))) (fun r m hq ho52 hm => ?_)
      obtain ⟨rfl, hx⟩ := hq
      show sd_Wp sd_SC 3 sY10_cold 55 [some (.inr 120), some (.inl h), some (.inl v), some (.inl (-1000003))] [.inl (-1000003)] m _
      refine sd_ireturn sD10_cold_55 rfl (fun hr hm => ?_)
      exact sd_done (by unfold sp_cold; ((repeat (first | rw [if_pos (by first | assumption | omega)] | rw [if_neg (by first | assumption | omega)])); try rfl)) hx
    ·
      refine sd_eqs (ls' := [some (.inr 120), some (.inl h), some (.inl v), none]) (st' := [.inl (-1000001)]) ?_ rfl (by rw [zf29])
      have zA26 := sd_foB zf29
      refine sd_istore_n (ls' := [some (.inr 120), some (.inl h), some (.inl v), some (.inl (-1000001))]) sD10_cold_29 (by decide) rfl ?_
      refine sd_iload_n sD10_cold_30 rfl ?_
      refine sd_if_ne (tgt := 50) sD10_cold_31 (by decide) (fun zc31 => ?_) (fun zc31 => (by exfalso; omega))
      refine sd_aload_n sD10_cold_50 rfl ?_
      refine sd_iload_n sD10_cold_51 rfl ?_
      refine sd_callV (as := [.inl (-1000001)]) (st := []) sD10_cold_52 sM10_52 rfl rfl sOC120 rfl (by decide) (Nat.le_of_ble_eq_true rfl) (cC_found (-1000001) 0 (by decide) (by decide) _ m hx (hF 0 (by decide))) (fun r m hq ho52 hm => ?_)
      obtain ⟨rfl, hx⟩ := hq
      show sd_Wp sd_SC 3 sY10_cold 55 [some (.inr 120), some (.inl h), some (.inl v), some (.inl (-1000001))] [.inl (-1000001)] m _
      refine sd_ireturn sD10_cold_55 rfl (fun hr hm => ?_)
      exact sd_done (by unfold sp_cold; ((repeat (first | rw [if_pos (by first | assumption | omega)] | rw [if_neg (by first | assumption | omega)])); try rfl)) hx
  ·
    refine sd_aload_n sD10_cold_10 rfl ?_
    refine sd_ldc (z := -1000001) sD10_cold_11 sK10_51 (by decide) ?_
    refine sd_callV (as := [.inl (-1000001)]) (st := []) sD10_cold_13 sM10_52 rfl rfl sOC120 rfl (by decide) (Nat.le_of_ble_eq_true rfl) (cC_found (-1000001) 0 (by decide) (by decide) _ m hx (hF 0 (by decide))) (fun r m hq ho13 hm => ?_)
    obtain ⟨rfl, hx⟩ := hq
    show sd_Wp sd_SC 3 sY10_cold 16 [some (.inr 120), some (.inl h), some (.inl v), none] [.inl (-1000001)] m _
    refine sd_ireturn sD10_cold_16 rfl (fun hr hm => ?_)
    exact sd_done (by unfold sp_cold; ((repeat (first | rw [if_pos (by first | assumption | omega)] | rw [if_neg (by first | assumption | omega)])); try rfl)) hx
