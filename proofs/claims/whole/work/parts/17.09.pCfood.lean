set_option maxRecDepth 100000 in
set_option maxHeartbeats 4000000 in
theorem pC_food (h : Int) (x m : sd_M) (hx : sd_ns x m) (h1 : sd_I1 x) (h2 : sd_I2 x) (h3 : sd_I3 x) (h4 : sd_I4 x) (hF : ∀ k : Nat, k < 7 → 0 ≤ x (4101 + k) ∧ x (4101 + k) ≤ 1000000) : sd_Ct sd_SC 3 sY10_food [.inr 120, .inl h] m (sd_Qp (sp_food x h)) := by
  refine sd_ct rfl (Nat.le_of_ble_eq_true rfl) (fun hok hm => ?_)
  obtain ⟨⟨i0, j0⟩, ⟨i1, j1⟩, ⟨i2, j2⟩, ⟨i3, j3⟩, ⟨i4, j4⟩, ⟨i5, j5⟩, ⟨i6, j6⟩, ⟨i7, j7⟩, ⟨i8, j8⟩⟩ := id h1
  have r_h : sd_R h := hok (.inl h) (by simp)
  show sd_Wp sd_SC 3 sY10_food 0 [some (.inr 120), some (.inl h), none, none, none] [] m _
  refine sd_aload_n sD10_food_0 rfl ?_
  refine sd_getfr sD10_food_1 sF10_10 sGC120_0 ?_
  refine sd_getfr sD10_food_4 sF10_41 sGC53_2 ?_
  refine sd_iload_n sD10_food_7 rfl ?_
  refine sd_iconst sD10_food_8 (by decide) ?_
  refine sd_callVp (as := [.inl h, .inl 1]) (st := []) (v := .inl (sd_fo x h 1)) sD10_food_9 sM10_69 sOC13 rfl rfl rfl (by decide) (Nat.le_of_ble_eq_true rfl) (cC_findingOf h 1 _ m hx h1 h2) (fun ho9 => ?_)
  rcases (show sd_fo x h 1 = 0 ∨ sd_fo x h 1 = -1000003 ∨ sd_fo x h 1 = -1000001 from sd_fo_or x h 1) with zf12 | zf12 | zf12
  ·
    refine sd_eqs (ls' := [some (.inr 120), some (.inl h), none, none, none]) (st' := [.inl 0]) ?_ rfl (by rw [zf12])
    have zA9 := sd_foA zf12
    refine sd_istore_n (ls' := [some (.inr 120), some (.inl h), some (.inl 0), none, none]) sD10_food_12 (by decide) rfl ?_
    refine sd_iload_n sD10_food_13 rfl ?_
    refine sd_if_eq (tgt := 23) sD10_food_14 (by decide) (fun zc14 => ?_) (fun zc14 => (by exfalso; omega))
    refine sd_aload_n sD10_food_23 rfl ?_
    refine sd_getfr sD10_food_24 sF10_10 sGC120_0 ?_
    refine sd_iload_n sD10_food_27 rfl ?_
    refine sd_bipush sD10_food_28 rfl (by decide) ?_
    refine sd_callVp (as := [.inl h, .inl 8]) (st := []) (v := .inl (sd_rch x (sd_shl 1 h) 8)) sD10_food_30 sM10_124 sOC53 rfl rfl rfl (by decide) (Nat.le_of_ble_eq_true rfl) (cC_reachedFrom h 8 _ m hx h1 h2 h3 (by omega)) (fun ho30 => ?_)
    refine sd_istore_n (ls' := [some (.inr 120), some (.inl h), some (.inl 0), some (.inl (sd_rch x (sd_shl 1 h) 8)), none]) sD10_food_33 (by decide) rfl ?_
    refine sd_aload_n sD10_food_34 rfl ?_
    refine sd_getfr sD10_food_35 sF10_10 sGC120_0 ?_
    refine sd_getfr sD10_food_38 sF10_106 sGC53_3 ?_
    refine sd_iload_n sD10_food_41 rfl ?_
    refine sd_callVp (as := [.inl (sd_rch x (sd_shl 1 h) 8)]) (st := []) (v := .inl (sd_inS x (sd_rch x (sd_shl 1 h) 8))) sD10_food_42 sM10_164 sOC18 rfl rfl rfl (by decide) (Nat.le_of_ble_eq_true rfl) (cC_inShops (sd_rch x (sd_shl 1 h) 8) _ m hx h1 h4) (fun ho42 => ?_)
    refine sd_istore (ls' := [some (.inr 120), some (.inl h), some (.inl 0), some (.inl (sd_rch x (sd_shl 1 h) 8)), some (.inl (sd_inS x (sd_rch x (sd_shl 1 h) 8)))]) sD10_food_45 (by decide) rfl ?_
    refine sd_iload sD10_food_47 rfl ?_
    refine sd_if_ne (tgt := 61) sD10_food_49 (by decide) (fun zc49 => ?_) (fun zc49 => ?_)
    ·
      have e7 := sd_mls_le h1 h2 (sd_rch x (sd_shl 1 h) 8)
      have e8 := sd_inS_le h1 (sd_rch x (sd_shl 1 h) 8)
      refine sd_aload_n sD10_food_61 rfl ?_
      refine sd_getfr sD10_food_62 sF10_10 sGC120_0 ?_
      refine sd_getfr sD10_food_65 sF10_41 sGC53_2 ?_
      refine sd_iload_n sD10_food_68 rfl ?_
      refine sd_callVp (as := [.inl (sd_rch x (sd_shl 1 h) 8)]) (st := []) (v := .inl (sd_mls x (sd_rch x (sd_shl 1 h) 8))) sD10_food_69 sM10_167 sOC13 rfl rfl rfl (by decide) (Nat.le_of_ble_eq_true rfl) (cC_mealsIn (sd_rch x (sd_shl 1 h) 8) _ m hx h1 h2 ) (fun ho69 => ?_)
      refine sd_iload sD10_food_72 rfl ?_
      refine sd_idiv (z := (sd_mls x (sd_rch x (sd_shl 1 h) 8)).tdiv (sd_inS x (sd_rch x (sd_shl 1 h) 8))) sD10_food_74 (by omega) rfl (by exact sd_tdiv_R (by omega) (by omega)) ?_
      refine sd_ireturn sD10_food_75 rfl (fun hr hm => ?_)
      exact sd_done (by unfold sp_food; ((repeat (first | rw [if_pos (by first | assumption | omega)] | rw [if_neg (by first | assumption | omega)])); try rfl)) hx
    ·
      refine sd_aload_n sD10_food_52 rfl ?_
      refine sd_ldc (z := -1000004) sD10_food_53 sK10_130 (by decide) ?_
      refine sd_callV (as := [.inl (-1000004)]) (st := []) sD10_food_55 sM10_52 rfl rfl sOC120 rfl (by decide) (Nat.le_of_ble_eq_true rfl) (cC_found (-1000004) 3 (by decide) (by decide) _ m hx (hF 3 (by decide))) (fun r m hq ho55 hm => ?_)
      obtain ⟨rfl, hx⟩ := hq
      show sd_Wp sd_SC 3 sY10_food 58 [some (.inr 120), some (.inl h), some (.inl 0), some (.inl (sd_rch x (sd_shl 1 h) 8)), some (.inl (sd_inS x (sd_rch x (sd_shl 1 h) 8)))] [.inl (-1000004)] m _
      refine sd_goto (tgt := 75) sD10_food_58 (by decide) ?_
      refine sd_ireturn sD10_food_75 rfl (fun hr hm => ?_)
      exact sd_done (by unfold sp_food; ((repeat (first | rw [if_pos (by first | assumption | omega)] | rw [if_neg (by first | assumption | omega)])); try rfl)) hx
  ·
    refine sd_eqs (ls' := [some (.inr 120), some (.inl h), none, none, none]) (st' := [.inl (-1000003)]) ?_ rfl (by rw [zf12])
    have zA9 := sd_foK zf12
    refine sd_istore_n (ls' := [some (.inr 120), some (.inl h), some (.inl (-1000003)), none, none]) sD10_food_12 (by decide) rfl ?_
    refine sd_iload_n sD10_food_13 rfl ?_
    refine sd_if_eq (tgt := 23) sD10_food_14 (by decide) (fun zc14 => (by exfalso; omega)) (fun zc14 => ?_)
    refine sd_aload_n sD10_food_17 rfl ?_
    refine sd_iload_n sD10_food_18 rfl ?_
    refine sd_callV (as := [.inl (-1000003)]) (st := []) sD10_food_19 sM10_52 rfl rfl sOC120 rfl (by decide) (Nat.le_of_ble_eq_true rfl) (cC_found (-1000003) 2 (by decide) (by decide) _ m hx (hF 2 (by decide))) (fun r m hq ho19 hm => ?_)
    obtain ⟨rfl, hx⟩ := hq
    show sd_Wp sd_SC 3 sY10_food 22 [some (.inr 120), some (.inl h), some (.inl (-1000003)), none, none] [.inl (-1000003)] m _
    refine sd_ireturn sD10_food_22 rfl (fun hr hm => ?_)
    exact sd_done (by unfold sp_food; ((repeat (first | rw [if_pos (by first | assumption | omega)] | rw [if_neg (by first | assumption | omega)])); try rfl)) hx
  ·
    refine sd_eqs (ls' := [some (.inr 120), some (.inl h), none, none, none]) (st' := [.inl (-1000001)]) ?_ rfl (by rw [zf12])
    have zA9 := sd_foB zf12
    refine sd_istore_n (ls' := [some (.inr 120), some (.inl h), some (.inl (-1000001)), none, none]) sD10_food_12 (by decide) rfl ?_
    refine sd_iload_n sD10_food_13 rfl ?_
    refine sd_if_eq (tgt := 23) sD10_food_14 (by decide) (fun zc14 => (by exfalso; omega)) (fun zc14 => ?_)
    refine sd_aload_n sD10_food_17 rfl ?_
    refine sd_iload_n sD10_food_18 rfl ?_
    refine sd_callV (as := [.inl (-1000001)]) (st := []) sD10_food_19 sM10_52 rfl rfl sOC120 rfl (by decide) (Nat.le_of_ble_eq_true rfl) (cC_found (-1000001) 0 (by decide) (by decide) _ m hx (hF 0 (by decide))) (fun r m hq ho19 hm => ?_)
    obtain ⟨rfl, hx⟩ := hq
    show sd_Wp sd_SC 3 sY10_food 22 [some (.inr 120), some (.inl h), some (.inl (-1000001)), none, none] [.inl (-1000001)] m _
    refine sd_ireturn sD10_food_22 rfl (fun hr hm => ?_)
    exact sd_done (by unfold sp_food; ((repeat (first | rw [if_pos (by first | assumption | omega)] | rw [if_neg (by first | assumption | omega)])); try rfl)) hx
