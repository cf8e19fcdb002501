set_option maxRecDepth 100000 in
set_option maxHeartbeats 4000000 in
theorem pC_whistle (h : Int) (g : Int) (x m : sd_M) (hx : sd_ns x m) (h1 : sd_I1 x) (h2 : sd_I2 x) (h3 : sd_I3 x) (h4 : sd_I4 x) (hF : ∀ k : Nat, k < 7 → 0 ≤ x (4101 + k) ∧ x (4101 + k) ≤ 1000000) : sd_Ct sd_SC 3 sY10_whistle [.inr 120, .inl h, .inl g] m (sd_Qp (sp_whistle x h g)) := by
  refine sd_ct rfl (Nat.le_of_ble_eq_true rfl) (fun hok hm => ?_)
  obtain ⟨⟨i0, j0⟩, ⟨i1, j1⟩, ⟨i2, j2⟩, ⟨i3, j3⟩, ⟨i4, j4⟩, ⟨i5, j5⟩, ⟨i6, j6⟩, ⟨i7, j7⟩, ⟨i8, j8⟩⟩ := id h1
  have r_h : sd_R h := hok (.inl h) (by simp)
  have r_g : sd_R g := hok (.inl g) (by simp)
  show sd_Wp sd_SC 3 sY10_whistle 0 [some (.inr 120), some (.inl h), some (.inl g), none] [] m _
  refine sd_iload_n sD10_whistle_0 rfl ?_
  refine sd_iconst sD10_whistle_1 (by decide) ?_
  refine sd_bipush sD10_whistle_2 rfl (by decide) ?_
  refine sd_callSp (as := [.inl g, .inl 0, .inl 9]) (st := []) (v := .inl (sd_b (0 ≤ g ∧ g ≤ 9))) sD10_whistle_4 sM10_65 rfl rfl (by decide) (Nat.le_of_ble_eq_true rfl) (cC_isWithin g 0 9 m) (fun ho4 => ?_)
  refine sd_bif_ne (tgt := 17) sD10_whistle_7 (by decide) (fun zc7 => ?_) (fun zc7 => ?_)
  ·
    refine sd_aload_n sD10_whistle_17 rfl ?_
    refine sd_getfr sD10_whistle_18 sF10_10 sGC120_0 ?_
    refine sd_getfr sD10_whistle_21 sF10_41 sGC53_2 ?_
    refine sd_iload_n sD10_whistle_24 rfl ?_
    refine sd_iconst sD10_whistle_25 (by decide) ?_
    refine sd_callVp (as := [.inl h, .inl 1]) (st := []) (v := .inl (sd_fo x h 1)) sD10_whistle_26 sM10_69 sOC13 rfl rfl rfl (by decide) (Nat.le_of_ble_eq_true rfl) (cC_findingOf h 1 _ m hx h1 h2) (fun ho26 => ?_)
    rcases (show sd_fo x h 1 = 0 ∨ sd_fo x h 1 = -1000003 ∨ sd_fo x h 1 = -1000001 from sd_fo_or x h 1) with zf29 | zf29 | zf29
    ·
      refine sd_eqs (ls' := [some (.inr 120), some (.inl h), some (.inl g), none]) (st' := [.inl 0]) ?_ rfl (by rw [zf29])
      have zA26 := sd_foA zf29
      refine sd_istore_n (ls' := [some (.inr 120), some (.inl h), some (.inl g), some (.inl 0)]) sD10_whistle_29 (by decide) rfl ?_
      refine sd_iload_n sD10_whistle_30 rfl ?_
      refine sd_if_ne (tgt := 56) sD10_whistle_31 (by decide) (fun zc31 => (by exfalso; omega)) (fun zc31 => ?_)
      refine sd_aload_n sD10_whistle_34 rfl ?_
      refine sd_getfr sD10_whistle_35 sF10_10 sGC120_0 ?_
      refine sd_getfr sD10_whistle_38 sF10_106 sGC53_3 ?_
      refine sd_aload_n sD10_whistle_41 rfl ?_
      refine sd_getfr sD10_whistle_42 sF10_10 sGC120_0 ?_
      refine sd_iload_n sD10_whistle_45 rfl ?_
      refine sd_iload_n sD10_whistle_46 rfl ?_
      refine sd_callVp (as := [.inl h, .inl g]) (st := [.inr 18]) (v := .inl (sd_rch x (sd_shl 1 h) g.toNat)) sD10_whistle_47 sM10_124 sOC53 rfl rfl rfl (by decide) (Nat.le_of_ble_eq_true rfl) (cC_reachedFrom h g _ m hx h1 h2 h3 (by omega)) (fun ho47 => ?_)
      refine sd_callVp (as := [.inl (sd_rch x (sd_shl 1 h) g.toNat)]) (st := []) (v := .inl (sd_inS x (sd_rch x (sd_shl 1 h) g.toNat))) sD10_whistle_50 sM10_164 sOC18 rfl rfl rfl (by decide) (Nat.le_of_ble_eq_true rfl) (cC_inShops (sd_rch x (sd_shl 1 h) g.toNat) _ m hx h1 h4) (fun ho50 => ?_)
      refine sd_goto (tgt := 61) sD10_whistle_53 (by decide) ?_
      refine sd_ireturn sD10_whistle_61 rfl (fun hr hm => ?_)
      exact sd_done (by unfold sp_whistle; ((repeat (first | rw [if_pos (by first | assumption | omega)] | rw [if_neg (by first | assumption | omega)])); try rfl)) hx
    ·
      refine sd_eqs (ls' := [some (.inr 120), some (.inl h), some (.inl g), none]) (st' := [.inl (-1000003)]) ?_ rfl (by rw [zf29])
      have zA26 := sd_foK zf29
      refine sd_istore_n (ls' := [some (.inr 120), some (.inl h), some (.inl g), some (.inl (-1000003))]) sD10_whistle_29 (by decide) rfl ?_
      refine sd_iload_n sD10_whistle_30 rfl ?_
      refine sd_if_ne (tgt := 56) sD10_whistle_31 (by decide) (fun zc31 => ?_) (fun zc31 => (by exfalso; omega))
      refine sd_aload_n sD10_whistle_56 rfl ?_
      refine sd_iload_n sD10_whistle_57 rfl ?_
      refine sd_callV (as := [.inl (-1000003)]) (st := []) sD10_whistle_58 sM10_52 rfl rfl sOC120 rfl (by decide) (Nat.le_of_ble_eq_true rfl) (cC_found (-1000003) 2 (by decide) (by decide) _ m hx (hF 2 (by decide))) (fun r m hq ho58 hm => ?_)
      obtain ⟨rfl, hx⟩ := hq
      show sd_Wp sd_SC 3 sY10_whistle 61 [some (.inr 120), some (.inl h), some (.inl g), some (.inl (-1000003))] [.inl (-1000003)] m _
      refine sd_ireturn sD10_whistle_61 rfl (fun hr hm => ?_)
      exact sd_done (by unfold sp_whistle; ((repeat (first | rw [if_pos (by first | assumption | omega)] | rw [if_neg (by first | assumption | omega)])); try rfl)) hx
    ·
      refine sd_eqs (ls' := [some (.inr 120), some (.inl h), some (.inl g), none]) (st' := [.inl (-1000001)]) ?_ rfl (by rw [zf29])
      have zA26 := sd_foB zf29
      refine sd_istore_n (ls' := [some (.inr 120), some (.inl h), some (.inl g), some (.inl (-1000001))]) sD10_whistle_29 (by decide) rfl ?_
      refine sd_iload_n sD10_whistle_30 rfl ?_
      refine sd_if_ne (tgt := 56) sD10_whistle_31 (by decide) (fun zc31 => ?_) (fun zc31 => (by exfalso; omega))
      refine sd_aload_n sD10_whistle_56 rfl ?_
      refine sd_iload_n sD10_whistle_57 rfl ?_
      refine sd_callV (as := [.inl (-1000001)]) (st := []) sD10_whistle_58 sM10_52 rfl rfl sOC120 rfl (by decide) (Nat.le_of_ble_eq_true rfl) (cC_found (-1000001) 0 (by decide) (by decide) _ m hx (hF 0 (by decide))) (fun r m hq ho58 hm => ?_)
      obtain ⟨rfl, hx⟩ := hq
      show sd_Wp sd_SC 3 sY10_whistle 61 [some (.inr 120), some (.inl h), some (.inl g), some (.inl (-1000001))] [.inl (-1000001)] m _
      refine sd_ireturn sD10_whistle_61 rfl (fun hr hm => ?_)
      exact sd_done (by unfold sp_whistle; ((repeat (first | rw [if_pos (by first | assumption | omega)] | rw [if_neg (by first | assumption | omega)])); try rfl)) hx
  ·
    refine sd_aload_n sD10_whistle_10 rfl ?_
    refine sd_ldc (z := -1000001) sD10_whistle_11 sK10_51 (by decide) ?_
    refine sd_callV (as := [.inl (-1000001)]) (st := []) sD10_whistle_13 sM10_52 rfl rfl sOC120 rfl (by decide) (Nat.le_of_ble_eq_true rfl) (cC_found (-1000001) 0 (by decide) (by decide) _ m hx (hF 0 (by decide))) (fun r m hq ho13 hm => ?_)
    obtain ⟨rfl, hx⟩ := hq
    show sd_Wp sd_SC 3 sY10_whistle 16 [some (.inr 120), some (.inl h), some (.inl g), none] [.inl (-1000001)] m _
    refine sd_ireturn sD10_whistle_16 rfl (fun hr hm => ?_)
    exact sd_done (by unfold sp_whistle; ((repeat (first | rw [if_pos (by first | assumption | omega)] | rw [if_neg (by first | assumption | omega)])); try rfl)) hx
