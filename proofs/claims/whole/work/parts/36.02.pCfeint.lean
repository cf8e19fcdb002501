set_option maxRecDepth 100000 in
set_option maxHeartbeats 4000000 in
theorem pC_feint (g : Int) (x m : sd_M) (hx : sd_ns x m) (h1 : sd_I1 x) (h2 : sd_I2 x) (h3 : sd_I3 x) (h4 : sd_I4 x) (h7 : sd_I7 x) (hF : ∀ k : Nat, k < 7 → 0 ≤ x (4101 + k) ∧ x (4101 + k) ≤ 1000000) : sd_Ct sd_SC 5 sY10_feint [.inr 120, .inl g] m (sd_Qp (sp_feint x g)) := by
  refine sd_ct rfl (Nat.le_of_ble_eq_true rfl) (fun hok hm => ?_)
  obtain ⟨⟨i0, j0⟩, ⟨i1, j1⟩, ⟨i2, j2⟩, ⟨i3, j3⟩, ⟨i4, j4⟩, ⟨i5, j5⟩, ⟨i6, j6⟩, ⟨i7, j7⟩, ⟨i8, j8⟩⟩ := id h1
  have r_g : sd_R g := hok (.inl g) (by simp)
  show sd_Wp sd_SC 5 sY10_feint 0 [some (.inr 120), some (.inl g), none] [] m _
  refine sd_aload_n sD10_feint_0 rfl ?_
  refine sd_getfr sD10_feint_1 sF10_10 sGC120_0 ?_
  refine sd_getfr sD10_feint_4 sF10_41 sGC53_2 ?_
  refine sd_iload_n sD10_feint_7 rfl ?_
  refine sd_iconst sD10_feint_8 (by decide) ?_
  refine sd_callVp (as := [.inl g, .inl 3]) (st := []) (v := .inl (sd_fo x g 3)) sD10_feint_9 sM10_69 sOC13 rfl rfl rfl (by decide) (Nat.le_of_ble_eq_true rfl) (cC_findingOf g 3 _ m hx h1 h2) (fun ho9 => ?_)
  rcases (show sd_fo x g 3 = 0 ∨ sd_fo x g 3 = -1000003 ∨ sd_fo x g 3 = -1000001 from sd_fo_or x g 3) with zf12 | zf12 | zf12
  ·
    refine sd_eqs (ls' := [some (.inr 120), some (.inl g), none]) (st' := [.inl 0]) ?_ rfl (by rw [zf12])
    have zA9 := sd_foA zf12
    refine sd_istore_n (ls' := [some (.inr 120), some (.inl g), some (.inl 0)]) sD10_feint_12 (by decide) rfl ?_
    refine sd_iload_n sD10_feint_13 rfl ?_
    refine sd_if_eq (tgt := 23) sD10_feint_14 (by decide) (fun zc14 => ?_) (fun zc14 => (by exfalso; omega))
    refine sd_aload_n sD10_feint_23 rfl ?_
    refine sd_getfr sD10_feint_24 sF10_10 sGC120_0 ?_
    refine sd_getfr sD10_feint_27 sF10_41 sGC53_2 ?_
    refine sd_getfr sD10_feint_30 sF10_173 sGC13_10 ?_
    refine sd_iload_n sD10_feint_33 rfl ?_
    refine sd_ialdx (a := (202 + g.toNat)) (v := x (202 + g.toNat)) hx sD10_feint_34 sAC8 (by omega) rfl ?_
    refine sd_iconst sD10_feint_35 (by decide) ?_
    refine sd_icmp_ne (tgt := 46) sD10_feint_36 (by decide) (fun zc36 => ?_) (fun zc36 => ?_)
    ·
      refine sd_aload_n sD10_feint_46 rfl ?_
      refine sd_aload_n sD10_feint_47 rfl ?_
      refine sd_getfr sD10_feint_48 sF10_10 sGC120_0 ?_
      refine sd_getfr sD10_feint_51 sF10_252 sGC53_6 ?_
      refine sd_iload_n sD10_feint_54 rfl ?_
      refine sd_aload_n sD10_feint_55 rfl ?_
      refine sd_getfr sD10_feint_56 sF10_10 sGC120_0 ?_
      refine sd_iload_n sD10_feint_59 rfl ?_
      refine sd_callVp (as := [.inl g]) (st := [.inl g, .inr 42, .inr 120]) (v := .inl (sd_frc x g.toNat)) sD10_feint_60 sM10_170 sOC53 rfl rfl rfl (by decide) (Nat.le_of_ble_eq_true rfl) (cC_forceAt g _ m hx h1 h2 h3 h4 (by omega)) (fun ho60 => ?_)
      refine sd_aload_n sD10_feint_63 rfl ?_
      refine sd_getfr sD10_feint_64 sF10_10 sGC120_0 ?_
      refine sd_getfr sD10_feint_67 sF10_41 sGC53_2 ?_
      refine sd_callV (as := [.inl g, .inl (sd_frc x g.toNat), .inr 13]) (st := [.inr 120]) sD10_feint_70 sM10_279 rfl rfl sOC42 rfl (by decide) (Nat.le_of_ble_eq_true rfl) (cC_leastFor g (sd_frc x g.toNat) _ m hx h1 h2 h7 (by omega)) (fun r m hq ho70 hm => ?_)
      obtain ⟨rfl, hx⟩ := hq
      show sd_Wp sd_SC 5 sY10_feint 73 [some (.inr 120), some (.inl g), some (.inl 0)] [.inl (sd_lfv x g.toNat), .inr 120] m _
      by_cases zo73 : sd_lfv x g.toNat = -1
      ·
        refine sd_callV (as := [.inl (sd_lfv x g.toNat)]) (st := []) sD10_feint_73 sM10_103 rfl rfl sOC120 rfl (by decide) (Nat.le_of_ble_eq_true rfl) (cC_orNone3 (sd_lfv x g.toNat) zo73 _ m hx hF) (fun r m hq ho73 hm => ?_)
        obtain ⟨rfl, hx⟩ := hq
        show sd_Wp sd_SC 5 sY10_feint 76 [some (.inr 120), some (.inl g), some (.inl 0)] [.inl (-1000004)] m _
        refine sd_ireturn sD10_feint_76 rfl (fun hr hm => ?_)
        exact sd_done (by unfold sp_feint; ((repeat (first | rw [if_pos (by first | assumption | omega)] | rw [if_neg (by first | assumption | omega)])); try rfl)) hx
      ·
        refine sd_callV (as := [.inl (sd_lfv x g.toNat)]) (st := []) sD10_feint_73 sM10_103 rfl rfl sOC120 rfl (by decide) (Nat.le_of_ble_eq_true rfl) (cC_orNoneS (sd_lfv x g.toNat) zo73 _ m hx) (fun r m hq ho73 hm => ?_)
        obtain ⟨rfl, hx⟩ := hq
        show sd_Wp sd_SC 5 sY10_feint 76 [some (.inr 120), some (.inl g), some (.inl 0)] [.inl (sd_lfv x g.toNat)] m _
        refine sd_ireturn sD10_feint_76 rfl (fun hr hm => ?_)
        exact sd_done (by unfold sp_feint; ((repeat (first | rw [if_pos (by first | assumption | omega)] | rw [if_neg (by first | assumption | omega)])); try rfl)) hx
    ·
      refine sd_aload_n sD10_feint_39 rfl ?_
      refine sd_ldc (z := -1000005) sD10_feint_40 sK10_123 (by decide) ?_
      refine sd_callV (as := [.inl (-1000005)]) (st := []) sD10_feint_42 sM10_52 rfl rfl sOC120 rfl (by decide) (Nat.le_of_ble_eq_true rfl) (cC_found (-1000005) 4 (by decide) (by decide) _ m hx (hF 4 (by decide))) (fun r m hq ho42 hm => ?_)
      obtain ⟨rfl, hx⟩ := hq
      show sd_Wp sd_SC 5 sY10_feint 45 [some (.inr 120), some (.inl g), some (.inl 0)] [.inl (-1000005)] m _
      refine sd_ireturn sD10_feint_45 rfl (fun hr hm => ?_)
      exact sd_done (by unfold sp_feint; ((repeat (first | rw [if_pos (by first | assumption | omega)] | rw [if_neg (by first | assumption | omega)])); try rfl)) hx
  ·
    refine sd_eqs (ls' := [some (.inr 120), some (.inl g), none]) (st' := [.inl (-1000003)]) ?_ rfl (by rw [zf12])
    have zA9 := sd_foK zf12
    refine sd_istore_n (ls' := [some (.inr 120), some (.inl g), some (.inl (-1000003))]) sD10_feint_12 (by decide) rfl ?_
    refine sd_iload_n sD10_feint_13 rfl ?_
    refine sd_if_eq (tgt := 23) sD10_feint_14 (by decide) (fun zc14 => (by exfalso; omega)) (fun zc14 => ?_)
    refine sd_aload_n sD10_feint_17 rfl ?_
    refine sd_iload_n sD10_feint_18 rfl ?_
    refine sd_callV (as := [.inl (-1000003)]) (st := []) sD10_feint_19 sM10_52 rfl rfl sOC120 rfl (by decide) (Nat.le_of_ble_eq_true rfl) (cC_found (-1000003) 2 (by decide) (by decide) _ m hx (hF 2 (by decide))) (fun r m hq ho19 hm => ?_)
    obtain ⟨rfl, hx⟩ := hq
    show sd_Wp sd_SC 5 sY10_feint 22 [some (.inr 120), some (.inl g), some (.inl (-1000003))] [.inl (-1000003)] m _
    refine sd_ireturn sD10_feint_22 rfl (fun hr hm => ?_)
    exact sd_done (by unfold sp_feint; ((repeat (first | rw [if_pos (by first | assumption | omega)] | rw [if_neg (by first | assumption | omega)])); try rfl)) hx
  ·
    refine sd_eqs (ls' := [some (.inr 120), some (.inl g), none]) (st' := [.inl (-1000001)]) ?_ rfl (by rw [zf12])
    have zA9 := sd_foB zf12
    refine sd_istore_n (ls' := [some (.inr 120), some (.inl g), some (.inl (-1000001))]) sD10_feint_12 (by decide) rfl ?_
    refine sd_iload_n sD10_feint_13 rfl ?_
    refine sd_if_eq (tgt := 23) sD10_feint_14 (by decide) (fun zc14 => (by exfalso; omega)) (fun zc14 => ?_)
    refine sd_aload_n sD10_feint_17 rfl ?_
    refine sd_iload_n sD10_feint_18 rfl ?_
    refine sd_callV (as := [.inl (-1000001)]) (st := []) sD10_feint_19 sM10_52 rfl rfl sOC120 rfl (by decide) (Nat.le_of_ble_eq_true rfl) (cC_found (-1000001) 0 (by decide) (by decide) _ m hx (hF 0 (by decide))) (fun r m hq ho19 hm => ?_)
    obtain ⟨rfl, hx⟩ := hq
    show sd_Wp sd_SC 5 sY10_feint 22 [some (.inr 120), some (.inl g), some (.inl (-1000001))] [.inl (-1000001)] m _
    refine sd_ireturn sD10_feint_22 rfl (fun hr hm => ?_)
    exact sd_done (by unfold sp_feint; ((repeat (first | rw [if_pos (by first | assumption | omega)] | rw [if_neg (by first | assumption | omega)])); try rfl)) hx
