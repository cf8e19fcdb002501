set_option maxRecDepth 100000 in
set_option maxHeartbeats 4000000 in
theorem pC_stay (i : Int) (x m : sd_M) (hx : sd_ns x m) (h1 : sd_I1 x) (h2 : sd_I2 x) (h4 : sd_I4 x) (hF : ∀ k : Nat, k < 7 → 0 ≤ x (4101 + k) ∧ x (4101 + k) ≤ 1000000) : sd_Ct sd_SC 3 sY10_stay [.inr 120, .inl i] m (sd_Qp (sp_stay x i)) := by
  refine sd_ct rfl (Nat.le_of_ble_eq_true rfl) (fun hok hm => ?_)
  obtain ⟨⟨i0, j0⟩, ⟨i1, j1⟩, ⟨i2, j2⟩, ⟨i3, j3⟩, ⟨i4, j4⟩, ⟨i5, j5⟩, ⟨i6, j6⟩, ⟨i7, j7⟩, ⟨i8, j8⟩⟩ := id h1
  have r_i : sd_R i := hok (.inl i) (by simp)
  show sd_Wp sd_SC 3 sY10_stay 0 [some (.inr 120), some (.inl i)] [] m _
  refine sd_aload_n sD10_stay_0 rfl ?_
  refine sd_getfr sD10_stay_1 sF10_10 sGC120_0 ?_
  refine sd_getfr sD10_stay_4 sF10_106 sGC53_3 ?_
  refine sd_iload_n sD10_stay_7 rfl ?_
  refine sd_callVp (as := [.inl i]) (st := []) (v := .inl (sd_b (sd_isM x i))) sD10_stay_8 sM10_116 sOC18 rfl rfl rfl (by decide) (Nat.le_of_ble_eq_true rfl) (cC_has i _ m hx h1 ) (fun ho8 => ?_)
  refine sd_bif_ne (tgt := 21) sD10_stay_11 (by decide) (fun zc11 => ?_) (fun zc11 => ?_)
  ·
    have e4 := (h4 i.toNat (by omega)).1
    refine sd_aload_n sD10_stay_21 rfl ?_
    refine sd_getfr sD10_stay_22 sF10_10 sGC120_0 ?_
    refine sd_getfr sD10_stay_25 sF10_106 sGC53_3 ?_
    refine sd_getfr sD10_stay_28 sF10_120 sGC18_1 ?_
    refine sd_iload_n sD10_stay_31 rfl ?_
    refine sd_ialdx (a := (322 + i.toNat)) (v := x (322 + i.toNat)) hx sD10_stay_32 sAC14 (by omega) rfl ?_
    refine sd_iconst sD10_stay_33 (by decide) ?_
    refine sd_icmp_ne (tgt := 44) sD10_stay_34 (by decide) (fun zc34 => ?_) (fun zc34 => ?_)
    ·
      refine sd_aload_n sD10_stay_44 rfl ?_
      refine sd_aload_n sD10_stay_45 rfl ?_
      refine sd_getfr sD10_stay_46 sF10_10 sGC120_0 ?_
      refine sd_iload_n sD10_stay_49 rfl ?_
      refine sd_callVp (as := [.inl i]) (st := [.inr 120]) (v := .inl (sd_fv x i.toNat)) sD10_stay_50 sM10_142 sOC53 rfl rfl rfl (by decide) (Nat.le_of_ble_eq_true rfl) (cC_firstLeaveI i _ m hx h1 h2 h4 (by omega) (by first | assumption | omega)) (fun ho50 => ?_)
      by_cases zo53 : sd_fv x i.toNat = -1
      ·
        refine sd_callV (as := [.inl (sd_fv x i.toNat)]) (st := []) sD10_stay_53 sM10_103 rfl rfl sOC120 rfl (by decide) (Nat.le_of_ble_eq_true rfl) (cC_orNone3 (sd_fv x i.toNat) zo53 _ m hx hF) (fun r m hq ho53 hm => ?_)
        obtain ⟨rfl, hx⟩ := hq
        show sd_Wp sd_SC 3 sY10_stay 56 [some (.inr 120), some (.inl i)] [.inl (-1000004)] m _
        refine sd_ireturn sD10_stay_56 rfl (fun hr hm => ?_)
        exact sd_done (by unfold sp_stay; ((repeat (first | rw [if_pos (by first | assumption | omega)] | rw [if_neg (by first | assumption | omega)])); try rfl)) hx
      ·
        refine sd_callV (as := [.inl (sd_fv x i.toNat)]) (st := []) sD10_stay_53 sM10_103 rfl rfl sOC120 rfl (by decide) (Nat.le_of_ble_eq_true rfl) (cC_orNoneS (sd_fv x i.toNat) zo53 _ m hx) (fun r m hq ho53 hm => ?_)
        obtain ⟨rfl, hx⟩ := hq
        show sd_Wp sd_SC 3 sY10_stay 56 [some (.inr 120), some (.inl i)] [.inl (sd_fv x i.toNat)] m _
        refine sd_ireturn sD10_stay_56 rfl (fun hr hm => ?_)
        exact sd_done (by unfold sp_stay; ((repeat (first | rw [if_pos (by first | assumption | omega)] | rw [if_neg (by first | assumption | omega)])); try rfl)) hx
    ·
      refine sd_aload_n sD10_stay_37 rfl ?_
      refine sd_ldc (z := -1000005) sD10_stay_38 sK10_123 (by decide) ?_
      refine sd_callV (as := [.inl (-1000005)]) (st := []) sD10_stay_40 sM10_52 rfl rfl sOC120 rfl (by decide) (Nat.le_of_ble_eq_true rfl) (cC_found (-1000005) 4 (by decide) (by decide) _ m hx (hF 4 (by decide))) (fun r m hq ho40 hm => ?_)
      obtain ⟨rfl, hx⟩ := hq
      show sd_Wp sd_SC 3 sY10_stay 43 [some (.inr 120), some (.inl i)] [.inl (-1000005)] m _
      refine sd_ireturn sD10_stay_43 rfl (fun hr hm => ?_)
      exact sd_done (by unfold sp_stay; ((repeat (first | rw [if_pos (by first | assumption | omega)] | rw [if_neg (by first | assumption | omega)])); try rfl)) hx
  ·
    refine sd_aload_n sD10_stay_14 rfl ?_
    refine sd_ldc (z := -1000001) sD10_stay_15 sK10_51 (by decide) ?_
    refine sd_callV (as := [.inl (-1000001)]) (st := []) sD10_stay_17 sM10_52 rfl rfl sOC120 rfl (by decide) (Nat.le_of_ble_eq_true rfl) (cC_found (-1000001) 0 (by decide) (by decide) _ m hx (hF 0 (by decide))) (fun r m hq ho17 hm => ?_)
    obtain ⟨rfl, hx⟩ := hq
    show sd_Wp sd_SC 3 sY10_stay 20 [some (.inr 120), some (.inl i)] [.inl (-1000001)] m _
    refine sd_ireturn sD10_stay_20 rfl (fun hr hm => ?_)
    exact sd_done (by unfold sp_stay; ((repeat (first | rw [if_pos (by first | assumption | omega)] | rw [if_neg (by first | assumption | omega)])); try rfl)) hx
