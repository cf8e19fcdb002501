set_option maxRecDepth 100000 in
set_option maxHeartbeats 4000000 in
theorem pC_shares (j : Int) (x m : sd_M) (hx : sd_ns x m) (h1 : sd_I1 x) (h6 : sd_I6 x) (hF : ∀ k : Nat, k < 7 → 0 ≤ x (4101 + k) ∧ x (4101 + k) ≤ 1000000) : sd_Ct sd_SC 3 sY10_shares [.inr 120, .inl j] m (sd_Qp (sp_shares x j)) := by
  refine sd_ct rfl (Nat.le_of_ble_eq_true rfl) (fun hok hm => ?_)
  obtain ⟨⟨i0, j0⟩, ⟨i1, j1⟩, ⟨i2, j2⟩, ⟨i3, j3⟩, ⟨i4, j4⟩, ⟨i5, j5⟩, ⟨i6, j6⟩, ⟨i7, j7⟩, ⟨i8, j8⟩⟩ := id h1
  have r_j : sd_R j := hok (.inl j) (by simp)
  show sd_Wp sd_SC 3 sY10_shares 0 [some (.inr 120), some (.inl j)] [] m _
  refine sd_iload_n sD10_shares_0 rfl ?_
  refine sd_iconst sD10_shares_1 (by decide) ?_
  refine sd_iconst sD10_shares_2 (by decide) ?_
  refine sd_callSp (as := [.inl j, .inl 0, .inl 3]) (st := []) (v := .inl (sd_b (0 ≤ j ∧ j ≤ 3))) sD10_shares_3 sM10_65 rfl rfl (by decide) (Nat.le_of_ble_eq_true rfl) (cC_isWithin j 0 3 m) (fun ho3 => ?_)
  refine sd_bif_ne (tgt := 16) sD10_shares_6 (by decide) (fun zc6 => ?_) (fun zc6 => ?_)
  ·
    have e6 := h6.2 j.toNat (by omega)
    refine sd_aload_n sD10_shares_16 rfl ?_
    refine sd_getfr sD10_shares_17 sF10_10 sGC120_0 ?_
    refine sd_getfr sD10_shares_20 sF10_145 sGC53_5 ?_
    refine sd_getfr sD10_shares_23 sF10_243 sGC36_12 ?_
    refine sd_iload_n sD10_shares_26 rfl ?_
    refine sd_ialdx (a := (1268 + j.toNat)) (v := x (1268 + j.toNat)) hx sD10_shares_27 sAC35 (by omega) rfl ?_
    refine sd_iconst sD10_shares_28 (by decide) ?_
    refine sd_icmp_eq (tgt := 39) sD10_shares_29 (by decide) (fun zc29 => ?_) (fun zc29 => ?_)
    ·
      refine sd_aload_n sD10_shares_39 rfl ?_
      refine sd_getfr sD10_shares_40 sF10_10 sGC120_0 ?_
      refine sd_getfr sD10_shares_43 sF10_145 sGC53_5 ?_
      refine sd_iload_n sD10_shares_46 rfl ?_
      refine sd_aload_n sD10_shares_47 rfl ?_
      refine sd_getfr sD10_shares_48 sF10_10 sGC120_0 ?_
      refine sd_getfx (v := x 0) hx sD10_shares_51 sF10_220 sGC53_0 (by decide) rfl ?_
      refine sd_callV (as := [.inl j, .inl (x 0)]) (st := []) sD10_shares_54 sM10_246 rfl rfl sOC36 rfl (by decide) (Nat.le_of_ble_eq_true rfl) (cC_unseat j _ m hx h1 h6 (by omega)) (fun r m hq ho54 hm => ?_)
      obtain ⟨rfl, hx⟩ := hq
      show sd_Wp sd_SC 3 sY10_shares 57 [some (.inr 120), some (.inl j)] [.inl (sd_cF x - sd_cF (sd_up x (1268 + j.toNat) (x 0)))] m _
      refine sd_ireturn sD10_shares_57 rfl (fun hr hm => ?_)
      exact sd_done (by unfold sp_shares; ((repeat (first | rw [if_pos (by first | assumption | omega)] | rw [if_neg (by first | assumption | omega)])); try rfl)) hx
    ·
      refine sd_aload_n sD10_shares_32 rfl ?_
      refine sd_ldc (z := -1000005) sD10_shares_33 sK10_123 (by decide) ?_
      refine sd_callV (as := [.inl (-1000005)]) (st := []) sD10_shares_35 sM10_52 rfl rfl sOC120 rfl (by decide) (Nat.le_of_ble_eq_true rfl) (cC_found (-1000005) 4 (by decide) (by decide) _ m hx (hF 4 (by decide))) (fun r m hq ho35 hm => ?_)
      obtain ⟨rfl, hx⟩ := hq
      show sd_Wp sd_SC 3 sY10_shares 38 [some (.inr 120), some (.inl j)] [.inl (-1000005)] m _
      refine sd_ireturn sD10_shares_38 rfl (fun hr hm => ?_)
      exact sd_done (by unfold sp_shares; ((repeat (first | rw [if_pos (by first | assumption | omega)] | rw [if_neg (by first | assumption | omega)])); try rfl)) hx
  ·
    refine sd_aload_n sD10_shares_9 rfl ?_
    refine sd_ldc (z := -1000001) sD10_shares_10 sK10_51 (by decide) ?_
    refine sd_callV (as := [.inl (-1000001)]) (st := []) sD10_shares_12 sM10_52 rfl rfl sOC120 rfl (by decide) (Nat.le_of_ble_eq_true rfl) (cC_found (-1000001) 0 (by decide) (by decide) _ m hx (hF 0 (by decide))) (fun r m hq ho12 hm => ?_)
    obtain ⟨rfl, hx⟩ := hq
    show sd_Wp sd_SC 3 sY10_shares 15 [some (.inr 120), some (.inl j)] [.inl (-1000001)] m _
    refine sd_ireturn sD10_shares_15 rfl (fun hr hm => ?_)
    exact sd_done (by unfold sp_shares; ((repeat (first | rw [if_pos (by first | assumption | omega)] | rw [if_neg (by first | assumption | omega)])); try rfl)) hx
