set_option maxRecDepth 100000 in
set_option maxHeartbeats 4000000 in
theorem pC_least (W : Int) (x m : sd_M) (hx : sd_ns x m) (h1 : sd_I1 x) (h2 : sd_I2 x) (h3 : sd_I3 x) (h4 : sd_I4 x) (h5 : sd_I5 x) (h6 : sd_I6 x) (hR : sd_IR x) (hF : ∀ k : Nat, k < 7 → 0 ≤ x (4101 + k) ∧ x (4101 + k) ≤ 1000000) : sd_Ct sd_SC 6 sY10_least [.inr 120, .inl W] m (sd_Qp (sp_least x W)) := by
  refine sd_ct rfl (Nat.le_of_ble_eq_true rfl) (fun hok hm => ?_)
  obtain ⟨⟨i0, j0⟩, ⟨i1, j1⟩, ⟨i2, j2⟩, ⟨i3, j3⟩, ⟨i4, j4⟩, ⟨i5, j5⟩, ⟨i6, j6⟩, ⟨i7, j7⟩, ⟨i8, j8⟩⟩ := id h1
  have r_W : sd_R W := hok (.inl W) (by simp)
  show sd_Wp sd_SC 6 sY10_least 0 [some (.inr 120), some (.inl W)] [] m _
  refine sd_iload_n sD10_least_0 rfl ?_
  refine sd_iconst sD10_least_1 (by decide) ?_
  refine sd_icmp_lt (tgt := 21) sD10_least_2 (by decide) (fun zc2 => ?_) (fun zc2 => ?_)
  ·
    refine sd_aload_n sD10_least_21 rfl ?_
    refine sd_ldc (z := -1000001) sD10_least_22 sK10_51 (by decide) ?_
    refine sd_callV (as := [.inl (-1000001)]) (st := []) sD10_least_24 sM10_52 rfl rfl sOC120 rfl (by decide) (Nat.le_of_ble_eq_true rfl) (cC_found (-1000001) 0 (by decide) (by decide) _ m hx (hF 0 (by decide))) (fun r m hq ho24 hm => ?_)
    obtain ⟨rfl, hx⟩ := hq
    show sd_Wp sd_SC 6 sY10_least 27 [some (.inr 120), some (.inl W)] [.inl (-1000001)] m _
    refine sd_ireturn sD10_least_27 rfl (fun hr hm => ?_)
    exact sd_done (by unfold sp_least; ((repeat (first | rw [if_pos (by first | assumption | omega)] | rw [if_neg (by first | assumption | omega)])); try rfl)) hx
  ·
    refine sd_iload_n sD10_least_5 rfl ?_
    refine sd_iconst sD10_least_6 (by decide) ?_
    refine sd_aload_n sD10_least_7 rfl ?_
    refine sd_getfr sD10_least_8 sF10_10 sGC120_0 ?_
    refine sd_getfr sD10_least_11 sF10_183 sGC53_4 ?_
    refine sd_getfx (v := x 4) hx sD10_least_14 sF10_187 sGC23_0 (by decide) rfl ?_
    refine sd_ishl sD10_least_17 ?_
    refine sd_icmp_lt (tgt := 28) sD10_least_18 (by decide) (fun zc18 => ?_) (fun zc18 => ?_)
    ·
      refine sd_aload_n sD10_least_28 rfl ?_
      refine sd_aload_n sD10_least_29 rfl ?_
      refine sd_getfr sD10_least_30 sF10_10 sGC120_0 ?_
      refine sd_iload_n sD10_least_33 rfl ?_
      refine sd_callV (as := [.inl W]) (st := [.inr 120]) sD10_least_34 sM10_226 rfl rfl sOC53 rfl (by decide) (Nat.le_of_ble_eq_true rfl) (cC_leastShops W _ m hx h1 h2 h3 h4 h5 h6 hR (by have := (sd_p4 h1).2; omega)) (fun r m hq ho34 hm => ?_)
      obtain ⟨rfl, hx⟩ := hq
      show sd_Wp sd_SC 6 sY10_least 37 [some (.inr 120), some (.inl W)] [.inl (sd_lsv x W), .inr 120] m _
      by_cases zo37 : sd_lsv x W = -1
      ·
        refine sd_callV (as := [.inl (sd_lsv x W)]) (st := []) sD10_least_37 sM10_103 rfl rfl sOC120 rfl (by decide) (Nat.le_of_ble_eq_true rfl) (cC_orNone3 (sd_lsv x W) zo37 _ m hx hF) (fun r m hq ho37 hm => ?_)
        obtain ⟨rfl, hx⟩ := hq
        show sd_Wp sd_SC 6 sY10_least 40 [some (.inr 120), some (.inl W)] [.inl (-1000004)] m _
        refine sd_ireturn sD10_least_40 rfl (fun hr hm => ?_)
        exact sd_done (by unfold sp_least; ((repeat (first | rw [if_pos (by first | assumption | omega)] | rw [if_neg (by first | assumption | omega)])); try rfl)) hx
      ·
        refine sd_callV (as := [.inl (sd_lsv x W)]) (st := []) sD10_least_37 sM10_103 rfl rfl sOC120 rfl (by decide) (Nat.le_of_ble_eq_true rfl) (cC_orNoneS (sd_lsv x W) zo37 _ m hx) (fun r m hq ho37 hm => ?_)
        obtain ⟨rfl, hx⟩ := hq
        show sd_Wp sd_SC 6 sY10_least 40 [some (.inr 120), some (.inl W)] [.inl (sd_lsv x W)] m _
        refine sd_ireturn sD10_least_40 rfl (fun hr hm => ?_)
        exact sd_done (by unfold sp_least; ((repeat (first | rw [if_pos (by first | assumption | omega)] | rw [if_neg (by first | assumption | omega)])); try rfl)) hx
    ·
      refine sd_aload_n sD10_least_21 rfl ?_
      refine sd_ldc (z := -1000001) sD10_least_22 sK10_51 (by decide) ?_
      refine sd_callV (as := [.inl (-1000001)]) (st := []) sD10_least_24 sM10_52 rfl rfl sOC120 rfl (by decide) (Nat.le_of_ble_eq_true rfl) (cC_found (-1000001) 0 (by decide) (by decide) _ m hx (hF 0 (by decide))) (fun r m hq ho24 hm => ?_)
      obtain ⟨rfl, hx⟩ := hq
      show sd_Wp sd_SC 6 sY10_least 27 [some (.inr 120), some (.inl W)] [.inl (-1000001)] m _
      refine sd_ireturn sD10_least_27 rfl (fun hr hm => ?_)
      exact sd_done (by unfold sp_least; ((repeat (first | rw [if_pos (by first | assumption | omega)] | rw [if_neg (by first | assumption | omega)])); try rfl)) hx
