set_option maxRecDepth 100000 in
set_option maxHeartbeats 4000000 in
theorem pC_where (i : Int) (w : Int) (x m : sd_M) (hx : sd_ns x m) (h1 : sd_I1 x) (hF : ∀ k : Nat, k < 7 → 0 ≤ x (4101 + k) ∧ x (4101 + k) ≤ 1000000) : sd_Ct sd_SC 2 sY10_where [.inr 120, .inl i, .inl w] m (sd_Qp (sp_where x i w)) := by
  refine sd_ct rfl (Nat.le_of_ble_eq_true rfl) (fun hok hm => ?_)
  obtain ⟨⟨i0, j0⟩, ⟨i1, j1⟩, ⟨i2, j2⟩, ⟨i3, j3⟩, ⟨i4, j4⟩, ⟨i5, j5⟩, ⟨i6, j6⟩, ⟨i7, j7⟩, ⟨i8, j8⟩⟩ := id h1
  have r_i : sd_R i := hok (.inl i) (by simp)
  have r_w : sd_R w := hok (.inl w) (by simp)
  show sd_Wp sd_SC 2 sY10_where 0 [some (.inr 120), some (.inl i), some (.inl w)] [] m _
  refine sd_aload_n sD10_where_0 rfl ?_
  refine sd_getfr sD10_where_1 sF10_10 sGC120_0 ?_
  refine sd_getfr sD10_where_4 sF10_106 sGC53_3 ?_
  refine sd_iload_n sD10_where_7 rfl ?_
  refine sd_callVp (as := [.inl i]) (st := []) (v := .inl (sd_b (sd_isM x i))) sD10_where_8 sM10_116 sOC18 rfl rfl rfl (by decide) (Nat.le_of_ble_eq_true rfl) (cC_has i _ m hx h1 ) (fun ho8 => ?_)
  refine sd_bif_eq (tgt := 23) sD10_where_11 (by decide) (fun zc11 => ?_) (fun zc11 => ?_)
  ·
    refine sd_aload_n sD10_where_23 rfl ?_
    refine sd_ldc (z := -1000001) sD10_where_24 sK10_51 (by decide) ?_
    refine sd_callV (as := [.inl (-1000001)]) (st := []) sD10_where_26 sM10_52 rfl rfl sOC120 rfl (by decide) (Nat.le_of_ble_eq_true rfl) (cC_found (-1000001) 0 (by decide) (by decide) _ m hx (hF 0 (by decide))) (fun r m hq ho26 hm => ?_)
    obtain ⟨rfl, hx⟩ := hq
    show sd_Wp sd_SC 2 sY10_where 29 [some (.inr 120), some (.inl i), some (.inl w)] [.inl (-1000001)] m _
    refine sd_ireturn sD10_where_29 rfl (fun hr hm => ?_)
    exact sd_done (by unfold sp_where; ((repeat (first | rw [if_pos (by first | assumption | omega)] | rw [if_neg (by first | assumption | omega)])); try rfl)) hx
  ·
    refine sd_iload_n sD10_where_14 rfl ?_
    refine sd_iconst sD10_where_15 (by decide) ?_
    refine sd_iconst sD10_where_16 (by decide) ?_
    refine sd_callSp (as := [.inl w, .inl 0, .inl 3]) (st := []) (v := .inl (sd_b (0 ≤ w ∧ w ≤ 3))) sD10_where_17 sM10_65 rfl rfl (by decide) (Nat.le_of_ble_eq_true rfl) (cC_isWithin w 0 3 m) (fun ho17 => ?_)
    refine sd_bif_ne (tgt := 30) sD10_where_20 (by decide) (fun zc20 => ?_) (fun zc20 => ?_)
    ·
      refine sd_aload_n sD10_where_30 rfl ?_
      refine sd_getfr sD10_where_31 sF10_10 sGC120_0 ?_
      refine sd_getfr sD10_where_34 sF10_106 sGC53_3 ?_
      refine sd_iload_n sD10_where_37 rfl ?_
      refine sd_iload_n sD10_where_38 rfl ?_
      refine sd_callVp (as := [.inl i, .inl w]) (st := []) (v := .inl (if w = 0 then x (322 + i.toNat) else if w = 1 then x (338 + i.toNat) else if w = 2 then x (354 + i.toNat) else x (370 + i.toNat))) sD10_where_39 sM10_119 sOC18 rfl rfl rfl (by decide) (Nat.le_of_ble_eq_true rfl) (cC_mnumber i w _ m hx h1 (by omega)) (fun ho39 => ?_)
      refine sd_ireturn sD10_where_42 rfl (fun hr hm => ?_)
      exact sd_done (by unfold sp_where; ((repeat (first | rw [if_pos (by first | assumption | omega)] | rw [if_neg (by first | assumption | omega)])); try rfl)) hx
    ·
      refine sd_aload_n sD10_where_23 rfl ?_
      refine sd_ldc (z := -1000001) sD10_where_24 sK10_51 (by decide) ?_
      refine sd_callV (as := [.inl (-1000001)]) (st := []) sD10_where_26 sM10_52 rfl rfl sOC120 rfl (by decide) (Nat.le_of_ble_eq_true rfl) (cC_found (-1000001) 0 (by decide) (by decide) _ m hx (hF 0 (by decide))) (fun r m hq ho26 hm => ?_)
      obtain ⟨rfl, hx⟩ := hq
      show sd_Wp sd_SC 2 sY10_where 29 [some (.inr 120), some (.inl i), some (.inl w)] [.inl (-1000001)] m _
      refine sd_ireturn sD10_where_29 rfl (fun hr hm => ?_)
      exact sd_done (by unfold sp_where; ((repeat (first | rw [if_pos (by first | assumption | omega)] | rw [if_neg (by first | assumption | omega)])); try rfl)) hx
