set_option maxRecDepth 100000 in
set_option maxHeartbeats 4000000 in
theorem pC_out (h : Int) (P : Prop) [Decidable P] (x m : sd_M) (hx : sd_ns x m) (h1 : sd_I1 x) (hF : ∀ k : Nat, k < 7 → 0 ≤ x (4101 + k) ∧ x (4101 + k) ≤ 1000000) : sd_Ct sd_SC 2 sY10_out [.inr 120, .inl h, .inl (sd_b P)] m (sd_Qp (sp_out x h P)) := by
  refine sd_ct rfl (Nat.le_of_ble_eq_true rfl) (fun hok hm => ?_)
  obtain ⟨⟨i0, j0⟩, ⟨i1, j1⟩, ⟨i2, j2⟩, ⟨i3, j3⟩, ⟨i4, j4⟩, ⟨i5, j5⟩, ⟨i6, j6⟩, ⟨i7, j7⟩, ⟨i8, j8⟩⟩ := id h1
  have r_h : sd_R h := hok (.inl h) (by simp)
  show sd_Wp sd_SC 2 sY10_out 0 [some (.inr 120), some (.inl h), some (.inl (sd_b P))] [] m _
  refine sd_iload_n sD10_out_0 rfl ?_
  refine sd_iconst sD10_out_1 (by decide) ?_
  refine sd_aload_n sD10_out_2 rfl ?_
  refine sd_getfr sD10_out_3 sF10_10 sGC120_0 ?_
  refine sd_getfr sD10_out_6 sF10_252 sGC53_6 ?_
  refine sd_getfx (v := x 6) hx sD10_out_9 sF10_256 sGC42_0 (by decide) rfl ?_
  refine sd_iconst sD10_out_12 (by decide) ?_
  refine sd_isub (z := (x 6 - 1)) sD10_out_13 (by omega) (by omega) ?_
  refine sd_callSp (as := [.inl h, .inl 0, .inl (x 6 - 1)]) (st := []) (v := .inl (sd_b (0 ≤ h ∧ h ≤ (x 6 - 1)))) sD10_out_14 sM10_65 rfl rfl (by decide) (Nat.le_of_ble_eq_true rfl) (cC_isWithin h 0 (x 6 - 1) m) (fun ho14 => ?_)
  refine sd_bif_ne (tgt := 27) sD10_out_17 (by decide) (fun zc17 => ?_) (fun zc17 => ?_)
  ·
    refine sd_aload_n sD10_out_27 rfl ?_
    refine sd_getfr sD10_out_28 sF10_10 sGC120_0 ?_
    refine sd_getfr sD10_out_31 sF10_252 sGC53_6 ?_
    refine sd_getfr sD10_out_34 sF10_260 sGC42_4 ?_
    refine sd_iload_n sD10_out_37 rfl ?_
    refine sd_iload_n sD10_out_38 rfl ?_
    refine sd_callS (as := [.inr 39, .inl h, .inl (sd_b P)]) (st := []) sD10_out_39 sM10_89 rfl rfl (by decide) (Nat.le_of_ble_eq_true rfl) (cC_turn1284 h P _ m hx (by omega)) (fun r m hq ho39 hm => ?_)
    obtain ⟨rfl, hx⟩ := hq
    show sd_Wp sd_SC 2 sY10_out 42 [some (.inr 120), some (.inl h), some (.inl (sd_b P))] [.inl (sd_b (¬ x (1284 + h.toNat) = sd_b P))] m _
    refine sd_ireturn sD10_out_42 rfl (fun hr hm => ?_)
    exact sd_done (by unfold sp_out; ((repeat (first | rw [if_pos (by first | assumption | omega)] | rw [if_neg (by first | assumption | omega)])); try rfl)) hx
  ·
    refine sd_aload_n sD10_out_20 rfl ?_
    refine sd_ldc (z := -1000001) sD10_out_21 sK10_51 (by decide) ?_
    refine sd_callV (as := [.inl (-1000001)]) (st := []) sD10_out_23 sM10_52 rfl rfl sOC120 rfl (by decide) (Nat.le_of_ble_eq_true rfl) (cC_found (-1000001) 0 (by decide) (by decide) _ m hx (hF 0 (by decide))) (fun r m hq ho23 hm => ?_)
    obtain ⟨rfl, hx⟩ := hq
    show sd_Wp sd_SC 2 sY10_out 26 [some (.inr 120), some (.inl h), some (.inl (sd_b P))] [.inl (-1000001)] m _
    refine sd_ireturn sD10_out_26 rfl (fun hr hm => ?_)
    exact sd_done (by unfold sp_out; ((repeat (first | rw [if_pos (by first | assumption | omega)] | rw [if_neg (by first | assumption | omega)])); try rfl)) hx
