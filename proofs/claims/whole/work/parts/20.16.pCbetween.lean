set_option maxRecDepth 100000 in
set_option maxHeartbeats 4000000 in
theorem pC_between (t : Int) (x m : sd_M) (hx : sd_ns x m) (h1 : sd_I1 x) (h6 : sd_I6 x) (hF : ∀ k : Nat, k < 7 → 0 ≤ x (4101 + k) ∧ x (4101 + k) ≤ 1000000) : sd_Ct sd_SC 2 sY10_between [.inr 120, .inl t] m (sd_Qp (sp_between x t)) := by
  refine sd_ct rfl (Nat.le_of_ble_eq_true rfl) (fun hok hm => ?_)
  obtain ⟨⟨i0, j0⟩, ⟨i1, j1⟩, ⟨i2, j2⟩, ⟨i3, j3⟩, ⟨i4, j4⟩, ⟨i5, j5⟩, ⟨i6, j6⟩, ⟨i7, j7⟩, ⟨i8, j8⟩⟩ := id h1
  have r_t : sd_R t := hok (.inl t) (by simp)
  show sd_Wp sd_SC 2 sY10_between 0 [some (.inr 120), some (.inl t)] [] m _
  refine sd_iload_n sD10_between_0 rfl ?_
  refine sd_iconst sD10_between_1 (by decide) ?_
  refine sd_aload_n sD10_between_2 rfl ?_
  refine sd_getfr sD10_between_3 sF10_10 sGC120_0 ?_
  refine sd_getfr sD10_between_6 sF10_145 sGC53_5 ?_
  refine sd_getfx (v := x 5) hx sD10_between_9 sF10_232 sGC36_0 (by decide) rfl ?_
  refine sd_iconst sD10_between_12 (by decide) ?_
  refine sd_isub (z := (x 5 - 1)) sD10_between_13 (by omega) (by omega) ?_
  refine sd_callSp (as := [.inl t, .inl 0, .inl (x 5 - 1)]) (st := []) (v := .inl (sd_b (0 ≤ t ∧ t ≤ (x 5 - 1)))) sD10_between_14 sM10_65 rfl rfl (by decide) (Nat.le_of_ble_eq_true rfl) (cC_isWithin t 0 (x 5 - 1) m) (fun ho14 => ?_)
  refine sd_bif_eq (tgt := 41) sD10_between_17 (by decide) (fun zc17 => ?_) (fun zc17 => ?_)
  ·
    refine sd_aload_n sD10_between_41 rfl ?_
    refine sd_ldc (z := -1000001) sD10_between_42 sK10_51 (by decide) ?_
    refine sd_callV (as := [.inl (-1000001)]) (st := []) sD10_between_44 sM10_52 rfl rfl sOC120 rfl (by decide) (Nat.le_of_ble_eq_true rfl) (cC_found (-1000001) 0 (by decide) (by decide) _ m hx (hF 0 (by decide))) (fun r m hq ho44 hm => ?_)
    obtain ⟨rfl, hx⟩ := hq
    show sd_Wp sd_SC 2 sY10_between 47 [some (.inr 120), some (.inl t)] [.inl (-1000001)] m _
    refine sd_ireturn sD10_between_47 rfl (fun hr hm => ?_)
    exact sd_done (by unfold sp_between; ((repeat (first | rw [if_pos (by first | assumption | omega)] | rw [if_neg (by first | assumption | omega)])); try rfl)) hx
  ·
    refine sd_aload_n sD10_between_20 rfl ?_
    refine sd_getfr sD10_between_21 sF10_10 sGC120_0 ?_
    refine sd_getfr sD10_between_24 sF10_145 sGC53_5 ?_
    refine sd_iload_n sD10_between_27 rfl ?_
    refine sd_aload_n sD10_between_28 rfl ?_
    refine sd_getfr sD10_between_29 sF10_10 sGC120_0 ?_
    refine sd_getfx (v := x 0) hx sD10_between_32 sF10_220 sGC53_0 (by decide) rfl ?_
    refine sd_callVp (as := [.inl t, .inl (x 0)]) (st := []) (v := .inl (sd_btw x t.toNat)) sD10_between_35 sM10_249 sOC36 rfl rfl rfl (by decide) (Nat.le_of_ble_eq_true rfl) (cC_hoursInForce t (x 0) _ m hx h1 h6 (by omega) (by first | rfl | assumption | omega | (simp only [sd_up]; rw [if_neg (by omega)]))) (fun ho35 => ?_)
    refine sd_goto (tgt := 47) sD10_between_38 (by decide) ?_
    refine sd_ireturn sD10_between_47 rfl (fun hr hm => ?_)
    exact sd_done (by unfold sp_between; ((repeat (first | rw [if_pos (by first | assumption | omega)] | rw [if_neg (by first | assumption | omega)])); try rfl)) hx
