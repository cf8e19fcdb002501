set_option maxRecDepth 100000 in
set_option maxHeartbeats 4000000 in
theorem pC_believe (x m : sd_M) (hx : sd_ns x m) (h1 : sd_I1 x) (h2 : sd_I2 x) (h7 : sd_I7 x) (hF : ∀ k : Nat, k < 7 → 0 ≤ x (4101 + k) ∧ x (4101 + k) ≤ 1000000) : sd_Ct sd_SC 3 sY10_believe [.inr 120] m (sd_Qp (sp_believe x)) := by
  refine sd_ct rfl (Nat.le_of_ble_eq_true rfl) (fun hok hm => ?_)
  obtain ⟨⟨i0, j0⟩, ⟨i1, j1⟩, ⟨i2, j2⟩, ⟨i3, j3⟩, ⟨i4, j4⟩, ⟨i5, j5⟩, ⟨i6, j6⟩, ⟨i7, j7⟩, ⟨i8, j8⟩⟩ := id h1
  show sd_Wp sd_SC 3 sY10_believe 0 [some (.inr 120)] [] m _
  refine sd_aload_n sD10_believe_0 rfl ?_
  refine sd_getfr sD10_believe_1 sF10_10 sGC120_0 ?_
  refine sd_getfr sD10_believe_4 sF10_252 sGC53_6 ?_
  refine sd_aload_n sD10_believe_7 rfl ?_
  refine sd_getfr sD10_believe_8 sF10_10 sGC120_0 ?_
  refine sd_getfr sD10_believe_11 sF10_252 sGC53_6 ?_
  refine sd_callVp (as := []) (st := [.inr 42]) (v := .inl (sd_tho x)) sD10_believe_14 sM10_266 sOC42 rfl rfl rfl (by decide) (Nat.le_of_ble_eq_true rfl) (cC_thoseOut  _ m hx h1 h7 ) (fun ho14 => ?_)
  refine sd_aload_n sD10_believe_17 rfl ?_
  refine sd_getfr sD10_believe_18 sF10_10 sGC120_0 ?_
  refine sd_getfr sD10_believe_21 sF10_41 sGC53_2 ?_
  refine sd_callV (as := [.inl (sd_tho x), .inr 13]) (st := []) sD10_believe_24 sM10_269 rfl rfl sOC42 rfl (by decide) (Nat.le_of_ble_eq_true rfl) (cC_setSquads (sd_tho x) _ m hx h1 h2 h7) (fun r m hq ho24 hm => ?_)
  obtain ⟨rfl, hx, hsq24⟩ := hq
  show sd_Wp sd_SC 3 sY10_believe 27 [some (.inr 120)] [] m _
  refine sd_aload_n sD10_believe_27 rfl ?_
  refine sd_getfr sD10_believe_28 sF10_10 sGC120_0 ?_
  refine sd_getfr sD10_believe_31 sF10_41 sGC53_2 ?_
  refine sd_aload_n sD10_believe_34 rfl ?_
  refine sd_getfr sD10_believe_35 sF10_10 sGC120_0 ?_
  refine sd_getfr sD10_believe_38 sF10_252 sGC53_6 ?_
  refine sd_getfr sD10_believe_41 sF10_273 sGC42_5 ?_
  refine sd_callV (as := [.inr 40]) (st := []) sD10_believe_44 sM10_276 rfl rfl sOC13 rfl (by decide) (Nat.le_of_ble_eq_true rfl) (cC_guardBy (sd_sqd x (sd_tho x)) _ m hx h1 hsq24 (fun g => sd_sqd_rng h1 _ g)) (fun r m hq ho44 hm => ?_)
  obtain ⟨rfl, hx⟩ := hq
  show sd_Wp sd_SC 3 sY10_believe 47 [some (.inr 120)] [.inl (sd_cnt (sd_Pgd x (sd_sqd x (sd_tho x))) (x 2).toNat)] m _
  refine sd_ireturn sD10_believe_47 rfl (fun hr hm => ?_)
  exact sd_done (by unfold sp_believe; ((repeat (first | rw [if_pos (by first | assumption | omega)] | rw [if_neg (by first | assumption | omega)])); try rfl)) hx
