set_option maxRecDepth 100000 in
set_option maxHeartbeats 4000000 in
theorem pC_unlike (x m : sd_M) (hx : sd_ns x m) (h1 : sd_I1 x) (hF : ∀ k : Nat, k < 7 → 0 ≤ x (4101 + k) ∧ x (4101 + k) ≤ 1000000) : sd_Ct sd_SC 2 sY10_unlike [.inr 120] m (sd_Qp (sp_unlike x)) := by
  refine sd_ct rfl (Nat.le_of_ble_eq_true rfl) (fun hok hm => ?_)
  obtain ⟨⟨i0, j0⟩, ⟨i1, j1⟩, ⟨i2, j2⟩, ⟨i3, j3⟩, ⟨i4, j4⟩, ⟨i5, j5⟩, ⟨i6, j6⟩, ⟨i7, j7⟩, ⟨i8, j8⟩⟩ := id h1
  show sd_Wp sd_SC 2 sY10_unlike 0 [some (.inr 120)] [] m _
  refine sd_aload_n sD10_unlike_0 rfl ?_
  refine sd_getfr sD10_unlike_1 sF10_10 sGC120_0 ?_
  refine sd_getfr sD10_unlike_4 sF10_41 sGC53_2 ?_
  refine sd_callVp (as := []) (st := []) (v := .inl (sd_set (sd_Pu x) (x 2).toNat)) sD10_unlike_7 sM10_292 sOC13 rfl rfl rfl (by decide) (Nat.le_of_ble_eq_true rfl) (cC_unlikeTerms  _ m hx h1 ) (fun ho7 => ?_)
  refine sd_ireturn sD10_unlike_10 rfl (fun hr hm => ?_)
  exact sd_done (by unfold sp_unlike; ((repeat (first | rw [if_pos (by first | assumption | omega)] | rw [if_neg (by first | assumption | omega)])); try rfl)) hx
