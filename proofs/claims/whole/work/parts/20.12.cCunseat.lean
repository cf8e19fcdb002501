set_option maxRecDepth 100000 in
set_option maxHeartbeats 4000000 in
theorem cC_unseat (j : Int) (x m : sd_M) (hx : sd_ns x m) (h1 : sd_I1 x) (h6 : sd_I6 x) (hj : 0 ≤ j ∧ j ≤ 3) : sd_Ct sd_SC 2 sY8_unseat [.inr 36, .inl j, .inl (x 0)] m (fun r m' => r = some (.inl (sd_cF x - sd_cF (sd_up x (1268 + j.toNat) (x 0)))) ∧ sd_ns (sd_up x (1268 + j.toNat) (x 0)) m') := by
  refine sd_ct rfl (Nat.le_of_ble_eq_true rfl) (fun hok hm => ?_)
  obtain ⟨⟨i0, j0⟩, ⟨i1, j1⟩, ⟨i2, j2⟩, ⟨i3, j3⟩, ⟨i4, j4⟩, ⟨i5, j5⟩, ⟨i6, j6⟩, ⟨i7, j7⟩, ⟨i8, j8⟩⟩ := id h1
  show sd_Wp sd_SC 2 sY8_unseat 0 [some (.inr 36), some (.inl j), some (.inl (x 0)), none] [] m _
  refine sd_aload_n sD8_unseat_0 rfl ?_
  refine sd_iload_n sD8_unseat_1 rfl ?_
  refine sd_callVp (as := [.inl (x 0)]) (st := []) (v := .inl (sd_cF x)) sD8_unseat_2 sM8_64 sOC36 rfl rfl rfl (by decide) (Nat.le_of_ble_eq_true rfl) (cC_countInForce (x 0) _ m hx h1 h6 (by first | rfl | assumption | omega | (simp only [sd_up]; rw [if_neg (by omega)]))) (fun ho2 => ?_)
  refine sd_istore_n (ls' := [some (.inr 36), some (.inl j), some (.inl (x 0)), some (.inl (sd_cF x))]) sD8_unseat_5 (by decide) rfl ?_
  refine sd_aload_n sD8_unseat_6 rfl ?_
  refine sd_getfr sD8_unseat_7 sF8_49 sGC36_12 ?_
  refine sd_iload_n sD8_unseat_10 rfl ?_
  refine sd_iload_n sD8_unseat_11 rfl ?_
  refine sd_iastx (a := (1268 + j.toNat)) sd_sokC hx sD8_unseat_12 sAC35 (by omega) (fun m hx em12 => ?_)
  have e8 := sd_cF_le h1
  have h1 : sd_I1 (sd_up x (1268 + j.toNat) (x 0)) := sd_I1_up h1 (by omega) _
  have h6 : sd_I6 (sd_up x (1268 + j.toNat) (x 0)) := sd_I6_sh (by assumption) h6 (by omega) (by omega)
  have e9 := sd_cF_le h1
  refine sd_iload_n sD8_unseat_13 rfl ?_
  refine sd_aload_n sD8_unseat_14 rfl ?_
  refine sd_iload_n sD8_unseat_15 rfl ?_
  refine sd_callVp (as := [.inl (x 0)]) (st := [.inl (sd_cF x)]) (v := .inl (sd_cF (sd_up x (1268 + j.toNat) (x 0)))) sD8_unseat_16 sM8_64 sOC36 rfl rfl rfl (by decide) (Nat.le_of_ble_eq_true rfl) (cC_countInForce (x 0) _ m hx h1 h6 (by first | rfl | assumption | omega | (simp only [sd_up]; rw [if_neg (by omega)]))) (fun ho16 => ?_)
  refine sd_isub (z := (sd_cF x - (sd_cF (sd_up x (1268 + j.toNat) (x 0))))) sD8_unseat_19 (by omega) (by omega) ?_
  refine sd_ireturn sD8_unseat_20 rfl (fun hr hm => ?_)
  exact ⟨rfl, hx⟩
