set_option maxRecDepth 100000 in
set_option maxHeartbeats 4000000 in
theorem cC_addMeals (h n : Int) (x m : sd_M) (hx : sd_ns x m) (hh : 0 ≤ h ∧ h < 24) (hn : 0 ≤ n ∧ n ≤ 9) (h2 : sd_I2 x) : sd_Ct sd_SC 0 sY1_addMeals [.inr 13, .inl h, .inl n] m (fun r m' => r = some (.inl (x (154 + h.toNat) + n)) ∧ sd_ns (sd_up (sd_up x (178 + h.toNat) (x (178 + h.toNat) + n)) (154 + h.toNat) (x (154 + h.toNat) + n)) m') := by
  refine sd_ct rfl (Nat.le_of_ble_eq_true rfl) (fun hok hm => ?_)
  have e2 := h2 h.toNat (by omega)
  show sd_Wp sd_SC 0 sY1_addMeals 0 [some (.inr 13), some (.inl h), some (.inl n)] [] m _
  refine sd_aload_n sD1_addMeals_0 rfl ?_
  refine sd_getfr sD1_addMeals_1 sF1_40 sGC13_9 ?_
  refine sd_iload_n sD1_addMeals_4 rfl ?_
  refine sd_dup2 sD1_addMeals_5 ?_
  refine sd_ialdx (a := (178 + h.toNat)) (v := x (178 + h.toNat)) hx sD1_addMeals_6 sAC7 (by omega) rfl ?_
  refine sd_iload_n sD1_addMeals_7 rfl ?_
  refine sd_iadd (z := (x (178 + h.toNat) + n)) sD1_addMeals_8 (by omega) (by omega) ?_
  refine sd_iastx (a := (178 + h.toNat)) sd_sokC hx sD1_addMeals_9 sAC7 (by omega) (fun m hx em9 => ?_)
  refine sd_aload_n sD1_addMeals_10 rfl ?_
  refine sd_getfr sD1_addMeals_11 sF1_37 sGC13_8 ?_
  refine sd_iload_n sD1_addMeals_14 rfl ?_
  refine sd_dup2 sD1_addMeals_15 ?_
  refine sd_ialdx (a := (154 + h.toNat)) (v := x (154 + h.toNat)) hx sD1_addMeals_16 sAC6 (by omega) (by simp only [sd_up]; repeat rw [if_neg (by omega)]) ?_
  refine sd_iload_n sD1_addMeals_17 rfl ?_
  refine sd_iadd (z := (x (154 + h.toNat) + n)) sD1_addMeals_18 (by omega) (by omega) ?_
  refine sd_iastx (a := (154 + h.toNat)) sd_sokC hx sD1_addMeals_19 sAC6 (by omega) (fun m hx em19 => ?_)
  refine sd_aload_n sD1_addMeals_20 rfl ?_
  refine sd_getfr sD1_addMeals_21 sF1_37 sGC13_8 ?_
  refine sd_iload_n sD1_addMeals_24 rfl ?_
  refine sd_ialdx (a := (154 + h.toNat)) (v := (x (154 + h.toNat) + n)) hx sD1_addMeals_25 sAC6 (by omega) (by simp only [sd_up]; first | (simp; done) | (repeat (first | rw [if_pos (by first | trivial | omega)] | rw [if_neg (by omega)]))) ?_
  refine sd_ireturn sD1_addMeals_26 rfl (fun hr hm => ?_)
  exact ⟨rfl, hx⟩
