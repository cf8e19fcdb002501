set_option maxRecDepth 100000 in
set_option maxHeartbeats 4000000 in
theorem cJ_checkIndex (i k : Int) (m : sd_M) (hik : 0 ≤ i ∧ i < k) : sd_Ct sd_SC 1 sYJ0_checkIndex_df160 [.inl i, .inl k] m (fun r m' => r = none ∧ m' = m) := by
  refine sd_ct rfl (Nat.le_of_ble_eq_true rfl) (fun hok hm => ?_)
  show sd_Wp sd_SC 1 sYJ0_checkIndex_df160 0 [some (.inl i), some (.inl k)] [] m _
  refine sd_iload_n sDJ0_checkIndex_df160_0 rfl ?_
  refine sd_iload_n sDJ0_checkIndex_df160_1 rfl ?_
  intro d g p l e s mi args below meth c H locs lc h1 F h2 h3 h4 h5 h6
  obtain ⟨hx, hb, hml, hown, hts, hr, hlk, hin, hK, hRO⟩ := id F
  obtain ⟨w, hw, hZ⟩ := hRO.2.2.2.2.1
  refine va_gets hx hb hZ h4 hown (hts _ sFJ0_1053) (fun _ h => h) sDJ0_checkIndex_df160_2.1 ?_
  obtain ⟨m1, m2, m4, m5, ⟨m6, m7, m8⟩, m9⟩ := sMJ0_1059
  obtain ⟨d, rfl⟩ : ∃ d', d = d' + 1 := ⟨d - 1, by omega⟩
  have cb : CallB (sd_rm (d + 1)) s args sYJ0_checkIndex_df160.1.cls 1059 sYJ3_checkIndex_8e157.1 sYJ3_checkIndex_8e157.2.1 sYJ3_checkIndex_8e157.2.2.1 sYJ3_checkIndex_8e157.2.2.2 (sd_wy sYJ3_checkIndex_8e157) (sd_rm d) 0 0 3 := by
    refine callB_of 3 hts (sd_goodIn m5) rfl rfl rfl (hts _ m4) (hts _ m1) ⟨m6, m7, m8⟩ ⟨Nat.le_refl _, ?_⟩
    show 8 + (sYJ3_checkIndex_8e157.2.2.1 + 11) + 64 * d ≤ 64 * (d + 1)
    omega
  have hik2 : sd_R i ∧ sd_R k := ⟨hok (.inl i) (by simp), hok (.inl k) (by simp)⟩
  refine sd_cont (va_runS (As := [.int (Int32.ofInt i), .int (Int32.ofInt k), w]) (rest := []) ⟨hx, hb, hml, hown, hts⟩ (cJ_pre i k m hik w hw d l g) ⟨cb, hts _ m2⟩ ⟨?_, ?_⟩ rfl rfl h5.1.1 rfl (lv_room (by simp)) sDJ0_checkIndex_df160_5.1 ⟨Nat.zero_le _, Nat.zero_le _⟩) h4 (fun r m' H1 locs1 q1 q2 q3 q4 q5 => ?_)
  · intro a U gf mk h
    obtain ⟨h1, h2, h3, h4, h5, h6, h7⟩ := h
    exact ⟨h1, h2, h3, h4, h5, va_K.moved (u := U) (U := U.calling gf mk a) (Vm.Alike.refl U.vm) h6, sd_RO.same (s := U) (U := U.calling gf mk a) rfl h7⟩
  · intro U hU hW
    exact ⟨rfl, hik2, hm, by rw [hU]; exact h2, hin, va_K.moved hW.alike hK, by rw [hU]; exact (hRO.kept h4.2.1).warm hW⟩
  · obtain ⟨rfl, rfl⟩ := q1
    have rest : sd_Wp sd_SC 1 sYJ0_checkIndex_df160 8 [some (.inl i), some (.inl k)] [.inl i] m' (fun r m'' => r = none ∧ m'' = m') := by
      refine sd_pop sDJ0_checkIndex_df160_8 ?_
      exact sd_vreturn sDJ0_checkIndex_df160_9 rfl (fun _ => ⟨rfl, rfl⟩)
    exact rest (d + 1) g p l e s mi args below meth c H1 locs1 lc (by omega) F q4 q3 q5 h5 (sd_cons (v := .inl i) hik2.1 (fun v hv => by cases hv))
