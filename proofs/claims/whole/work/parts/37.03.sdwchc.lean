set_option maxRecDepth 100000 in
theorem sd_wch_c : ∀ i : Fin 15, ∀ k : Fin 5, k.val < sd_len.getD i.val 0 → (sd_fi2c (sd_and (sd_wch i.val k.val) 255) = sd_wch i.val k.val ∧ narrow .char (.int (Int32.ofInt (sd_wch i.val k.val))) = .int (Int32.ofInt (sd_wch i.val k.val)) ∧ 32 ≤ sd_wch i.val k.val ∧ sd_wch i.val k.val ≤ 127) ∧ sd_len.getD i.val 0 ≤ 5 := by decide +kernel
theorem sd_wch_n {i k : Nat} (hi : i < 15) (hk : k < sd_len.getD i 0) : (sd_fi2c (sd_and (sd_wch i k) 255) = sd_wch i k ∧ narrow .char (.int (Int32.ofInt (sd_wch i k))) = .int (Int32.ofInt (sd_wch i k)) ∧ 32 ≤ sd_wch i k ∧ sd_wch i k ≤ 127) ∧ sd_len.getD i 0 ≤ 5 := by
  have hl : ∀ i : Fin 15, sd_len.getD i.val 0 ≤ 5 := by decide
  have h5 := hl ⟨i, hi⟩
  simp only at h5
  exact sd_wch_c ⟨i, hi⟩ ⟨k, by omega⟩ hk
theorem sd_len5 {i : Nat} (hi : i < 15) : sd_len.getD i 0 ≤ 5 := by
  have hl : ∀ i : Fin 15, sd_len.getD i.val 0 ≤ 5 := by decide
  exact hl ⟨i, hi⟩
set_option maxRecDepth 100000 in
set_option maxHeartbeats 4000000 in
theorem cJ_coder (i : Nat) (hi : i < 15) (m : sd_M) : sd_Cp sd_SC 0 sYJ0_coder_7d493 [.inr (910 + i)] m (.inl 0) := by
  refine sd_ct rfl (Nat.le_of_ble_eq_true rfl) (fun hok hm => ?_)
  show sd_Wp sd_SC 0 sYJ0_coder_7d493 0 [some (.inr (910 + i))] [] m _
  refine sd_scs sDJ0_coder_7d493_0 sFJ0_38 ?_
  refine sd_if_eq (tgt := 13) sDJ0_coder_7d493_3 (by decide) (fun z => by omega) (fun _ => ?_)
  refine sd_aload_n sDJ0_coder_7d493_6 rfl ?_
  refine sd_scoder hi sDJ0_coder_7d493_7 sFJ0_15 ?_
  refine sd_goto (tgt := 14) sDJ0_coder_7d493_10 (by decide) ?_
  exact sd_nreturn sDJ0_coder_7d493_14 rfl (by decide) (fun _ => ⟨rfl, rfl⟩)
set_option maxRecDepth 100000 in
set_option maxHeartbeats 4000000 in
theorem cJ_isLatin1 (i : Nat) (hi : i < 15) (m : sd_M) : sd_Cp sd_SC 0 sYJ0_isLatin1_aae02 [.inr (910 + i)] m (.inl 1) := by
  refine sd_ct rfl (Nat.le_of_ble_eq_true rfl) (fun hok hm => ?_)
  show sd_Wp sd_SC 0 sYJ0_isLatin1_aae02 0 [some (.inr (910 + i))] [] m _
  refine sd_scs sDJ0_isLatin1_aae02_0 sFJ0_38 ?_
  refine sd_if_eq (tgt := 17) sDJ0_isLatin1_aae02_3 (by decide) (fun z => by omega) (fun _ => ?_)
  refine sd_aload_n sDJ0_isLatin1_aae02_6 rfl ?_
  refine sd_scoder hi sDJ0_isLatin1_aae02_7 sFJ0_15 ?_
  refine sd_if_ne (tgt := 17) sDJ0_isLatin1_aae02_10 (by decide) (fun z => by omega) (fun _ => ?_)
  refine sd_iconst sDJ0_isLatin1_aae02_13 (by decide) ?_
  refine sd_goto (tgt := 18) sDJ0_isLatin1_aae02_14 (by decide) ?_
  exact sd_zreturn sDJ0_isLatin1_aae02_18 rfl (by decide) (fun _ => ⟨rfl, rfl⟩)
set_option maxRecDepth 100000 in
set_option maxHeartbeats 4000000 in
theorem cJ_length (i : Nat) (hi : i < 15) (m : sd_M) : sd_Cp sd_SC 1 sYJ0_length_8abf5 [.inr (910 + i)] m (.inl ((sd_len.getD i 0 : Nat) : Int)) := by
  refine sd_ct rfl (Nat.le_of_ble_eq_true rfl) (fun hok hm => ?_)
  show sd_Wp sd_SC 1 sYJ0_length_8abf5 0 [some (.inr (910 + i))] [] m _
  refine sd_aload_n sDJ0_length_8abf5_0 rfl ?_
  refine sd_svalue hi sDJ0_length_8abf5_1 sFJ0_9 ?_
  refine sd_slen hi sDJ0_length_8abf5_4 ?_
  refine sd_aload_n sDJ0_length_8abf5_5 rfl ?_
  refine sd_callVsp (as := []) (st := [.inl ((sd_len.getD i 0 : Nat) : Int)]) (v := .inl 0) sDJ0_length_8abf5_6 sMJ0_335 hi rfl rfl rfl (by decide) (Nat.le_of_ble_eq_true rfl) (cJ_coder i hi m) (fun _ => ?_)
  refine sd_ishr sDJ0_length_8abf5_9 ?_
  have e : ∀ q : Fin 6, sd_shr ((q.val : Nat) : Int) 0 = ((q.val : Nat) : Int) := by decide +kernel
  have h5 := sd_len5 hi
  rw [show sd_shr ((sd_len.getD i 0 : Nat) : Int) 0 = ((sd_len.getD i 0 : Nat) : Int) from e ⟨sd_len.getD i 0, by omega⟩]
  exact sd_ireturn sDJ0_length_8abf5_10 rfl (fun _ _ => ⟨rfl, rfl⟩)
set_option maxRecDepth 100000 in
set_option maxHeartbeats 4000000 in
theorem cJ_isEmpty (i : Nat) (hi : i < 15) (m : sd_M) : sd_Cp sd_SC 0 sYJ0_isEmpty_aae02 [.inr (910 + i)] m (.inl (sd_b (sd_len.getD i 0 = 0))) := by
  refine sd_ct rfl (Nat.le_of_ble_eq_true rfl) (fun hok hm => ?_)
  show sd_Wp sd_SC 0 sYJ0_isEmpty_aae02 0 [some (.inr (910 + i))] [] m _
  refine sd_aload_n sDJ0_isEmpty_aae02_0 rfl ?_
  refine sd_svalue hi sDJ0_isEmpty_aae02_1 sFJ0_9 ?_
  refine sd_slen hi sDJ0_isEmpty_aae02_4 ?_
  refine sd_if_ne (tgt := 12) sDJ0_isEmpty_aae02_5 (by decide) (fun z => ?_) (fun z => ?_)
  · refine sd_iconst sDJ0_isEmpty_aae02_12 (by decide) ?_
    exact sd_zreturn sDJ0_isEmpty_aae02_13 rfl (by decide) (fun _ => ⟨by rw [sd_b0 (by omega)], rfl⟩)
  · refine sd_iconst sDJ0_isEmpty_aae02_8 (by decide) ?_
    refine sd_goto (tgt := 13) sDJ0_isEmpty_aae02_9 (by decide) ?_
    exact sd_zreturn sDJ0_isEmpty_aae02_13 rfl (by decide) (fun _ => ⟨by rw [sd_b1 (by omega)], rfl⟩)
set_option maxRecDepth 100000 in
set_option maxHeartbeats 4000000 in
theorem cJ_lcharAt (i : Nat) (hi : i < 15) (k : Int) (hk : 0 ≤ k ∧ k < ((sd_len.getD i 0 : Nat) : Int)) (m : sd_M) : sd_Cp sd_SC 2 sYJ1_charAt_3b067 [.inr (930 + i), .inl k] m (.inl (sd_wch i k.toNat)) := by
  refine sd_ct rfl (Nat.le_of_ble_eq_true rfl) (fun hok hm => ?_)
  show sd_Wp sd_SC 2 sYJ1_charAt_3b067 0 [some (.inr (930 + i)), some (.inl k)] [] m _
  refine sd_iload_n sDJ1_charAt_3b067_0 rfl ?_
  refine sd_aload_n sDJ1_charAt_3b067_1 rfl ?_
  refine sd_slen hi sDJ1_charAt_3b067_2 ?_
  refine sd_callS (as := [.inl k, .inl ((sd_len.getD i 0 : Nat) : Int)]) (st := []) sDJ1_charAt_3b067_3 sMJ1_9 rfl rfl (by decide) (Nat.le_of_ble_eq_true rfl) (cJ_checkIndex k ((sd_len.getD i 0 : Nat) : Int) m hk) (fun r m' hq _ _ => ?_)
  obtain ⟨rfl, rfl⟩ := hq
  show sd_Wp sd_SC 2 sYJ1_charAt_3b067 6 [some (.inr (930 + i)), some (.inl k)] [] m' _
  refine sd_aload_n sDJ1_charAt_3b067_6 rfl ?_
  refine sd_iload_n sDJ1_charAt_3b067_7 rfl ?_
  refine sd_sbyte hi sDJ1_charAt_3b067_8 hk ?_
  refine sd_sipush sDJ1_charAt_3b067_9 rfl (by decide) ?_
  refine sd_iand sDJ1_charAt_3b067_12 ?_
  refine sd_i2c sDJ1_charAt_3b067_13 ?_
  have hw := (sd_wch_n hi (k := k.toNat) (by omega)).1
  rw [hw.1]
  exact sd_nreturn sDJ1_charAt_3b067_14 rfl hw.2.1 (fun _ => ⟨rfl, rfl⟩)
set_option maxRecDepth 100000 in
set_option maxHeartbeats 4000000 in
theorem cJ_charAt (i : Nat) (hi : i < 15) (k : Int) (hk : 0 ≤ k ∧ k < ((sd_len.getD i 0 : Nat) : Int)) (m : sd_M) : sd_Cp sd_SC 3 sYJ0_charAt_5068e [.inr (910 + i), .inl k] m (.inl (sd_wch i k.toNat)) := by
  refine sd_ct rfl (Nat.le_of_ble_eq_true rfl) (fun hok hm => ?_)
  show sd_Wp sd_SC 3 sYJ0_charAt_5068e 0 [some (.inr (910 + i)), some (.inl k)] [] m _
  refine sd_aload_n sDJ0_charAt_5068e_0 rfl ?_
  refine sd_callVsp (as := []) (st := []) (v := .inl 1) sDJ0_charAt_5068e_1 sMJ0_492 hi rfl rfl rfl (by decide) (Nat.le_of_ble_eq_true rfl) (cJ_isLatin1 i hi m) (fun _ => ?_)
  refine sd_if_eq (tgt := 16) sDJ0_charAt_5068e_4 (by decide) (fun z => by omega) (fun _ => ?_)
  refine sd_aload_n sDJ0_charAt_5068e_7 rfl ?_
  refine sd_svalue hi sDJ0_charAt_5068e_8 sFJ0_9 ?_
  refine sd_iload_n sDJ0_charAt_5068e_11 rfl ?_
  refine sd_callSp (as := [.inr (930 + i), .inl k]) (st := []) (v := .inl (sd_wch i k.toNat)) sDJ0_charAt_5068e_12 sMJ0_495 rfl rfl (by decide) (Nat.le_of_ble_eq_true rfl) (cJ_lcharAt i hi k hk m) (fun _ => ?_)
  have hw := (sd_wch_n hi (k := k.toNat) (by omega)).1
  exact sd_nreturn sDJ0_charAt_5068e_15 rfl hw.2.1 (fun _ => ⟨rfl, rfl⟩)
