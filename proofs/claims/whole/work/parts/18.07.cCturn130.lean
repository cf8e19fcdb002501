set_option maxRecDepth 100000 in
set_option maxHeartbeats 4000000 in
theorem cC_turn130 (i : Int) (P : Prop) [Decidable P] (x m : sd_M) (hx : sd_ns x m) (ha : 0 ≤ i ∧ i < 24) : sd_Ct sd_SC 1 sY10_turn [.inr 5, .inl i, .inl (sd_b P)] m (fun r m' => r = some (.inl (sd_b (¬ x (130 + i.toNat) = sd_b P))) ∧ sd_ns (sd_up x (130 + i.toNat) (sd_b P)) m') := by
  refine sd_ct rfl (Nat.le_of_ble_eq_true rfl) (fun hok hm => ?_)
  show sd_Wp sd_SC 1 sY10_turn 0 [some (.inr 5), some (.inl i), some (.inl (sd_b P)), none] [] m _
  refine sd_aload_n sD10_turn_0 rfl ?_
  refine sd_iload_n sD10_turn_1 rfl ?_
  refine sd_ialdx (a := (130 + i.toNat)) (v := x (130 + i.toNat)) hx sD10_turn_2 sAC5 (by omega) rfl ?_
  refine sd_istore_n (ls' := [some (.inr 5), some (.inl i), some (.inl (sd_b P)), some (.inl (x (130 + i.toNat)))]) sD10_turn_3 (by decide) rfl ?_
  refine sd_aload_n sD10_turn_4 rfl ?_
  refine sd_iload_n sD10_turn_5 rfl ?_
  refine sd_iload_n sD10_turn_6 rfl ?_
  refine sd_callSp (as := [.inl (sd_b P)]) (st := [.inl i, .inr 5]) (v := .inl (sd_b P)) sD10_turn_7 sM10_79 rfl rfl (by decide) (Nat.le_of_ble_eq_true rfl) (cC_asNumber (P) m) (fun ho7 => ?_)
  refine sd_iastx (a := (130 + i.toNat)) sd_sokC hx sD10_turn_10 sAC5 (by omega) (fun m hx em10 => ?_)
  refine sd_iload_n sD10_turn_11 rfl ?_
  refine sd_aload_n sD10_turn_12 rfl ?_
  refine sd_iload_n sD10_turn_13 rfl ?_
  refine sd_ialdx (a := (130 + i.toNat)) (v := sd_b P) hx sD10_turn_14 sAC5 (by omega) (by simp only [sd_up]; first | (simp; done) | (repeat (first | rw [if_pos (by first | trivial | omega)] | rw [if_neg (by omega)]))) ?_
  refine sd_cut (J := 23) (ls := [some (.inr 5), some (.inl i), some (.inl (sd_b P)), some (.inl (x (130 + i.toNat)))]) (st := []) (fun zv => zv = (sd_b (¬ x (130 + i.toNat) = sd_b P))) (fun zv hzv => ?_) (fun K15 => ?_)
  ·
    subst hzv
    refine sd_callSp (as := [.inl (sd_b (¬ x (130 + i.toNat) = sd_b P))]) (st := []) (v := .inl (sd_b (¬ x (130 + i.toNat) = sd_b P))) sD10_turn_23 sM10_79 rfl rfl (by decide) (Nat.le_of_ble_eq_true rfl) (cC_asNumber (¬ x (130 + i.toNat) = sd_b P) m) (fun ho23 => ?_)
    refine sd_ireturn sD10_turn_26 rfl (fun hr hm => ?_)
    exact ⟨by first | rfl | (congr 2; exact sd_bc (by omega)), hx⟩
  ·
    refine sd_icmp_eq (tgt := 22) sD10_turn_15 (by decide) (fun zc15 => ?_) (fun zc15 => ?_)
    ·
      refine sd_iconst sD10_turn_22 (by decide) ?_
      exact K15 _ (by exact (sd_b0 (by omega)).symm)
    ·
      refine sd_iconst sD10_turn_18 (by decide) ?_
      refine sd_goto (tgt := 23) sD10_turn_19 (by decide) ?_
      exact K15 _ (by exact (sd_b1 (by omega)).symm)
