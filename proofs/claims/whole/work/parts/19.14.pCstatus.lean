set_option maxRecDepth 100000 in
set_option maxHeartbeats 4000000 in
theorem pC_status (w : Int) (x m : sd_M) (hx : sd_ns x m)  (hF : ∀ k : Nat, k < 7 → 0 ≤ x (4101 + k) ∧ x (4101 + k) ≤ 1000000) : sd_Ct sd_SC 1 sY10_status [.inr 120, .inl w] m (sd_Qp (sp_status x w)) := by
  refine sd_ct rfl (Nat.le_of_ble_eq_true rfl) (fun hok hm => ?_)
  have r_w : sd_R w := hok (.inl w) (by simp)
  show sd_Wp sd_SC 1 sY10_status 0 [some (.inr 120), some (.inl w)] [] m _
  refine sd_iload_n sD10_status_0 rfl ?_
  refine sd_iconst sD10_status_1 (by decide) ?_
  refine sd_bipush sD10_status_2 rfl (by decide) ?_
  refine sd_callSp (as := [.inl w, .inl 0, .inl 6]) (st := []) (v := .inl (sd_b (0 ≤ w ∧ w ≤ 6))) sD10_status_4 sM10_65 rfl rfl (by decide) (Nat.le_of_ble_eq_true rfl) (cC_isWithin w 0 6 m) (fun ho4 => ?_)
  refine sd_bif_eq (tgt := 17) sD10_status_7 (by decide) (fun zc7 => ?_) (fun zc7 => ?_)
  ·
    refine sd_iload_n sD10_status_17 rfl ?_
    refine sd_iconst sD10_status_18 (by decide) ?_
    refine sd_icmp_ne (tgt := 32) sD10_status_19 (by decide) (fun zc19 => ?_) (fun zc19 => ?_)
    ·
      refine sd_ldc (z := -1000001) sD10_status_32 sK10_51 (by decide) ?_
      refine sd_ireturn sD10_status_34 rfl (fun hr hm => ?_)
      exact sd_done (by unfold sp_status; ((repeat (first | rw [if_pos (by first | assumption | omega)] | rw [if_neg (by first | assumption | omega)])); try rfl)) hx
    ·
      refine sd_aload_n sD10_status_22 rfl ?_
      refine sd_getfr sD10_status_23 sF10_32 sGC120_4 ?_
      refine sd_callSp (as := [.inr 119]) (st := []) (v := .inl (sd_sum (fun i => x (4101 + i)) 7)) sD10_status_26 sM10_391 rfl rfl (by decide) (Nat.le_of_ble_eq_true rfl) (cC_sumOfF _ m hx hF) (fun ho26 => ?_)
      refine sd_goto (tgt := 34) sD10_status_29 (by decide) ?_
      refine sd_ireturn sD10_status_34 rfl (fun hr hm => ?_)
      exact sd_done (by unfold sp_status; ((repeat (first | rw [if_pos (by first | assumption | omega)] | rw [if_neg (by first | assumption | omega)])); try rfl)) hx
  ·
    refine sd_aload_n sD10_status_10 rfl ?_
    refine sd_getfr sD10_status_11 sF10_32 sGC120_4 ?_
    refine sd_iload_n sD10_status_14 rfl ?_
    refine sd_ialdx (a := (4101 + w.toNat)) (v := x (4101 + w.toNat)) hx sD10_status_15 sAC119 (by omega) rfl ?_
    refine sd_ireturn sD10_status_16 rfl (fun hr hm => ?_)
    exact sd_done (by unfold sp_status; ((repeat (first | rw [if_pos (by first | assumption | omega)] | rw [if_neg (by first | assumption | omega)])); try rfl)) hx
