set_option maxRecDepth 100000 in
set_option maxHeartbeats 4000000 in
theorem pM_reach (h : Int) (x m : sd_M) (hx : sd_ns x m) (h1 : sd_I1 x) (h2 : sd_I2 x) (h3 : sd_I3 x) (hF : ∀ k : Nat, k < 7 → 0 ≤ x (4101 + k) ∧ x (4101 + k) ≤ 1000000) : sd_Ct sd_SM 3 sY11_reach [.inr 15, .inl h] m (sd_Qp (sp_reach x h)) := by
  refine sd_ct rfl (Nat.le_of_ble_eq_true rfl) (fun hok hm => ?_)
  obtain ⟨⟨i0, j0⟩, ⟨i1, j1⟩, ⟨i2, j2⟩, ⟨i3, j3⟩, ⟨i4, j4⟩, ⟨i5, j5⟩, ⟨i6, j6⟩, ⟨i7, j7⟩, ⟨i8, j8⟩⟩ := id h1
  have r_h : sd_R h := hok (.inl h) (by simp)
  show sd_Wp sd_SM 3 sY11_reach 0 [some (.inr 15), some (.inl h)] [] m _
  refine sd_aload_n sD11_reach_0 rfl ?_
  refine sd_iload_n sD11_reach_1 rfl ?_
  refine sd_callVp (as := [.inl h]) (st := []) (v := .inl (sd_b (sd_isH x h))) sD11_reach_2 sM11_60 sOM15 rfl rfl rfl (by decide) (Nat.le_of_ble_eq_true rfl) (cM_isHold h _ m hx h1 ) (fun ho2 => ?_)
  refine sd_bif_ne (tgt := 14) sD11_reach_5 (by decide) (fun zc5 => ?_) (fun zc5 => ?_)
  ·
    refine sd_aload_n sD11_reach_14 rfl ?_
    refine sd_iload_n sD11_reach_15 rfl ?_
    refine sd_callVp (as := [.inl h]) (st := []) (v := .inl (sd_b (sd_isA x h 1))) sD11_reach_16 sM11_72 sOM15 rfl rfl rfl (by decide) (Nat.le_of_ble_eq_true rfl) (cM_isShop h _ m hx h1 h2 ) (fun ho16 => ?_)
    refine sd_bif_eq (tgt := 30) sD11_reach_19 (by decide) (fun zc19 => ?_) (fun zc19 => ?_)
    ·
      refine sd_aload_n sD11_reach_30 rfl ?_
      refine sd_iconst sD11_reach_31 (by decide) ?_
      refine sd_callV (as := [.inl 2]) (st := []) sD11_reach_32 sM11_78 rfl rfl sOM15 rfl (by decide) (Nat.le_of_ble_eq_true rfl) (cM_finding 2 (by decide) _ m hx (hF 2 (by decide))) (fun r m hq ho32 hm => ?_)
      obtain ⟨rfl, hx⟩ := hq
      show sd_Wp sd_SM 3 sY11_reach 35 [some (.inr 15), some (.inl h)] [.inl (-1000003)] m _
      refine sd_ireturn sD11_reach_35 rfl (fun hr hm => ?_)
      exact sd_done (by unfold sp_reach; ((repeat (first | rw [if_pos (by first | assumption | omega)] | rw [if_neg (by first | assumption | omega)])); try rfl)) hx
    ·
      refine sd_aload_n sD11_reach_22 rfl ?_
      refine sd_iload_n sD11_reach_23 rfl ?_
      refine sd_callVp (as := [.inl h]) (st := []) (v := .inl (sd_rch x (sd_shl 1 h) 8)) sD11_reach_24 sM11_109 sOM15 rfl rfl rfl (by decide) (Nat.le_of_ble_eq_true rfl) (cM_reachOf h _ m hx h1 h2 h3 ) (fun ho24 => ?_)
      refine sd_goto (tgt := 35) sD11_reach_27 (by decide) ?_
      refine sd_ireturn sD11_reach_35 rfl (fun hr hm => ?_)
      exact sd_done (by unfold sp_reach; ((repeat (first | rw [if_pos (by first | assumption | omega)] | rw [if_neg (by first | assumption | omega)])); try rfl)) hx
  ·
    refine sd_aload_n sD11_reach_8 rfl ?_
    refine sd_iconst sD11_reach_9 (by decide) ?_
    refine sd_callV (as := [.inl 0]) (st := []) sD11_reach_10 sM11_78 rfl rfl sOM15 rfl (by decide) (Nat.le_of_ble_eq_true rfl) (cM_finding 0 (by decide) _ m hx (hF 0 (by decide))) (fun r m hq ho10 hm => ?_)
    obtain ⟨rfl, hx⟩ := hq
    show sd_Wp sd_SM 3 sY11_reach 13 [some (.inr 15), some (.inl h)] [.inl (-1000001)] m _
    refine sd_ireturn sD11_reach_13 rfl (fun hr hm => ?_)
    exact sd_done (by unfold sp_reach; ((repeat (first | rw [if_pos (by first | assumption | omega)] | rw [if_neg (by first | assumption | omega)])); try rfl)) hx
