set_option maxRecDepth 100000 in
set_option maxHeartbeats 4000000 in
theorem pM_food (h : Int) (x m : sd_M) (hx : sd_ns x m) (h1 : sd_I1 x) (h2 : sd_I2 x) (h3 : sd_I3 x) (h4 : sd_I4 x) (hF : ∀ k : Nat, k < 7 → 0 ≤ x (4101 + k) ∧ x (4101 + k) ≤ 1000000) : sd_Ct sd_SM 3 sY11_food [.inr 15, .inl h] m (sd_Qp (sp_food x h)) := by
  refine sd_ct rfl (Nat.le_of_ble_eq_true rfl) (fun hok hm => ?_)
  obtain ⟨⟨i0, j0⟩, ⟨i1, j1⟩, ⟨i2, j2⟩, ⟨i3, j3⟩, ⟨i4, j4⟩, ⟨i5, j5⟩, ⟨i6, j6⟩, ⟨i7, j7⟩, ⟨i8, j8⟩⟩ := id h1
  have r_h : sd_R h := hok (.inl h) (by simp)
  show sd_Wp sd_SM 3 sY11_food 0 [some (.inr 15), some (.inl h), none, none] [] m _
  refine sd_aload_n sD11_food_0 rfl ?_
  refine sd_iload_n sD11_food_1 rfl ?_
  refine sd_callVp (as := [.inl h]) (st := []) (v := .inl (sd_b (sd_isH x h))) sD11_food_2 sM11_60 sOM15 rfl rfl rfl (by decide) (Nat.le_of_ble_eq_true rfl) (cM_isHold h _ m hx h1 ) (fun ho2 => ?_)
  refine sd_bif_ne (tgt := 14) sD11_food_5 (by decide) (fun zc5 => ?_) (fun zc5 => ?_)
  ·
    refine sd_aload_n sD11_food_14 rfl ?_
    refine sd_iload_n sD11_food_15 rfl ?_
    refine sd_callVp (as := [.inl h]) (st := []) (v := .inl (sd_b (sd_isA x h 1))) sD11_food_16 sM11_72 sOM15 rfl rfl rfl (by decide) (Nat.le_of_ble_eq_true rfl) (cM_isShop h _ m hx h1 h2 ) (fun ho16 => ?_)
    refine sd_bif_ne (tgt := 28) sD11_food_19 (by decide) (fun zc19 => ?_) (fun zc19 => ?_)
    ·
      refine sd_aload_n sD11_food_28 rfl ?_
      refine sd_iload_n sD11_food_29 rfl ?_
      refine sd_callVp (as := [.inl h]) (st := []) (v := .inl (sd_rch x (sd_shl 1 h) 8)) sD11_food_30 sM11_109 sOM15 rfl rfl rfl (by decide) (Nat.le_of_ble_eq_true rfl) (cM_reachOf h _ m hx h1 h2 h3 ) (fun ho30 => ?_)
      refine sd_istore_n (ls' := [some (.inr 15), some (.inl h), some (.inl (sd_rch x (sd_shl 1 h) 8)), none]) sD11_food_33 (by decide) rfl ?_
      refine sd_aload_n sD11_food_34 rfl ?_
      refine sd_iload_n sD11_food_35 rfl ?_
      refine sd_callVp (as := [.inl (sd_rch x (sd_shl 1 h) 8)]) (st := []) (v := .inl (sd_inS x (sd_rch x (sd_shl 1 h) 8))) sD11_food_36 sM11_116 sOM15 rfl rfl rfl (by decide) (Nat.le_of_ble_eq_true rfl) (cM_menInAll (sd_rch x (sd_shl 1 h) 8) _ m hx h1 h4) (fun ho36 => ?_)
      refine sd_istore_n (ls' := [some (.inr 15), some (.inl h), some (.inl (sd_rch x (sd_shl 1 h) 8)), some (.inl (sd_inS x (sd_rch x (sd_shl 1 h) 8)))]) sD11_food_39 (by decide) rfl ?_
      refine sd_iload_n sD11_food_40 rfl ?_
      refine sd_if_ne (tgt := 52) sD11_food_41 (by decide) (fun zc41 => ?_) (fun zc41 => ?_)
      ·
        have e7 := sd_mls_le h1 h2 (sd_rch x (sd_shl 1 h) 8)
        have e8 := sd_inS_le h1 (sd_rch x (sd_shl 1 h) 8)
        refine sd_aload_n sD11_food_52 rfl ?_
        refine sd_iload_n sD11_food_53 rfl ?_
        refine sd_callVp (as := [.inl (sd_rch x (sd_shl 1 h) 8)]) (st := []) (v := .inl (sd_mls x (sd_rch x (sd_shl 1 h) 8))) sD11_food_54 sM11_119 sOM15 rfl rfl rfl (by decide) (Nat.le_of_ble_eq_true rfl) (cM_mealsIn (sd_rch x (sd_shl 1 h) 8) _ m hx h1 h2 ) (fun ho54 => ?_)
        refine sd_iload_n sD11_food_57 rfl ?_
        refine sd_idiv (z := (sd_mls x (sd_rch x (sd_shl 1 h) 8)).tdiv (sd_inS x (sd_rch x (sd_shl 1 h) 8))) sD11_food_58 (by omega) rfl (by exact sd_tdiv_R (by omega) (by omega)) ?_
        refine sd_ireturn sD11_food_59 rfl (fun hr hm => ?_)
        exact sd_done (by unfold sp_food; ((repeat (first | rw [if_pos (by first | assumption | omega)] | rw [if_neg (by first | assumption | omega)])); try rfl)) hx
      ·
        refine sd_aload_n sD11_food_44 rfl ?_
        refine sd_iconst sD11_food_45 (by decide) ?_
        refine sd_callV (as := [.inl 3]) (st := []) sD11_food_46 sM11_78 rfl rfl sOM15 rfl (by decide) (Nat.le_of_ble_eq_true rfl) (cM_finding 3 (by decide) _ m hx (hF 3 (by decide))) (fun r m hq ho46 hm => ?_)
        obtain ⟨rfl, hx⟩ := hq
        show sd_Wp sd_SM 3 sY11_food 49 [some (.inr 15), some (.inl h), some (.inl (sd_rch x (sd_shl 1 h) 8)), some (.inl (sd_inS x (sd_rch x (sd_shl 1 h) 8)))] [.inl (-1000004)] m _
        refine sd_goto (tgt := 59) sD11_food_49 (by decide) ?_
        refine sd_ireturn sD11_food_59 rfl (fun hr hm => ?_)
        exact sd_done (by unfold sp_food; ((repeat (first | rw [if_pos (by first | assumption | omega)] | rw [if_neg (by first | assumption | omega)])); try rfl)) hx
    ·
      refine sd_aload_n sD11_food_22 rfl ?_
      refine sd_iconst sD11_food_23 (by decide) ?_
      refine sd_callV (as := [.inl 2]) (st := []) sD11_food_24 sM11_78 rfl rfl sOM15 rfl (by decide) (Nat.le_of_ble_eq_true rfl) (cM_finding 2 (by decide) _ m hx (hF 2 (by decide))) (fun r m hq ho24 hm => ?_)
      obtain ⟨rfl, hx⟩ := hq
      show sd_Wp sd_SM 3 sY11_food 27 [some (.inr 15), some (.inl h), none, none] [.inl (-1000003)] m _
      refine sd_ireturn sD11_food_27 rfl (fun hr hm => ?_)
      exact sd_done (by unfold sp_food; ((repeat (first | rw [if_pos (by first | assumption | omega)] | rw [if_neg (by first | assumption | omega)])); try rfl)) hx
  ·
    refine sd_aload_n sD11_food_8 rfl ?_
    refine sd_iconst sD11_food_9 (by decide) ?_
    refine sd_callV (as := [.inl 0]) (st := []) sD11_food_10 sM11_78 rfl rfl sOM15 rfl (by decide) (Nat.le_of_ble_eq_true rfl) (cM_finding 0 (by decide) _ m hx (hF 0 (by decide))) (fun r m hq ho10 hm => ?_)
    obtain ⟨rfl, hx⟩ := hq
    show sd_Wp sd_SM 3 sY11_food 13 [some (.inr 15), some (.inl h), none, none] [.inl (-1000001)] m _
    refine sd_ireturn sD11_food_13 rfl (fun hr hm => ?_)
    exact sd_done (by unfold sp_food; ((repeat (first | rw [if_pos (by first | assumption | omega)] | rw [if_neg (by first | assumption | omega)])); try rfl)) hx
