set_option maxRecDepth 100000 in
set_option maxHeartbeats 4000000 in
theorem pM_whistle (h : Int) (g : Int) (x m : sd_M) (hx : sd_ns x m) (h1 : sd_I1 x) (h2 : sd_I2 x) (h3 : sd_I3 x) (h4 : sd_I4 x) (hF : ∀ k : Nat, k < 7 → 0 ≤ x (4101 + k) ∧ x (4101 + k) ≤ 1000000) : sd_Ct sd_SM 3 sY11_whistle [.inr 15, .inl h, .inl g] m (sd_Qp (sp_whistle x h g)) := by
  refine sd_ct rfl (Nat.le_of_ble_eq_true rfl) (fun hok hm => ?_)
  obtain ⟨⟨i0, j0⟩, ⟨i1, j1⟩, ⟨i2, j2⟩, ⟨i3, j3⟩, ⟨i4, j4⟩, ⟨i5, j5⟩, ⟨i6, j6⟩, ⟨i7, j7⟩, ⟨i8, j8⟩⟩ := id h1
  have r_h : sd_R h := hok (.inl h) (by simp)
  have r_g : sd_R g := hok (.inl g) (by simp)
  show sd_Wp sd_SM 3 sY11_whistle 0 [some (.inr 15), some (.inl h), some (.inl g)] [] m _
  refine sd_aload_n sD11_whistle_0 rfl ?_
  refine sd_iload_n sD11_whistle_1 rfl ?_
  refine sd_callVp (as := [.inl h]) (st := []) (v := .inl (sd_b (sd_isH x h))) sD11_whistle_2 sM11_60 sOM15 rfl rfl rfl (by decide) (Nat.le_of_ble_eq_true rfl) (cM_isHold h _ m hx h1 ) (fun ho2 => ?_)
  refine sd_bif_eq (tgt := 18) sD11_whistle_5 (by decide) (fun zc5 => ?_) (fun zc5 => ?_)
  ·
    refine sd_aload_n sD11_whistle_18 rfl ?_
    refine sd_iconst sD11_whistle_19 (by decide) ?_
    refine sd_callV (as := [.inl 0]) (st := []) sD11_whistle_20 sM11_78 rfl rfl sOM15 rfl (by decide) (Nat.le_of_ble_eq_true rfl) (cM_finding 0 (by decide) _ m hx (hF 0 (by decide))) (fun r m hq ho20 hm => ?_)
    obtain ⟨rfl, hx⟩ := hq
    show sd_Wp sd_SM 3 sY11_whistle 23 [some (.inr 15), some (.inl h), some (.inl g)] [.inl (-1000001)] m _
    refine sd_ireturn sD11_whistle_23 rfl (fun hr hm => ?_)
    exact sd_done (by unfold sp_whistle; ((repeat (first | rw [if_pos (by first | assumption | omega)] | rw [if_neg (by first | assumption | omega)])); try rfl)) hx
  ·
    refine sd_iload_n sD11_whistle_8 rfl ?_
    refine sd_iconst sD11_whistle_9 (by decide) ?_
    refine sd_bipush sD11_whistle_10 rfl (by decide) ?_
    refine sd_callSp (as := [.inl g, .inl 0, .inl 9]) (st := []) (v := .inl (sd_b (0 ≤ g ∧ g ≤ 9))) sD11_whistle_12 sM11_56 rfl rfl (by decide) (Nat.le_of_ble_eq_true rfl) (cM_in g 0 9 m) (fun ho12 => ?_)
    refine sd_bif_ne (tgt := 24) sD11_whistle_15 (by decide) (fun zc15 => ?_) (fun zc15 => ?_)
    ·
      refine sd_aload_n sD11_whistle_24 rfl ?_
      refine sd_iload_n sD11_whistle_25 rfl ?_
      refine sd_callVp (as := [.inl h]) (st := []) (v := .inl (sd_b (sd_isA x h 1))) sD11_whistle_26 sM11_72 sOM15 rfl rfl rfl (by decide) (Nat.le_of_ble_eq_true rfl) (cM_isShop h _ m hx h1 h2 ) (fun ho26 => ?_)
      refine sd_bif_eq (tgt := 45) sD11_whistle_29 (by decide) (fun zc29 => ?_) (fun zc29 => ?_)
      ·
        refine sd_aload_n sD11_whistle_45 rfl ?_
        refine sd_iconst sD11_whistle_46 (by decide) ?_
        refine sd_callV (as := [.inl 2]) (st := []) sD11_whistle_47 sM11_78 rfl rfl sOM15 rfl (by decide) (Nat.le_of_ble_eq_true rfl) (cM_finding 2 (by decide) _ m hx (hF 2 (by decide))) (fun r m hq ho47 hm => ?_)
        obtain ⟨rfl, hx⟩ := hq
        show sd_Wp sd_SM 3 sY11_whistle 50 [some (.inr 15), some (.inl h), some (.inl g)] [.inl (-1000003)] m _
        refine sd_ireturn sD11_whistle_50 rfl (fun hr hm => ?_)
        exact sd_done (by unfold sp_whistle; ((repeat (first | rw [if_pos (by first | assumption | omega)] | rw [if_neg (by first | assumption | omega)])); try rfl)) hx
      ·
        refine sd_aload_n sD11_whistle_32 rfl ?_
        refine sd_aload_n sD11_whistle_33 rfl ?_
        refine sd_iload_n sD11_whistle_34 rfl ?_
        refine sd_iload_n sD11_whistle_35 rfl ?_
        refine sd_callVp (as := [.inl h, .inl g]) (st := [.inr 15]) (v := .inl (sd_rch x (sd_shl 1 h) g.toNat)) sD11_whistle_36 sM11_106 sOM15 rfl rfl rfl (by decide) (Nat.le_of_ble_eq_true rfl) (cM_reachBy h g _ m hx h1 h2 h3 (by omega)) (fun ho36 => ?_)
        refine sd_callVp (as := [.inl (sd_rch x (sd_shl 1 h) g.toNat)]) (st := []) (v := .inl (sd_inS x (sd_rch x (sd_shl 1 h) g.toNat))) sD11_whistle_39 sM11_116 sOM15 rfl rfl rfl (by decide) (Nat.le_of_ble_eq_true rfl) (cM_menInAll (sd_rch x (sd_shl 1 h) g.toNat) _ m hx h1 h4) (fun ho39 => ?_)
        refine sd_goto (tgt := 50) sD11_whistle_42 (by decide) ?_
        refine sd_ireturn sD11_whistle_50 rfl (fun hr hm => ?_)
        exact sd_done (by unfold sp_whistle; ((repeat (first | rw [if_pos (by first | assumption | omega)] | rw [if_neg (by first | assumption | omega)])); try rfl)) hx
    ·
      refine sd_aload_n sD11_whistle_18 rfl ?_
      refine sd_iconst sD11_whistle_19 (by decide) ?_
      refine sd_callV (as := [.inl 0]) (st := []) sD11_whistle_20 sM11_78 rfl rfl sOM15 rfl (by decide) (Nat.le_of_ble_eq_true rfl) (cM_finding 0 (by decide) _ m hx (hF 0 (by decide))) (fun r m hq ho20 hm => ?_)
      obtain ⟨rfl, hx⟩ := hq
      show sd_Wp sd_SM 3 sY11_whistle 23 [some (.inr 15), some (.inl h), some (.inl g)] [.inl (-1000001)] m _
      refine sd_ireturn sD11_whistle_23 rfl (fun hr hm => ?_)
      exact sd_done (by unfold sp_whistle; ((repeat (first | rw [if_pos (by first | assumption | omega)] | rw [if_neg (by first | assumption | omega)])); try rfl)) hx
