set_option maxRecDepth 100000 in
set_option maxHeartbeats 4000000 in
theorem pM_force (g : Int) (x m : sd_M) (hx : sd_ns x m) (h1 : sd_I1 x) (h2 : sd_I2 x) (h3 : sd_I3 x) (h4 : sd_I4 x) (hF : ∀ k : Nat, k < 7 → 0 ≤ x (4101 + k) ∧ x (4101 + k) ≤ 1000000) : sd_Ct sd_SM 4 sY11_force [.inr 15, .inl g] m (sd_Qp (sp_force x g)) := by
  refine sd_ct rfl (Nat.le_of_ble_eq_true rfl) (fun hok hm => ?_)
  obtain ⟨⟨i0, j0⟩, ⟨i1, j1⟩, ⟨i2, j2⟩, ⟨i3, j3⟩, ⟨i4, j4⟩, ⟨i5, j5⟩, ⟨i6, j6⟩, ⟨i7, j7⟩, ⟨i8, j8⟩⟩ := id h1
  have r_g : sd_R g := hok (.inl g) (by simp)
  show sd_Wp sd_SM 4 sY11_force 0 [some (.inr 15), some (.inl g)] [] m _
  refine sd_aload_n sD11_force_0 rfl ?_
  refine sd_iload_n sD11_force_1 rfl ?_
  refine sd_callVp (as := [.inl g]) (st := []) (v := .inl (sd_b (sd_isH x g))) sD11_force_2 sM11_60 sOM15 rfl rfl rfl (by decide) (Nat.le_of_ble_eq_true rfl) (cM_isHold g _ m hx h1 ) (fun ho2 => ?_)
  refine sd_bif_ne (tgt := 14) sD11_force_5 (by decide) (fun zc5 => ?_) (fun zc5 => ?_)
  ·
    refine sd_aload_n sD11_force_14 rfl ?_
    refine sd_iload_n sD11_force_15 rfl ?_
    refine sd_callVp (as := [.inl g]) (st := []) (v := .inl (x (10 + g.toNat))) sD11_force_16 sM11_64 sOM15 rfl rfl rfl (by decide) (Nat.le_of_ble_eq_true rfl) (cM_kindOf g _ m hx  (by omega)) (fun ho16 => ?_)
    refine sd_iconst sD11_force_19 (by decide) ?_
    refine sd_icmp_ne (tgt := 31) sD11_force_20 (by decide) (fun zc20 => ?_) (fun zc20 => ?_)
    ·
      refine sd_aload_n sD11_force_31 rfl ?_
      refine sd_iconst sD11_force_32 (by decide) ?_
      refine sd_callV (as := [.inl 2]) (st := []) sD11_force_33 sM11_78 rfl rfl sOM15 rfl (by decide) (Nat.le_of_ble_eq_true rfl) (cM_finding 2 (by decide) _ m hx (hF 2 (by decide))) (fun r m hq ho33 hm => ?_)
      obtain ⟨rfl, hx⟩ := hq
      show sd_Wp sd_SM 4 sY11_force 36 [some (.inr 15), some (.inl g)] [.inl (-1000003)] m _
      refine sd_ireturn sD11_force_36 rfl (fun hr hm => ?_)
      exact sd_done (by unfold sp_force; ((repeat (first | rw [if_pos (by first | assumption | omega)] | rw [if_neg (by first | assumption | omega)])); try rfl)) hx
    ·
      refine sd_aload_n sD11_force_23 rfl ?_
      refine sd_iload_n sD11_force_24 rfl ?_
      refine sd_callVp (as := [.inl g]) (st := []) (v := .inl (sd_frc x g.toNat)) sD11_force_25 sM11_122 sOM15 rfl rfl rfl (by decide) (Nat.le_of_ble_eq_true rfl) (cM_forceAt g _ m hx h1 h2 h3 h4 (by omega)) (fun ho25 => ?_)
      refine sd_goto (tgt := 36) sD11_force_28 (by decide) ?_
      refine sd_ireturn sD11_force_36 rfl (fun hr hm => ?_)
      exact sd_done (by unfold sp_force; ((repeat (first | rw [if_pos (by first | assumption | omega)] | rw [if_neg (by first | assumption | omega)])); try rfl)) hx
  ·
    refine sd_aload_n sD11_force_8 rfl ?_
    refine sd_iconst sD11_force_9 (by decide) ?_
    refine sd_callV (as := [.inl 0]) (st := []) sD11_force_10 sM11_78 rfl rfl sOM15 rfl (by decide) (Nat.le_of_ble_eq_true rfl) (cM_finding 0 (by decide) _ m hx (hF 0 (by decide))) (fun r m hq ho10 hm => ?_)
    obtain ⟨rfl, hx⟩ := hq
    show sd_Wp sd_SM 4 sY11_force 13 [some (.inr 15), some (.inl g)] [.inl (-1000001)] m _
    refine sd_ireturn sD11_force_13 rfl (fun hr hm => ?_)
    exact sd_done (by unfold sp_force; ((repeat (first | rw [if_pos (by first | assumption | omega)] | rw [if_neg (by first | assumption | omega)])); try rfl)) hx
