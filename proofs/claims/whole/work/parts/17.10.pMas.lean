set_option maxRecDepth 100000 in
set_option maxHeartbeats 4000000 in
theorem pM_as (h : Int) (k : Int) (x m : sd_M) (hx : sd_ns x m) (h1 : sd_I1 x) (h2 : sd_I2 x) (hF : ∀ k : Nat, k < 7 → 0 ≤ x (4101 + k) ∧ x (4101 + k) ≤ 1000000) : sd_Ct sd_SM 2 sY11_as [.inr 15, .inl h, .inl k] m (sd_Qp (sp_as x h k)) := by
  refine sd_ct rfl (Nat.le_of_ble_eq_true rfl) (fun hok hm => ?_)
  obtain ⟨⟨i0, j0⟩, ⟨i1, j1⟩, ⟨i2, j2⟩, ⟨i3, j3⟩, ⟨i4, j4⟩, ⟨i5, j5⟩, ⟨i6, j6⟩, ⟨i7, j7⟩, ⟨i8, j8⟩⟩ := id h1
  have r_h : sd_R h := hok (.inl h) (by simp)
  have r_k : sd_R k := hok (.inl k) (by simp)
  show sd_Wp sd_SM 2 sY11_as 0 [some (.inr 15), some (.inl h), some (.inl k)] [] m _
  refine sd_aload_n sD11_as_0 rfl ?_
  refine sd_iload_n sD11_as_1 rfl ?_
  refine sd_callVp (as := [.inl h]) (st := []) (v := .inl (sd_b (sd_isH x h))) sD11_as_2 sM11_60 sOM15 rfl rfl rfl (by decide) (Nat.le_of_ble_eq_true rfl) (cM_isHold h _ m hx h1 ) (fun ho2 => ?_)
  refine sd_bif_eq (tgt := 18) sD11_as_5 (by decide) (fun zc5 => ?_) (fun zc5 => ?_)
  ·
    refine sd_aload_n sD11_as_18 rfl ?_
    refine sd_iconst sD11_as_19 (by decide) ?_
    refine sd_callV (as := [.inl 0]) (st := []) sD11_as_20 sM11_78 rfl rfl sOM15 rfl (by decide) (Nat.le_of_ble_eq_true rfl) (cM_finding 0 (by decide) _ m hx (hF 0 (by decide))) (fun r m hq ho20 hm => ?_)
    obtain ⟨rfl, hx⟩ := hq
    show sd_Wp sd_SM 2 sY11_as 23 [some (.inr 15), some (.inl h), some (.inl k)] [.inl (-1000001)] m _
    refine sd_ireturn sD11_as_23 rfl (fun hr hm => ?_)
    exact sd_done (by unfold sp_as; ((repeat (first | rw [if_pos (by first | assumption | omega)] | rw [if_neg (by first | assumption | omega)])); try rfl)) hx
  ·
    refine sd_iload_n sD11_as_8 rfl ?_
    refine sd_iconst sD11_as_9 (by decide) ?_
    refine sd_bipush sD11_as_10 rfl (by decide) ?_
    refine sd_callSp (as := [.inl k, .inl 0, .inl 6]) (st := []) (v := .inl (sd_b (0 ≤ k ∧ k ≤ 6))) sD11_as_12 sM11_56 rfl rfl (by decide) (Nat.le_of_ble_eq_true rfl) (cM_in k 0 6 m) (fun ho12 => ?_)
    refine sd_bif_ne (tgt := 24) sD11_as_15 (by decide) (fun zc15 => ?_) (fun zc15 => ?_)
    ·
      refine sd_aload_n sD11_as_24 rfl ?_
      refine sd_iload_n sD11_as_25 rfl ?_
      refine sd_iload_n sD11_as_26 rfl ?_
      refine sd_callVp (as := [.inl h, .inl k]) (st := []) (v := .inl (sd_b (sd_isK (x (10 + h.toNat)) k))) sD11_as_27 sM11_68 sOM15 rfl rfl rfl (by decide) (Nat.le_of_ble_eq_true rfl) (cM_isOf h k _ m hx h1 (by omega)) (fun ho27 => ?_)
      refine sd_bif_eq (tgt := 37) sD11_as_30 (by decide) (fun zc30 => ?_) (fun zc30 => ?_)
      ·
        refine sd_aload_n sD11_as_37 rfl ?_
        refine sd_iconst sD11_as_38 (by decide) ?_
        refine sd_callV (as := [.inl 2]) (st := []) sD11_as_39 sM11_78 rfl rfl sOM15 rfl (by decide) (Nat.le_of_ble_eq_true rfl) (cM_finding 2 (by decide) _ m hx (hF 2 (by decide))) (fun r m hq ho39 hm => ?_)
        obtain ⟨rfl, hx⟩ := hq
        show sd_Wp sd_SM 2 sY11_as 42 [some (.inr 15), some (.inl h), some (.inl k)] [.inl (-1000003)] m _
        refine sd_ireturn sD11_as_42 rfl (fun hr hm => ?_)
        exact sd_done (by unfold sp_as; ((repeat (first | rw [if_pos (by first | assumption | omega)] | rw [if_neg (by first | assumption | omega)])); try rfl)) hx
      ·
        refine sd_iload_n sD11_as_33 rfl ?_
        refine sd_goto (tgt := 42) sD11_as_34 (by decide) ?_
        refine sd_ireturn sD11_as_42 rfl (fun hr hm => ?_)
        exact sd_done (by unfold sp_as; ((repeat (first | rw [if_pos (by first | assumption | omega)] | rw [if_neg (by first | assumption | omega)])); try rfl)) hx
    ·
      refine sd_aload_n sD11_as_18 rfl ?_
      refine sd_iconst sD11_as_19 (by decide) ?_
      refine sd_callV (as := [.inl 0]) (st := []) sD11_as_20 sM11_78 rfl rfl sOM15 rfl (by decide) (Nat.le_of_ble_eq_true rfl) (cM_finding 0 (by decide) _ m hx (hF 0 (by decide))) (fun r m hq ho20 hm => ?_)
      obtain ⟨rfl, hx⟩ := hq
      show sd_Wp sd_SM 2 sY11_as 23 [some (.inr 15), some (.inl h), some (.inl k)] [.inl (-1000001)] m _
      refine sd_ireturn sD11_as_23 rfl (fun hr hm => ?_)
      exact sd_done (by unfold sp_as; ((repeat (first | rw [if_pos (by first | assumption | omega)] | rw [if_neg (by first | assumption | omega)])); try rfl)) hx
