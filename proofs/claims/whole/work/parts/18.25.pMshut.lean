set_option maxRecDepth 100000 in
set_option maxHeartbeats 4000000 in
theorem pM_shut (h : Int) (P : Prop) [Decidable P] (x m : sd_M) (hx : sd_ns x m) (h1 : sd_I1 x) (h2 : sd_I2 x) (hF : ∀ k : Nat, k < 7 → 0 ≤ x (4101 + k) ∧ x (4101 + k) ≤ 1000000) : sd_Ct sd_SM 3 sY11_shut [.inr 15, .inl h, .inl (sd_b P)] m (sd_Qp (sp_shut x h P)) := by
  refine sd_ct rfl (Nat.le_of_ble_eq_true rfl) (fun hok hm => ?_)
  obtain ⟨⟨i0, j0⟩, ⟨i1, j1⟩, ⟨i2, j2⟩, ⟨i3, j3⟩, ⟨i4, j4⟩, ⟨i5, j5⟩, ⟨i6, j6⟩, ⟨i7, j7⟩, ⟨i8, j8⟩⟩ := id h1
  have r_h : sd_R h := hok (.inl h) (by simp)
  show sd_Wp sd_SM 3 sY11_shut 0 [some (.inr 15), some (.inl h), some (.inl (sd_b P))] [] m _
  refine sd_aload_n sD11_shut_0 rfl ?_
  refine sd_iload_n sD11_shut_1 rfl ?_
  refine sd_callVp (as := [.inl h]) (st := []) (v := .inl (sd_b (sd_isH x h))) sD11_shut_2 sM11_60 sOM15 rfl rfl rfl (by decide) (Nat.le_of_ble_eq_true rfl) (cM_isHold h _ m hx h1 ) (fun ho2 => ?_)
  refine sd_bif_ne (tgt := 14) sD11_shut_5 (by decide) (fun zc5 => ?_) (fun zc5 => ?_)
  ·
    refine sd_aload_n sD11_shut_14 rfl ?_
    refine sd_iload_n sD11_shut_15 rfl ?_
    refine sd_iconst sD11_shut_16 (by decide) ?_
    refine sd_callVp (as := [.inl h, .inl 4]) (st := []) (v := .inl (sd_b (sd_isK (x (10 + h.toNat)) 4))) sD11_shut_17 sM11_68 sOM15 rfl rfl rfl (by decide) (Nat.le_of_ble_eq_true rfl) (cM_isOf h 4 _ m hx h1 (by omega)) (fun ho17 => ?_)
    refine sd_bif_eq (tgt := 44) sD11_shut_20 (by decide) (fun zc20 => ?_) (fun zc20 => ?_)
    ·
      refine sd_aload_n sD11_shut_44 rfl ?_
      refine sd_iconst sD11_shut_45 (by decide) ?_
      refine sd_callV (as := [.inl 2]) (st := []) sD11_shut_46 sM11_78 rfl rfl sOM15 rfl (by decide) (Nat.le_of_ble_eq_true rfl) (cM_finding 2 (by decide) _ m hx (hF 2 (by decide))) (fun r m hq ho46 hm => ?_)
      obtain ⟨rfl, hx⟩ := hq
      show sd_Wp sd_SM 3 sY11_shut 49 [some (.inr 15), some (.inl h), some (.inl (sd_b P))] [.inl (-1000003)] m _
      refine sd_ireturn sD11_shut_49 rfl (fun hr hm => ?_)
      exact sd_done (by unfold sp_shut; ((repeat (first | rw [if_pos (by first | assumption | omega)] | rw [if_neg (by first | assumption | omega)])); try rfl)) hx
    ·
      refine sd_aload_n sD11_shut_23 rfl ?_
      refine sd_sipush sD11_shut_24 rfl (by decide) ?_
      refine sd_iload_n sD11_shut_27 rfl ?_
      refine sd_iadd (z := (250 + h)) sD11_shut_28 (by omega) (by omega) ?_
      refine sd_iload_n sD11_shut_29 rfl ?_
      refine sd_cut (J := 38) (ls := [some (.inr 15), some (.inl h), some (.inl (sd_b P))]) (st := [.inl (250 + h), .inr 15]) (fun zv => zv = (sd_b P)) (fun zv hzv => ?_) (fun K30 => ?_)
      ·
        subst hzv
        refine sd_callV (as := [.inl (250 + h), .inl (sd_b P)]) (st := []) sD11_shut_38 sM11_93 rfl rfl sOM15 rfl (by decide) (Nat.le_of_ble_eq_true rfl) (cM_become (250 + h) (sd_b P) _ m hx (by omega)) (fun r m hq ho38 hm => ?_)
        have hq2 : r = some (.inl (sd_b (¬ x (250 + h.toNat) = sd_b P))) ∧ sd_ns (sd_up x (250 + h.toNat) (sd_b P)) m := by rw [show ((250 + h)).toNat = (250 + h.toNat) from by omega] at hq; exact hq
        obtain ⟨rfl, hx⟩ := hq2
        show sd_Wp sd_SM 3 sY11_shut 41 [some (.inr 15), some (.inl h), some (.inl (sd_b P))] [.inl (sd_b (¬ x (250 + h.toNat) = sd_b P))] m _
        refine sd_goto (tgt := 49) sD11_shut_41 (by decide) ?_
        refine sd_ireturn sD11_shut_49 rfl (fun hr hm => ?_)
        exact sd_done (by unfold sp_shut; ((repeat (first | rw [if_pos (by first | assumption | omega)] | rw [if_neg (by first | assumption | omega)])); try rfl)) hx
      ·
        refine sd_bif_eq (tgt := 37) sD11_shut_30 (by decide) (fun zc30 => ?_) (fun zc30 => ?_)
        ·
          refine sd_iconst sD11_shut_37 (by decide) ?_
          exact K30 _ (by exact (sd_b0 (by omega)).symm)
        ·
          refine sd_iconst sD11_shut_33 (by decide) ?_
          refine sd_goto (tgt := 38) sD11_shut_34 (by decide) ?_
          exact K30 _ (by exact (sd_b1 (by omega)).symm)
  ·
    refine sd_aload_n sD11_shut_8 rfl ?_
    refine sd_iconst sD11_shut_9 (by decide) ?_
    refine sd_callV (as := [.inl 0]) (st := []) sD11_shut_10 sM11_78 rfl rfl sOM15 rfl (by decide) (Nat.le_of_ble_eq_true rfl) (cM_finding 0 (by decide) _ m hx (hF 0 (by decide))) (fun r m hq ho10 hm => ?_)
    obtain ⟨rfl, hx⟩ := hq
    show sd_Wp sd_SM 3 sY11_shut 13 [some (.inr 15), some (.inl h), some (.inl (sd_b P))] [.inl (-1000001)] m _
    refine sd_ireturn sD11_shut_13 rfl (fun hr hm => ?_)
    exact sd_done (by unfold sp_shut; ((repeat (first | rw [if_pos (by first | assumption | omega)] | rw [if_neg (by first | assumption | omega)])); try rfl)) hx
