set_option maxRecDepth 100000 in
set_option maxHeartbeats 4000000 in
theorem pM_run (h : Int) (P : Prop) [Decidable P] (x m : sd_M) (hx : sd_ns x m) (h1 : sd_I1 x) (h2 : sd_I2 x) (hF : ∀ k : Nat, k < 7 → 0 ≤ x (4101 + k) ∧ x (4101 + k) ≤ 1000000) : sd_Ct sd_SM 3 sY11_run [.inr 15, .inl h, .inl (sd_b P)] m (sd_Qp (sp_run x h P)) := by
  refine sd_ct rfl (Nat.le_of_ble_eq_true rfl) (fun hok hm => ?_)
  obtain ⟨⟨i0, j0⟩, ⟨i1, j1⟩, ⟨i2, j2⟩, ⟨i3, j3⟩, ⟨i4, j4⟩, ⟨i5, j5⟩, ⟨i6, j6⟩, ⟨i7, j7⟩, ⟨i8, j8⟩⟩ := id h1
  have r_h : sd_R h := hok (.inl h) (by simp)
  show sd_Wp sd_SM 3 sY11_run 0 [some (.inr 15), some (.inl h), some (.inl (sd_b P))] [] m _
  refine sd_aload_n sD11_run_0 rfl ?_
  refine sd_iload_n sD11_run_1 rfl ?_
  refine sd_callVp (as := [.inl h]) (st := []) (v := .inl (sd_b (sd_isH x h))) sD11_run_2 sM11_60 sOM15 rfl rfl rfl (by decide) (Nat.le_of_ble_eq_true rfl) (cM_isHold h _ m hx h1 ) (fun ho2 => ?_)
  refine sd_bif_ne (tgt := 14) sD11_run_5 (by decide) (fun zc5 => ?_) (fun zc5 => ?_)
  ·
    refine sd_aload_n sD11_run_14 rfl ?_
    refine sd_iload_n sD11_run_15 rfl ?_
    refine sd_callVp (as := [.inl h]) (st := []) (v := .inl (sd_b (sd_isA x h 1))) sD11_run_16 sM11_72 sOM15 rfl rfl rfl (by decide) (Nat.le_of_ble_eq_true rfl) (cM_isShop h _ m hx h1 h2 ) (fun ho16 => ?_)
    refine sd_bif_eq (tgt := 43) sD11_run_19 (by decide) (fun zc19 => ?_) (fun zc19 => ?_)
    ·
      refine sd_aload_n sD11_run_43 rfl ?_
      refine sd_iconst sD11_run_44 (by decide) ?_
      refine sd_callV (as := [.inl 2]) (st := []) sD11_run_45 sM11_78 rfl rfl sOM15 rfl (by decide) (Nat.le_of_ble_eq_true rfl) (cM_finding 2 (by decide) _ m hx (hF 2 (by decide))) (fun r m hq ho45 hm => ?_)
      obtain ⟨rfl, hx⟩ := hq
      show sd_Wp sd_SM 3 sY11_run 48 [some (.inr 15), some (.inl h), some (.inl (sd_b P))] [.inl (-1000003)] m _
      refine sd_ireturn sD11_run_48 rfl (fun hr hm => ?_)
      exact sd_done (by unfold sp_run; ((repeat (first | rw [if_pos (by first | assumption | omega)] | rw [if_neg (by first | assumption | omega)])); try rfl)) hx
    ·
      refine sd_aload_n sD11_run_22 rfl ?_
      refine sd_sipush sD11_run_23 rfl (by decide) ?_
      refine sd_iload_n sD11_run_26 rfl ?_
      refine sd_iadd (z := (130 + h)) sD11_run_27 (by omega) (by omega) ?_
      refine sd_iload_n sD11_run_28 rfl ?_
      refine sd_cut (J := 37) (ls := [some (.inr 15), some (.inl h), some (.inl (sd_b P))]) (st := [.inl (130 + h), .inr 15]) (fun zv => zv = (sd_b P)) (fun zv hzv => ?_) (fun K29 => ?_)
      ·
        subst hzv
        refine sd_callV (as := [.inl (130 + h), .inl (sd_b P)]) (st := []) sD11_run_37 sM11_93 rfl rfl sOM15 rfl (by decide) (Nat.le_of_ble_eq_true rfl) (cM_become (130 + h) (sd_b P) _ m hx (by omega)) (fun r m hq ho37 hm => ?_)
        have hq2 : r = some (.inl (sd_b (¬ x (130 + h.toNat) = sd_b P))) ∧ sd_ns (sd_up x (130 + h.toNat) (sd_b P)) m := by rw [show ((130 + h)).toNat = (130 + h.toNat) from by omega] at hq; exact hq
        obtain ⟨rfl, hx⟩ := hq2
        show sd_Wp sd_SM 3 sY11_run 40 [some (.inr 15), some (.inl h), some (.inl (sd_b P))] [.inl (sd_b (¬ x (130 + h.toNat) = sd_b P))] m _
        refine sd_goto (tgt := 48) sD11_run_40 (by decide) ?_
        refine sd_ireturn sD11_run_48 rfl (fun hr hm => ?_)
        exact sd_done (by unfold sp_run; ((repeat (first | rw [if_pos (by first | assumption | omega)] | rw [if_neg (by first | assumption | omega)])); try rfl)) hx
      ·
        refine sd_bif_eq (tgt := 36) sD11_run_29 (by decide) (fun zc29 => ?_) (fun zc29 => ?_)
        ·
          refine sd_iconst sD11_run_36 (by decide) ?_
          exact K29 _ (by exact (sd_b0 (by omega)).symm)
        ·
          refine sd_iconst sD11_run_32 (by decide) ?_
          refine sd_goto (tgt := 37) sD11_run_33 (by decide) ?_
          exact K29 _ (by exact (sd_b1 (by omega)).symm)
  ·
    refine sd_aload_n sD11_run_8 rfl ?_
    refine sd_iconst sD11_run_9 (by decide) ?_
    refine sd_callV (as := [.inl 0]) (st := []) sD11_run_10 sM11_78 rfl rfl sOM15 rfl (by decide) (Nat.le_of_ble_eq_true rfl) (cM_finding 0 (by decide) _ m hx (hF 0 (by decide))) (fun r m hq ho10 hm => ?_)
    obtain ⟨rfl, hx⟩ := hq
    show sd_Wp sd_SM 3 sY11_run 13 [some (.inr 15), some (.inl h), some (.inl (sd_b P))] [.inl (-1000001)] m _
    refine sd_ireturn sD11_run_13 rfl (fun hr hm => ?_)
    exact sd_done (by unfold sp_run; ((repeat (first | rw [if_pos (by first | assumption | omega)] | rw [if_neg (by first | assumption | omega)])); try rfl)) hx
