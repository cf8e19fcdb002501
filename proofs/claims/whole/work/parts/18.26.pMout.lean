set_option maxRecDepth 100000 in
set_option maxHeartbeats 4000000 in
theorem pM_out (h : Int) (P : Prop) [Decidable P] (x m : sd_M) (hx : sd_ns x m) (h1 : sd_I1 x) (hF : ∀ k : Nat, k < 7 → 0 ≤ x (4101 + k) ∧ x (4101 + k) ≤ 1000000) : sd_Ct sd_SM 2 sY11_out [.inr 15, .inl h, .inl (sd_b P)] m (sd_Qp (sp_out x h P)) := by
  refine sd_ct rfl (Nat.le_of_ble_eq_true rfl) (fun hok hm => ?_)
  obtain ⟨⟨i0, j0⟩, ⟨i1, j1⟩, ⟨i2, j2⟩, ⟨i3, j3⟩, ⟨i4, j4⟩, ⟨i5, j5⟩, ⟨i6, j6⟩, ⟨i7, j7⟩, ⟨i8, j8⟩⟩ := id h1
  have r_h : sd_R h := hok (.inl h) (by simp)
  show sd_Wp sd_SM 2 sY11_out 0 [some (.inr 15), some (.inl h), some (.inl (sd_b P))] [] m _
  refine sd_iload_n sD11_out_0 rfl ?_
  refine sd_iconst sD11_out_1 (by decide) ?_
  refine sd_aload_n sD11_out_2 rfl ?_
  refine sd_getfr sD11_out_3 sF11_7 sGM15_0 ?_
  refine sd_bipush sD11_out_6 rfl (by decide) ?_
  refine sd_ialdx (a := 6) (v := x 6) hx sD11_out_8 sAM0 (by omega) rfl ?_
  refine sd_iconst sD11_out_9 (by decide) ?_
  refine sd_isub (z := (x 6 - 1)) sD11_out_10 (by omega) (by omega) ?_
  refine sd_callSp (as := [.inl h, .inl 0, .inl (x 6 - 1)]) (st := []) (v := .inl (sd_b (0 ≤ h ∧ h ≤ (x 6 - 1)))) sD11_out_11 sM11_56 rfl rfl (by decide) (Nat.le_of_ble_eq_true rfl) (cM_in h 0 (x 6 - 1) m) (fun ho11 => ?_)
  refine sd_bif_eq (tgt := 38) sD11_out_14 (by decide) (fun zc14 => ?_) (fun zc14 => ?_)
  ·
    refine sd_aload_n sD11_out_38 rfl ?_
    refine sd_iconst sD11_out_39 (by decide) ?_
    refine sd_callV (as := [.inl 0]) (st := []) sD11_out_40 sM11_78 rfl rfl sOM15 rfl (by decide) (Nat.le_of_ble_eq_true rfl) (cM_finding 0 (by decide) _ m hx (hF 0 (by decide))) (fun r m hq ho40 hm => ?_)
    obtain ⟨rfl, hx⟩ := hq
    show sd_Wp sd_SM 2 sY11_out 43 [some (.inr 15), some (.inl h), some (.inl (sd_b P))] [.inl (-1000001)] m _
    refine sd_ireturn sD11_out_43 rfl (fun hr hm => ?_)
    exact sd_done (by unfold sp_out; ((repeat (first | rw [if_pos (by first | assumption | omega)] | rw [if_neg (by first | assumption | omega)])); try rfl)) hx
  ·
    refine sd_aload_n sD11_out_17 rfl ?_
    refine sd_sipush sD11_out_18 rfl (by decide) ?_
    refine sd_iload_n sD11_out_21 rfl ?_
    refine sd_iadd (z := (1284 + h)) sD11_out_22 (by omega) (by omega) ?_
    refine sd_iload_n sD11_out_23 rfl ?_
    refine sd_cut (J := 32) (ls := [some (.inr 15), some (.inl h), some (.inl (sd_b P))]) (st := [.inl (1284 + h), .inr 15]) (fun zv => zv = (sd_b P)) (fun zv hzv => ?_) (fun K24 => ?_)
    ·
      subst hzv
      refine sd_callV (as := [.inl (1284 + h), .inl (sd_b P)]) (st := []) sD11_out_32 sM11_93 rfl rfl sOM15 rfl (by decide) (Nat.le_of_ble_eq_true rfl) (cM_become (1284 + h) (sd_b P) _ m hx (by omega)) (fun r m hq ho32 hm => ?_)
      have hq2 : r = some (.inl (sd_b (¬ x (1284 + h.toNat) = sd_b P))) ∧ sd_ns (sd_up x (1284 + h.toNat) (sd_b P)) m := by rw [show ((1284 + h)).toNat = (1284 + h.toNat) from by omega] at hq; exact hq
      obtain ⟨rfl, hx⟩ := hq2
      show sd_Wp sd_SM 2 sY11_out 35 [some (.inr 15), some (.inl h), some (.inl (sd_b P))] [.inl (sd_b (¬ x (1284 + h.toNat) = sd_b P))] m _
      refine sd_goto (tgt := 43) sD11_out_35 (by decide) ?_
      refine sd_ireturn sD11_out_43 rfl (fun hr hm => ?_)
      exact sd_done (by unfold sp_out; ((repeat (first | rw [if_pos (by first | assumption | omega)] | rw [if_neg (by first | assumption | omega)])); try rfl)) hx
    ·
      refine sd_bif_eq (tgt := 31) sD11_out_24 (by decide) (fun zc24 => ?_) (fun zc24 => ?_)
      ·
        refine sd_iconst sD11_out_31 (by decide) ?_
        exact K24 _ (by exact (sd_b0 (by omega)).symm)
      ·
        refine sd_iconst sD11_out_27 (by decide) ?_
        refine sd_goto (tgt := 32) sD11_out_28 (by decide) ?_
        exact K24 _ (by exact (sd_b1 (by omega)).symm)
