set_option maxRecDepth 100000 in
set_option maxHeartbeats 4000000 in
theorem pM_shares (j : Int) (x m : sd_M) (hx : sd_ns x m) (h1 : sd_I1 x) (h6 : sd_I6 x) (hF : ∀ k : Nat, k < 7 → 0 ≤ x (4101 + k) ∧ x (4101 + k) ≤ 1000000) : sd_Ct sd_SM 3 sY11_shares [.inr 15, .inl j] m (sd_Qp (sp_shares x j)) := by
  refine sd_ct rfl (Nat.le_of_ble_eq_true rfl) (fun hok hm => ?_)
  obtain ⟨⟨i0, j0⟩, ⟨i1, j1⟩, ⟨i2, j2⟩, ⟨i3, j3⟩, ⟨i4, j4⟩, ⟨i5, j5⟩, ⟨i6, j6⟩, ⟨i7, j7⟩, ⟨i8, j8⟩⟩ := id h1
  have r_j : sd_R j := hok (.inl j) (by simp)
  show sd_Wp sd_SM 3 sY11_shares 0 [some (.inr 15), some (.inl j), none] [] m _
  refine sd_iload_n sD11_shares_0 rfl ?_
  refine sd_iconst sD11_shares_1 (by decide) ?_
  refine sd_iconst sD11_shares_2 (by decide) ?_
  refine sd_callSp (as := [.inl j, .inl 0, .inl 3]) (st := []) (v := .inl (sd_b (0 ≤ j ∧ j ≤ 3))) sD11_shares_3 sM11_56 rfl rfl (by decide) (Nat.le_of_ble_eq_true rfl) (cM_in j 0 3 m) (fun ho3 => ?_)
  refine sd_bif_ne (tgt := 15) sD11_shares_6 (by decide) (fun zc6 => ?_) (fun zc6 => ?_)
  ·
    have e6 := h6.2 j.toNat (by omega)
    refine sd_aload_n sD11_shares_15 rfl ?_
    refine sd_getfr sD11_shares_16 sF11_7 sGM15_0 ?_
    refine sd_sipush sD11_shares_19 rfl (by decide) ?_
    refine sd_iload_n sD11_shares_22 rfl ?_
    refine sd_iadd (z := (1268 + j)) sD11_shares_23 (by omega) (by omega) ?_
    refine sd_ialdx (a := (1268 + j.toNat)) (v := x (1268 + j.toNat)) hx sD11_shares_24 sAM0 (by omega) rfl ?_
    refine sd_if_lt (tgt := 34) sD11_shares_25 (by decide) (fun zc25 => ?_) (fun zc25 => ?_)
    ·
      refine sd_aload_n sD11_shares_34 rfl ?_
      refine sd_callVp (as := []) (st := []) (v := .inl (sd_cF x)) sD11_shares_35 sM11_196 sOM15 rfl rfl rfl (by decide) (Nat.le_of_ble_eq_true rfl) (cM_inForce  _ m hx h1 h6 ) (fun ho35 => ?_)
      refine sd_istore_n (ls' := [some (.inr 15), some (.inl j), some (.inl (sd_cF x))]) sD11_shares_38 (by decide) rfl ?_
      refine sd_aload_n sD11_shares_39 rfl ?_
      refine sd_getfr sD11_shares_40 sF11_7 sGM15_0 ?_
      refine sd_sipush sD11_shares_43 rfl (by decide) ?_
      refine sd_iload_n sD11_shares_46 rfl ?_
      refine sd_iadd (z := (1268 + j)) sD11_shares_47 (by omega) (by omega) ?_
      refine sd_aload_n sD11_shares_48 rfl ?_
      refine sd_getfr sD11_shares_49 sF11_7 sGM15_0 ?_
      refine sd_iconst sD11_shares_52 (by decide) ?_
      refine sd_ialdx (a := 0) (v := x 0) hx sD11_shares_53 sAM0 (by omega) rfl ?_
      refine sd_iastx (a := (1268 + j.toNat)) sd_sokM hx sD11_shares_54 sAM0 (by omega) (fun m hx em54 => ?_)
      have e8 := sd_cF_le h1
      have h1 : sd_I1 (sd_up x (1268 + j.toNat) (x 0)) := sd_I1_up h1 (by omega) _
      have h6 : sd_I6 (sd_up x (1268 + j.toNat) (x 0)) := sd_I6_sh (by assumption) h6 (by omega) (by omega)
      have e9 := sd_cF_le h1
      refine sd_iload_n sD11_shares_55 rfl ?_
      refine sd_aload_n sD11_shares_56 rfl ?_
      refine sd_callVp (as := []) (st := [.inl (sd_cF x)]) (v := .inl (sd_cF (sd_up x (1268 + j.toNat) (x 0)))) sD11_shares_57 sM11_196 sOM15 rfl rfl rfl (by decide) (Nat.le_of_ble_eq_true rfl) (cM_inForce  _ m hx h1 h6 ) (fun ho57 => ?_)
      refine sd_isub (z := (sd_cF x - (sd_cF (sd_up x (1268 + j.toNat) (x 0))))) sD11_shares_60 (by omega) (by omega) ?_
      refine sd_ireturn sD11_shares_61 rfl (fun hr hm => ?_)
      exact sd_done (by unfold sp_shares; ((repeat (first | rw [if_pos (by first | assumption | omega)] | rw [if_neg (by first | assumption | omega)])); try rfl)) hx
    ·
      refine sd_aload_n sD11_shares_28 rfl ?_
      refine sd_iconst sD11_shares_29 (by decide) ?_
      refine sd_callV (as := [.inl 4]) (st := []) sD11_shares_30 sM11_78 rfl rfl sOM15 rfl (by decide) (Nat.le_of_ble_eq_true rfl) (cM_finding 4 (by decide) _ m hx (hF 4 (by decide))) (fun r m hq ho30 hm => ?_)
      obtain ⟨rfl, hx⟩ := hq
      show sd_Wp sd_SM 3 sY11_shares 33 [some (.inr 15), some (.inl j), none] [.inl (-1000005)] m _
      refine sd_ireturn sD11_shares_33 rfl (fun hr hm => ?_)
      exact sd_done (by unfold sp_shares; ((repeat (first | rw [if_pos (by first | assumption | omega)] | rw [if_neg (by first | assumption | omega)])); try rfl)) hx
  ·
    refine sd_aload_n sD11_shares_9 rfl ?_
    refine sd_iconst sD11_shares_10 (by decide) ?_
    refine sd_callV (as := [.inl 0]) (st := []) sD11_shares_11 sM11_78 rfl rfl sOM15 rfl (by decide) (Nat.le_of_ble_eq_true rfl) (cM_finding 0 (by decide) _ m hx (hF 0 (by decide))) (fun r m hq ho11 hm => ?_)
    obtain ⟨rfl, hx⟩ := hq
    show sd_Wp sd_SM 3 sY11_shares 14 [some (.inr 15), some (.inl j), none] [.inl (-1000001)] m _
    refine sd_ireturn sD11_shares_14 rfl (fun hr hm => ?_)
    exact sd_done (by unfold sp_shares; ((repeat (first | rw [if_pos (by first | assumption | omega)] | rw [if_neg (by first | assumption | omega)])); try rfl)) hx
