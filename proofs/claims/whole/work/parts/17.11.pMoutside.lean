set_option maxRecDepth 100000 in
set_option maxHeartbeats 4000000 in
theorem pM_outside (v : Int) (x m : sd_M) (hx : sd_ns x m) (h1 : sd_I1 x) (hF : ∀ k : Nat, k < 7 → 0 ≤ x (4101 + k) ∧ x (4101 + k) ≤ 1000000) : sd_Ct sd_SM 1 sY11_outside [.inr 15, .inl v] m (sd_Qp (sp_outside x v)) := by
  refine sd_ct rfl (Nat.le_of_ble_eq_true rfl) (fun hok hm => ?_)
  obtain ⟨⟨i0, j0⟩, ⟨i1, j1⟩, ⟨i2, j2⟩, ⟨i3, j3⟩, ⟨i4, j4⟩, ⟨i5, j5⟩, ⟨i6, j6⟩, ⟨i7, j7⟩, ⟨i8, j8⟩⟩ := id h1
  have r_v : sd_R v := hok (.inl v) (by simp)
  show sd_Wp sd_SM 1 sY11_outside 0 [some (.inr 15), some (.inl v), none] [] m _
  refine sd_iload_n sD11_outside_0 rfl ?_
  refine sd_iconst sD11_outside_1 (by decide) ?_
  refine sd_bipush sD11_outside_2 rfl (by decide) ?_
  refine sd_callSp (as := [.inl v, .inl 0, .inl 9]) (st := []) (v := .inl (sd_b (0 ≤ v ∧ v ≤ 9))) sD11_outside_4 sM11_56 rfl rfl (by decide) (Nat.le_of_ble_eq_true rfl) (cM_in v 0 9 m) (fun ho4 => ?_)
  refine sd_bif_ne (tgt := 16) sD11_outside_7 (by decide) (fun zc7 => ?_) (fun zc7 => ?_)
  ·
    refine sd_aload_n sD11_outside_16 rfl ?_
    refine sd_getfr sD11_outside_17 sF11_7 sGM15_0 ?_
    refine sd_iconst sD11_outside_20 (by decide) ?_
    refine sd_ialdx (a := 1) (v := x 1) hx sD11_outside_21 sAM0 (by omega) rfl ?_
    refine sd_istore_n (ls' := [some (.inr 15), some (.inl v), some (.inl (x 1))]) sD11_outside_22 (by decide) rfl ?_
    refine sd_aload_n sD11_outside_23 rfl ?_
    refine sd_getfr sD11_outside_24 sF11_7 sGM15_0 ?_
    refine sd_iconst sD11_outside_27 (by decide) ?_
    refine sd_iload_n sD11_outside_28 rfl ?_
    refine sd_iastx (a := 1) sd_sokM hx sD11_outside_29 sAM0 (by omega) (fun m hx em29 => ?_)
    refine sd_iload_n sD11_outside_30 rfl ?_
    refine sd_ireturn sD11_outside_31 rfl (fun hr hm => ?_)
    exact sd_done (by unfold sp_outside; ((repeat (first | rw [if_pos (by first | assumption | omega)] | rw [if_neg (by first | assumption | omega)])); try rfl)) hx
  ·
    refine sd_aload_n sD11_outside_10 rfl ?_
    refine sd_iconst sD11_outside_11 (by decide) ?_
    refine sd_callV (as := [.inl 0]) (st := []) sD11_outside_12 sM11_78 rfl rfl sOM15 rfl (by decide) (Nat.le_of_ble_eq_true rfl) (cM_finding 0 (by decide) _ m hx (hF 0 (by decide))) (fun r m hq ho12 hm => ?_)
    obtain ⟨rfl, hx⟩ := hq
    show sd_Wp sd_SM 1 sY11_outside 15 [some (.inr 15), some (.inl v), none] [.inl (-1000001)] m _
    refine sd_ireturn sD11_outside_15 rfl (fun hr hm => ?_)
    exact sd_done (by unfold sp_outside; ((repeat (first | rw [if_pos (by first | assumption | omega)] | rw [if_neg (by first | assumption | omega)])); try rfl)) hx
