set_option maxRecDepth 100000 in
set_option maxHeartbeats 4000000 in
theorem pM_squads (n : Int) (x m : sd_M) (hx : sd_ns x m) (h1 : sd_I1 x) (hF : ∀ k : Nat, k < 7 → 0 ≤ x (4101 + k) ∧ x (4101 + k) ≤ 1000000) : sd_Ct sd_SM 1 sY11_squads [.inr 15, .inl n] m (sd_Qp (sp_squads x n)) := by
  refine sd_ct rfl (Nat.le_of_ble_eq_true rfl) (fun hok hm => ?_)
  obtain ⟨⟨i0, j0⟩, ⟨i1, j1⟩, ⟨i2, j2⟩, ⟨i3, j3⟩, ⟨i4, j4⟩, ⟨i5, j5⟩, ⟨i6, j6⟩, ⟨i7, j7⟩, ⟨i8, j8⟩⟩ := id h1
  have r_n : sd_R n := hok (.inl n) (by simp)
  show sd_Wp sd_SM 1 sY11_squads 0 [some (.inr 15), some (.inl n), none] [] m _
  refine sd_iload_n sD11_squads_0 rfl ?_
  refine sd_iconst sD11_squads_1 (by decide) ?_
  refine sd_bipush sD11_squads_2 rfl (by decide) ?_
  refine sd_callSp (as := [.inl n, .inl 0, .inl 9]) (st := []) (v := .inl (sd_b (0 ≤ n ∧ n ≤ 9))) sD11_squads_4 sM11_56 rfl rfl (by decide) (Nat.le_of_ble_eq_true rfl) (cM_in n 0 9 m) (fun ho4 => ?_)
  refine sd_bif_ne (tgt := 16) sD11_squads_7 (by decide) (fun zc7 => ?_) (fun zc7 => ?_)
  ·
    refine sd_aload_n sD11_squads_16 rfl ?_
    refine sd_getfr sD11_squads_17 sF11_7 sGM15_0 ?_
    refine sd_bipush sD11_squads_20 rfl (by decide) ?_
    refine sd_ialdx (a := 7) (v := x 7) hx sD11_squads_22 sAM0 (by omega) rfl ?_
    refine sd_istore_n (ls' := [some (.inr 15), some (.inl n), some (.inl (x 7))]) sD11_squads_23 (by decide) rfl ?_
    refine sd_aload_n sD11_squads_24 rfl ?_
    refine sd_getfr sD11_squads_25 sF11_7 sGM15_0 ?_
    refine sd_bipush sD11_squads_28 rfl (by decide) ?_
    refine sd_iload_n sD11_squads_30 rfl ?_
    refine sd_iastx (a := 7) sd_sokM hx sD11_squads_31 sAM0 (by omega) (fun m hx em31 => ?_)
    refine sd_iload_n sD11_squads_32 rfl ?_
    refine sd_ireturn sD11_squads_33 rfl (fun hr hm => ?_)
    exact sd_done (by unfold sp_squads; ((repeat (first | rw [if_pos (by first | assumption | omega)] | rw [if_neg (by first | assumption | omega)])); try rfl)) hx
  ·
    refine sd_aload_n sD11_squads_10 rfl ?_
    refine sd_iconst sD11_squads_11 (by decide) ?_
    refine sd_callV (as := [.inl 0]) (st := []) sD11_squads_12 sM11_78 rfl rfl sOM15 rfl (by decide) (Nat.le_of_ble_eq_true rfl) (cM_finding 0 (by decide) _ m hx (hF 0 (by decide))) (fun r m hq ho12 hm => ?_)
    obtain ⟨rfl, hx⟩ := hq
    show sd_Wp sd_SM 1 sY11_squads 15 [some (.inr 15), some (.inl n), none] [.inl (-1000001)] m _
    refine sd_ireturn sD11_squads_15 rfl (fun hr hm => ?_)
    exact sd_done (by unfold sp_squads; ((repeat (first | rw [if_pos (by first | assumption | omega)] | rw [if_neg (by first | assumption | omega)])); try rfl)) hx
