set_option maxRecDepth 100000 in
set_option maxHeartbeats 4000000 in
theorem pM_part (p : Int) (x m : sd_M) (hx : sd_ns x m) (h1 : sd_I1 x) (hF : ∀ k : Nat, k < 7 → 0 ≤ x (4101 + k) ∧ x (4101 + k) ≤ 1000000) : sd_Ct sd_SM 1 sY11_part [.inr 15, .inl p] m (sd_Qp (sp_part x p)) := by
  refine sd_ct rfl (Nat.le_of_ble_eq_true rfl) (fun hok hm => ?_)
  obtain ⟨⟨i0, j0⟩, ⟨i1, j1⟩, ⟨i2, j2⟩, ⟨i3, j3⟩, ⟨i4, j4⟩, ⟨i5, j5⟩, ⟨i6, j6⟩, ⟨i7, j7⟩, ⟨i8, j8⟩⟩ := id h1
  have r_p : sd_R p := hok (.inl p) (by simp)
  show sd_Wp sd_SM 1 sY11_part 0 [some (.inr 15), some (.inl p)] [] m _
  refine sd_iload_n sD11_part_0 rfl ?_
  refine sd_iconst sD11_part_1 (by decide) ?_
  refine sd_iconst sD11_part_2 (by decide) ?_
  refine sd_callSp (as := [.inl p, .inl 0, .inl 5]) (st := []) (v := .inl (sd_b (0 ≤ p ∧ p ≤ 5))) sD11_part_3 sM11_56 rfl rfl (by decide) (Nat.le_of_ble_eq_true rfl) (cM_in p 0 5 m) (fun ho3 => ?_)
  refine sd_bif_eq (tgt := 22) sD11_part_6 (by decide) (fun zc6 => ?_) (fun zc6 => ?_)
  ·
    refine sd_aload_n sD11_part_22 rfl ?_
    refine sd_iconst sD11_part_23 (by decide) ?_
    refine sd_callV (as := [.inl 0]) (st := []) sD11_part_24 sM11_78 rfl rfl sOM15 rfl (by decide) (Nat.le_of_ble_eq_true rfl) (cM_finding 0 (by decide) _ m hx (hF 0 (by decide))) (fun r m hq ho24 hm => ?_)
    obtain ⟨rfl, hx⟩ := hq
    show sd_Wp sd_SM 1 sY11_part 27 [some (.inr 15), some (.inl p)] [.inl (-1000001)] m _
    refine sd_ireturn sD11_part_27 rfl (fun hr hm => ?_)
    exact sd_done (by unfold sp_part; ((repeat (first | rw [if_pos (by first | assumption | omega)] | rw [if_neg (by first | assumption | omega)])); try rfl)) hx
  ·
    refine sd_aload_n sD11_part_9 rfl ?_
    refine sd_getfr sD11_part_10 sF11_7 sGM15_0 ?_
    refine sd_sipush sD11_part_13 rfl (by decide) ?_
    refine sd_iload_n sD11_part_16 rfl ?_
    refine sd_iadd (z := (386 + p)) sD11_part_17 (by omega) (by omega) ?_
    refine sd_ialdx (a := (386 + p.toNat)) (v := x (386 + p.toNat)) hx sD11_part_18 sAM0 (by omega) rfl ?_
    refine sd_goto (tgt := 27) sD11_part_19 (by decide) ?_
    refine sd_ireturn sD11_part_27 rfl (fun hr hm => ?_)
    exact sd_done (by unfold sp_part; ((repeat (first | rw [if_pos (by first | assumption | omega)] | rw [if_neg (by first | assumption | omega)])); try rfl)) hx
