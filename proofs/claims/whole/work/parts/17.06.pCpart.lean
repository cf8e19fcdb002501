set_option maxRecDepth 100000 in
set_option maxHeartbeats 4000000 in
theorem pC_part (p : Int) (x m : sd_M) (hx : sd_ns x m) (h1 : sd_I1 x) (hF : ∀ k : Nat, k < 7 → 0 ≤ x (4101 + k) ∧ x (4101 + k) ≤ 1000000) : sd_Ct sd_SC 2 sY10_part [.inr 120, .inl p] m (sd_Qp (sp_part x p)) := by
  refine sd_ct rfl (Nat.le_of_ble_eq_true rfl) (fun hok hm => ?_)
  obtain ⟨⟨i0, j0⟩, ⟨i1, j1⟩, ⟨i2, j2⟩, ⟨i3, j3⟩, ⟨i4, j4⟩, ⟨i5, j5⟩, ⟨i6, j6⟩, ⟨i7, j7⟩, ⟨i8, j8⟩⟩ := id h1
  have r_p : sd_R p := hok (.inl p) (by simp)
  show sd_Wp sd_SC 2 sY10_part 0 [some (.inr 120), some (.inl p)] [] m _
  refine sd_iload_n sD10_part_0 rfl ?_
  refine sd_iconst sD10_part_1 (by decide) ?_
  refine sd_iconst sD10_part_2 (by decide) ?_
  refine sd_callSp (as := [.inl p, .inl 0, .inl 5]) (st := []) (v := .inl (sd_b (0 ≤ p ∧ p ≤ 5))) sD10_part_3 sM10_65 rfl rfl (by decide) (Nat.le_of_ble_eq_true rfl) (cC_isWithin p 0 5 m) (fun ho3 => ?_)
  refine sd_bif_eq (tgt := 24) sD10_part_6 (by decide) (fun zc6 => ?_) (fun zc6 => ?_)
  ·
    refine sd_aload_n sD10_part_24 rfl ?_
    refine sd_ldc (z := -1000001) sD10_part_25 sK10_51 (by decide) ?_
    refine sd_callV (as := [.inl (-1000001)]) (st := []) sD10_part_27 sM10_52 rfl rfl sOC120 rfl (by decide) (Nat.le_of_ble_eq_true rfl) (cC_found (-1000001) 0 (by decide) (by decide) _ m hx (hF 0 (by decide))) (fun r m hq ho27 hm => ?_)
    obtain ⟨rfl, hx⟩ := hq
    show sd_Wp sd_SC 2 sY10_part 30 [some (.inr 120), some (.inl p)] [.inl (-1000001)] m _
    refine sd_ireturn sD10_part_30 rfl (fun hr hm => ?_)
    exact sd_done (by unfold sp_part; ((repeat (first | rw [if_pos (by first | assumption | omega)] | rw [if_neg (by first | assumption | omega)])); try rfl)) hx
  ·
    refine sd_aload_n sD10_part_9 rfl ?_
    refine sd_getfr sD10_part_10 sF10_10 sGC120_0 ?_
    refine sd_getfr sD10_part_13 sF10_183 sGC53_4 ?_
    refine sd_getfr sD10_part_16 sF10_205 sGC23_2 ?_
    refine sd_iload_n sD10_part_19 rfl ?_
    refine sd_ialdx (a := (386 + p.toNat)) (v := x (386 + p.toNat)) hx sD10_part_20 sAC19 (by omega) rfl ?_
    refine sd_goto (tgt := 30) sD10_part_21 (by decide) ?_
    refine sd_ireturn sD10_part_30 rfl (fun hr hm => ?_)
    exact sd_done (by unfold sp_part; ((repeat (first | rw [if_pos (by first | assumption | omega)] | rw [if_neg (by first | assumption | omega)])); try rfl)) hx
