set_option maxRecDepth 100000 in
set_option maxHeartbeats 4000000 in
theorem pC_reach (h : Int) (x m : sd_M) (hx : sd_ns x m) (h1 : sd_I1 x) (h2 : sd_I2 x) (h3 : sd_I3 x) (hF : ∀ k : Nat, k < 7 → 0 ≤ x (4101 + k) ∧ x (4101 + k) ≤ 1000000) : sd_Ct sd_SC 3 sY10_reach [.inr 120, .inl h] m (sd_Qp (sp_reach x h)) := by
  refine sd_ct rfl (Nat.le_of_ble_eq_true rfl) (fun hok hm => ?_)
  obtain ⟨⟨i0, j0⟩, ⟨i1, j1⟩, ⟨i2, j2⟩, ⟨i3, j3⟩, ⟨i4, j4⟩, ⟨i5, j5⟩, ⟨i6, j6⟩, ⟨i7, j7⟩, ⟨i8, j8⟩⟩ := id h1
  have r_h : sd_R h := hok (.inl h) (by simp)
  show sd_Wp sd_SC 3 sY10_reach 0 [some (.inr 120), some (.inl h), none] [] m _
  refine sd_aload_n sD10_reach_0 rfl ?_
  refine sd_getfr sD10_reach_1 sF10_10 sGC120_0 ?_
  refine sd_getfr sD10_reach_4 sF10_41 sGC53_2 ?_
  refine sd_iload_n sD10_reach_7 rfl ?_
  refine sd_iconst sD10_reach_8 (by decide) ?_
  refine sd_callVp (as := [.inl h, .inl 1]) (st := []) (v := .inl (sd_fo x h 1)) sD10_reach_9 sM10_69 sOC13 rfl rfl rfl (by decide) (Nat.le_of_ble_eq_true rfl) (cC_findingOf h 1 _ m hx h1 h2) (fun ho9 => ?_)
  rcases (show sd_fo x h 1 = 0 ∨ sd_fo x h 1 = -1000003 ∨ sd_fo x h 1 = -1000001 from sd_fo_or x h 1) with zf12 | zf12 | zf12
  ·
    refine sd_eqs (ls' := [some (.inr 120), some (.inl h), none]) (st' := [.inl 0]) ?_ rfl (by rw [zf12])
    have zA9 := sd_foA zf12
    refine sd_istore_n (ls' := [some (.inr 120), some (.inl h), some (.inl 0)]) sD10_reach_12 (by decide) rfl ?_
    refine sd_iload_n sD10_reach_13 rfl ?_
    refine sd_if_ne (tgt := 30) sD10_reach_14 (by decide) (fun zc14 => (by exfalso; omega)) (fun zc14 => ?_)
    refine sd_aload_n sD10_reach_17 rfl ?_
    refine sd_getfr sD10_reach_18 sF10_10 sGC120_0 ?_
    refine sd_iload_n sD10_reach_21 rfl ?_
    refine sd_bipush sD10_reach_22 rfl (by decide) ?_
    refine sd_callVp (as := [.inl h, .inl 8]) (st := []) (v := .inl (sd_rch x (sd_shl 1 h) 8)) sD10_reach_24 sM10_124 sOC53 rfl rfl rfl (by decide) (Nat.le_of_ble_eq_true rfl) (cC_reachedFrom h 8 _ m hx h1 h2 h3 (by omega)) (fun ho24 => ?_)
    refine sd_goto (tgt := 35) sD10_reach_27 (by decide) ?_
    refine sd_ireturn sD10_reach_35 rfl (fun hr hm => ?_)
    exact sd_done (by unfold sp_reach; ((repeat (first | rw [if_pos (by first | assumption | omega)] | rw [if_neg (by first | assumption | omega)])); try rfl)) hx
  ·
    refine sd_eqs (ls' := [some (.inr 120), some (.inl h), none]) (st' := [.inl (-1000003)]) ?_ rfl (by rw [zf12])
    have zA9 := sd_foK zf12
    refine sd_istore_n (ls' := [some (.inr 120), some (.inl h), some (.inl (-1000003))]) sD10_reach_12 (by decide) rfl ?_
    refine sd_iload_n sD10_reach_13 rfl ?_
    refine sd_if_ne (tgt := 30) sD10_reach_14 (by decide) (fun zc14 => ?_) (fun zc14 => (by exfalso; omega))
    refine sd_aload_n sD10_reach_30 rfl ?_
    refine sd_iload_n sD10_reach_31 rfl ?_
    refine sd_callV (as := [.inl (-1000003)]) (st := []) sD10_reach_32 sM10_52 rfl rfl sOC120 rfl (by decide) (Nat.le_of_ble_eq_true rfl) (cC_found (-1000003) 2 (by decide) (by decide) _ m hx (hF 2 (by decide))) (fun r m hq ho32 hm => ?_)
    obtain ⟨rfl, hx⟩ := hq
    show sd_Wp sd_SC 3 sY10_reach 35 [some (.inr 120), some (.inl h), some (.inl (-1000003))] [.inl (-1000003)] m _
    refine sd_ireturn sD10_reach_35 rfl (fun hr hm => ?_)
    exact sd_done (by unfold sp_reach; ((repeat (first | rw [if_pos (by first | assumption | omega)] | rw [if_neg (by first | assumption | omega)])); try rfl)) hx
  ·
    refine sd_eqs (ls' := [some (.inr 120), some (.inl h), none]) (st' := [.inl (-1000001)]) ?_ rfl (by rw [zf12])
    have zA9 := sd_foB zf12
    refine sd_istore_n (ls' := [some (.inr 120), some (.inl h), some (.inl (-1000001))]) sD10_reach_12 (by decide) rfl ?_
    refine sd_iload_n sD10_reach_13 rfl ?_
    refine sd_if_ne (tgt := 30) sD10_reach_14 (by decide) (fun zc14 => ?_) (fun zc14 => (by exfalso; omega))
    refine sd_aload_n sD10_reach_30 rfl ?_
    refine sd_iload_n sD10_reach_31 rfl ?_
    refine sd_callV (as := [.inl (-1000001)]) (st := []) sD10_reach_32 sM10_52 rfl rfl sOC120 rfl (by decide) (Nat.le_of_ble_eq_true rfl) (cC_found (-1000001) 0 (by decide) (by decide) _ m hx (hF 0 (by decide))) (fun r m hq ho32 hm => ?_)
    obtain ⟨rfl, hx⟩ := hq
    show sd_Wp sd_SC 3 sY10_reach 35 [some (.inr 120), some (.inl h), some (.inl (-1000001))] [.inl (-1000001)] m _
    refine sd_ireturn sD10_reach_35 rfl (fun hr hm => ?_)
    exact sd_done (by unfold sp_reach; ((repeat (first | rw [if_pos (by first | assumption | omega)] | rw [if_neg (by first | assumption | omega)])); try rfl)) hx
