set_option maxRecDepth 100000 in
set_option maxHeartbeats 4000000 in
theorem pC_shut (h : Int) (P : Prop) [Decidable P] (x m : sd_M) (hx : sd_ns x m) (h1 : sd_I1 x) (h2 : sd_I2 x) (hF : ∀ k : Nat, k < 7 → 0 ≤ x (4101 + k) ∧ x (4101 + k) ≤ 1000000) : sd_Ct sd_SC 3 sY10_shut [.inr 120, .inl h, .inl (sd_b P)] m (sd_Qp (sp_shut x h P)) := by
  refine sd_ct rfl (Nat.le_of_ble_eq_true rfl) (fun hok hm => ?_)
  obtain ⟨⟨i0, j0⟩, ⟨i1, j1⟩, ⟨i2, j2⟩, ⟨i3, j3⟩, ⟨i4, j4⟩, ⟨i5, j5⟩, ⟨i6, j6⟩, ⟨i7, j7⟩, ⟨i8, j8⟩⟩ := id h1
  have r_h : sd_R h := hok (.inl h) (by simp)
  show sd_Wp sd_SC 3 sY10_shut 0 [some (.inr 120), some (.inl h), some (.inl (sd_b P)), none] [] m _
  refine sd_aload_n sD10_shut_0 rfl ?_
  refine sd_getfr sD10_shut_1 sF10_10 sGC120_0 ?_
  refine sd_getfr sD10_shut_4 sF10_41 sGC53_2 ?_
  refine sd_iload_n sD10_shut_7 rfl ?_
  refine sd_iconst sD10_shut_8 (by decide) ?_
  refine sd_callVp (as := [.inl h, .inl 4]) (st := []) (v := .inl (sd_fo x h 4)) sD10_shut_9 sM10_69 sOC13 rfl rfl rfl (by decide) (Nat.le_of_ble_eq_true rfl) (cC_findingOf h 4 _ m hx h1 h2) (fun ho9 => ?_)
  rcases (show sd_fo x h 4 = 0 ∨ sd_fo x h 4 = -1000003 ∨ sd_fo x h 4 = -1000001 from sd_fo_or x h 4) with zf12 | zf12 | zf12
  ·
    refine sd_eqs (ls' := [some (.inr 120), some (.inl h), some (.inl (sd_b P)), none]) (st' := [.inl 0]) ?_ rfl (by rw [zf12])
    have zA9 := sd_foA zf12
    refine sd_istore_n (ls' := [some (.inr 120), some (.inl h), some (.inl (sd_b P)), some (.inl 0)]) sD10_shut_12 (by decide) rfl ?_
    refine sd_iload_n sD10_shut_13 rfl ?_
    refine sd_if_ne (tgt := 35) sD10_shut_14 (by decide) (fun zc14 => (by exfalso; omega)) (fun zc14 => ?_)
    refine sd_aload_n sD10_shut_17 rfl ?_
    refine sd_getfr sD10_shut_18 sF10_10 sGC120_0 ?_
    refine sd_getfr sD10_shut_21 sF10_41 sGC53_2 ?_
    refine sd_getfr sD10_shut_24 sF10_93 sGC13_12 ?_
    refine sd_iload_n sD10_shut_27 rfl ?_
    refine sd_iload_n sD10_shut_28 rfl ?_
    refine sd_callS (as := [.inr 10, .inl h, .inl (sd_b P)]) (st := []) sD10_shut_29 sM10_89 rfl rfl (by decide) (Nat.le_of_ble_eq_true rfl) (cC_turn250 h P _ m hx (by omega)) (fun r m hq ho29 hm => ?_)
    obtain ⟨rfl, hx⟩ := hq
    show sd_Wp sd_SC 3 sY10_shut 32 [some (.inr 120), some (.inl h), some (.inl (sd_b P)), some (.inl 0)] [.inl (sd_b (¬ x (250 + h.toNat) = sd_b P))] m _
    refine sd_goto (tgt := 40) sD10_shut_32 (by decide) ?_
    refine sd_ireturn sD10_shut_40 rfl (fun hr hm => ?_)
    exact sd_done (by unfold sp_shut; ((repeat (first | rw [if_pos (by first | assumption | omega)] | rw [if_neg (by first | assumption | omega)])); try rfl)) hx
  ·
    refine sd_eqs (ls' := [some (.inr 120), some (.inl h), some (.inl (sd_b P)), none]) (st' := [.inl (-1000003)]) ?_ rfl (by rw [zf12])
    have zA9 := sd_foK zf12
    refine sd_istore_n (ls' := [some (.inr 120), some (.inl h), some (.inl (sd_b P)), some (.inl (-1000003))]) sD10_shut_12 (by decide) rfl ?_
    refine sd_iload_n sD10_shut_13 rfl ?_
    refine sd_if_ne (tgt := 35) sD10_shut_14 (by decide) (fun zc14 => ?_) (fun zc14 => (by exfalso; omega))
    refine sd_aload_n sD10_shut_35 rfl ?_
    refine sd_iload_n sD10_shut_36 rfl ?_
    refine sd_callV (as := [.inl (-1000003)]) (st := []) sD10_shut_37 sM10_52 rfl rfl sOC120 rfl (by decide) (Nat.le_of_ble_eq_true rfl) (cC_found (-1000003) 2 (by decide) (by decide) _ m hx (hF 2 (by decide))) (fun r m hq ho37 hm => ?_)
    obtain ⟨rfl, hx⟩ := hq
    show sd_Wp sd_SC 3 sY10_shut 40 [some (.inr 120), some (.inl h), some (.inl (sd_b P)), some (.inl (-1000003))] [.inl (-1000003)] m _
    refine sd_ireturn sD10_shut_40 rfl (fun hr hm => ?_)
    exact sd_done (by unfold sp_shut; ((repeat (first | rw [if_pos (by first | assumption | omega)] | rw [if_neg (by first | assumption | omega)])); try rfl)) hx
  ·
    refine sd_eqs (ls' := [some (.inr 120), some (.inl h), some (.inl (sd_b P)), none]) (st' := [.inl (-1000001)]) ?_ rfl (by rw [zf12])
    have zA9 := sd_foB zf12
    refine sd_istore_n (ls' := [some (.inr 120), some (.inl h), some (.inl (sd_b P)), some (.inl (-1000001))]) sD10_shut_12 (by decide) rfl ?_
    refine sd_iload_n sD10_shut_13 rfl ?_
    refine sd_if_ne (tgt := 35) sD10_shut_14 (by decide) (fun zc14 => ?_) (fun zc14 => (by exfalso; omega))
    refine sd_aload_n sD10_shut_35 rfl ?_
    refine sd_iload_n sD10_shut_36 rfl ?_
    refine sd_callV (as := [.inl (-1000001)]) (st := []) sD10_shut_37 sM10_52 rfl rfl sOC120 rfl (by decide) (Nat.le_of_ble_eq_true rfl) (cC_found (-1000001) 0 (by decide) (by decide) _ m hx (hF 0 (by decide))) (fun r m hq ho37 hm => ?_)
    obtain ⟨rfl, hx⟩ := hq
    show sd_Wp sd_SC 3 sY10_shut 40 [some (.inr 120), some (.inl h), some (.inl (sd_b P)), some (.inl (-1000001))] [.inl (-1000001)] m _
    refine sd_ireturn sD10_shut_40 rfl (fun hr hm => ?_)
    exact sd_done (by unfold sp_shut; ((repeat (first | rw [if_pos (by first | assumption | omega)] | rw [if_neg (by first | assumption | omega)])); try rfl)) hx
