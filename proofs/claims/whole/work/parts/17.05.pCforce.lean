set_option maxRecDepth 100000 in
set_option maxHeartbeats 4000000 in
theorem pC_force (g : Int) (x m : sd_M) (hx : sd_ns x m) (h1 : sd_I1 x) (h2 : sd_I2 x) (h3 : sd_I3 x) (h4 : sd_I4 x) (hF : ∀ k : Nat, k < 7 → 0 ≤ x (4101 + k) ∧ x (4101 + k) ≤ 1000000) : sd_Ct sd_SC 4 sY10_force [.inr 120, .inl g] m (sd_Qp (sp_force x g)) := by
  refine sd_ct rfl (Nat.le_of_ble_eq_true rfl) (fun hok hm => ?_)
  obtain ⟨⟨i0, j0⟩, ⟨i1, j1⟩, ⟨i2, j2⟩, ⟨i3, j3⟩, ⟨i4, j4⟩, ⟨i5, j5⟩, ⟨i6, j6⟩, ⟨i7, j7⟩, ⟨i8, j8⟩⟩ := id h1
  have r_g : sd_R g := hok (.inl g) (by simp)
  show sd_Wp sd_SC 4 sY10_force 0 [some (.inr 120), some (.inl g), none] [] m _
  refine sd_aload_n sD10_force_0 rfl ?_
  refine sd_getfr sD10_force_1 sF10_10 sGC120_0 ?_
  refine sd_getfr sD10_force_4 sF10_41 sGC53_2 ?_
  refine sd_iload_n sD10_force_7 rfl ?_
  refine sd_iconst sD10_force_8 (by decide) ?_
  refine sd_callVp (as := [.inl g, .inl 3]) (st := []) (v := .inl (sd_fo x g 3)) sD10_force_9 sM10_69 sOC13 rfl rfl rfl (by decide) (Nat.le_of_ble_eq_true rfl) (cC_findingOf g 3 _ m hx h1 h2) (fun ho9 => ?_)
  rcases (show sd_fo x g 3 = 0 ∨ sd_fo x g 3 = -1000003 ∨ sd_fo x g 3 = -1000001 from sd_fo_or x g 3) with zf12 | zf12 | zf12
  ·
    refine sd_eqs (ls' := [some (.inr 120), some (.inl g), none]) (st' := [.inl 0]) ?_ rfl (by rw [zf12])
    have zA9 := sd_foA zf12
    refine sd_istore_n (ls' := [some (.inr 120), some (.inl g), some (.inl 0)]) sD10_force_12 (by decide) rfl ?_
    refine sd_iload_n sD10_force_13 rfl ?_
    refine sd_if_ne (tgt := 28) sD10_force_14 (by decide) (fun zc14 => (by exfalso; omega)) (fun zc14 => ?_)
    refine sd_aload_n sD10_force_17 rfl ?_
    refine sd_getfr sD10_force_18 sF10_10 sGC120_0 ?_
    refine sd_iload_n sD10_force_21 rfl ?_
    refine sd_callVp (as := [.inl g]) (st := []) (v := .inl (sd_frc x g.toNat)) sD10_force_22 sM10_170 sOC53 rfl rfl rfl (by decide) (Nat.le_of_ble_eq_true rfl) (cC_forceAt g _ m hx h1 h2 h3 h4 (by omega)) (fun ho22 => ?_)
    refine sd_goto (tgt := 33) sD10_force_25 (by decide) ?_
    refine sd_ireturn sD10_force_33 rfl (fun hr hm => ?_)
    exact sd_done (by unfold sp_force; ((repeat (first | rw [if_pos (by first | assumption | omega)] | rw [if_neg (by first | assumption | omega)])); try rfl)) hx
  ·
    refine sd_eqs (ls' := [some (.inr 120), some (.inl g), none]) (st' := [.inl (-1000003)]) ?_ rfl (by rw [zf12])
    have zA9 := sd_foK zf12
    refine sd_istore_n (ls' := [some (.inr 120), some (.inl g), some (.inl (-1000003))]) sD10_force_12 (by decide) rfl ?_
    refine sd_iload_n sD10_force_13 rfl ?_
    refine sd_if_ne (tgt := 28) sD10_force_14 (by decide) (fun zc14 => ?_) (fun zc14 => (by exfalso; omega))
    refine sd_aload_n sD10_force_28 rfl ?_
    refine sd_iload_n sD10_force_29 rfl ?_
    refine sd_callV (as := [.inl (-1000003)]) (st := []) sD10_force_30 sM10_52 rfl rfl sOC120 rfl (by decide) (Nat.le_of_ble_eq_true rfl) (cC_found (-1000003) 2 (by decide) (by decide) _ m hx (hF 2 (by decide))) (fun r m hq ho30 hm => ?_)
    obtain ⟨rfl, hx⟩ := hq
    show sd_Wp sd_SC 4 sY10_force 33 [some (.inr 120), some (.inl g), some (.inl (-1000003))] [.inl (-1000003)] m _
    refine sd_ireturn sD10_force_33 rfl (fun hr hm => ?_)
    exact sd_done (by unfold sp_force; ((repeat (first | rw [if_pos (by first | assumption | omega)] | rw [if_neg (by first | assumption | omega)])); try rfl)) hx
  ·
    refine sd_eqs (ls' := [some (.inr 120), some (.inl g), none]) (st' := [.inl (-1000001)]) ?_ rfl (by rw [zf12])
    have zA9 := sd_foB zf12
    refine sd_istore_n (ls' := [some (.inr 120), some (.inl g), some (.inl (-1000001))]) sD10_force_12 (by decide) rfl ?_
    refine sd_iload_n sD10_force_13 rfl ?_
    refine sd_if_ne (tgt := 28) sD10_force_14 (by decide) (fun zc14 => ?_) (fun zc14 => (by exfalso; omega))
    refine sd_aload_n sD10_force_28 rfl ?_
    refine sd_iload_n sD10_force_29 rfl ?_
    refine sd_callV (as := [.inl (-1000001)]) (st := []) sD10_force_30 sM10_52 rfl rfl sOC120 rfl (by decide) (Nat.le_of_ble_eq_true rfl) (cC_found (-1000001) 0 (by decide) (by decide) _ m hx (hF 0 (by decide))) (fun r m hq ho30 hm => ?_)
    obtain ⟨rfl, hx⟩ := hq
    show sd_Wp sd_SC 4 sY10_force 33 [some (.inr 120), some (.inl g), some (.inl (-1000001))] [.inl (-1000001)] m _
    refine sd_ireturn sD10_force_33 rfl (fun hr hm => ?_)
    exact sd_done (by unfold sp_force; ((repeat (first | rw [if_pos (by first | assumption | omega)] | rw [if_neg (by first | assumption | omega)])); try rfl)) hx
