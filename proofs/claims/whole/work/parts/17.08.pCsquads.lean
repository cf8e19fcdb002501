set_option maxRecDepth 100000 in
set_option maxHeartbeats 4000000 in
theorem pC_squads (n : Int) (x m : sd_M) (hx : sd_ns x m) (h1 : sd_I1 x) (hF : ∀ k : Nat, k < 7 → 0 ≤ x (4101 + k) ∧ x (4101 + k) ≤ 1000000) : sd_Ct sd_SC 2 sY10_squads [.inr 120, .inl n] m (sd_Qp (sp_squads x n)) := by
  refine sd_ct rfl (Nat.le_of_ble_eq_true rfl) (fun hok hm => ?_)
  obtain ⟨⟨i0, j0⟩, ⟨i1, j1⟩, ⟨i2, j2⟩, ⟨i3, j3⟩, ⟨i4, j4⟩, ⟨i5, j5⟩, ⟨i6, j6⟩, ⟨i7, j7⟩, ⟨i8, j8⟩⟩ := id h1
  have r_n : sd_R n := hok (.inl n) (by simp)
  show sd_Wp sd_SC 2 sY10_squads 0 [some (.inr 120), some (.inl n), none] [] m _
  refine sd_iload_n sD10_squads_0 rfl ?_
  refine sd_iconst sD10_squads_1 (by decide) ?_
  refine sd_bipush sD10_squads_2 rfl (by decide) ?_
  refine sd_callSp (as := [.inl n, .inl 0, .inl 9]) (st := []) (v := .inl (sd_b (0 ≤ n ∧ n ≤ 9))) sD10_squads_4 sM10_65 rfl rfl (by decide) (Nat.le_of_ble_eq_true rfl) (cC_isWithin n 0 9 m) (fun ho4 => ?_)
  refine sd_bif_ne (tgt := 17) sD10_squads_7 (by decide) (fun zc7 => ?_) (fun zc7 => ?_)
  ·
    refine sd_aload_n sD10_squads_17 rfl ?_
    refine sd_getfr sD10_squads_18 sF10_10 sGC120_0 ?_
    refine sd_getfr sD10_squads_21 sF10_252 sGC53_6 ?_
    refine sd_getfx (v := x 7) hx sD10_squads_24 sF10_263 sGC42_1 (by decide) rfl ?_
    refine sd_istore_n (ls' := [some (.inr 120), some (.inl n), some (.inl (x 7))]) sD10_squads_27 (by decide) rfl ?_
    refine sd_aload_n sD10_squads_28 rfl ?_
    refine sd_getfr sD10_squads_29 sF10_10 sGC120_0 ?_
    refine sd_getfr sD10_squads_32 sF10_252 sGC53_6 ?_
    refine sd_iload_n sD10_squads_35 rfl ?_
    refine sd_putfx sd_sokC sd_oneC hx sD10_squads_36 sF10_263 sGC42_1 (Or.inl rfl) (fun m hx em36 => ?_)
    refine sd_iload_n sD10_squads_39 rfl ?_
    refine sd_ireturn sD10_squads_40 rfl (fun hr hm => ?_)
    exact sd_done (by unfold sp_squads; ((repeat (first | rw [if_pos (by first | assumption | omega)] | rw [if_neg (by first | assumption | omega)])); try rfl)) hx
  ·
    refine sd_aload_n sD10_squads_10 rfl ?_
    refine sd_ldc (z := -1000001) sD10_squads_11 sK10_51 (by decide) ?_
    refine sd_callV (as := [.inl (-1000001)]) (st := []) sD10_squads_13 sM10_52 rfl rfl sOC120 rfl (by decide) (Nat.le_of_ble_eq_true rfl) (cC_found (-1000001) 0 (by decide) (by decide) _ m hx (hF 0 (by decide))) (fun r m hq ho13 hm => ?_)
    obtain ⟨rfl, hx⟩ := hq
    show sd_Wp sd_SC 2 sY10_squads 16 [some (.inr 120), some (.inl n), none] [.inl (-1000001)] m _
    refine sd_ireturn sD10_squads_16 rfl (fun hr hm => ?_)
    exact sd_done (by unfold sp_squads; ((repeat (first | rw [if_pos (by first | assumption | omega)] | rw [if_neg (by first | assumption | omega)])); try rfl)) hx
