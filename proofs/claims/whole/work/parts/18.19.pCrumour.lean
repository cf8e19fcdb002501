set_option maxRecDepth 100000 in
set_option maxHeartbeats 4000000 in
theorem pC_rumour (g : Int) (c : Int) (x m : sd_M) (hx : sd_ns x m) (h1 : sd_I1 x) (h2 : sd_I2 x) (hF : ∀ k : Nat, k < 7 → 0 ≤ x (4101 + k) ∧ x (4101 + k) ≤ 1000000) : sd_Ct sd_SC 3 sY10_rumour [.inr 120, .inl g, .inl c] m (sd_Qp (sp_rumour x g c)) := by
  refine sd_ct rfl (Nat.le_of_ble_eq_true rfl) (fun hok hm => ?_)
  obtain ⟨⟨i0, j0⟩, ⟨i1, j1⟩, ⟨i2, j2⟩, ⟨i3, j3⟩, ⟨i4, j4⟩, ⟨i5, j5⟩, ⟨i6, j6⟩, ⟨i7, j7⟩, ⟨i8, j8⟩⟩ := id h1
  have r_g : sd_R g := hok (.inl g) (by simp)
  have r_c : sd_R c := hok (.inl c) (by simp)
  show sd_Wp sd_SC 3 sY10_rumour 0 [some (.inr 120), some (.inl g), some (.inl c), none] [] m _
  refine sd_iload_n sD10_rumour_0 rfl ?_
  refine sd_iconst sD10_rumour_1 (by decide) ?_
  refine sd_bipush sD10_rumour_2 rfl (by decide) ?_
  refine sd_callSp (as := [.inl c, .inl 1, .inl 9]) (st := []) (v := .inl (sd_b (1 ≤ c ∧ c ≤ 9))) sD10_rumour_4 sM10_65 rfl rfl (by decide) (Nat.le_of_ble_eq_true rfl) (cC_isWithin c 1 9 m) (fun ho4 => ?_)
  refine sd_bif_ne (tgt := 17) sD10_rumour_7 (by decide) (fun zc7 => ?_) (fun zc7 => ?_)
  ·
    refine sd_aload_n sD10_rumour_17 rfl ?_
    refine sd_getfr sD10_rumour_18 sF10_10 sGC120_0 ?_
    refine sd_getfr sD10_rumour_21 sF10_41 sGC53_2 ?_
    refine sd_iload_n sD10_rumour_24 rfl ?_
    refine sd_iconst sD10_rumour_25 (by decide) ?_
    refine sd_callVp (as := [.inl g, .inl 3]) (st := []) (v := .inl (sd_fo x g 3)) sD10_rumour_26 sM10_69 sOC13 rfl rfl rfl (by decide) (Nat.le_of_ble_eq_true rfl) (cC_findingOf g 3 _ m hx h1 h2) (fun ho26 => ?_)
    rcases (show sd_fo x g 3 = 0 ∨ sd_fo x g 3 = -1000003 ∨ sd_fo x g 3 = -1000001 from sd_fo_or x g 3) with zf29 | zf29 | zf29
    ·
      refine sd_eqs (ls' := [some (.inr 120), some (.inl g), some (.inl c), none]) (st' := [.inl 0]) ?_ rfl (by rw [zf29])
      have zA26 := sd_foA zf29
      refine sd_istore_n (ls' := [some (.inr 120), some (.inl g), some (.inl c), some (.inl 0)]) sD10_rumour_29 (by decide) rfl ?_
      refine sd_iload_n sD10_rumour_30 rfl ?_
      refine sd_if_eq (tgt := 40) sD10_rumour_31 (by decide) (fun zc31 => ?_) (fun zc31 => (by exfalso; omega))
      refine sd_aload_n sD10_rumour_40 rfl ?_
      refine sd_getfr sD10_rumour_41 sF10_10 sGC120_0 ?_
      refine sd_getfr sD10_rumour_44 sF10_252 sGC53_6 ?_
      refine sd_getfx (v := x 6) hx sD10_rumour_47 sF10_256 sGC42_0 (by decide) rfl ?_
      refine sd_bipush sD10_rumour_50 rfl (by decide) ?_
      refine sd_icmp_lt (tgt := 64) sD10_rumour_52 (by decide) (fun zc52 => ?_) (fun zc52 => ?_)
      ·
        refine sd_aload_n sD10_rumour_64 rfl ?_
        refine sd_getfr sD10_rumour_65 sF10_10 sGC120_0 ?_
        refine sd_getfr sD10_rumour_68 sF10_252 sGC53_6 ?_
        refine sd_iload_n sD10_rumour_71 rfl ?_
        refine sd_iload_n sD10_rumour_72 rfl ?_
        refine sd_callV (as := [.inl g, .inl c]) (st := []) sD10_rumour_73 sM10_259 rfl rfl sOC42 rfl (by decide) (Nat.le_of_ble_eq_true rfl) (cC_rumadd g c _ m hx (by omega)) (fun r m hq ho73 hm => ?_)
        obtain ⟨rfl, hx⟩ := hq
        show sd_Wp sd_SC 3 sY10_rumour 76 [some (.inr 120), some (.inl g), some (.inl c), some (.inl 0)] [.inl (x 6)] m _
        refine sd_ireturn sD10_rumour_76 rfl (fun hr hm => ?_)
        exact sd_done2 (by unfold sp_rumour; ((repeat (first | rw [if_pos (by first | assumption | omega)] | rw [if_neg (by first | assumption | omega)])); try rfl)) (by intro j; simp only [sd_up]; (repeat' (first | rfl | split)); all_goals omega) hx
      ·
        refine sd_aload_n sD10_rumour_55 rfl ?_
        refine sd_ldc (z := -1000002) sD10_rumour_56 sK10_60 (by decide) ?_
        refine sd_callV (as := [.inl (-1000002)]) (st := []) sD10_rumour_58 sM10_52 rfl rfl sOC120 rfl (by decide) (Nat.le_of_ble_eq_true rfl) (cC_found (-1000002) 1 (by decide) (by decide) _ m hx (hF 1 (by decide))) (fun r m hq ho58 hm => ?_)
        obtain ⟨rfl, hx⟩ := hq
        show sd_Wp sd_SC 3 sY10_rumour 61 [some (.inr 120), some (.inl g), some (.inl c), some (.inl 0)] [.inl (-1000002)] m _
        refine sd_goto (tgt := 76) sD10_rumour_61 (by decide) ?_
        refine sd_ireturn sD10_rumour_76 rfl (fun hr hm => ?_)
        exact sd_done2 (by unfold sp_rumour; ((repeat (first | rw [if_pos (by first | assumption | omega)] | rw [if_neg (by first | assumption | omega)])); try rfl)) (by intro j; simp only [sd_up]; (repeat' (first | rfl | split)); all_goals omega) hx
    ·
      refine sd_eqs (ls' := [some (.inr 120), some (.inl g), some (.inl c), none]) (st' := [.inl (-1000003)]) ?_ rfl (by rw [zf29])
      have zA26 := sd_foK zf29
      refine sd_istore_n (ls' := [some (.inr 120), some (.inl g), some (.inl c), some (.inl (-1000003))]) sD10_rumour_29 (by decide) rfl ?_
      refine sd_iload_n sD10_rumour_30 rfl ?_
      refine sd_if_eq (tgt := 40) sD10_rumour_31 (by decide) (fun zc31 => (by exfalso; omega)) (fun zc31 => ?_)
      refine sd_aload_n sD10_rumour_34 rfl ?_
      refine sd_iload_n sD10_rumour_35 rfl ?_
      refine sd_callV (as := [.inl (-1000003)]) (st := []) sD10_rumour_36 sM10_52 rfl rfl sOC120 rfl (by decide) (Nat.le_of_ble_eq_true rfl) (cC_found (-1000003) 2 (by decide) (by decide) _ m hx (hF 2 (by decide))) (fun r m hq ho36 hm => ?_)
      obtain ⟨rfl, hx⟩ := hq
      show sd_Wp sd_SC 3 sY10_rumour 39 [some (.inr 120), some (.inl g), some (.inl c), some (.inl (-1000003))] [.inl (-1000003)] m _
      refine sd_ireturn sD10_rumour_39 rfl (fun hr hm => ?_)
      exact sd_done2 (by unfold sp_rumour; ((repeat (first | rw [if_pos (by first | assumption | omega)] | rw [if_neg (by first | assumption | omega)])); try rfl)) (by intro j; simp only [sd_up]; (repeat' (first | rfl | split)); all_goals omega) hx
    ·
      refine sd_eqs (ls' := [some (.inr 120), some (.inl g), some (.inl c), none]) (st' := [.inl (-1000001)]) ?_ rfl (by rw [zf29])
      have zA26 := sd_foB zf29
      refine sd_istore_n (ls' := [some (.inr 120), some (.inl g), some (.inl c), some (.inl (-1000001))]) sD10_rumour_29 (by decide) rfl ?_
      refine sd_iload_n sD10_rumour_30 rfl ?_
      refine sd_if_eq (tgt := 40) sD10_rumour_31 (by decide) (fun zc31 => (by exfalso; omega)) (fun zc31 => ?_)
      refine sd_aload_n sD10_rumour_34 rfl ?_
      refine sd_iload_n sD10_rumour_35 rfl ?_
      refine sd_callV (as := [.inl (-1000001)]) (st := []) sD10_rumour_36 sM10_52 rfl rfl sOC120 rfl (by decide) (Nat.le_of_ble_eq_true rfl) (cC_found (-1000001) 0 (by decide) (by decide) _ m hx (hF 0 (by decide))) (fun r m hq ho36 hm => ?_)
      obtain ⟨rfl, hx⟩ := hq
      show sd_Wp sd_SC 3 sY10_rumour 39 [some (.inr 120), some (.inl g), some (.inl c), some (.inl (-1000001))] [.inl (-1000001)] m _
      refine sd_ireturn sD10_rumour_39 rfl (fun hr hm => ?_)
      exact sd_done2 (by unfold sp_rumour; ((repeat (first | rw [if_pos (by first | assumption | omega)] | rw [if_neg (by first | assumption | omega)])); try rfl)) (by intro j; simp only [sd_up]; (repeat' (first | rfl | split)); all_goals omega) hx
  ·
    refine sd_aload_n sD10_rumour_10 rfl ?_
    refine sd_ldc (z := -1000001) sD10_rumour_11 sK10_51 (by decide) ?_
    refine sd_callV (as := [.inl (-1000001)]) (st := []) sD10_rumour_13 sM10_52 rfl rfl sOC120 rfl (by decide) (Nat.le_of_ble_eq_true rfl) (cC_found (-1000001) 0 (by decide) (by decide) _ m hx (hF 0 (by decide))) (fun r m hq ho13 hm => ?_)
    obtain ⟨rfl, hx⟩ := hq
    show sd_Wp sd_SC 3 sY10_rumour 16 [some (.inr 120), some (.inl g), some (.inl c), none] [.inl (-1000001)] m _
    refine sd_ireturn sD10_rumour_16 rfl (fun hr hm => ?_)
    exact sd_done2 (by unfold sp_rumour; ((repeat (first | rw [if_pos (by first | assumption | omega)] | rw [if_neg (by first | assumption | omega)])); try rfl)) (by intro j; simp only [sd_up]; (repeat' (first | rfl | split)); all_goals omega) hx
