set_option maxRecDepth 100000 in
set_option maxHeartbeats 4000000 in
theorem pC_man (h : Int) (s : Int) (x m : sd_M) (hx : sd_ns x m) (h1 : sd_I1 x) (h2 : sd_I2 x) (hF : ∀ k : Nat, k < 7 → 0 ≤ x (4101 + k) ∧ x (4101 + k) ≤ 1000000) : sd_Ct sd_SC 3 sY10_man [.inr 120, .inl h, .inl s] m (sd_Qp (sp_man x h s)) := by
  refine sd_ct rfl (Nat.le_of_ble_eq_true rfl) (fun hok hm => ?_)
  obtain ⟨⟨i0, j0⟩, ⟨i1, j1⟩, ⟨i2, j2⟩, ⟨i3, j3⟩, ⟨i4, j4⟩, ⟨i5, j5⟩, ⟨i6, j6⟩, ⟨i7, j7⟩, ⟨i8, j8⟩⟩ := id h1
  have r_h : sd_R h := hok (.inl h) (by simp)
  have r_s : sd_R s := hok (.inl s) (by simp)
  show sd_Wp sd_SC 3 sY10_man 0 [some (.inr 120), some (.inl h), some (.inl s), none] [] m _
  refine sd_iload_n sD10_man_0 rfl ?_
  refine sd_iconst sD10_man_1 (by decide) ?_
  refine sd_sipush sD10_man_2 rfl (by decide) ?_
  refine sd_callSp (as := [.inl s, .inl 0, .inl 9999]) (st := []) (v := .inl (sd_b (0 ≤ s ∧ s ≤ 9999))) sD10_man_5 sM10_65 rfl rfl (by decide) (Nat.le_of_ble_eq_true rfl) (cC_isWithin s 0 9999 m) (fun ho5 => ?_)
  refine sd_bif_ne (tgt := 18) sD10_man_8 (by decide) (fun zc8 => ?_) (fun zc8 => ?_)
  ·
    refine sd_aload_n sD10_man_18 rfl ?_
    refine sd_getfr sD10_man_19 sF10_10 sGC120_0 ?_
    refine sd_getfr sD10_man_22 sF10_41 sGC53_2 ?_
    refine sd_iload_n sD10_man_25 rfl ?_
    refine sd_iconst sD10_man_26 (by decide) ?_
    refine sd_callVp (as := [.inl h, .inl 1]) (st := []) (v := .inl (sd_fo x h 1)) sD10_man_27 sM10_69 sOC13 rfl rfl rfl (by decide) (Nat.le_of_ble_eq_true rfl) (cC_findingOf h 1 _ m hx h1 h2) (fun ho27 => ?_)
    rcases (show sd_fo x h 1 = 0 ∨ sd_fo x h 1 = -1000003 ∨ sd_fo x h 1 = -1000001 from sd_fo_or x h 1) with zf30 | zf30 | zf30
    ·
      refine sd_eqs (ls' := [some (.inr 120), some (.inl h), some (.inl s), none]) (st' := [.inl 0]) ?_ rfl (by rw [zf30])
      have zA27 := sd_foA zf30
      refine sd_istore_n (ls' := [some (.inr 120), some (.inl h), some (.inl s), some (.inl 0)]) sD10_man_30 (by decide) rfl ?_
      refine sd_iload_n sD10_man_31 rfl ?_
      refine sd_if_eq (tgt := 41) sD10_man_32 (by decide) (fun zc32 => ?_) (fun zc32 => (by exfalso; omega))
      refine sd_aload_n sD10_man_41 rfl ?_
      refine sd_getfr sD10_man_42 sF10_10 sGC120_0 ?_
      refine sd_getfr sD10_man_45 sF10_106 sGC53_3 ?_
      refine sd_getfx (v := x 3) hx sD10_man_48 sF10_110 sGC18_0 (by decide) rfl ?_
      refine sd_bipush sD10_man_51 rfl (by decide) ?_
      refine sd_icmp_lt (tgt := 63) sD10_man_53 (by decide) (fun zc53 => ?_) (fun zc53 => ?_)
      ·
        refine sd_aload_n sD10_man_63 rfl ?_
        refine sd_getfr sD10_man_64 sF10_10 sGC120_0 ?_
        refine sd_getfr sD10_man_67 sF10_106 sGC53_3 ?_
        refine sd_iload_n sD10_man_70 rfl ?_
        refine sd_iload_n sD10_man_71 rfl ?_
        refine sd_bipush sD10_man_72 rfl (by decide) ?_
        refine sd_idiv (z := (s / 100)) sD10_man_74 (by decide) (by exact Int.tdiv_eq_ediv_of_nonneg (by omega)) (by omega) ?_
        refine sd_iload_n sD10_man_75 rfl ?_
        refine sd_bipush sD10_man_76 rfl (by decide) ?_
        refine sd_irem (z := (s % 100)) sD10_man_78 (by decide) (by exact Int.tmod_eq_emod_of_nonneg (by omega)) (by omega) ?_
        refine sd_callV (as := [.inl h, .inl (s / 100), .inl (s % 100)]) (st := []) sD10_man_79 sM10_115 rfl rfl sOC18 rfl (by decide) (Nat.le_of_ble_eq_true rfl) (cC_menadd h (s / 100) (s % 100) _ m hx (by omega)) (fun r m hq ho79 hm => ?_)
        obtain ⟨rfl, hx⟩ := hq
        show sd_Wp sd_SC 3 sY10_man 82 [some (.inr 120), some (.inl h), some (.inl s), some (.inl 0)] [.inl (x 3)] m _
        refine sd_ireturn sD10_man_82 rfl (fun hr hm => ?_)
        exact sd_done2 (by unfold sp_man; ((repeat (first | rw [if_pos (by first | assumption | omega)] | rw [if_neg (by first | assumption | omega)])); try rfl)) (by intro j; simp only [sd_up]; (repeat' (first | rfl | split)); all_goals omega) hx
      ·
        refine sd_aload_n sD10_man_56 rfl ?_
        refine sd_ldc (z := -1000002) sD10_man_57 sK10_60 (by decide) ?_
        refine sd_callV (as := [.inl (-1000002)]) (st := []) sD10_man_59 sM10_52 rfl rfl sOC120 rfl (by decide) (Nat.le_of_ble_eq_true rfl) (cC_found (-1000002) 1 (by decide) (by decide) _ m hx (hF 1 (by decide))) (fun r m hq ho59 hm => ?_)
        obtain ⟨rfl, hx⟩ := hq
        show sd_Wp sd_SC 3 sY10_man 62 [some (.inr 120), some (.inl h), some (.inl s), some (.inl 0)] [.inl (-1000002)] m _
        refine sd_ireturn sD10_man_62 rfl (fun hr hm => ?_)
        exact sd_done2 (by unfold sp_man; ((repeat (first | rw [if_pos (by first | assumption | omega)] | rw [if_neg (by first | assumption | omega)])); try rfl)) (by intro j; simp only [sd_up]; (repeat' (first | rfl | split)); all_goals omega) hx
    ·
      refine sd_eqs (ls' := [some (.inr 120), some (.inl h), some (.inl s), none]) (st' := [.inl (-1000003)]) ?_ rfl (by rw [zf30])
      have zA27 := sd_foK zf30
      refine sd_istore_n (ls' := [some (.inr 120), some (.inl h), some (.inl s), some (.inl (-1000003))]) sD10_man_30 (by decide) rfl ?_
      refine sd_iload_n sD10_man_31 rfl ?_
      refine sd_if_eq (tgt := 41) sD10_man_32 (by decide) (fun zc32 => (by exfalso; omega)) (fun zc32 => ?_)
      refine sd_aload_n sD10_man_35 rfl ?_
      refine sd_iload_n sD10_man_36 rfl ?_
      refine sd_callV (as := [.inl (-1000003)]) (st := []) sD10_man_37 sM10_52 rfl rfl sOC120 rfl (by decide) (Nat.le_of_ble_eq_true rfl) (cC_found (-1000003) 2 (by decide) (by decide) _ m hx (hF 2 (by decide))) (fun r m hq ho37 hm => ?_)
      obtain ⟨rfl, hx⟩ := hq
      show sd_Wp sd_SC 3 sY10_man 40 [some (.inr 120), some (.inl h), some (.inl s), some (.inl (-1000003))] [.inl (-1000003)] m _
      refine sd_ireturn sD10_man_40 rfl (fun hr hm => ?_)
      exact sd_done2 (by unfold sp_man; ((repeat (first | rw [if_pos (by first | assumption | omega)] | rw [if_neg (by first | assumption | omega)])); try rfl)) (by intro j; simp only [sd_up]; (repeat' (first | rfl | split)); all_goals omega) hx
    ·
      refine sd_eqs (ls' := [some (.inr 120), some (.inl h), some (.inl s), none]) (st' := [.inl (-1000001)]) ?_ rfl (by rw [zf30])
      have zA27 := sd_foB zf30
      refine sd_istore_n (ls' := [some (.inr 120), some (.inl h), some (.inl s), some (.inl (-1000001))]) sD10_man_30 (by decide) rfl ?_
      refine sd_iload_n sD10_man_31 rfl ?_
      refine sd_if_eq (tgt := 41) sD10_man_32 (by decide) (fun zc32 => (by exfalso; omega)) (fun zc32 => ?_)
      refine sd_aload_n sD10_man_35 rfl ?_
      refine sd_iload_n sD10_man_36 rfl ?_
      refine sd_callV (as := [.inl (-1000001)]) (st := []) sD10_man_37 sM10_52 rfl rfl sOC120 rfl (by decide) (Nat.le_of_ble_eq_true rfl) (cC_found (-1000001) 0 (by decide) (by decide) _ m hx (hF 0 (by decide))) (fun r m hq ho37 hm => ?_)
      obtain ⟨rfl, hx⟩ := hq
      show sd_Wp sd_SC 3 sY10_man 40 [some (.inr 120), some (.inl h), some (.inl s), some (.inl (-1000001))] [.inl (-1000001)] m _
      refine sd_ireturn sD10_man_40 rfl (fun hr hm => ?_)
      exact sd_done2 (by unfold sp_man; ((repeat (first | rw [if_pos (by first | assumption | omega)] | rw [if_neg (by first | assumption | omega)])); try rfl)) (by intro j; simp only [sd_up]; (repeat' (first | rfl | split)); all_goals omega) hx
  ·
    refine sd_aload_n sD10_man_11 rfl ?_
    refine sd_ldc (z := -1000001) sD10_man_12 sK10_51 (by decide) ?_
    refine sd_callV (as := [.inl (-1000001)]) (st := []) sD10_man_14 sM10_52 rfl rfl sOC120 rfl (by decide) (Nat.le_of_ble_eq_true rfl) (cC_found (-1000001) 0 (by decide) (by decide) _ m hx (hF 0 (by decide))) (fun r m hq ho14 hm => ?_)
    obtain ⟨rfl, hx⟩ := hq
    show sd_Wp sd_SC 3 sY10_man 17 [some (.inr 120), some (.inl h), some (.inl s), none] [.inl (-1000001)] m _
    refine sd_ireturn sD10_man_17 rfl (fun hr hm => ?_)
    exact sd_done2 (by unfold sp_man; ((repeat (first | rw [if_pos (by first | assumption | omega)] | rw [if_neg (by first | assumption | omega)])); try rfl)) (by intro j; simp only [sd_up]; (repeat' (first | rfl | split)); all_goals omega) hx
