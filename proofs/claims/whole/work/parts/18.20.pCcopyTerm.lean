set_option maxRecDepth 100000 in
set_option maxHeartbeats 4000000 in
theorem pC_copyTerm (h : Int) (c : Int) (v : Int) (x m : sd_M) (hx : sd_ns x m) (h1 : sd_I1 x) (h2 : sd_I2 x) (hF : ∀ k : Nat, k < 7 → 0 ≤ x (4101 + k) ∧ x (4101 + k) ≤ 1000000) : sd_Ct sd_SC 3 sY10_copyTerm [.inr 120, .inl h, .inl c, .inl v] m (sd_Qp (sp_copyTerm x h c v)) := by
  refine sd_ct rfl (Nat.le_of_ble_eq_true rfl) (fun hok hm => ?_)
  obtain ⟨⟨i0, j0⟩, ⟨i1, j1⟩, ⟨i2, j2⟩, ⟨i3, j3⟩, ⟨i4, j4⟩, ⟨i5, j5⟩, ⟨i6, j6⟩, ⟨i7, j7⟩, ⟨i8, j8⟩⟩ := id h1
  have r_h : sd_R h := hok (.inl h) (by simp)
  have r_c : sd_R c := hok (.inl c) (by simp)
  have r_v : sd_R v := hok (.inl v) (by simp)
  show sd_Wp sd_SC 3 sY10_copyTerm 0 [some (.inr 120), some (.inl h), some (.inl c), some (.inl v), none] [] m _
  refine sd_iload_n sD10_copyTerm_0 rfl ?_
  refine sd_iconst sD10_copyTerm_1 (by decide) ?_
  refine sd_bipush sD10_copyTerm_2 rfl (by decide) ?_
  refine sd_callSp (as := [.inl c, .inl 0, .inl 99]) (st := []) (v := .inl (sd_b (0 ≤ c ∧ c ≤ 99))) sD10_copyTerm_4 sM10_65 rfl rfl (by decide) (Nat.le_of_ble_eq_true rfl) (cC_isWithin c 0 99 m) (fun ho4 => ?_)
  refine sd_bif_eq (tgt := 20) sD10_copyTerm_7 (by decide) (fun zc7 => ?_) (fun zc7 => ?_)
  ·
    refine sd_aload_n sD10_copyTerm_20 rfl ?_
    refine sd_ldc (z := -1000001) sD10_copyTerm_21 sK10_51 (by decide) ?_
    refine sd_callV (as := [.inl (-1000001)]) (st := []) sD10_copyTerm_23 sM10_52 rfl rfl sOC120 rfl (by decide) (Nat.le_of_ble_eq_true rfl) (cC_found (-1000001) 0 (by decide) (by decide) _ m hx (hF 0 (by decide))) (fun r m hq ho23 hm => ?_)
    obtain ⟨rfl, hx⟩ := hq
    show sd_Wp sd_SC 3 sY10_copyTerm 26 [some (.inr 120), some (.inl h), some (.inl c), some (.inl v), none] [.inl (-1000001)] m _
    refine sd_ireturn sD10_copyTerm_26 rfl (fun hr hm => ?_)
    exact sd_done (by unfold sp_copyTerm; ((repeat (first | rw [if_pos (by first | assumption | omega)] | rw [if_neg (by first | assumption | omega)])); try (first | rfl | (simp only [Prod.mk.injEq, and_true]; (apply sd_bc; simp [sd_up]))))) hx
  ·
    refine sd_iload_n sD10_copyTerm_10 rfl ?_
    refine sd_iconst sD10_copyTerm_11 (by decide) ?_
    refine sd_bipush sD10_copyTerm_12 rfl (by decide) ?_
    refine sd_callSp (as := [.inl v, .inl 0, .inl 99]) (st := []) (v := .inl (sd_b (0 ≤ v ∧ v ≤ 99))) sD10_copyTerm_14 sM10_65 rfl rfl (by decide) (Nat.le_of_ble_eq_true rfl) (cC_isWithin v 0 99 m) (fun ho14 => ?_)
    refine sd_bif_ne (tgt := 27) sD10_copyTerm_17 (by decide) (fun zc17 => ?_) (fun zc17 => ?_)
    ·
      refine sd_aload_n sD10_copyTerm_27 rfl ?_
      refine sd_getfr sD10_copyTerm_28 sF10_10 sGC120_0 ?_
      refine sd_getfr sD10_copyTerm_31 sF10_41 sGC53_2 ?_
      refine sd_iload_n sD10_copyTerm_34 rfl ?_
      refine sd_bipush sD10_copyTerm_35 rfl (by decide) ?_
      refine sd_callVp (as := [.inl h, .inl 6]) (st := []) (v := .inl (sd_fo x h 6)) sD10_copyTerm_37 sM10_69 sOC13 rfl rfl rfl (by decide) (Nat.le_of_ble_eq_true rfl) (cC_findingOf h 6 _ m hx h1 h2) (fun ho37 => ?_)
      rcases (show sd_fo x h 6 = 0 ∨ sd_fo x h 6 = -1000003 ∨ sd_fo x h 6 = -1000001 from sd_fo_or x h 6) with zf40 | zf40 | zf40
      ·
        refine sd_eqs (ls' := [some (.inr 120), some (.inl h), some (.inl c), some (.inl v), none]) (st' := [.inl 0]) ?_ rfl (by rw [zf40])
        have zA37 := sd_foA zf40
        refine sd_istore (ls' := [some (.inr 120), some (.inl h), some (.inl c), some (.inl v), some (.inl 0)]) sD10_copyTerm_40 (by decide) rfl ?_
        refine sd_iload sD10_copyTerm_42 rfl ?_
        refine sd_if_eq (tgt := 54) sD10_copyTerm_44 (by decide) (fun zc44 => ?_) (fun zc44 => (by exfalso; omega))
        refine sd_aload_n sD10_copyTerm_54 rfl ?_
        refine sd_getfr sD10_copyTerm_55 sF10_10 sGC120_0 ?_
        refine sd_getfr sD10_copyTerm_58 sF10_41 sGC53_2 ?_
        refine sd_getfr sD10_copyTerm_61 sF10_283 sGC13_13 ?_
        refine sd_iload_n sD10_copyTerm_64 rfl ?_
        refine sd_iload_n sD10_copyTerm_65 rfl ?_
        refine sd_iastx (a := (274 + h.toNat)) sd_sokC hx sD10_copyTerm_66 sAC11 (by omega) (fun m hx em66 => ?_)
        refine sd_aload_n sD10_copyTerm_67 rfl ?_
        refine sd_getfr sD10_copyTerm_68 sF10_10 sGC120_0 ?_
        refine sd_getfr sD10_copyTerm_71 sF10_41 sGC53_2 ?_
        refine sd_getfr sD10_copyTerm_74 sF10_286 sGC13_14 ?_
        refine sd_iload_n sD10_copyTerm_77 rfl ?_
        refine sd_iload_n sD10_copyTerm_78 rfl ?_
        refine sd_iastx (a := (298 + h.toNat)) sd_sokC hx sD10_copyTerm_79 sAC12 (by omega) (fun m hx em79 => ?_)
        refine sd_aload_n sD10_copyTerm_80 rfl ?_
        refine sd_getfr sD10_copyTerm_81 sF10_10 sGC120_0 ?_
        refine sd_getfr sD10_copyTerm_84 sF10_41 sGC53_2 ?_
        refine sd_iload_n sD10_copyTerm_87 rfl ?_
        refine sd_callVp (as := [.inl h]) (st := []) (v := .inl (sd_b ((¬ (sd_up (sd_up x (274 + h.toNat) c) (298 + h.toNat) v) (274 + h.toNat) = (sd_up (sd_up x (274 + h.toNat) c) (298 + h.toNat) v) (34 + h.toNat)) ∨ ¬ (sd_up (sd_up x (274 + h.toNat) c) (298 + h.toNat) v) (298 + h.toNat) = (sd_up (sd_up x (274 + h.toNat) c) (298 + h.toNat) v) (58 + h.toNat)))) sD10_copyTerm_88 sM10_289 sOC13 rfl rfl rfl (by decide) (Nat.le_of_ble_eq_true rfl) (cC_isUnlike h _ m hx  (by omega)) (fun ho88 => ?_)
        refine sd_callSp (as := [.inl (sd_b ((¬ (sd_up (sd_up x (274 + h.toNat) c) (298 + h.toNat) v) (274 + h.toNat) = (sd_up (sd_up x (274 + h.toNat) c) (298 + h.toNat) v) (34 + h.toNat)) ∨ ¬ (sd_up (sd_up x (274 + h.toNat) c) (298 + h.toNat) v) (298 + h.toNat) = (sd_up (sd_up x (274 + h.toNat) c) (298 + h.toNat) v) (58 + h.toNat)))]) (st := []) (v := .inl (sd_b ((¬ (sd_up (sd_up x (274 + h.toNat) c) (298 + h.toNat) v) (274 + h.toNat) = (sd_up (sd_up x (274 + h.toNat) c) (298 + h.toNat) v) (34 + h.toNat)) ∨ ¬ (sd_up (sd_up x (274 + h.toNat) c) (298 + h.toNat) v) (298 + h.toNat) = (sd_up (sd_up x (274 + h.toNat) c) (298 + h.toNat) v) (58 + h.toNat)))) sD10_copyTerm_91 sM10_79 rfl rfl (by decide) (Nat.le_of_ble_eq_true rfl) (cC_asNumber ((¬ (sd_up (sd_up x (274 + h.toNat) c) (298 + h.toNat) v) (274 + h.toNat) = (sd_up (sd_up x (274 + h.toNat) c) (298 + h.toNat) v) (34 + h.toNat)) ∨ ¬ (sd_up (sd_up x (274 + h.toNat) c) (298 + h.toNat) v) (298 + h.toNat) = (sd_up (sd_up x (274 + h.toNat) c) (298 + h.toNat) v) (58 + h.toNat)) m) (fun ho91 => ?_)
        refine sd_ireturn sD10_copyTerm_94 rfl (fun hr hm => ?_)
        exact sd_done (by unfold sp_copyTerm; ((repeat (first | rw [if_pos (by first | assumption | omega)] | rw [if_neg (by first | assumption | omega)])); try (first | rfl | (simp only [Prod.mk.injEq, and_true]; (apply sd_bc; simp [sd_up]))))) hx
      ·
        refine sd_eqs (ls' := [some (.inr 120), some (.inl h), some (.inl c), some (.inl v), none]) (st' := [.inl (-1000003)]) ?_ rfl (by rw [zf40])
        have zA37 := sd_foK zf40
        refine sd_istore (ls' := [some (.inr 120), some (.inl h), some (.inl c), some (.inl v), some (.inl (-1000003))]) sD10_copyTerm_40 (by decide) rfl ?_
        refine sd_iload sD10_copyTerm_42 rfl ?_
        refine sd_if_eq (tgt := 54) sD10_copyTerm_44 (by decide) (fun zc44 => (by exfalso; omega)) (fun zc44 => ?_)
        refine sd_aload_n sD10_copyTerm_47 rfl ?_
        refine sd_iload sD10_copyTerm_48 rfl ?_
        refine sd_callV (as := [.inl (-1000003)]) (st := []) sD10_copyTerm_50 sM10_52 rfl rfl sOC120 rfl (by decide) (Nat.le_of_ble_eq_true rfl) (cC_found (-1000003) 2 (by decide) (by decide) _ m hx (hF 2 (by decide))) (fun r m hq ho50 hm => ?_)
        obtain ⟨rfl, hx⟩ := hq
        show sd_Wp sd_SC 3 sY10_copyTerm 53 [some (.inr 120), some (.inl h), some (.inl c), some (.inl v), some (.inl (-1000003))] [.inl (-1000003)] m _
        refine sd_ireturn sD10_copyTerm_53 rfl (fun hr hm => ?_)
        exact sd_done (by unfold sp_copyTerm; ((repeat (first | rw [if_pos (by first | assumption | omega)] | rw [if_neg (by first | assumption | omega)])); try (first | rfl | (simp only [Prod.mk.injEq, and_true]; (apply sd_bc; simp [sd_up]))))) hx
      ·
        refine sd_eqs (ls' := [some (.inr 120), some (.inl h), some (.inl c), some (.inl v), none]) (st' := [.inl (-1000001)]) ?_ rfl (by rw [zf40])
        have zA37 := sd_foB zf40
        refine sd_istore (ls' := [some (.inr 120), some (.inl h), some (.inl c), some (.inl v), some (.inl (-1000001))]) sD10_copyTerm_40 (by decide) rfl ?_
        refine sd_iload sD10_copyTerm_42 rfl ?_
        refine sd_if_eq (tgt := 54) sD10_copyTerm_44 (by decide) (fun zc44 => (by exfalso; omega)) (fun zc44 => ?_)
        refine sd_aload_n sD10_copyTerm_47 rfl ?_
        refine sd_iload sD10_copyTerm_48 rfl ?_
        refine sd_callV (as := [.inl (-1000001)]) (st := []) sD10_copyTerm_50 sM10_52 rfl rfl sOC120 rfl (by decide) (Nat.le_of_ble_eq_true rfl) (cC_found (-1000001) 0 (by decide) (by decide) _ m hx (hF 0 (by decide))) (fun r m hq ho50 hm => ?_)
        obtain ⟨rfl, hx⟩ := hq
        show sd_Wp sd_SC 3 sY10_copyTerm 53 [some (.inr 120), some (.inl h), some (.inl c), some (.inl v), some (.inl (-1000001))] [.inl (-1000001)] m _
        refine sd_ireturn sD10_copyTerm_53 rfl (fun hr hm => ?_)
        exact sd_done (by unfold sp_copyTerm; ((repeat (first | rw [if_pos (by first | assumption | omega)] | rw [if_neg (by first | assumption | omega)])); try (first | rfl | (simp only [Prod.mk.injEq, and_true]; (apply sd_bc; simp [sd_up]))))) hx
    ·
      refine sd_aload_n sD10_copyTerm_20 rfl ?_
      refine sd_ldc (z := -1000001) sD10_copyTerm_21 sK10_51 (by decide) ?_
      refine sd_callV (as := [.inl (-1000001)]) (st := []) sD10_copyTerm_23 sM10_52 rfl rfl sOC120 rfl (by decide) (Nat.le_of_ble_eq_true rfl) (cC_found (-1000001) 0 (by decide) (by decide) _ m hx (hF 0 (by decide))) (fun r m hq ho23 hm => ?_)
      obtain ⟨rfl, hx⟩ := hq
      show sd_Wp sd_SC 3 sY10_copyTerm 26 [some (.inr 120), some (.inl h), some (.inl c), some (.inl v), none] [.inl (-1000001)] m _
      refine sd_ireturn sD10_copyTerm_26 rfl (fun hr hm => ?_)
      exact sd_done (by unfold sp_copyTerm; ((repeat (first | rw [if_pos (by first | assumption | omega)] | rw [if_neg (by first | assumption | omega)])); try (first | rfl | (simp only [Prod.mk.injEq, and_true]; (apply sd_bc; simp [sd_up]))))) hx
