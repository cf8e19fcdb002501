set_option maxRecDepth 100000 in
set_option maxHeartbeats 4000000 in
theorem pC_text (j f to : Int) (x m : sd_M) (hx : sd_ns x m) (h1 : sd_I1 x) (hF : ∀ k : Nat, k < 7 → 0 ≤ x (4101 + k) ∧ x (4101 + k) ≤ 1000000) (hP : 0 ≤ x 4100 ∧ x 4100 ≤ 100) : sd_Ct sd_SC 9 sY10_text [.inr 120, .inl j, .inl f, .inl to] m (sd_textC x j f to) := by
  refine sd_ct rfl (Nat.le_of_ble_eq_true rfl) (fun hok hm => ?_)
  obtain ⟨⟨i0, j0⟩, ⟨i1, j1⟩, ⟨i2, j2⟩, ⟨i3, j3⟩, ⟨i4, j4⟩, ⟨i5, j5⟩, ⟨i6, j6⟩, ⟨i7, j7⟩, ⟨i8, j8⟩⟩ := id h1
  have r_j : sd_R j := hok (.inl j) (by simp)
  have r_f : sd_R f := hok (.inl f) (by simp)
  have r_to : sd_R to := hok (.inl to) (by simp)
  show sd_Wp sd_SC 9 sY10_text 0 [some (.inr 120), some (.inl j), some (.inl f), some (.inl to)] [] m _
  refine sd_iload_n sD10_text_0 rfl ?_
  refine sd_iconst sD10_text_1 (by decide) ?_
  refine sd_iconst sD10_text_2 (by decide) ?_
  refine sd_callSp (as := [.inl j, .inl 0, .inl 3]) (st := []) (v := .inl (sd_b (0 ≤ j ∧ j ≤ 3))) sD10_text_3 sM10_65 rfl rfl (by decide) (Nat.le_of_ble_eq_true rfl) (cC_isWithin j 0 3 m) (fun ho3 => ?_)
  refine sd_bif_eq (tgt := 31) sD10_text_6 (by decide) (fun zc6 => ?_) (fun zc6 => ?_)
  ·
    refine sd_aload_n sD10_text_31 rfl ?_
    refine sd_ldc (z := -1000001) sD10_text_32 sK10_51 (by decide) ?_
    refine sd_callV (as := [.inl (-1000001)]) (st := []) sD10_text_34 sM10_52 rfl rfl sOC120 rfl (by decide) (Nat.le_of_ble_eq_true rfl) (cC_found (-1000001) 0 (by decide) (by decide) _ m hx (hF 0 (by decide))) (fun r m hq ho34 hm => ?_)
    obtain ⟨rfl, hx⟩ := hq
    show sd_Wp sd_SC 9 sY10_text 37 [some (.inr 120), some (.inl j), some (.inl f), some (.inl to)] [.inl (-1000001)] m _
    refine sd_ireturn sD10_text_37 rfl (fun hr hm => ?_)
    exact Or.inl ⟨by omega, rfl, hx⟩
  ·
    refine sd_iload_n sD10_text_9 rfl ?_
    refine sd_iconst sD10_text_10 (by decide) ?_
    refine sd_sipush sD10_text_11 rfl (by decide) ?_
    refine sd_callSp (as := [.inl f, .inl 0, .inl 959]) (st := []) (v := .inl (sd_b (0 ≤ f ∧ f ≤ 959))) sD10_text_14 sM10_65 rfl rfl (by decide) (Nat.le_of_ble_eq_true rfl) (cC_isWithin f 0 959 m) (fun ho14 => ?_)
    refine sd_bif_eq (tgt := 31) sD10_text_17 (by decide) (fun zc17 => ?_) (fun zc17 => ?_)
    ·
      refine sd_aload_n sD10_text_31 rfl ?_
      refine sd_ldc (z := -1000001) sD10_text_32 sK10_51 (by decide) ?_
      refine sd_callV (as := [.inl (-1000001)]) (st := []) sD10_text_34 sM10_52 rfl rfl sOC120 rfl (by decide) (Nat.le_of_ble_eq_true rfl) (cC_found (-1000001) 0 (by decide) (by decide) _ m hx (hF 0 (by decide))) (fun r m hq ho34 hm => ?_)
      obtain ⟨rfl, hx⟩ := hq
      show sd_Wp sd_SC 9 sY10_text 37 [some (.inr 120), some (.inl j), some (.inl f), some (.inl to)] [.inl (-1000001)] m _
      refine sd_ireturn sD10_text_37 rfl (fun hr hm => ?_)
      exact Or.inl ⟨by omega, rfl, hx⟩
    ·
      refine sd_iload_n sD10_text_20 rfl ?_
      refine sd_iload_n sD10_text_21 rfl ?_
      refine sd_sipush sD10_text_22 rfl (by decide) ?_
      refine sd_callSp (as := [.inl to, .inl f, .inl 959]) (st := []) (v := .inl (sd_b (f ≤ to ∧ to ≤ 959))) sD10_text_25 sM10_65 rfl rfl (by decide) (Nat.le_of_ble_eq_true rfl) (cC_isWithin to f 959 m) (fun ho25 => ?_)
      refine sd_bif_ne (tgt := 38) sD10_text_28 (by decide) (fun zc28 => ?_) (fun zc28 => ?_)
      ·
        refine sd_aload_n sD10_text_38 rfl ?_
        refine sd_getfr sD10_text_39 sF10_10 sGC120_0 ?_
        refine sd_getfr sD10_text_42 sF10_145 sGC53_5 ?_
        refine sd_getfx (v := x 5) hx sD10_text_45 sF10_232 sGC36_0 (by decide) rfl ?_
        refine sd_bipush sD10_text_48 rfl (by decide) ?_
        refine sd_icmp_lt (tgt := 60) sD10_text_50 (by decide) (fun zc50 => ?_) (fun zc50 => ?_)
        ·
          refine sd_aload_n sD10_text_60 rfl ?_
          refine sd_getfr sD10_text_61 sF10_28 sGC120_3 ?_
          refine sd_aload_n sD10_text_64 rfl ?_
          refine sd_getfr sD10_text_65 sF10_10 sGC120_0 ?_
          refine sd_getfr sD10_text_68 sF10_145 sGC53_5 ?_
          refine sd_callV (as := [.inr 36]) (st := []) sD10_text_71 sM10_233 rfl rfl sOC118 rfl (by decide) (Nat.le_of_ble_eq_true rfl) (cC_readText (sd_tpB x) (x 4100).toNat (x 5).toNat (by omega) _ m hx (sd_tpB_TB hP) (by omega)) (fun r m hq ho71 hm => ?_)
          obtain ⟨X1, hx, hfr, hq1⟩ := hq
          have zR := hm 5390
          rcases hq1 with ⟨e, hz, rfl, hp⟩ | ⟨cs, hz, rfl, hl, hrw⟩
          ·
            show sd_Wp sd_SC 9 sY10_text 74 [some (.inr 120), some (.inl j), some (.inl f), some (.inl to)] [.inl 0] m _
            refine sd_if_ne (tgt := 87) sD10_text_74 (by decide) (fun zc74 => (by exfalso; omega)) (fun zc74 => ?_)
            refine sd_iconst sD10_text_77 (by decide) ?_
            refine sd_aload_n sD10_text_78 rfl ?_
            refine sd_getfr sD10_text_79 sF10_28 sGC120_3 ?_
            refine sd_getfi sD10_text_82 sF10_237 sGC118_1 ?_
            rw [show m 5390 = (e : Int) from hp]
            refine sd_isub (z := ((-1) - (e : Int))) sD10_text_85 (by omega) (by omega) ?_
            refine sd_ireturn sD10_text_86 rfl (fun hr hm => ?_)
            exact Or.inr (Or.inr ⟨by omega, by omega, X1, hfr, Or.inl ⟨e, hz, rfl, hx⟩⟩)
          ·
            have g0 : X1 0 = x 0 := hfr 0 (by omega)
            have g5 : X1 5 = x 5 := hfr 5 (by omega)
            show sd_Wp sd_SC 9 sY10_text 74 [some (.inr 120), some (.inl j), some (.inl f), some (.inl to)] [.inl 1] m _
            refine sd_if_ne (tgt := 87) sD10_text_74 (by decide) (fun zc74 => ?_) (fun zc74 => (by exfalso; omega))
            refine sd_aload_n sD10_text_87 rfl ?_
            refine sd_getfr sD10_text_88 sF10_28 sGC120_3 ?_
            refine sd_iconst sD10_text_91 (by decide) ?_
            refine sd_putfx sd_sokC sd_oneC hx sD10_text_92 sF10_229 sGC118_0 (Or.inl rfl) (fun m hx em92 => ?_)
            refine sd_aload_n sD10_text_95 rfl ?_
            refine sd_getfr sD10_text_96 sF10_10 sGC120_0 ?_
            refine sd_getfr sD10_text_99 sF10_145 sGC53_5 ?_
            refine sd_iload_n sD10_text_102 rfl ?_
            refine sd_iload_n sD10_text_103 rfl ?_
            refine sd_iload_n sD10_text_104 rfl ?_
            refine sd_aload_n sD10_text_105 rfl ?_
            refine sd_getfr sD10_text_106 sF10_10 sGC120_0 ?_
            refine sd_getfx (v := X1 0) hx sD10_text_109 sF10_220 sGC53_0 (by decide) (by simp only [sd_up]; repeat rw [if_neg (by omega)]) ?_
            refine sd_callV (as := [.inl j, .inl f, .inl to, .inl (X1 0)]) (st := []) sD10_text_112 sM10_240 rfl rfl sOC36 rfl (by decide) (Nat.le_of_ble_eq_true rfl) (cC_textadd j f to (X1 0) (x 5).toNat (by omega) _ m hx (by rw [sd_up_ne (by omega), g5]; omega)) (fun r m hq ho112 hm => ?_)
            rw [sd_up_ne (show ¬ 5 = 4100 by omega)] at hq
            obtain ⟨rfl, hx⟩ := hq
            show sd_Wp sd_SC 9 sY10_text 115 [some (.inr 120), some (.inl j), some (.inl f), some (.inl to)] [.inl (X1 5)] m _
            refine sd_ireturn sD10_text_115 rfl (fun hr hm => ?_)
            refine Or.inr (Or.inr ⟨by omega, by omega, X1, hfr, Or.inr ⟨cs, hz, by rw [g5], by rw [hl, Nat.zero_add], fun i cl hi => by have := hrw i cl hi; rw [Nat.add_zero] at this; exact this, ?_⟩⟩)
            refine sd_nseq (fun q => ?_) hx
            unfold sd_addT; rw [g5, g0, show ((x 5).toNat : Int) = x 5 from by omega]
        ·
          refine sd_aload_n sD10_text_53 rfl ?_
          refine sd_ldc (z := -1000002) sD10_text_54 sK10_60 (by decide) ?_
          refine sd_callV (as := [.inl (-1000002)]) (st := []) sD10_text_56 sM10_52 rfl rfl sOC120 rfl (by decide) (Nat.le_of_ble_eq_true rfl) (cC_found (-1000002) 1 (by decide) (by decide) _ m hx (hF 1 (by decide))) (fun r m hq ho56 hm => ?_)
          obtain ⟨rfl, hx⟩ := hq
          show sd_Wp sd_SC 9 sY10_text 59 [some (.inr 120), some (.inl j), some (.inl f), some (.inl to)] [.inl (-1000002)] m _
          refine sd_ireturn sD10_text_59 rfl (fun hr hm => ?_)
          exact Or.inr (Or.inl ⟨by omega, by omega, rfl, hx⟩)
      ·
        refine sd_aload_n sD10_text_31 rfl ?_
        refine sd_ldc (z := -1000001) sD10_text_32 sK10_51 (by decide) ?_
        refine sd_callV (as := [.inl (-1000001)]) (st := []) sD10_text_34 sM10_52 rfl rfl sOC120 rfl (by decide) (Nat.le_of_ble_eq_true rfl) (cC_found (-1000001) 0 (by decide) (by decide) _ m hx (hF 0 (by decide))) (fun r m hq ho34 hm => ?_)
        obtain ⟨rfl, hx⟩ := hq
        show sd_Wp sd_SC 9 sY10_text 37 [some (.inr 120), some (.inl j), some (.inl f), some (.inl to)] [.inl (-1000001)] m _
        refine sd_ireturn sD10_text_37 rfl (fun hr hm => ?_)
        exact Or.inl ⟨by omega, rfl, hx⟩
