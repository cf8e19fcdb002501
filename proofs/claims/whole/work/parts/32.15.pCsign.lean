set_option maxRecDepth 100000 in
set_option maxHeartbeats 4000000 in
theorem pC_sign (t : Int) (a : Int) (l : Int) (x m : sd_M) (hx : sd_ns x m) (h1 : sd_I1 x) (h2 : sd_I2 x) (hF : ∀ k : Nat, k < 7 → 0 ≤ x (4101 + k) ∧ x (4101 + k) ≤ 1000000) : sd_Ct sd_SC 4 sY10_sign [.inr 120, .inl t, .inl a, .inl l] m (sd_Qp (sp_sign x t a l)) := by
  refine sd_ct rfl (Nat.le_of_ble_eq_true rfl) (fun hok hm => ?_)
  obtain ⟨⟨i0, j0⟩, ⟨i1, j1⟩, ⟨i2, j2⟩, ⟨i3, j3⟩, ⟨i4, j4⟩, ⟨i5, j5⟩, ⟨i6, j6⟩, ⟨i7, j7⟩, ⟨i8, j8⟩⟩ := id h1
  have r_t : sd_R t := hok (.inl t) (by simp)
  have r_a : sd_R a := hok (.inl a) (by simp)
  have r_l : sd_R l := hok (.inl l) (by simp)
  show sd_Wp sd_SC 4 sY10_sign 0 [some (.inr 120), some (.inl t), some (.inl a), some (.inl l)] [] m _
  refine sd_aload_n sD10_sign_0 rfl ?_
  refine sd_getfr sD10_sign_1 sF10_10 sGC120_0 ?_
  refine sd_getfr sD10_sign_4 sF10_41 sGC53_2 ?_
  refine sd_iload_n sD10_sign_7 rfl ?_
  refine sd_callVp (as := [.inl t]) (st := []) (v := .inl (sd_b (sd_and t (sd_xor (sd_trm x) (-1)) = 0))) sD10_sign_8 sM10_295 sOC13 rfl rfl rfl (by decide) (Nat.le_of_ble_eq_true rfl) (cC_areTerms t _ m hx h1 ) (fun ho8 => ?_)
  refine sd_bif_eq (tgt := 36) sD10_sign_11 (by decide) (fun zc11 => ?_) (fun zc11 => ?_)
  ·
    refine sd_aload_n sD10_sign_36 rfl ?_
    refine sd_ldc (z := -1000001) sD10_sign_37 sK10_51 (by decide) ?_
    refine sd_callV (as := [.inl (-1000001)]) (st := []) sD10_sign_39 sM10_52 rfl rfl sOC120 rfl (by decide) (Nat.le_of_ble_eq_true rfl) (cC_found (-1000001) 0 (by decide) (by decide) _ m hx (hF 0 (by decide))) (fun r m hq ho39 hm => ?_)
    obtain ⟨rfl, hx⟩ := hq
    show sd_Wp sd_SC 4 sY10_sign 42 [some (.inr 120), some (.inl t), some (.inl a), some (.inl l)] [.inl (-1000001)] m _
    refine sd_ireturn sD10_sign_42 rfl (fun hr hm => ?_)
    exact sd_done (by unfold sp_sign; ((repeat (first | rw [if_pos (by first | assumption | omega)] | rw [if_neg (by first | assumption | omega)])); try rfl)) hx
  ·
    refine sd_iload_n sD10_sign_14 rfl ?_
    refine sd_iconst sD10_sign_15 (by decide) ?_
    refine sd_sipush sD10_sign_16 rfl (by decide) ?_
    refine sd_callSp (as := [.inl a, .inl 0, .inl 999]) (st := []) (v := .inl (sd_b (0 ≤ a ∧ a ≤ 999))) sD10_sign_19 sM10_65 rfl rfl (by decide) (Nat.le_of_ble_eq_true rfl) (cC_isWithin a 0 999 m) (fun ho19 => ?_)
    refine sd_bif_eq (tgt := 36) sD10_sign_22 (by decide) (fun zc22 => ?_) (fun zc22 => ?_)
    ·
      refine sd_aload_n sD10_sign_36 rfl ?_
      refine sd_ldc (z := -1000001) sD10_sign_37 sK10_51 (by decide) ?_
      refine sd_callV (as := [.inl (-1000001)]) (st := []) sD10_sign_39 sM10_52 rfl rfl sOC120 rfl (by decide) (Nat.le_of_ble_eq_true rfl) (cC_found (-1000001) 0 (by decide) (by decide) _ m hx (hF 0 (by decide))) (fun r m hq ho39 hm => ?_)
      obtain ⟨rfl, hx⟩ := hq
      show sd_Wp sd_SC 4 sY10_sign 42 [some (.inr 120), some (.inl t), some (.inl a), some (.inl l)] [.inl (-1000001)] m _
      refine sd_ireturn sD10_sign_42 rfl (fun hr hm => ?_)
      exact sd_done (by unfold sp_sign; ((repeat (first | rw [if_pos (by first | assumption | omega)] | rw [if_neg (by first | assumption | omega)])); try rfl)) hx
    ·
      refine sd_iload_n sD10_sign_25 rfl ?_
      refine sd_iconst sD10_sign_26 (by decide) ?_
      refine sd_sipush sD10_sign_27 rfl (by decide) ?_
      refine sd_callSp (as := [.inl l, .inl 0, .inl 999]) (st := []) (v := .inl (sd_b (0 ≤ l ∧ l ≤ 999))) sD10_sign_30 sM10_65 rfl rfl (by decide) (Nat.le_of_ble_eq_true rfl) (cC_isWithin l 0 999 m) (fun ho30 => ?_)
      refine sd_bif_ne (tgt := 43) sD10_sign_33 (by decide) (fun zc33 => ?_) (fun zc33 => ?_)
      ·
        have zr := sd_sub_rng r_t (sd_Pt x) (n := (x 2).toNat) (by omega) (by assumption)
        refine sd_iload_n sD10_sign_43 rfl ?_
        refine sd_callSp (as := [.inl t]) (st := []) (v := .inl (sd_ones t)) sD10_sign_44 sM10_298 rfl rfl (by decide) (Nat.le_of_ble_eq_true rfl) (cC_bitCount t m (by first | omega | assumption)) (fun ho44 => ?_)
        refine sd_bipush sD10_sign_47 rfl (by decide) ?_
        refine sd_icmp_le (tgt := 59) sD10_sign_49 (by decide) (fun zc49 => ?_) (fun zc49 => ?_)
        ·
          refine sd_aload_n sD10_sign_59 rfl ?_
          refine sd_aload_n sD10_sign_60 rfl ?_
          refine sd_getfr sD10_sign_61 sF10_10 sGC120_0 ?_
          refine sd_getfr sD10_sign_64 sF10_41 sGC53_2 ?_
          refine sd_iload_n sD10_sign_67 rfl ?_
          refine sd_iload_n sD10_sign_68 rfl ?_
          refine sd_iload_n sD10_sign_69 rfl ?_
          refine sd_callVp (as := [.inl t, .inl a, .inl l]) (st := [.inr 120]) (v := .inl (sd_sgb x t a l)) sD10_sign_70 sM10_303 sOC13 rfl rfl rfl (by decide) (Nat.le_of_ble_eq_true rfl) (cC_termsToSign t a l _ m hx h1 h2 (by omega)) (fun ho70 => ?_)
          by_cases zo73 : sd_sgb x t a l = -1
          ·
            refine sd_callV (as := [.inl (sd_sgb x t a l)]) (st := []) sD10_sign_73 sM10_103 rfl rfl sOC120 rfl (by decide) (Nat.le_of_ble_eq_true rfl) (cC_orNone3 (sd_sgb x t a l) zo73 _ m hx hF) (fun r m hq ho73 hm => ?_)
            obtain ⟨rfl, hx⟩ := hq
            show sd_Wp sd_SC 4 sY10_sign 76 [some (.inr 120), some (.inl t), some (.inl a), some (.inl l)] [.inl (-1000004)] m _
            refine sd_ireturn sD10_sign_76 rfl (fun hr hm => ?_)
            exact sd_done (by unfold sp_sign; ((repeat (first | rw [if_pos (by first | assumption | omega)] | rw [if_neg (by first | assumption | omega)])); try rfl)) hx
          ·
            refine sd_callV (as := [.inl (sd_sgb x t a l)]) (st := []) sD10_sign_73 sM10_103 rfl rfl sOC120 rfl (by decide) (Nat.le_of_ble_eq_true rfl) (cC_orNoneS (sd_sgb x t a l) zo73 _ m hx) (fun r m hq ho73 hm => ?_)
            obtain ⟨rfl, hx⟩ := hq
            show sd_Wp sd_SC 4 sY10_sign 76 [some (.inr 120), some (.inl t), some (.inl a), some (.inl l)] [.inl (sd_sgb x t a l)] m _
            refine sd_ireturn sD10_sign_76 rfl (fun hr hm => ?_)
            exact sd_done (by unfold sp_sign; ((repeat (first | rw [if_pos (by first | assumption | omega)] | rw [if_neg (by first | assumption | omega)])); try rfl)) hx
        ·
          refine sd_aload_n sD10_sign_52 rfl ?_
          refine sd_ldc (z := -1000007) sD10_sign_53 sK10_163 (by decide) ?_
          refine sd_callV (as := [.inl (-1000007)]) (st := []) sD10_sign_55 sM10_52 rfl rfl sOC120 rfl (by decide) (Nat.le_of_ble_eq_true rfl) (cC_found (-1000007) 6 (by decide) (by decide) _ m hx (hF 6 (by decide))) (fun r m hq ho55 hm => ?_)
          obtain ⟨rfl, hx⟩ := hq
          show sd_Wp sd_SC 4 sY10_sign 58 [some (.inr 120), some (.inl t), some (.inl a), some (.inl l)] [.inl (-1000007)] m _
          refine sd_ireturn sD10_sign_58 rfl (fun hr hm => ?_)
          exact sd_done (by unfold sp_sign; ((repeat (first | rw [if_pos (by first | assumption | omega)] | rw [if_neg (by first | assumption | omega)])); try rfl)) hx
      ·
        refine sd_aload_n sD10_sign_36 rfl ?_
        refine sd_ldc (z := -1000001) sD10_sign_37 sK10_51 (by decide) ?_
        refine sd_callV (as := [.inl (-1000001)]) (st := []) sD10_sign_39 sM10_52 rfl rfl sOC120 rfl (by decide) (Nat.le_of_ble_eq_true rfl) (cC_found (-1000001) 0 (by decide) (by decide) _ m hx (hF 0 (by decide))) (fun r m hq ho39 hm => ?_)
        obtain ⟨rfl, hx⟩ := hq
        show sd_Wp sd_SC 4 sY10_sign 42 [some (.inr 120), some (.inl t), some (.inl a), some (.inl l)] [.inl (-1000001)] m _
        refine sd_ireturn sD10_sign_42 rfl (fun hr hm => ?_)
        exact sd_done (by unfold sp_sign; ((repeat (first | rw [if_pos (by first | assumption | omega)] | rw [if_neg (by first | assumption | omega)])); try rfl)) hx
