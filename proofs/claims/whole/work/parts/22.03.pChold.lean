set_option maxRecDepth 100000 in
set_option maxHeartbeats 4000000 in
theorem pC_hold (k : Int) (n : Int) (x m : sd_M) (hx : sd_ns x m) (h1 : sd_I1 x) (h2 : sd_I2 x) (hF : ∀ k : Nat, k < 7 → 0 ≤ x (4101 + k) ∧ x (4101 + k) ≤ 1000000) (hz : 0 ≤ x 6004 ∧ x 6004 ≤ 8) : sd_Ct sd_SC 3 sY10_hold [.inr 120, .inl k, .inl n] m (sd_Qp (spC_hold x k n)) := by
  refine sd_ct rfl (Nat.le_of_ble_eq_true rfl) (fun hok hm => ?_)
  obtain ⟨⟨i0, j0⟩, ⟨i1, j1⟩, ⟨i2, j2⟩, ⟨i3, j3⟩, ⟨i4, j4⟩, ⟨i5, j5⟩, ⟨i6, j6⟩, ⟨i7, j7⟩, ⟨i8, j8⟩⟩ := id h1
  have r_k : sd_R k := hok (.inl k) (by simp)
  have r_n : sd_R n := hok (.inl n) (by simp)
  show sd_Wp sd_SC 3 sY10_hold 0 [some (.inr 120), some (.inl k), some (.inl n)] [] m _
  refine sd_aload_n sD10_hold_0 rfl ?_
  refine sd_getfr sD10_hold_1 sF10_10 sGC120_0 ?_
  refine sd_getfr sD10_hold_4 sF10_41 sGC53_2 ?_
  refine sd_iload_n sD10_hold_7 rfl ?_
  refine sd_iload_n sD10_hold_8 rfl ?_
  refine sd_callVp (as := [.inl k, .inl n]) (st := []) (v := .inl (sd_b ((0 ≤ n ∧ n ≤ 9999) ∧ sd_alw x k (n / 100) (n % 100)))) sD10_hold_9 sM10_45 sOC13 rfl rfl rfl (by decide) (Nat.le_of_ble_eq_true rfl) (cC_allows k n _ m hx h1 h2 ) (fun ho9 => ?_)
  refine sd_bif_ne (tgt := 22) sD10_hold_12 (by decide) (fun zc12 => ?_) (fun zc12 => ?_)
  ·
    have e9 := sd_alw_k zc12.2
    have e10 := zc12.1
    refine sd_aload_n sD10_hold_22 rfl ?_
    refine sd_getfr sD10_hold_23 sF10_10 sGC120_0 ?_
    refine sd_getfr sD10_hold_26 sF10_41 sGC53_2 ?_
    refine sd_iload_n sD10_hold_29 rfl ?_
    refine sd_callVp (as := [.inl k]) (st := []) (v := .inl (sd_b (x 2 < 24 ∧ ((¬ (k = 1 ∨ k = 2)) ∨ x 6004 < 8)))) sD10_hold_30 sM10_56 sOC13 rfl rfl rfl (by decide) (Nat.le_of_ble_eq_true rfl) (cC_hasRoomFor k _ m hx h1 ) (fun ho30 => ?_)
    refine sd_bif_ne (tgt := 43) sD10_hold_33 (by decide) (fun zc33 => ?_) (fun zc33 => ?_)
    ·
      refine sd_aload_n sD10_hold_43 rfl ?_
      refine sd_getfr sD10_hold_44 sF10_10 sGC120_0 ?_
      refine sd_getfr sD10_hold_47 sF10_41 sGC53_2 ?_
      refine sd_iload_n sD10_hold_50 rfl ?_
      refine sd_iload_n sD10_hold_51 rfl ?_
      refine sd_bipush sD10_hold_52 rfl (by decide) ?_
      refine sd_idiv (z := (n / 100)) sD10_hold_54 (by decide) (by exact Int.tdiv_eq_ediv_of_nonneg (by omega)) (by omega) ?_
      refine sd_iload_n sD10_hold_55 rfl ?_
      refine sd_bipush sD10_hold_56 rfl (by decide) ?_
      refine sd_irem (z := (n % 100)) sD10_hold_58 (by decide) (by exact Int.tmod_eq_emod_of_nonneg (by omega)) (by omega) ?_
      refine sd_callV (as := [.inl k, .inl (n / 100), .inl (n % 100)]) (st := []) sD10_hold_59 sM10_61 rfl rfl sOC13 rfl (by decide) (Nat.le_of_ble_eq_true rfl) (cC_holdadd k (n / 100) (n % 100) _ m hx (by omega) (by omega) (by omega)) (fun r m hq ho59 hm => ?_)
      obtain ⟨rfl, hx⟩ := hq
      show sd_Wp sd_SC 3 sY10_hold 62 [some (.inr 120), some (.inl k), some (.inl n)] [.inl (x 2)] m _
      refine sd_ireturn sD10_hold_62 rfl (fun hr hm => ?_)
      exact sd_done (by unfold spC_hold; (first | rw [if_pos ⟨by assumption, by assumption⟩] | rw [if_pos (by assumption)] | rw [if_neg (fun hh => by first | exact absurd hh (by assumption) | exact absurd hh.1 (by assumption) | exact absurd hh.2 (by assumption) | exact absurd (sd_alw_k hh.2) (by assumption))]); all_goals (first | rfl | (rw [if_pos (by omega)]; done) | (rw [if_pos (by omega)]; rfl) | (rw [if_neg (by omega)]; done))) hx
    ·
      refine sd_aload_n sD10_hold_36 rfl ?_
      refine sd_ldc (z := -1000002) sD10_hold_37 sK10_60 (by decide) ?_
      refine sd_callV (as := [.inl (-1000002)]) (st := []) sD10_hold_39 sM10_52 rfl rfl sOC120 rfl (by decide) (Nat.le_of_ble_eq_true rfl) (cC_found (-1000002) 1 (by decide) (by decide) _ m hx (hF 1 (by decide))) (fun r m hq ho39 hm => ?_)
      obtain ⟨rfl, hx⟩ := hq
      show sd_Wp sd_SC 3 sY10_hold 42 [some (.inr 120), some (.inl k), some (.inl n)] [.inl (-1000002)] m _
      refine sd_ireturn sD10_hold_42 rfl (fun hr hm => ?_)
      exact sd_done (by unfold spC_hold; (first | rw [if_pos ⟨by assumption, by assumption⟩] | rw [if_pos (by assumption)] | rw [if_neg (fun hh => by first | exact absurd hh (by assumption) | exact absurd hh.1 (by assumption) | exact absurd hh.2 (by assumption) | exact absurd (sd_alw_k hh.2) (by assumption))]); all_goals (first | rfl | (rw [if_pos (by omega)]; done) | (rw [if_pos (by omega)]; rfl) | (rw [if_neg (by omega)]; done))) hx
  ·
    refine sd_aload_n sD10_hold_15 rfl ?_
    refine sd_ldc (z := -1000001) sD10_hold_16 sK10_51 (by decide) ?_
    refine sd_callV (as := [.inl (-1000001)]) (st := []) sD10_hold_18 sM10_52 rfl rfl sOC120 rfl (by decide) (Nat.le_of_ble_eq_true rfl) (cC_found (-1000001) 0 (by decide) (by decide) _ m hx (hF 0 (by decide))) (fun r m hq ho18 hm => ?_)
    obtain ⟨rfl, hx⟩ := hq
    show sd_Wp sd_SC 3 sY10_hold 21 [some (.inr 120), some (.inl k), some (.inl n)] [.inl (-1000001)] m _
    refine sd_ireturn sD10_hold_21 rfl (fun hr hm => ?_)
    exact sd_done (by unfold spC_hold; (first | rw [if_pos ⟨by assumption, by assumption⟩] | rw [if_pos (by assumption)] | rw [if_neg (fun hh => by first | exact absurd hh (by assumption) | exact absurd hh.1 (by assumption) | exact absurd hh.2 (by assumption) | exact absurd (sd_alw_k hh.2) (by assumption))]); all_goals (first | rfl | (rw [if_pos (by omega)]; done) | (rw [if_pos (by omega)]; rfl) | (rw [if_neg (by omega)]; done))) hx
