set_option maxRecDepth 100000 in
set_option maxHeartbeats 4000000 in
theorem pC_book (d : Int) (w : Int) (x m : sd_M) (hx : sd_ns x m) (h1 : sd_I1 x) (hF : ∀ k : Nat, k < 7 → 0 ≤ x (4101 + k) ∧ x (4101 + k) ≤ 1000000) : sd_Ct sd_SC 2 sY10_book [.inr 120, .inl d, .inl w] m (sd_Qp (sp_book x d w)) := by
  refine sd_ct rfl (Nat.le_of_ble_eq_true rfl) (fun hok hm => ?_)
  obtain ⟨⟨i0, j0⟩, ⟨i1, j1⟩, ⟨i2, j2⟩, ⟨i3, j3⟩, ⟨i4, j4⟩, ⟨i5, j5⟩, ⟨i6, j6⟩, ⟨i7, j7⟩, ⟨i8, j8⟩⟩ := id h1
  have r_d : sd_R d := hok (.inl d) (by simp)
  have r_w : sd_R w := hok (.inl w) (by simp)
  show sd_Wp sd_SC 2 sY10_book 0 [some (.inr 120), some (.inl d), some (.inl w)] [] m _
  refine sd_iload_n sD10_book_0 rfl ?_
  refine sd_iconst sD10_book_1 (by decide) ?_
  refine sd_iconst sD10_book_2 (by decide) ?_
  refine sd_callSp (as := [.inl w, .inl 0, .inl 5]) (st := []) (v := .inl (sd_b (0 ≤ w ∧ w ≤ 5))) sD10_book_3 sM10_65 rfl rfl (by decide) (Nat.le_of_ble_eq_true rfl) (cC_isWithin w 0 5 m) (fun ho3 => ?_)
  refine sd_bif_eq (tgt := 19) sD10_book_6 (by decide) (fun zc6 => ?_) (fun zc6 => ?_)
  ·
    refine sd_aload_n sD10_book_19 rfl ?_
    refine sd_ldc (z := -1000001) sD10_book_20 sK10_51 (by decide) ?_
    refine sd_callV (as := [.inl (-1000001)]) (st := []) sD10_book_22 sM10_52 rfl rfl sOC120 rfl (by decide) (Nat.le_of_ble_eq_true rfl) (cC_found (-1000001) 0 (by decide) (by decide) _ m hx (hF 0 (by decide))) (fun r m hq ho22 hm => ?_)
    obtain ⟨rfl, hx⟩ := hq
    show sd_Wp sd_SC 2 sY10_book 25 [some (.inr 120), some (.inl d), some (.inl w)] [.inl (-1000001)] m _
    refine sd_ireturn sD10_book_25 rfl (fun hr hm => ?_)
    exact sd_done (by unfold sp_book; ((repeat (first | rw [if_pos (by first | assumption | omega)] | rw [if_neg (by first | assumption | omega)])); try rfl); try (congr 2; omega)) hx
  ·
    refine sd_iload_n sD10_book_9 rfl ?_
    refine sd_iconst sD10_book_10 (by decide) ?_
    refine sd_bipush sD10_book_11 rfl (by decide) ?_
    refine sd_callSp (as := [.inl d, .inl 0, .inl 39]) (st := []) (v := .inl (sd_b (0 ≤ d ∧ d ≤ 39))) sD10_book_13 sM10_65 rfl rfl (by decide) (Nat.le_of_ble_eq_true rfl) (cC_isWithin d 0 39 m) (fun ho13 => ?_)
    refine sd_bif_ne (tgt := 26) sD10_book_16 (by decide) (fun zc16 => ?_) (fun zc16 => ?_)
    ·
      refine sd_aload_n sD10_book_26 rfl ?_
      refine sd_getfr sD10_book_27 sF10_10 sGC120_0 ?_
      refine sd_iload_n sD10_book_30 rfl ?_
      refine sd_callVp (as := [.inl d]) (st := []) (v := .inl (sd_b (d < x 0 / 24))) sD10_book_31 sM10_350 sOC53 rfl rfl rfl (by decide) (Nat.le_of_ble_eq_true rfl) (cC_isClosed d _ m hx h1 (by omega)) (fun ho31 => ?_)
      refine sd_bif_eq (tgt := 54) sD10_book_34 (by decide) (fun zc34 => ?_) (fun zc34 => ?_)
      ·
        refine sd_aload_n sD10_book_54 rfl ?_
        refine sd_ldc (z := -1000004) sD10_book_55 sK10_130 (by decide) ?_
        refine sd_callV (as := [.inl (-1000004)]) (st := []) sD10_book_57 sM10_52 rfl rfl sOC120 rfl (by decide) (Nat.le_of_ble_eq_true rfl) (cC_found (-1000004) 3 (by decide) (by decide) _ m hx (hF 3 (by decide))) (fun r m hq ho57 hm => ?_)
        obtain ⟨rfl, hx⟩ := hq
        show sd_Wp sd_SC 2 sY10_book 60 [some (.inr 120), some (.inl d), some (.inl w)] [.inl (-1000004)] m _
        refine sd_ireturn sD10_book_60 rfl (fun hr hm => ?_)
        exact sd_done (by unfold sp_book; ((repeat (first | rw [if_pos (by first | assumption | omega)] | rw [if_neg (by first | assumption | omega)])); try rfl); try (congr 2; omega)) hx
      ·
        refine sd_aload_n sD10_book_37 rfl ?_
        refine sd_getfr sD10_book_38 sF10_10 sGC120_0 ?_
        refine sd_getfr sD10_book_41 sF10_353 sGC53_9 ?_
        refine sd_iload_n sD10_book_44 rfl ?_
        refine sd_bipush sD10_book_45 rfl (by decide) ?_
        refine sd_imul (z := (d * 6)) sD10_book_47 (by omega) (by omega) ?_
        refine sd_iload_n sD10_book_48 rfl ?_
        refine sd_iadd (z := ((d * 6) + w)) sD10_book_49 (by omega) (by omega) ?_
        refine sd_ialdx (a := (1314 + ((d.toNat * 6) + w.toNat))) (v := x (1314 + ((d.toNat * 6) + w.toNat))) hx sD10_book_50 sAC50 (by omega) rfl ?_
        refine sd_goto (tgt := 60) sD10_book_51 (by decide) ?_
        refine sd_ireturn sD10_book_60 rfl (fun hr hm => ?_)
        exact sd_done (by unfold sp_book; ((repeat (first | rw [if_pos (by first | assumption | omega)] | rw [if_neg (by first | assumption | omega)])); try rfl); try (congr 2; omega)) hx
    ·
      refine sd_aload_n sD10_book_19 rfl ?_
      refine sd_ldc (z := -1000001) sD10_book_20 sK10_51 (by decide) ?_
      refine sd_callV (as := [.inl (-1000001)]) (st := []) sD10_book_22 sM10_52 rfl rfl sOC120 rfl (by decide) (Nat.le_of_ble_eq_true rfl) (cC_found (-1000001) 0 (by decide) (by decide) _ m hx (hF 0 (by decide))) (fun r m hq ho22 hm => ?_)
      obtain ⟨rfl, hx⟩ := hq
      show sd_Wp sd_SC 2 sY10_book 25 [some (.inr 120), some (.inl d), some (.inl w)] [.inl (-1000001)] m _
      refine sd_ireturn sD10_book_25 rfl (fun hr hm => ?_)
      exact sd_done (by unfold sp_book; ((repeat (first | rw [if_pos (by first | assumption | omega)] | rw [if_neg (by first | assumption | omega)])); try rfl); try (congr 2; omega)) hx
