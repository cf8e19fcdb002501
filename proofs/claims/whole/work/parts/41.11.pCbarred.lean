set_option maxRecDepth 100000 in
set_option maxHeartbeats 4000000 in
theorem pC_barred (w : Int) (h : Int) (x m : sd_M) (hx : sd_ns x m) (h1 : sd_I1 x) (h2 : sd_I2 x) (h4 : sd_I4 x) (h6 : sd_I6 x) (hR : sd_IR x) (hF : ∀ k : Nat, k < 7 → 0 ≤ x (4101 + k) ∧ x (4101 + k) ≤ 1000000) : sd_Ct sd_SC 3 sY10_barred [.inr 120, .inl w, .inl h] m (sd_Qp (sp_barred x w h)) := by
  refine sd_ct rfl (Nat.le_of_ble_eq_true rfl) (fun hok hm => ?_)
  obtain ⟨⟨i0, j0⟩, ⟨i1, j1⟩, ⟨i2, j2⟩, ⟨i3, j3⟩, ⟨i4, j4⟩, ⟨i5, j5⟩, ⟨i6, j6⟩, ⟨i7, j7⟩, ⟨i8, j8⟩⟩ := id h1
  have r_w : sd_R w := hok (.inl w) (by simp)
  have r_h : sd_R h := hok (.inl h) (by simp)
  show sd_Wp sd_SC 3 sY10_barred 0 [some (.inr 120), some (.inl w), some (.inl h), none] [] m _
  refine sd_iload_n sD10_barred_0 rfl ?_
  refine sd_iconst sD10_barred_1 (by decide) ?_
  refine sd_iconst sD10_barred_2 (by decide) ?_
  refine sd_callSp (as := [.inl w, .inl 0, .inl 3]) (st := []) (v := .inl (sd_b (0 ≤ w ∧ w ≤ 3))) sD10_barred_3 sM10_65 rfl rfl (by decide) (Nat.le_of_ble_eq_true rfl) (cC_isWithin w 0 3 m) (fun ho3 => ?_)
  refine sd_bif_ne (tgt := 16) sD10_barred_6 (by decide) (fun zc6 => ?_) (fun zc6 => ?_)
  ·
    refine sd_aload_n sD10_barred_16 rfl ?_
    refine sd_getfr sD10_barred_17 sF10_10 sGC120_0 ?_
    refine sd_getfr sD10_barred_20 sF10_41 sGC53_2 ?_
    refine sd_iload_n sD10_barred_23 rfl ?_
    refine sd_iconst sD10_barred_24 (by decide) ?_
    refine sd_callVp (as := [.inl h, .inl 1]) (st := []) (v := .inl (sd_fo x h 1)) sD10_barred_25 sM10_69 sOC13 rfl rfl rfl (by decide) (Nat.le_of_ble_eq_true rfl) (cC_findingOf h 1 _ m hx h1 h2) (fun ho25 => ?_)
    rcases (show sd_fo x h 1 = 0 ∨ sd_fo x h 1 = -1000003 ∨ sd_fo x h 1 = -1000001 from sd_fo_or x h 1) with zf28 | zf28 | zf28
    ·
      refine sd_eqs (ls' := [some (.inr 120), some (.inl w), some (.inl h), none]) (st' := [.inl 0]) ?_ rfl (by rw [zf28])
      have zA25 := sd_foA zf28
      refine sd_istore_n (ls' := [some (.inr 120), some (.inl w), some (.inl h), some (.inl 0)]) sD10_barred_28 (by decide) rfl ?_
      refine sd_iload_n sD10_barred_29 rfl ?_
      refine sd_if_ne (tgt := 58) sD10_barred_30 (by decide) (fun zc30 => (by exfalso; omega)) (fun zc30 => ?_)
      refine sd_aload_n sD10_barred_33 rfl ?_
      refine sd_getfr sD10_barred_34 sF10_10 sGC120_0 ?_
      refine sd_getfr sD10_barred_37 sF10_145 sGC53_5 ?_
      refine sd_aload_n sD10_barred_40 rfl ?_
      refine sd_getfr sD10_barred_41 sF10_10 sGC120_0 ?_
      refine sd_iload_n sD10_barred_44 rfl ?_
      refine sd_iload_n sD10_barred_45 rfl ?_
      refine sd_callV (as := [.inl w, .inl h]) (st := [.inr 36]) sD10_barred_46 sM10_149 rfl rfl sOC53 rfl (by decide) (Nat.le_of_ble_eq_true rfl) (cC_clauseAt w h _ m hx (by omega) h1 h2 h4 h6 hR) (fun r m hq ho46 hm => ?_)
      obtain ⟨rfl, hx⟩ := hq
      have zk46 := sd_clx_rng h1 hR w h
      show sd_Wp sd_SC 3 sY10_barred 49 [some (.inr 120), some (.inl w), some (.inl h), some (.inl 0)] [.inl (sd_clx x w h), .inr 36] m _
      refine sd_callVp (as := [.inl (sd_clx x w h)]) (st := []) (v := .inl (sd_b (sd_brs x (sd_clx x w h)))) sD10_barred_49 sM10_152 sOC36 rfl rfl rfl (by decide) (Nat.le_of_ble_eq_true rfl) (cC_bars (sd_clx x w h) _ m hx  (by omega)) (fun ho49 => ?_)
      refine sd_callSp (as := [.inl (sd_b (sd_brs x (sd_clx x w h)))]) (st := []) (v := .inl (sd_b (sd_brs x (sd_clx x w h)))) sD10_barred_52 sM10_79 rfl rfl (by decide) (Nat.le_of_ble_eq_true rfl) (cC_asNumber (sd_brs x (sd_clx x w h)) m) (fun ho52 => ?_)
      refine sd_goto (tgt := 63) sD10_barred_55 (by decide) ?_
      refine sd_ireturn sD10_barred_63 rfl (fun hr hm => ?_)
      exact sd_done (by unfold sp_barred; ((repeat (first | rw [if_pos (by first | assumption | omega)] | rw [if_neg (by first | assumption | omega)] | rw [if_pos (by first | exact Or.inl (by assumption) | exact Or.inr (by assumption))] | rw [if_neg (fun q => by rcases q with q | q; omega; contradiction)])); try rfl)) hx
    ·
      refine sd_eqs (ls' := [some (.inr 120), some (.inl w), some (.inl h), none]) (st' := [.inl (-1000003)]) ?_ rfl (by rw [zf28])
      have zA25 := sd_foK zf28
      refine sd_istore_n (ls' := [some (.inr 120), some (.inl w), some (.inl h), some (.inl (-1000003))]) sD10_barred_28 (by decide) rfl ?_
      refine sd_iload_n sD10_barred_29 rfl ?_
      refine sd_if_ne (tgt := 58) sD10_barred_30 (by decide) (fun zc30 => ?_) (fun zc30 => (by exfalso; omega))
      refine sd_aload_n sD10_barred_58 rfl ?_
      refine sd_iload_n sD10_barred_59 rfl ?_
      refine sd_callV (as := [.inl (-1000003)]) (st := []) sD10_barred_60 sM10_52 rfl rfl sOC120 rfl (by decide) (Nat.le_of_ble_eq_true rfl) (cC_found (-1000003) 2 (by decide) (by decide) _ m hx (hF 2 (by decide))) (fun r m hq ho60 hm => ?_)
      obtain ⟨rfl, hx⟩ := hq
      show sd_Wp sd_SC 3 sY10_barred 63 [some (.inr 120), some (.inl w), some (.inl h), some (.inl (-1000003))] [.inl (-1000003)] m _
      refine sd_ireturn sD10_barred_63 rfl (fun hr hm => ?_)
      exact sd_done (by unfold sp_barred; ((repeat (first | rw [if_pos (by first | assumption | omega)] | rw [if_neg (by first | assumption | omega)] | rw [if_pos (by first | exact Or.inl (by assumption) | exact Or.inr (by assumption))] | rw [if_neg (fun q => by rcases q with q | q; omega; contradiction)])); try rfl)) hx
    ·
      refine sd_eqs (ls' := [some (.inr 120), some (.inl w), some (.inl h), none]) (st' := [.inl (-1000001)]) ?_ rfl (by rw [zf28])
      have zA25 := sd_foB zf28
      refine sd_istore_n (ls' := [some (.inr 120), some (.inl w), some (.inl h), some (.inl (-1000001))]) sD10_barred_28 (by decide) rfl ?_
      refine sd_iload_n sD10_barred_29 rfl ?_
      refine sd_if_ne (tgt := 58) sD10_barred_30 (by decide) (fun zc30 => ?_) (fun zc30 => (by exfalso; omega))
      refine sd_aload_n sD10_barred_58 rfl ?_
      refine sd_iload_n sD10_barred_59 rfl ?_
      refine sd_callV (as := [.inl (-1000001)]) (st := []) sD10_barred_60 sM10_52 rfl rfl sOC120 rfl (by decide) (Nat.le_of_ble_eq_true rfl) (cC_found (-1000001) 0 (by decide) (by decide) _ m hx (hF 0 (by decide))) (fun r m hq ho60 hm => ?_)
      obtain ⟨rfl, hx⟩ := hq
      show sd_Wp sd_SC 3 sY10_barred 63 [some (.inr 120), some (.inl w), some (.inl h), some (.inl (-1000001))] [.inl (-1000001)] m _
      refine sd_ireturn sD10_barred_63 rfl (fun hr hm => ?_)
      exact sd_done (by unfold sp_barred; ((repeat (first | rw [if_pos (by first | assumption | omega)] | rw [if_neg (by first | assumption | omega)] | rw [if_pos (by first | exact Or.inl (by assumption) | exact Or.inr (by assumption))] | rw [if_neg (fun q => by rcases q with q | q; omega; contradiction)])); try rfl)) hx
  ·
    refine sd_aload_n sD10_barred_9 rfl ?_
    refine sd_ldc (z := -1000001) sD10_barred_10 sK10_51 (by decide) ?_
    refine sd_callV (as := [.inl (-1000001)]) (st := []) sD10_barred_12 sM10_52 rfl rfl sOC120 rfl (by decide) (Nat.le_of_ble_eq_true rfl) (cC_found (-1000001) 0 (by decide) (by decide) _ m hx (hF 0 (by decide))) (fun r m hq ho12 hm => ?_)
    obtain ⟨rfl, hx⟩ := hq
    show sd_Wp sd_SC 3 sY10_barred 15 [some (.inr 120), some (.inl w), some (.inl h), none] [.inl (-1000001)] m _
    refine sd_ireturn sD10_barred_15 rfl (fun hr hm => ?_)
    exact sd_done (by unfold sp_barred; ((repeat (first | rw [if_pos (by first | assumption | omega)] | rw [if_neg (by first | assumption | omega)] | rw [if_pos (by first | exact Or.inl (by assumption) | exact Or.inr (by assumption))] | rw [if_neg (fun q => by rcases q with q | q; omega; contradiction)])); try rfl)) hx
