set_option maxRecDepth 100000 in
set_option maxHeartbeats 4000000 in
theorem pC_why (w : Int) (h : Int) (x m : sd_M) (hx : sd_ns x m) (h1 : sd_I1 x) (h2 : sd_I2 x) (h4 : sd_I4 x) (h6 : sd_I6 x) (hR : sd_IR x) (hF : ∀ k : Nat, k < 7 → 0 ≤ x (4101 + k) ∧ x (4101 + k) ≤ 1000000) : sd_Ct sd_SC 3 sY10_why [.inr 120, .inl w, .inl h] m (sd_Qp (sp_why x w h)) := by
  refine sd_ct rfl (Nat.le_of_ble_eq_true rfl) (fun hok hm => ?_)
  obtain ⟨⟨i0, j0⟩, ⟨i1, j1⟩, ⟨i2, j2⟩, ⟨i3, j3⟩, ⟨i4, j4⟩, ⟨i5, j5⟩, ⟨i6, j6⟩, ⟨i7, j7⟩, ⟨i8, j8⟩⟩ := id h1
  have r_w : sd_R w := hok (.inl w) (by simp)
  have r_h : sd_R h := hok (.inl h) (by simp)
  show sd_Wp sd_SC 3 sY10_why 0 [some (.inr 120), some (.inl w), some (.inl h), none, none] [] m _
  refine sd_iload_n sD10_why_0 rfl ?_
  refine sd_iconst sD10_why_1 (by decide) ?_
  refine sd_iconst sD10_why_2 (by decide) ?_
  refine sd_callSp (as := [.inl w, .inl 0, .inl 3]) (st := []) (v := .inl (sd_b (0 ≤ w ∧ w ≤ 3))) sD10_why_3 sM10_65 rfl rfl (by decide) (Nat.le_of_ble_eq_true rfl) (cC_isWithin w 0 3 m) (fun ho3 => ?_)
  refine sd_bif_ne (tgt := 16) sD10_why_6 (by decide) (fun zc6 => ?_) (fun zc6 => ?_)
  ·
    refine sd_aload_n sD10_why_16 rfl ?_
    refine sd_getfr sD10_why_17 sF10_10 sGC120_0 ?_
    refine sd_getfr sD10_why_20 sF10_41 sGC53_2 ?_
    refine sd_iload_n sD10_why_23 rfl ?_
    refine sd_iconst sD10_why_24 (by decide) ?_
    refine sd_callVp (as := [.inl h, .inl 1]) (st := []) (v := .inl (sd_fo x h 1)) sD10_why_25 sM10_69 sOC13 rfl rfl rfl (by decide) (Nat.le_of_ble_eq_true rfl) (cC_findingOf h 1 _ m hx h1 h2) (fun ho25 => ?_)
    rcases (show sd_fo x h 1 = 0 ∨ sd_fo x h 1 = -1000003 ∨ sd_fo x h 1 = -1000001 from sd_fo_or x h 1) with zf28 | zf28 | zf28
    ·
      refine sd_eqs (ls' := [some (.inr 120), some (.inl w), some (.inl h), none, none]) (st' := [.inl 0]) ?_ rfl (by rw [zf28])
      have zA25 := sd_foA zf28
      refine sd_istore_n (ls' := [some (.inr 120), some (.inl w), some (.inl h), some (.inl 0), none]) sD10_why_28 (by decide) rfl ?_
      refine sd_iload_n sD10_why_29 rfl ?_
      refine sd_if_eq (tgt := 39) sD10_why_30 (by decide) (fun zc30 => ?_) (fun zc30 => (by exfalso; omega))
      refine sd_aload_n sD10_why_39 rfl ?_
      refine sd_getfr sD10_why_40 sF10_10 sGC120_0 ?_
      refine sd_iload_n sD10_why_43 rfl ?_
      refine sd_iload_n sD10_why_44 rfl ?_
      refine sd_callV (as := [.inl w, .inl h]) (st := []) sD10_why_45 sM10_149 rfl rfl sOC53 rfl (by decide) (Nat.le_of_ble_eq_true rfl) (cC_clauseAt w h _ m hx (by omega) h1 h2 h4 h6 hR) (fun r m hq ho45 hm => ?_)
      obtain ⟨rfl, hx⟩ := hq
      have zk45 := sd_clx_rng h1 hR w h
      show sd_Wp sd_SC 3 sY10_why 48 [some (.inr 120), some (.inl w), some (.inl h), some (.inl 0), none] [.inl (sd_clx x w h)] m _
      refine sd_istore (ls' := [some (.inr 120), some (.inl w), some (.inl h), some (.inl 0), some (.inl (sd_clx x w h))]) sD10_why_48 (by decide) rfl ?_
      refine sd_iload sD10_why_50 rfl ?_
      refine sd_iconst sD10_why_52 (by decide) ?_
      refine sd_icmp_ne (tgt := 65) sD10_why_53 (by decide) (fun zc53 => ?_) (fun zc53 => ?_)
      ·
        refine sd_bipush sD10_why_65 rfl (by decide) ?_
        refine sd_iload sD10_why_67 rfl ?_
        refine sd_iconst sD10_why_69 (by decide) ?_
        refine sd_idiv (z := (sd_clx x w h / 5)) sD10_why_70 (by decide) (by exact Int.tdiv_eq_ediv_of_nonneg (by omega)) (by omega) ?_
        refine sd_imul (z := (10 * (sd_clx x w h / 5))) sD10_why_71 (by omega) (by omega) ?_
        refine sd_iload sD10_why_72 rfl ?_
        refine sd_iconst sD10_why_74 (by decide) ?_
        refine sd_irem (z := (sd_clx x w h % 5)) sD10_why_75 (by decide) (by exact Int.tmod_eq_emod_of_nonneg (by omega)) (by omega) ?_
        refine sd_iadd (z := ((10 * (sd_clx x w h / 5)) + (sd_clx x w h % 5))) sD10_why_76 (by omega) (by omega) ?_
        refine sd_ireturn sD10_why_77 rfl (fun hr hm => ?_)
        exact sd_done (by unfold sp_why; ((repeat (first | rw [if_pos (by first | assumption | omega)] | rw [if_neg (by first | assumption | omega)] | rw [if_pos (by first | exact Or.inl (by assumption) | exact Or.inr (by assumption))] | rw [if_neg (fun q => by rcases q with q | q; omega; contradiction)])); try rfl)) hx
      ·
        refine sd_aload_n sD10_why_56 rfl ?_
        refine sd_ldc (z := -1000004) sD10_why_57 sK10_130 (by decide) ?_
        refine sd_callV (as := [.inl (-1000004)]) (st := []) sD10_why_59 sM10_52 rfl rfl sOC120 rfl (by decide) (Nat.le_of_ble_eq_true rfl) (cC_found (-1000004) 3 (by decide) (by decide) _ m hx (hF 3 (by decide))) (fun r m hq ho59 hm => ?_)
        obtain ⟨rfl, hx⟩ := hq
        show sd_Wp sd_SC 3 sY10_why 62 [some (.inr 120), some (.inl w), some (.inl h), some (.inl 0), some (.inl (sd_clx x w h))] [.inl (-1000004)] m _
        refine sd_goto (tgt := 77) sD10_why_62 (by decide) ?_
        refine sd_ireturn sD10_why_77 rfl (fun hr hm => ?_)
        exact sd_done (by unfold sp_why; ((repeat (first | rw [if_pos (by first | assumption | omega)] | rw [if_neg (by first | assumption | omega)] | rw [if_pos (by first | exact Or.inl (by assumption) | exact Or.inr (by assumption))] | rw [if_neg (fun q => by rcases q with q | q; omega; contradiction)])); try rfl)) hx
    ·
      refine sd_eqs (ls' := [some (.inr 120), some (.inl w), some (.inl h), none, none]) (st' := [.inl (-1000003)]) ?_ rfl (by rw [zf28])
      have zA25 := sd_foK zf28
      refine sd_istore_n (ls' := [some (.inr 120), some (.inl w), some (.inl h), some (.inl (-1000003)), none]) sD10_why_28 (by decide) rfl ?_
      refine sd_iload_n sD10_why_29 rfl ?_
      refine sd_if_eq (tgt := 39) sD10_why_30 (by decide) (fun zc30 => (by exfalso; omega)) (fun zc30 => ?_)
      refine sd_aload_n sD10_why_33 rfl ?_
      refine sd_iload_n sD10_why_34 rfl ?_
      refine sd_callV (as := [.inl (-1000003)]) (st := []) sD10_why_35 sM10_52 rfl rfl sOC120 rfl (by decide) (Nat.le_of_ble_eq_true rfl) (cC_found (-1000003) 2 (by decide) (by decide) _ m hx (hF 2 (by decide))) (fun r m hq ho35 hm => ?_)
      obtain ⟨rfl, hx⟩ := hq
      show sd_Wp sd_SC 3 sY10_why 38 [some (.inr 120), some (.inl w), some (.inl h), some (.inl (-1000003)), none] [.inl (-1000003)] m _
      refine sd_ireturn sD10_why_38 rfl (fun hr hm => ?_)
      exact sd_done (by unfold sp_why; ((repeat (first | rw [if_pos (by first | assumption | omega)] | rw [if_neg (by first | assumption | omega)] | rw [if_pos (by first | exact Or.inl (by assumption) | exact Or.inr (by assumption))] | rw [if_neg (fun q => by rcases q with q | q; omega; contradiction)])); try rfl)) hx
    ·
      refine sd_eqs (ls' := [some (.inr 120), some (.inl w), some (.inl h), none, none]) (st' := [.inl (-1000001)]) ?_ rfl (by rw [zf28])
      have zA25 := sd_foB zf28
      refine sd_istore_n (ls' := [some (.inr 120), some (.inl w), some (.inl h), some (.inl (-1000001)), none]) sD10_why_28 (by decide) rfl ?_
      refine sd_iload_n sD10_why_29 rfl ?_
      refine sd_if_eq (tgt := 39) sD10_why_30 (by decide) (fun zc30 => (by exfalso; omega)) (fun zc30 => ?_)
      refine sd_aload_n sD10_why_33 rfl ?_
      refine sd_iload_n sD10_why_34 rfl ?_
      refine sd_callV (as := [.inl (-1000001)]) (st := []) sD10_why_35 sM10_52 rfl rfl sOC120 rfl (by decide) (Nat.le_of_ble_eq_true rfl) (cC_found (-1000001) 0 (by decide) (by decide) _ m hx (hF 0 (by decide))) (fun r m hq ho35 hm => ?_)
      obtain ⟨rfl, hx⟩ := hq
      show sd_Wp sd_SC 3 sY10_why 38 [some (.inr 120), some (.inl w), some (.inl h), some (.inl (-1000001)), none] [.inl (-1000001)] m _
      refine sd_ireturn sD10_why_38 rfl (fun hr hm => ?_)
      exact sd_done (by unfold sp_why; ((repeat (first | rw [if_pos (by first | assumption | omega)] | rw [if_neg (by first | assumption | omega)] | rw [if_pos (by first | exact Or.inl (by assumption) | exact Or.inr (by assumption))] | rw [if_neg (fun q => by rcases q with q | q; omega; contradiction)])); try rfl)) hx
  ·
    refine sd_aload_n sD10_why_9 rfl ?_
    refine sd_ldc (z := -1000001) sD10_why_10 sK10_51 (by decide) ?_
    refine sd_callV (as := [.inl (-1000001)]) (st := []) sD10_why_12 sM10_52 rfl rfl sOC120 rfl (by decide) (Nat.le_of_ble_eq_true rfl) (cC_found (-1000001) 0 (by decide) (by decide) _ m hx (hF 0 (by decide))) (fun r m hq ho12 hm => ?_)
    obtain ⟨rfl, hx⟩ := hq
    show sd_Wp sd_SC 3 sY10_why 15 [some (.inr 120), some (.inl w), some (.inl h), none, none] [.inl (-1000001)] m _
    refine sd_ireturn sD10_why_15 rfl (fun hr hm => ?_)
    exact sd_done (by unfold sp_why; ((repeat (first | rw [if_pos (by first | assumption | omega)] | rw [if_neg (by first | assumption | omega)] | rw [if_pos (by first | exact Or.inl (by assumption) | exact Or.inr (by assumption))] | rw [if_neg (fun q => by rcases q with q | q; omega; contradiction)])); try rfl)) hx
