set_option maxRecDepth 100000 in
set_option maxHeartbeats 4000000 in
theorem pC_of (h : Int) (w : Int) (x m : sd_M) (hx : sd_ns x m) (h1 : sd_I1 x) (h2 : sd_I2 x) (h4 : sd_I4 x) (h6 : sd_I6 x) (hR : sd_IR x) (hF : ∀ k : Nat, k < 7 → 0 ≤ x (4101 + k) ∧ x (4101 + k) ≤ 1000000) : sd_Ct sd_SC 4 sY10_of [.inr 120, .inl h, .inl w] m (sd_Qp (sp_of x h w)) := by
  refine sd_ct rfl (Nat.le_of_ble_eq_true rfl) (fun hok hm => ?_)
  obtain ⟨⟨i0, j0⟩, ⟨i1, j1⟩, ⟨i2, j2⟩, ⟨i3, j3⟩, ⟨i4, j4⟩, ⟨i5, j5⟩, ⟨i6, j6⟩, ⟨i7, j7⟩, ⟨i8, j8⟩⟩ := id h1
  have r_h : sd_R h := hok (.inl h) (by simp)
  have r_w : sd_R w := hok (.inl w) (by simp)
  show sd_Wp sd_SC 4 sY10_of 0 [some (.inr 120), some (.inl h), some (.inl w), none] [] m _
  refine sd_iload_n sD10_of_0 rfl ?_
  refine sd_iconst sD10_of_1 (by decide) ?_
  refine sd_gets900 sD10_of_2 sF10_73 ?_
  refine sd_len900 sD10_of_5 ?_
  refine sd_iconst sD10_of_6 (by decide) ?_
  refine sd_isub (z := 12) sD10_of_7 (by omega) (by omega) ?_
  refine sd_callSp (as := [.inl w, .inl 0, .inl 12]) (st := []) (v := .inl (sd_b (0 ≤ w ∧ w ≤ 12))) sD10_of_8 sM10_65 rfl rfl (by decide) (Nat.le_of_ble_eq_true rfl) (cC_isWithin w 0 12 m) (fun ho8 => ?_)
  refine sd_bif_ne (tgt := 21) sD10_of_11 (by decide) (fun zc11 => ?_) (fun zc11 => ?_)
  ·
    rcases (show w = 0 ∨ w = 1 ∨ w = 2 ∨ w = 3 ∨ w = 4 ∨ w = 5 ∨ w = 6 ∨ w = 7 ∨ w = 8 ∨ w = 9 ∨ w = 10 ∨ w = 11 ∨ w = 12 by omega) with zs21 | zs21 | zs21 | zs21 | zs21 | zs21 | zs21 | zs21 | zs21 | zs21 | zs21 | zs21 | zs21
    ·
      subst zs21
      refine sd_aload_n sD10_of_21 rfl ?_
      refine sd_getfr sD10_of_22 sF10_10 sGC120_0 ?_
      refine sd_getfr sD10_of_25 sF10_41 sGC53_2 ?_
      refine sd_iload_n sD10_of_28 rfl ?_
      refine sd_gets900 sD10_of_29 sF10_73 ?_
      refine sd_iload_n sD10_of_32 rfl ?_
      refine sd_ro900 (v := 0) sD10_of_33 (by decide) (by decide) ?_
      refine sd_callVp (as := [.inl h, .inl 0]) (st := []) (v := .inl (sd_fo x h 0)) sD10_of_34 sM10_69 sOC13 rfl rfl rfl (by decide) (Nat.le_of_ble_eq_true rfl) (cC_findingOf h 0 _ m hx h1 h2) (fun ho34 => ?_)
      rcases (show sd_fo x h 0 = 0 ∨ sd_fo x h 0 = -1000003 ∨ sd_fo x h 0 = -1000001 from sd_fo_or x h 0) with zf37 | zf37 | zf37
      ·
        refine sd_eqs (ls' := [some (.inr 120), some (.inl h), some (.inl 0), none]) (st' := [.inl 0]) ?_ rfl (by rw [zf37])
        have zA34 := sd_foA zf37
        refine sd_istore_n (ls' := [some (.inr 120), some (.inl h), some (.inl 0), some (.inl 0)]) sD10_of_37 (by decide) rfl ?_
        refine sd_iload_n sD10_of_38 rfl ?_
        refine sd_if_eq (tgt := 48) sD10_of_39 (by decide) (fun zc39 => ?_) (fun zc39 => (by exfalso; omega))
        refine sd_iload_n sD10_of_48 rfl ?_
        refine sd_bipush sD10_of_49 rfl (by decide) ?_
        refine sd_icmp_ne (tgt := 68) sD10_of_51 (by decide) (fun zc51 => ?_) (fun zc51 => (by exfalso; omega))
        refine sd_aload_n sD10_of_68 rfl ?_
        refine sd_getfr sD10_of_69 sF10_10 sGC120_0 ?_
        refine sd_getfr sD10_of_72 sF10_41 sGC53_2 ?_
        refine sd_iload_n sD10_of_75 rfl ?_
        refine sd_iload_n sD10_of_76 rfl ?_
        refine sd_callVp (as := [.inl h, .inl 0]) (st := []) (v := .inl (sd_num x h.toNat 0)) sD10_of_77 sM10_83 sOC13 rfl rfl rfl (by decide) (Nat.le_of_ble_eq_true rfl) (cC_numberI h 0 _ m hx h1 (by omega)) (fun ho77 => ?_)
        refine sd_ireturn sD10_of_80 rfl (fun hr hm => ?_)
        first | (exfalso; omega) | exact sd_done (by unfold sp_of; (try simp only [Int.reduceToNat, sd_kth]); (try simp only [List.getD_cons_zero, List.getD_cons_succ]); ((repeat (first | rw [if_pos (by first | assumption | omega)] | rw [if_neg (by first | assumption | omega)] | rw [if_pos (by first | exact Or.inl (by assumption) | exact Or.inr (by assumption))] | rw [if_neg (fun q => by rcases q with q | q; omega; contradiction)])); try rfl)) hx
      ·
        refine sd_eqs (ls' := [some (.inr 120), some (.inl h), some (.inl 0), none]) (st' := [.inl (-1000003)]) ?_ rfl (by rw [zf37])
        have zA34 := sd_foK zf37
        refine sd_istore_n (ls' := [some (.inr 120), some (.inl h), some (.inl 0), some (.inl (-1000003))]) sD10_of_37 (by decide) rfl ?_
        refine sd_iload_n sD10_of_38 rfl ?_
        refine sd_if_eq (tgt := 48) sD10_of_39 (by decide) (fun zc39 => (by exfalso; omega)) (fun zc39 => ?_)
        refine sd_aload_n sD10_of_42 rfl ?_
        refine sd_iload_n sD10_of_43 rfl ?_
        refine sd_callV (as := [.inl (-1000003)]) (st := []) sD10_of_44 sM10_52 rfl rfl sOC120 rfl (by decide) (Nat.le_of_ble_eq_true rfl) (cC_found (-1000003) 2 (by decide) (by decide) _ m hx (hF 2 (by decide))) (fun r m hq ho44 hm => ?_)
        obtain ⟨rfl, hx⟩ := hq
        show sd_Wp sd_SC 4 sY10_of 47 [some (.inr 120), some (.inl h), some (.inl 0), some (.inl (-1000003))] [.inl (-1000003)] m _
        refine sd_ireturn sD10_of_47 rfl (fun hr hm => ?_)
        first | (exfalso; omega) | exact sd_done (by unfold sp_of; (try simp only [Int.reduceToNat, sd_kth]); (try simp only [List.getD_cons_zero, List.getD_cons_succ]); ((repeat (first | rw [if_pos (by first | assumption | omega)] | rw [if_neg (by first | assumption | omega)] | rw [if_pos (by first | exact Or.inl (by assumption) | exact Or.inr (by assumption))] | rw [if_neg (fun q => by rcases q with q | q; omega; contradiction)])); try rfl)) hx
      ·
        refine sd_eqs (ls' := [some (.inr 120), some (.inl h), some (.inl 0), none]) (st' := [.inl (-1000001)]) ?_ rfl (by rw [zf37])
        have zA34 := sd_foB zf37
        refine sd_istore_n (ls' := [some (.inr 120), some (.inl h), some (.inl 0), some (.inl (-1000001))]) sD10_of_37 (by decide) rfl ?_
        refine sd_iload_n sD10_of_38 rfl ?_
        refine sd_if_eq (tgt := 48) sD10_of_39 (by decide) (fun zc39 => (by exfalso; omega)) (fun zc39 => ?_)
        refine sd_aload_n sD10_of_42 rfl ?_
        refine sd_iload_n sD10_of_43 rfl ?_
        refine sd_callV (as := [.inl (-1000001)]) (st := []) sD10_of_44 sM10_52 rfl rfl sOC120 rfl (by decide) (Nat.le_of_ble_eq_true rfl) (cC_found (-1000001) 0 (by decide) (by decide) _ m hx (hF 0 (by decide))) (fun r m hq ho44 hm => ?_)
        obtain ⟨rfl, hx⟩ := hq
        show sd_Wp sd_SC 4 sY10_of 47 [some (.inr 120), some (.inl h), some (.inl 0), some (.inl (-1000001))] [.inl (-1000001)] m _
        refine sd_ireturn sD10_of_47 rfl (fun hr hm => ?_)
        first | (exfalso; omega) | exact sd_done (by unfold sp_of; (try simp only [Int.reduceToNat, sd_kth]); (try simp only [List.getD_cons_zero, List.getD_cons_succ]); ((repeat (first | rw [if_pos (by first | assumption | omega)] | rw [if_neg (by first | assumption | omega)] | rw [if_pos (by first | exact Or.inl (by assumption) | exact Or.inr (by assumption))] | rw [if_neg (fun q => by rcases q with q | q; omega; contradiction)])); try rfl)) hx
    ·
      subst zs21
      refine sd_aload_n sD10_of_21 rfl ?_
      refine sd_getfr sD10_of_22 sF10_10 sGC120_0 ?_
      refine sd_getfr sD10_of_25 sF10_41 sGC53_2 ?_
      refine sd_iload_n sD10_of_28 rfl ?_
      refine sd_gets900 sD10_of_29 sF10_73 ?_
      refine sd_iload_n sD10_of_32 rfl ?_
      refine sd_ro900 (v := 0) sD10_of_33 (by decide) (by decide) ?_
      refine sd_callVp (as := [.inl h, .inl 0]) (st := []) (v := .inl (sd_fo x h 0)) sD10_of_34 sM10_69 sOC13 rfl rfl rfl (by decide) (Nat.le_of_ble_eq_true rfl) (cC_findingOf h 0 _ m hx h1 h2) (fun ho34 => ?_)
      rcases (show sd_fo x h 0 = 0 ∨ sd_fo x h 0 = -1000003 ∨ sd_fo x h 0 = -1000001 from sd_fo_or x h 0) with zf37 | zf37 | zf37
      ·
        refine sd_eqs (ls' := [some (.inr 120), some (.inl h), some (.inl 1), none]) (st' := [.inl 0]) ?_ rfl (by rw [zf37])
        have zA34 := sd_foA zf37
        refine sd_istore_n (ls' := [some (.inr 120), some (.inl h), some (.inl 1), some (.inl 0)]) sD10_of_37 (by decide) rfl ?_
        refine sd_iload_n sD10_of_38 rfl ?_
        refine sd_if_eq (tgt := 48) sD10_of_39 (by decide) (fun zc39 => ?_) (fun zc39 => (by exfalso; omega))
        refine sd_iload_n sD10_of_48 rfl ?_
        refine sd_bipush sD10_of_49 rfl (by decide) ?_
        refine sd_icmp_ne (tgt := 68) sD10_of_51 (by decide) (fun zc51 => ?_) (fun zc51 => (by exfalso; omega))
        refine sd_aload_n sD10_of_68 rfl ?_
        refine sd_getfr sD10_of_69 sF10_10 sGC120_0 ?_
        refine sd_getfr sD10_of_72 sF10_41 sGC53_2 ?_
        refine sd_iload_n sD10_of_75 rfl ?_
        refine sd_iload_n sD10_of_76 rfl ?_
        refine sd_callVp (as := [.inl h, .inl 1]) (st := []) (v := .inl (sd_num x h.toNat 1)) sD10_of_77 sM10_83 sOC13 rfl rfl rfl (by decide) (Nat.le_of_ble_eq_true rfl) (cC_numberI h 1 _ m hx h1 (by omega)) (fun ho77 => ?_)
        refine sd_ireturn sD10_of_80 rfl (fun hr hm => ?_)
        first | (exfalso; omega) | exact sd_done (by unfold sp_of; (try simp only [Int.reduceToNat, sd_kth]); (try simp only [List.getD_cons_zero, List.getD_cons_succ]); ((repeat (first | rw [if_pos (by first | assumption | omega)] | rw [if_neg (by first | assumption | omega)] | rw [if_pos (by first | exact Or.inl (by assumption) | exact Or.inr (by assumption))] | rw [if_neg (fun q => by rcases q with q | q; omega; contradiction)])); try rfl)) hx
      ·
        refine sd_eqs (ls' := [some (.inr 120), some (.inl h), some (.inl 1), none]) (st' := [.inl (-1000003)]) ?_ rfl (by rw [zf37])
        have zA34 := sd_foK zf37
        refine sd_istore_n (ls' := [some (.inr 120), some (.inl h), some (.inl 1), some (.inl (-1000003))]) sD10_of_37 (by decide) rfl ?_
        refine sd_iload_n sD10_of_38 rfl ?_
        refine sd_if_eq (tgt := 48) sD10_of_39 (by decide) (fun zc39 => (by exfalso; omega)) (fun zc39 => ?_)
        refine sd_aload_n sD10_of_42 rfl ?_
        refine sd_iload_n sD10_of_43 rfl ?_
        refine sd_callV (as := [.inl (-1000003)]) (st := []) sD10_of_44 sM10_52 rfl rfl sOC120 rfl (by decide) (Nat.le_of_ble_eq_true rfl) (cC_found (-1000003) 2 (by decide) (by decide) _ m hx (hF 2 (by decide))) (fun r m hq ho44 hm => ?_)
        obtain ⟨rfl, hx⟩ := hq
        show sd_Wp sd_SC 4 sY10_of 47 [some (.inr 120), some (.inl h), some (.inl 1), some (.inl (-1000003))] [.inl (-1000003)] m _
        refine sd_ireturn sD10_of_47 rfl (fun hr hm => ?_)
        first | (exfalso; omega) | exact sd_done (by unfold sp_of; (try simp only [Int.reduceToNat, sd_kth]); (try simp only [List.getD_cons_zero, List.getD_cons_succ]); ((repeat (first | rw [if_pos (by first | assumption | omega)] | rw [if_neg (by first | assumption | omega)] | rw [if_pos (by first | exact Or.inl (by assumption) | exact Or.inr (by assumption))] | rw [if_neg (fun q => by rcases q with q | q; omega; contradiction)])); try rfl)) hx
      ·
        refine sd_eqs (ls' := [some (.inr 120), some (.inl h), some (.inl 1), none]) (st' := [.inl (-1000001)]) ?_ rfl (by rw [zf37])
        have zA34 := sd_foB zf37
        refine sd_istore_n (ls' := [some (.inr 120), some (.inl h), some (.inl 1), some (.inl (-1000001))]) sD10_of_37 (by decide) rfl ?_
        refine sd_iload_n sD10_of_38 rfl ?_
        refine sd_if_eq (tgt := 48) sD10_of_39 (by decide) (fun zc39 => (by exfalso; omega)) (fun zc39 => ?_)
        refine sd_aload_n sD10_of_42 rfl ?_
        refine sd_iload_n sD10_of_43 rfl ?_
        refine sd_callV (as := [.inl (-1000001)]) (st := []) sD10_of_44 sM10_52 rfl rfl sOC120 rfl (by decide) (Nat.le_of_ble_eq_true rfl) (cC_found (-1000001) 0 (by decide) (by decide) _ m hx (hF 0 (by decide))) (fun r m hq ho44 hm => ?_)
        obtain ⟨rfl, hx⟩ := hq
        show sd_Wp sd_SC 4 sY10_of 47 [some (.inr 120), some (.inl h), some (.inl 1), some (.inl (-1000001))] [.inl (-1000001)] m _
        refine sd_ireturn sD10_of_47 rfl (fun hr hm => ?_)
        first | (exfalso; omega) | exact sd_done (by unfold sp_of; (try simp only [Int.reduceToNat, sd_kth]); (try simp only [List.getD_cons_zero, List.getD_cons_succ]); ((repeat (first | rw [if_pos (by first | assumption | omega)] | rw [if_neg (by first | assumption | omega)] | rw [if_pos (by first | exact Or.inl (by assumption) | exact Or.inr (by assumption))] | rw [if_neg (fun q => by rcases q with q | q; omega; contradiction)])); try rfl)) hx
    ·
      subst zs21
      refine sd_aload_n sD10_of_21 rfl ?_
      refine sd_getfr sD10_of_22 sF10_10 sGC120_0 ?_
      refine sd_getfr sD10_of_25 sF10_41 sGC53_2 ?_
      refine sd_iload_n sD10_of_28 rfl ?_
      refine sd_gets900 sD10_of_29 sF10_73 ?_
      refine sd_iload_n sD10_of_32 rfl ?_
      refine sd_ro900 (v := 0) sD10_of_33 (by decide) (by decide) ?_
      refine sd_callVp (as := [.inl h, .inl 0]) (st := []) (v := .inl (sd_fo x h 0)) sD10_of_34 sM10_69 sOC13 rfl rfl rfl (by decide) (Nat.le_of_ble_eq_true rfl) (cC_findingOf h 0 _ m hx h1 h2) (fun ho34 => ?_)
      rcases (show sd_fo x h 0 = 0 ∨ sd_fo x h 0 = -1000003 ∨ sd_fo x h 0 = -1000001 from sd_fo_or x h 0) with zf37 | zf37 | zf37
      ·
        refine sd_eqs (ls' := [some (.inr 120), some (.inl h), some (.inl 2), none]) (st' := [.inl 0]) ?_ rfl (by rw [zf37])
        have zA34 := sd_foA zf37
        refine sd_istore_n (ls' := [some (.inr 120), some (.inl h), some (.inl 2), some (.inl 0)]) sD10_of_37 (by decide) rfl ?_
        refine sd_iload_n sD10_of_38 rfl ?_
        refine sd_if_eq (tgt := 48) sD10_of_39 (by decide) (fun zc39 => ?_) (fun zc39 => (by exfalso; omega))
        refine sd_iload_n sD10_of_48 rfl ?_
        refine sd_bipush sD10_of_49 rfl (by decide) ?_
        refine sd_icmp_ne (tgt := 68) sD10_of_51 (by decide) (fun zc51 => ?_) (fun zc51 => (by exfalso; omega))
        refine sd_aload_n sD10_of_68 rfl ?_
        refine sd_getfr sD10_of_69 sF10_10 sGC120_0 ?_
        refine sd_getfr sD10_of_72 sF10_41 sGC53_2 ?_
        refine sd_iload_n sD10_of_75 rfl ?_
        refine sd_iload_n sD10_of_76 rfl ?_
        refine sd_callVp (as := [.inl h, .inl 2]) (st := []) (v := .inl (sd_num x h.toNat 2)) sD10_of_77 sM10_83 sOC13 rfl rfl rfl (by decide) (Nat.le_of_ble_eq_true rfl) (cC_numberI h 2 _ m hx h1 (by omega)) (fun ho77 => ?_)
        refine sd_ireturn sD10_of_80 rfl (fun hr hm => ?_)
        first | (exfalso; omega) | exact sd_done (by unfold sp_of; (try simp only [Int.reduceToNat, sd_kth]); (try simp only [List.getD_cons_zero, List.getD_cons_succ]); ((repeat (first | rw [if_pos (by first | assumption | omega)] | rw [if_neg (by first | assumption | omega)] | rw [if_pos (by first | exact Or.inl (by assumption) | exact Or.inr (by assumption))] | rw [if_neg (fun q => by rcases q with q | q; omega; contradiction)])); try rfl)) hx
      ·
        refine sd_eqs (ls' := [some (.inr 120), some (.inl h), some (.inl 2), none]) (st' := [.inl (-1000003)]) ?_ rfl (by rw [zf37])
        have zA34 := sd_foK zf37
        refine sd_istore_n (ls' := [some (.inr 120), some (.inl h), some (.inl 2), some (.inl (-1000003))]) sD10_of_37 (by decide) rfl ?_
        refine sd_iload_n sD10_of_38 rfl ?_
        refine sd_if_eq (tgt := 48) sD10_of_39 (by decide) (fun zc39 => (by exfalso; omega)) (fun zc39 => ?_)
        refine sd_aload_n sD10_of_42 rfl ?_
        refine sd_iload_n sD10_of_43 rfl ?_
        refine sd_callV (as := [.inl (-1000003)]) (st := []) sD10_of_44 sM10_52 rfl rfl sOC120 rfl (by decide) (Nat.le_of_ble_eq_true rfl) (cC_found (-1000003) 2 (by decide) (by decide) _ m hx (hF 2 (by decide))) (fun r m hq ho44 hm => ?_)
        obtain ⟨rfl, hx⟩ := hq
        show sd_Wp sd_SC 4 sY10_of 47 [some (.inr 120), some (.inl h), some (.inl 2), some (.inl (-1000003))] [.inl (-1000003)] m _
        refine sd_ireturn sD10_of_47 rfl (fun hr hm => ?_)
        first | (exfalso; omega) | exact sd_done (by unfold sp_of; (try simp only [Int.reduceToNat, sd_kth]); (try simp only [List.getD_cons_zero, List.getD_cons_succ]); ((repeat (first | rw [if_pos (by first | assumption | omega)] | rw [if_neg (by first | assumption | omega)] | rw [if_pos (by first | exact Or.inl (by assumption) | exact Or.inr (by assumption))] | rw [if_neg (fun q => by rcases q with q | q; omega; contradiction)])); try rfl)) hx
      ·
        refine sd_eqs (ls' := [some (.inr 120), some (.inl h), some (.inl 2), none]) (st' := [.inl (-1000001)]) ?_ rfl (by rw [zf37])
        have zA34 := sd_foB zf37
        refine sd_istore_n (ls' := [some (.inr 120), some (.inl h), some (.inl 2), some (.inl (-1000001))]) sD10_of_37 (by decide) rfl ?_
        refine sd_iload_n sD10_of_38 rfl ?_
        refine sd_if_eq (tgt := 48) sD10_of_39 (by decide) (fun zc39 => (by exfalso; omega)) (fun zc39 => ?_)
        refine sd_aload_n sD10_of_42 rfl ?_
        refine sd_iload_n sD10_of_43 rfl ?_
        refine sd_callV (as := [.inl (-1000001)]) (st := []) sD10_of_44 sM10_52 rfl rfl sOC120 rfl (by decide) (Nat.le_of_ble_eq_true rfl) (cC_found (-1000001) 0 (by decide) (by decide) _ m hx (hF 0 (by decide))) (fun r m hq ho44 hm => ?_)
        obtain ⟨rfl, hx⟩ := hq
        show sd_Wp sd_SC 4 sY10_of 47 [some (.inr 120), some (.inl h), some (.inl 2), some (.inl (-1000001))] [.inl (-1000001)] m _
        refine sd_ireturn sD10_of_47 rfl (fun hr hm => ?_)
        first | (exfalso; omega) | exact sd_done (by unfold sp_of; (try simp only [Int.reduceToNat, sd_kth]); (try simp only [List.getD_cons_zero, List.getD_cons_succ]); ((repeat (first | rw [if_pos (by first | assumption | omega)] | rw [if_neg (by first | assumption | omega)] | rw [if_pos (by first | exact Or.inl (by assumption) | exact Or.inr (by assumption))] | rw [if_neg (fun q => by rcases q with q | q; omega; contradiction)])); try rfl)) hx
    ·
      subst zs21
      refine sd_aload_n sD10_of_21 rfl ?_
      refine sd_getfr sD10_of_22 sF10_10 sGC120_0 ?_
      refine sd_getfr sD10_of_25 sF10_41 sGC53_2 ?_
      refine sd_iload_n sD10_of_28 rfl ?_
      refine sd_gets900 sD10_of_29 sF10_73 ?_
      refine sd_iload_n sD10_of_32 rfl ?_
      refine sd_ro900 (v := 1) sD10_of_33 (by decide) (by decide) ?_
      refine sd_callVp (as := [.inl h, .inl 1]) (st := []) (v := .inl (sd_fo x h 1)) sD10_of_34 sM10_69 sOC13 rfl rfl rfl (by decide) (Nat.le_of_ble_eq_true rfl) (cC_findingOf h 1 _ m hx h1 h2) (fun ho34 => ?_)
      rcases (show sd_fo x h 1 = 0 ∨ sd_fo x h 1 = -1000003 ∨ sd_fo x h 1 = -1000001 from sd_fo_or x h 1) with zf37 | zf37 | zf37
      ·
        refine sd_eqs (ls' := [some (.inr 120), some (.inl h), some (.inl 3), none]) (st' := [.inl 0]) ?_ rfl (by rw [zf37])
        have zA34 := sd_foA zf37
        refine sd_istore_n (ls' := [some (.inr 120), some (.inl h), some (.inl 3), some (.inl 0)]) sD10_of_37 (by decide) rfl ?_
        refine sd_iload_n sD10_of_38 rfl ?_
        refine sd_if_eq (tgt := 48) sD10_of_39 (by decide) (fun zc39 => ?_) (fun zc39 => (by exfalso; omega))
        refine sd_iload_n sD10_of_48 rfl ?_
        refine sd_bipush sD10_of_49 rfl (by decide) ?_
        refine sd_icmp_ne (tgt := 68) sD10_of_51 (by decide) (fun zc51 => ?_) (fun zc51 => (by exfalso; omega))
        refine sd_aload_n sD10_of_68 rfl ?_
        refine sd_getfr sD10_of_69 sF10_10 sGC120_0 ?_
        refine sd_getfr sD10_of_72 sF10_41 sGC53_2 ?_
        refine sd_iload_n sD10_of_75 rfl ?_
        refine sd_iload_n sD10_of_76 rfl ?_
        refine sd_callVp (as := [.inl h, .inl 3]) (st := []) (v := .inl (sd_num x h.toNat 3)) sD10_of_77 sM10_83 sOC13 rfl rfl rfl (by decide) (Nat.le_of_ble_eq_true rfl) (cC_numberI h 3 _ m hx h1 (by omega)) (fun ho77 => ?_)
        refine sd_ireturn sD10_of_80 rfl (fun hr hm => ?_)
        first | (exfalso; omega) | exact sd_done (by unfold sp_of; (try simp only [Int.reduceToNat, sd_kth]); (try simp only [List.getD_cons_zero, List.getD_cons_succ]); ((repeat (first | rw [if_pos (by first | assumption | omega)] | rw [if_neg (by first | assumption | omega)] | rw [if_pos (by first | exact Or.inl (by assumption) | exact Or.inr (by assumption))] | rw [if_neg (fun q => by rcases q with q | q; omega; contradiction)])); try rfl)) hx
      ·
        refine sd_eqs (ls' := [some (.inr 120), some (.inl h), some (.inl 3), none]) (st' := [.inl (-1000003)]) ?_ rfl (by rw [zf37])
        have zA34 := sd_foK zf37
        refine sd_istore_n (ls' := [some (.inr 120), some (.inl h), some (.inl 3), some (.inl (-1000003))]) sD10_of_37 (by decide) rfl ?_
        refine sd_iload_n sD10_of_38 rfl ?_
        refine sd_if_eq (tgt := 48) sD10_of_39 (by decide) (fun zc39 => (by exfalso; omega)) (fun zc39 => ?_)
        refine sd_aload_n sD10_of_42 rfl ?_
        refine sd_iload_n sD10_of_43 rfl ?_
        refine sd_callV (as := [.inl (-1000003)]) (st := []) sD10_of_44 sM10_52 rfl rfl sOC120 rfl (by decide) (Nat.le_of_ble_eq_true rfl) (cC_found (-1000003) 2 (by decide) (by decide) _ m hx (hF 2 (by decide))) (fun r m hq ho44 hm => ?_)
        obtain ⟨rfl, hx⟩ := hq
        show sd_Wp sd_SC 4 sY10_of 47 [some (.inr 120), some (.inl h), some (.inl 3), some (.inl (-1000003))] [.inl (-1000003)] m _
        refine sd_ireturn sD10_of_47 rfl (fun hr hm => ?_)
        first | (exfalso; omega) | exact sd_done (by unfold sp_of; (try simp only [Int.reduceToNat, sd_kth]); (try simp only [List.getD_cons_zero, List.getD_cons_succ]); ((repeat (first | rw [if_pos (by first | assumption | omega)] | rw [if_neg (by first | assumption | omega)] | rw [if_pos (by first | exact Or.inl (by assumption) | exact Or.inr (by assumption))] | rw [if_neg (fun q => by rcases q with q | q; omega; contradiction)])); try rfl)) hx
      ·
        refine sd_eqs (ls' := [some (.inr 120), some (.inl h), some (.inl 3), none]) (st' := [.inl (-1000001)]) ?_ rfl (by rw [zf37])
        have zA34 := sd_foB zf37
        refine sd_istore_n (ls' := [some (.inr 120), some (.inl h), some (.inl 3), some (.inl (-1000001))]) sD10_of_37 (by decide) rfl ?_
        refine sd_iload_n sD10_of_38 rfl ?_
        refine sd_if_eq (tgt := 48) sD10_of_39 (by decide) (fun zc39 => (by exfalso; omega)) (fun zc39 => ?_)
        refine sd_aload_n sD10_of_42 rfl ?_
        refine sd_iload_n sD10_of_43 rfl ?_
        refine sd_callV (as := [.inl (-1000001)]) (st := []) sD10_of_44 sM10_52 rfl rfl sOC120 rfl (by decide) (Nat.le_of_ble_eq_true rfl) (cC_found (-1000001) 0 (by decide) (by decide) _ m hx (hF 0 (by decide))) (fun r m hq ho44 hm => ?_)
        obtain ⟨rfl, hx⟩ := hq
        show sd_Wp sd_SC 4 sY10_of 47 [some (.inr 120), some (.inl h), some (.inl 3), some (.inl (-1000001))] [.inl (-1000001)] m _
        refine sd_ireturn sD10_of_47 rfl (fun hr hm => ?_)
        first | (exfalso; omega) | exact sd_done (by unfold sp_of; (try simp only [Int.reduceToNat, sd_kth]); (try simp only [List.getD_cons_zero, List.getD_cons_succ]); ((repeat (first | rw [if_pos (by first | assumption | omega)] | rw [if_neg (by first | assumption | omega)] | rw [if_pos (by first | exact Or.inl (by assumption) | exact Or.inr (by assumption))] | rw [if_neg (fun q => by rcases q with q | q; omega; contradiction)])); try rfl)) hx
    ·
      subst zs21
      refine sd_aload_n sD10_of_21 rfl ?_
      refine sd_getfr sD10_of_22 sF10_10 sGC120_0 ?_
      refine sd_getfr sD10_of_25 sF10_41 sGC53_2 ?_
      refine sd_iload_n sD10_of_28 rfl ?_
      refine sd_gets900 sD10_of_29 sF10_73 ?_
      refine sd_iload_n sD10_of_32 rfl ?_
      refine sd_ro900 (v := 1) sD10_of_33 (by decide) (by decide) ?_
      refine sd_callVp (as := [.inl h, .inl 1]) (st := []) (v := .inl (sd_fo x h 1)) sD10_of_34 sM10_69 sOC13 rfl rfl rfl (by decide) (Nat.le_of_ble_eq_true rfl) (cC_findingOf h 1 _ m hx h1 h2) (fun ho34 => ?_)
      rcases (show sd_fo x h 1 = 0 ∨ sd_fo x h 1 = -1000003 ∨ sd_fo x h 1 = -1000001 from sd_fo_or x h 1) with zf37 | zf37 | zf37
      ·
        refine sd_eqs (ls' := [some (.inr 120), some (.inl h), some (.inl 4), none]) (st' := [.inl 0]) ?_ rfl (by rw [zf37])
        have zA34 := sd_foA zf37
        refine sd_istore_n (ls' := [some (.inr 120), some (.inl h), some (.inl 4), some (.inl 0)]) sD10_of_37 (by decide) rfl ?_
        refine sd_iload_n sD10_of_38 rfl ?_
        refine sd_if_eq (tgt := 48) sD10_of_39 (by decide) (fun zc39 => ?_) (fun zc39 => (by exfalso; omega))
        refine sd_iload_n sD10_of_48 rfl ?_
        refine sd_bipush sD10_of_49 rfl (by decide) ?_
        refine sd_icmp_ne (tgt := 68) sD10_of_51 (by decide) (fun zc51 => ?_) (fun zc51 => (by exfalso; omega))
        refine sd_aload_n sD10_of_68 rfl ?_
        refine sd_getfr sD10_of_69 sF10_10 sGC120_0 ?_
        refine sd_getfr sD10_of_72 sF10_41 sGC53_2 ?_
        refine sd_iload_n sD10_of_75 rfl ?_
        refine sd_iload_n sD10_of_76 rfl ?_
        refine sd_callVp (as := [.inl h, .inl 4]) (st := []) (v := .inl (sd_num x h.toNat 4)) sD10_of_77 sM10_83 sOC13 rfl rfl rfl (by decide) (Nat.le_of_ble_eq_true rfl) (cC_numberI h 4 _ m hx h1 (by omega)) (fun ho77 => ?_)
        refine sd_ireturn sD10_of_80 rfl (fun hr hm => ?_)
        first | (exfalso; omega) | exact sd_done (by unfold sp_of; (try simp only [Int.reduceToNat, sd_kth]); (try simp only [List.getD_cons_zero, List.getD_cons_succ]); ((repeat (first | rw [if_pos (by first | assumption | omega)] | rw [if_neg (by first | assumption | omega)] | rw [if_pos (by first | exact Or.inl (by assumption) | exact Or.inr (by assumption))] | rw [if_neg (fun q => by rcases q with q | q; omega; contradiction)])); try rfl)) hx
      ·
        refine sd_eqs (ls' := [some (.inr 120), some (.inl h), some (.inl 4), none]) (st' := [.inl (-1000003)]) ?_ rfl (by rw [zf37])
        have zA34 := sd_foK zf37
        refine sd_istore_n (ls' := [some (.inr 120), some (.inl h), some (.inl 4), some (.inl (-1000003))]) sD10_of_37 (by decide) rfl ?_
        refine sd_iload_n sD10_of_38 rfl ?_
        refine sd_if_eq (tgt := 48) sD10_of_39 (by decide) (fun zc39 => (by exfalso; omega)) (fun zc39 => ?_)
        refine sd_aload_n sD10_of_42 rfl ?_
        refine sd_iload_n sD10_of_43 rfl ?_
        refine sd_callV (as := [.inl (-1000003)]) (st := []) sD10_of_44 sM10_52 rfl rfl sOC120 rfl (by decide) (Nat.le_of_ble_eq_true rfl) (cC_found (-1000003) 2 (by decide) (by decide) _ m hx (hF 2 (by decide))) (fun r m hq ho44 hm => ?_)
        obtain ⟨rfl, hx⟩ := hq
        show sd_Wp sd_SC 4 sY10_of 47 [some (.inr 120), some (.inl h), some (.inl 4), some (.inl (-1000003))] [.inl (-1000003)] m _
        refine sd_ireturn sD10_of_47 rfl (fun hr hm => ?_)
        first | (exfalso; omega) | exact sd_done (by unfold sp_of; (try simp only [Int.reduceToNat, sd_kth]); (try simp only [List.getD_cons_zero, List.getD_cons_succ]); ((repeat (first | rw [if_pos (by first | assumption | omega)] | rw [if_neg (by first | assumption | omega)] | rw [if_pos (by first | exact Or.inl (by assumption) | exact Or.inr (by assumption))] | rw [if_neg (fun q => by rcases q with q | q; omega; contradiction)])); try rfl)) hx
      ·
        refine sd_eqs (ls' := [some (.inr 120), some (.inl h), some (.inl 4), none]) (st' := [.inl (-1000001)]) ?_ rfl (by rw [zf37])
        have zA34 := sd_foB zf37
        refine sd_istore_n (ls' := [some (.inr 120), some (.inl h), some (.inl 4), some (.inl (-1000001))]) sD10_of_37 (by decide) rfl ?_
        refine sd_iload_n sD10_of_38 rfl ?_
        refine sd_if_eq (tgt := 48) sD10_of_39 (by decide) (fun zc39 => (by exfalso; omega)) (fun zc39 => ?_)
        refine sd_aload_n sD10_of_42 rfl ?_
        refine sd_iload_n sD10_of_43 rfl ?_
        refine sd_callV (as := [.inl (-1000001)]) (st := []) sD10_of_44 sM10_52 rfl rfl sOC120 rfl (by decide) (Nat.le_of_ble_eq_true rfl) (cC_found (-1000001) 0 (by decide) (by decide) _ m hx (hF 0 (by decide))) (fun r m hq ho44 hm => ?_)
        obtain ⟨rfl, hx⟩ := hq
        show sd_Wp sd_SC 4 sY10_of 47 [some (.inr 120), some (.inl h), some (.inl 4), some (.inl (-1000001))] [.inl (-1000001)] m _
        refine sd_ireturn sD10_of_47 rfl (fun hr hm => ?_)
        first | (exfalso; omega) | exact sd_done (by unfold sp_of; (try simp only [Int.reduceToNat, sd_kth]); (try simp only [List.getD_cons_zero, List.getD_cons_succ]); ((repeat (first | rw [if_pos (by first | assumption | omega)] | rw [if_neg (by first | assumption | omega)] | rw [if_pos (by first | exact Or.inl (by assumption) | exact Or.inr (by assumption))] | rw [if_neg (fun q => by rcases q with q | q; omega; contradiction)])); try rfl)) hx
    ·
      subst zs21
      refine sd_aload_n sD10_of_21 rfl ?_
      refine sd_getfr sD10_of_22 sF10_10 sGC120_0 ?_
      refine sd_getfr sD10_of_25 sF10_41 sGC53_2 ?_
      refine sd_iload_n sD10_of_28 rfl ?_
      refine sd_gets900 sD10_of_29 sF10_73 ?_
      refine sd_iload_n sD10_of_32 rfl ?_
      refine sd_ro900 (v := 1) sD10_of_33 (by decide) (by decide) ?_
      refine sd_callVp (as := [.inl h, .inl 1]) (st := []) (v := .inl (sd_fo x h 1)) sD10_of_34 sM10_69 sOC13 rfl rfl rfl (by decide) (Nat.le_of_ble_eq_true rfl) (cC_findingOf h 1 _ m hx h1 h2) (fun ho34 => ?_)
      rcases (show sd_fo x h 1 = 0 ∨ sd_fo x h 1 = -1000003 ∨ sd_fo x h 1 = -1000001 from sd_fo_or x h 1) with zf37 | zf37 | zf37
      ·
        refine sd_eqs (ls' := [some (.inr 120), some (.inl h), some (.inl 5), none]) (st' := [.inl 0]) ?_ rfl (by rw [zf37])
        have zA34 := sd_foA zf37
        refine sd_istore_n (ls' := [some (.inr 120), some (.inl h), some (.inl 5), some (.inl 0)]) sD10_of_37 (by decide) rfl ?_
        refine sd_iload_n sD10_of_38 rfl ?_
        refine sd_if_eq (tgt := 48) sD10_of_39 (by decide) (fun zc39 => ?_) (fun zc39 => (by exfalso; omega))
        refine sd_iload_n sD10_of_48 rfl ?_
        refine sd_bipush sD10_of_49 rfl (by decide) ?_
        refine sd_icmp_ne (tgt := 68) sD10_of_51 (by decide) (fun zc51 => ?_) (fun zc51 => (by exfalso; omega))
        refine sd_aload_n sD10_of_68 rfl ?_
        refine sd_getfr sD10_of_69 sF10_10 sGC120_0 ?_
        refine sd_getfr sD10_of_72 sF10_41 sGC53_2 ?_
        refine sd_iload_n sD10_of_75 rfl ?_
        refine sd_iload_n sD10_of_76 rfl ?_
        refine sd_callVp (as := [.inl h, .inl 5]) (st := []) (v := .inl (sd_num x h.toNat 5)) sD10_of_77 sM10_83 sOC13 rfl rfl rfl (by decide) (Nat.le_of_ble_eq_true rfl) (cC_numberI h 5 _ m hx h1 (by omega)) (fun ho77 => ?_)
        refine sd_ireturn sD10_of_80 rfl (fun hr hm => ?_)
        first | (exfalso; omega) | exact sd_done (by unfold sp_of; (try simp only [Int.reduceToNat, sd_kth]); (try simp only [List.getD_cons_zero, List.getD_cons_succ]); ((repeat (first | rw [if_pos (by first | assumption | omega)] | rw [if_neg (by first | assumption | omega)] | rw [if_pos (by first | exact Or.inl (by assumption) | exact Or.inr (by assumption))] | rw [if_neg (fun q => by rcases q with q | q; omega; contradiction)])); try rfl)) hx
      ·
        refine sd_eqs (ls' := [some (.inr 120), some (.inl h), some (.inl 5), none]) (st' := [.inl (-1000003)]) ?_ rfl (by rw [zf37])
        have zA34 := sd_foK zf37
        refine sd_istore_n (ls' := [some (.inr 120), some (.inl h), some (.inl 5), some (.inl (-1000003))]) sD10_of_37 (by decide) rfl ?_
        refine sd_iload_n sD10_of_38 rfl ?_
        refine sd_if_eq (tgt := 48) sD10_of_39 (by decide) (fun zc39 => (by exfalso; omega)) (fun zc39 => ?_)
        refine sd_aload_n sD10_of_42 rfl ?_
        refine sd_iload_n sD10_of_43 rfl ?_
        refine sd_callV (as := [.inl (-1000003)]) (st := []) sD10_of_44 sM10_52 rfl rfl sOC120 rfl (by decide) (Nat.le_of_ble_eq_true rfl) (cC_found (-1000003) 2 (by decide) (by decide) _ m hx (hF 2 (by decide))) (fun r m hq ho44 hm => ?_)
        obtain ⟨rfl, hx⟩ := hq
        show sd_Wp sd_SC 4 sY10_of 47 [some (.inr 120), some (.inl h), some (.inl 5), some (.inl (-1000003))] [.inl (-1000003)] m _
        refine sd_ireturn sD10_of_47 rfl (fun hr hm => ?_)
        first | (exfalso; omega) | exact sd_done (by unfold sp_of; (try simp only [Int.reduceToNat, sd_kth]); (try simp only [List.getD_cons_zero, List.getD_cons_succ]); ((repeat (first | rw [if_pos (by first | assumption | omega)] | rw [if_neg (by first | assumption | omega)] | rw [if_pos (by first | exact Or.inl (by assumption) | exact Or.inr (by assumption))] | rw [if_neg (fun q => by rcases q with q | q; omega; contradiction)])); try rfl)) hx
      ·
        refine sd_eqs (ls' := [some (.inr 120), some (.inl h), some (.inl 5), none]) (st' := [.inl (-1000001)]) ?_ rfl (by rw [zf37])
        have zA34 := sd_foB zf37
        refine sd_istore_n (ls' := [some (.inr 120), some (.inl h), some (.inl 5), some (.inl (-1000001))]) sD10_of_37 (by decide) rfl ?_
        refine sd_iload_n sD10_of_38 rfl ?_
        refine sd_if_eq (tgt := 48) sD10_of_39 (by decide) (fun zc39 => (by exfalso; omega)) (fun zc39 => ?_)
        refine sd_aload_n sD10_of_42 rfl ?_
        refine sd_iload_n sD10_of_43 rfl ?_
        refine sd_callV (as := [.inl (-1000001)]) (st := []) sD10_of_44 sM10_52 rfl rfl sOC120 rfl (by decide) (Nat.le_of_ble_eq_true rfl) (cC_found (-1000001) 0 (by decide) (by decide) _ m hx (hF 0 (by decide))) (fun r m hq ho44 hm => ?_)
        obtain ⟨rfl, hx⟩ := hq
        show sd_Wp sd_SC 4 sY10_of 47 [some (.inr 120), some (.inl h), some (.inl 5), some (.inl (-1000001))] [.inl (-1000001)] m _
        refine sd_ireturn sD10_of_47 rfl (fun hr hm => ?_)
        first | (exfalso; omega) | exact sd_done (by unfold sp_of; (try simp only [Int.reduceToNat, sd_kth]); (try simp only [List.getD_cons_zero, List.getD_cons_succ]); ((repeat (first | rw [if_pos (by first | assumption | omega)] | rw [if_neg (by first | assumption | omega)] | rw [if_pos (by first | exact Or.inl (by assumption) | exact Or.inr (by assumption))] | rw [if_neg (fun q => by rcases q with q | q; omega; contradiction)])); try rfl)) hx
    ·
      subst zs21
      refine sd_aload_n sD10_of_21 rfl ?_
      refine sd_getfr sD10_of_22 sF10_10 sGC120_0 ?_
      refine sd_getfr sD10_of_25 sF10_41 sGC53_2 ?_
      refine sd_iload_n sD10_of_28 rfl ?_
      refine sd_gets900 sD10_of_29 sF10_73 ?_
      refine sd_iload_n sD10_of_32 rfl ?_
      refine sd_ro900 (v := 1) sD10_of_33 (by decide) (by decide) ?_
      refine sd_callVp (as := [.inl h, .inl 1]) (st := []) (v := .inl (sd_fo x h 1)) sD10_of_34 sM10_69 sOC13 rfl rfl rfl (by decide) (Nat.le_of_ble_eq_true rfl) (cC_findingOf h 1 _ m hx h1 h2) (fun ho34 => ?_)
      rcases (show sd_fo x h 1 = 0 ∨ sd_fo x h 1 = -1000003 ∨ sd_fo x h 1 = -1000001 from sd_fo_or x h 1) with zf37 | zf37 | zf37
      ·
        refine sd_eqs (ls' := [some (.inr 120), some (.inl h), some (.inl 6), none]) (st' := [.inl 0]) ?_ rfl (by rw [zf37])
        have zA34 := sd_foA zf37
        refine sd_istore_n (ls' := [some (.inr 120), some (.inl h), some (.inl 6), some (.inl 0)]) sD10_of_37 (by decide) rfl ?_
        refine sd_iload_n sD10_of_38 rfl ?_
        refine sd_if_eq (tgt := 48) sD10_of_39 (by decide) (fun zc39 => ?_) (fun zc39 => (by exfalso; omega))
        refine sd_iload_n sD10_of_48 rfl ?_
        refine sd_bipush sD10_of_49 rfl (by decide) ?_
        refine sd_icmp_ne (tgt := 68) sD10_of_51 (by decide) (fun zc51 => (by exfalso; omega)) (fun zc51 => ?_)
        refine sd_aload_n sD10_of_54 rfl ?_
        refine sd_getfr sD10_of_55 sF10_10 sGC120_0 ?_
        refine sd_iload_n sD10_of_58 rfl ?_
        refine sd_callV (as := [.inl h]) (st := []) sD10_of_59 sM10_76 rfl rfl sOC53 rfl (by decide) (Nat.le_of_ble_eq_true rfl) (cC_makes h _ m hx (by omega) h1 h2 h4 h6 hR) (fun r m hq ho59 hm => ?_)
        obtain ⟨rfl, hx⟩ := hq
        show sd_Wp sd_SC 4 sY10_of 62 [some (.inr 120), some (.inl h), some (.inl 6), some (.inl 0)] [.inl (sd_b (sd_mk x h))] m _
        refine sd_callSp (as := [.inl (sd_b (sd_mk x h))]) (st := []) (v := .inl (sd_b (sd_mk x h))) sD10_of_62 sM10_79 rfl rfl (by decide) (Nat.le_of_ble_eq_true rfl) (cC_asNumber (sd_mk x h) m) (fun ho62 => ?_)
        refine sd_goto (tgt := 80) sD10_of_65 (by decide) ?_
        refine sd_ireturn sD10_of_80 rfl (fun hr hm => ?_)
        first | (exfalso; omega) | exact sd_done (by unfold sp_of; (try simp only [Int.reduceToNat, sd_kth]); (try simp only [List.getD_cons_zero, List.getD_cons_succ]); ((repeat (first | rw [if_pos (by first | assumption | omega)] | rw [if_neg (by first | assumption | omega)] | rw [if_pos (by first | exact Or.inl (by assumption) | exact Or.inr (by assumption))] | rw [if_neg (fun q => by rcases q with q | q; omega; contradiction)])); try rfl)) hx
      ·
        refine sd_eqs (ls' := [some (.inr 120), some (.inl h), some (.inl 6), none]) (st' := [.inl (-1000003)]) ?_ rfl (by rw [zf37])
        have zA34 := sd_foK zf37
        refine sd_istore_n (ls' := [some (.inr 120), some (.inl h), some (.inl 6), some (.inl (-1000003))]) sD10_of_37 (by decide) rfl ?_
        refine sd_iload_n sD10_of_38 rfl ?_
        refine sd_if_eq (tgt := 48) sD10_of_39 (by decide) (fun zc39 => (by exfalso; omega)) (fun zc39 => ?_)
        refine sd_aload_n sD10_of_42 rfl ?_
        refine sd_iload_n sD10_of_43 rfl ?_
        refine sd_callV (as := [.inl (-1000003)]) (st := []) sD10_of_44 sM10_52 rfl rfl sOC120 rfl (by decide) (Nat.le_of_ble_eq_true rfl) (cC_found (-1000003) 2 (by decide) (by decide) _ m hx (hF 2 (by decide))) (fun r m hq ho44 hm => ?_)
        obtain ⟨rfl, hx⟩ := hq
        show sd_Wp sd_SC 4 sY10_of 47 [some (.inr 120), some (.inl h), some (.inl 6), some (.inl (-1000003))] [.inl (-1000003)] m _
        refine sd_ireturn sD10_of_47 rfl (fun hr hm => ?_)
        first | (exfalso; omega) | exact sd_done (by unfold sp_of; (try simp only [Int.reduceToNat, sd_kth]); (try simp only [List.getD_cons_zero, List.getD_cons_succ]); ((repeat (first | rw [if_pos (by first | assumption | omega)] | rw [if_neg (by first | assumption | omega)] | rw [if_pos (by first | exact Or.inl (by assumption) | exact Or.inr (by assumption))] | rw [if_neg (fun q => by rcases q with q | q; omega; contradiction)])); try rfl)) hx
      ·
        refine sd_eqs (ls' := [some (.inr 120), some (.inl h), some (.inl 6), none]) (st' := [.inl (-1000001)]) ?_ rfl (by rw [zf37])
        have zA34 := sd_foB zf37
        refine sd_istore_n (ls' := [some (.inr 120), some (.inl h), some (.inl 6), some (.inl (-1000001))]) sD10_of_37 (by decide) rfl ?_
        refine sd_iload_n sD10_of_38 rfl ?_
        refine sd_if_eq (tgt := 48) sD10_of_39 (by decide) (fun zc39 => (by exfalso; omega)) (fun zc39 => ?_)
        refine sd_aload_n sD10_of_42 rfl ?_
        refine sd_iload_n sD10_of_43 rfl ?_
        refine sd_callV (as := [.inl (-1000001)]) (st := []) sD10_of_44 sM10_52 rfl rfl sOC120 rfl (by decide) (Nat.le_of_ble_eq_true rfl) (cC_found (-1000001) 0 (by decide) (by decide) _ m hx (hF 0 (by decide))) (fun r m hq ho44 hm => ?_)
        obtain ⟨rfl, hx⟩ := hq
        show sd_Wp sd_SC 4 sY10_of 47 [some (.inr 120), some (.inl h), some (.inl 6), some (.inl (-1000001))] [.inl (-1000001)] m _
        refine sd_ireturn sD10_of_47 rfl (fun hr hm => ?_)
        first | (exfalso; omega) | exact sd_done (by unfold sp_of; (try simp only [Int.reduceToNat, sd_kth]); (try simp only [List.getD_cons_zero, List.getD_cons_succ]); ((repeat (first | rw [if_pos (by first | assumption | omega)] | rw [if_neg (by first | assumption | omega)] | rw [if_pos (by first | exact Or.inl (by assumption) | exact Or.inr (by assumption))] | rw [if_neg (fun q => by rcases q with q | q; omega; contradiction)])); try rfl)) hx
    ·
      subst zs21
      refine sd_aload_n sD10_of_21 rfl ?_
      refine sd_getfr sD10_of_22 sF10_10 sGC120_0 ?_
      refine sd_getfr sD10_of_25 sF10_41 sGC53_2 ?_
      refine sd_iload_n sD10_of_28 rfl ?_
      refine sd_gets900 sD10_of_29 sF10_73 ?_
      refine sd_iload_n sD10_of_32 rfl ?_
      refine sd_ro900 (v := 2) sD10_of_33 (by decide) (by decide) ?_
      refine sd_callVp (as := [.inl h, .inl 2]) (st := []) (v := .inl (sd_fo x h 2)) sD10_of_34 sM10_69 sOC13 rfl rfl rfl (by decide) (Nat.le_of_ble_eq_true rfl) (cC_findingOf h 2 _ m hx h1 h2) (fun ho34 => ?_)
      rcases (show sd_fo x h 2 = 0 ∨ sd_fo x h 2 = -1000003 ∨ sd_fo x h 2 = -1000001 from sd_fo_or x h 2) with zf37 | zf37 | zf37
      ·
        refine sd_eqs (ls' := [some (.inr 120), some (.inl h), some (.inl 7), none]) (st' := [.inl 0]) ?_ rfl (by rw [zf37])
        have zA34 := sd_foA zf37
        refine sd_istore_n (ls' := [some (.inr 120), some (.inl h), some (.inl 7), some (.inl 0)]) sD10_of_37 (by decide) rfl ?_
        refine sd_iload_n sD10_of_38 rfl ?_
        refine sd_if_eq (tgt := 48) sD10_of_39 (by decide) (fun zc39 => ?_) (fun zc39 => (by exfalso; omega))
        refine sd_iload_n sD10_of_48 rfl ?_
        refine sd_bipush sD10_of_49 rfl (by decide) ?_
        refine sd_icmp_ne (tgt := 68) sD10_of_51 (by decide) (fun zc51 => ?_) (fun zc51 => (by exfalso; omega))
        refine sd_aload_n sD10_of_68 rfl ?_
        refine sd_getfr sD10_of_69 sF10_10 sGC120_0 ?_
        refine sd_getfr sD10_of_72 sF10_41 sGC53_2 ?_
        refine sd_iload_n sD10_of_75 rfl ?_
        refine sd_iload_n sD10_of_76 rfl ?_
        refine sd_callVp (as := [.inl h, .inl 7]) (st := []) (v := .inl (sd_num x h.toNat 7)) sD10_of_77 sM10_83 sOC13 rfl rfl rfl (by decide) (Nat.le_of_ble_eq_true rfl) (cC_numberI h 7 _ m hx h1 (by omega)) (fun ho77 => ?_)
        refine sd_ireturn sD10_of_80 rfl (fun hr hm => ?_)
        first | (exfalso; omega) | exact sd_done (by unfold sp_of; (try simp only [Int.reduceToNat, sd_kth]); (try simp only [List.getD_cons_zero, List.getD_cons_succ]); ((repeat (first | rw [if_pos (by first | assumption | omega)] | rw [if_neg (by first | assumption | omega)] | rw [if_pos (by first | exact Or.inl (by assumption) | exact Or.inr (by assumption))] | rw [if_neg (fun q => by rcases q with q | q; omega; contradiction)])); try rfl)) hx
      ·
        refine sd_eqs (ls' := [some (.inr 120), some (.inl h), some (.inl 7), none]) (st' := [.inl (-1000003)]) ?_ rfl (by rw [zf37])
        have zA34 := sd_foK zf37
        refine sd_istore_n (ls' := [some (.inr 120), some (.inl h), some (.inl 7), some (.inl (-1000003))]) sD10_of_37 (by decide) rfl ?_
        refine sd_iload_n sD10_of_38 rfl ?_
        refine sd_if_eq (tgt := 48) sD10_of_39 (by decide) (fun zc39 => (by exfalso; omega)) (fun zc39 => ?_)
        refine sd_aload_n sD10_of_42 rfl ?_
        refine sd_iload_n sD10_of_43 rfl ?_
        refine sd_callV (as := [.inl (-1000003)]) (st := []) sD10_of_44 sM10_52 rfl rfl sOC120 rfl (by decide) (Nat.le_of_ble_eq_true rfl) (cC_found (-1000003) 2 (by decide) (by decide) _ m hx (hF 2 (by decide))) (fun r m hq ho44 hm => ?_)
        obtain ⟨rfl, hx⟩ := hq
        show sd_Wp sd_SC 4 sY10_of 47 [some (.inr 120), some (.inl h), some (.inl 7), some (.inl (-1000003))] [.inl (-1000003)] m _
        refine sd_ireturn sD10_of_47 rfl (fun hr hm => ?_)
        first | (exfalso; omega) | exact sd_done (by unfold sp_of; (try simp only [Int.reduceToNat, sd_kth]); (try simp only [List.getD_cons_zero, List.getD_cons_succ]); ((repeat (first | rw [if_pos (by first | assumption | omega)] | rw [if_neg (by first | assumption | omega)] | rw [if_pos (by first | exact Or.inl (by assumption) | exact Or.inr (by assumption))] | rw [if_neg (fun q => by rcases q with q | q; omega; contradiction)])); try rfl)) hx
      ·
        refine sd_eqs (ls' := [some (.inr 120), some (.inl h), some (.inl 7), none]) (st' := [.inl (-1000001)]) ?_ rfl (by rw [zf37])
        have zA34 := sd_foB zf37
        refine sd_istore_n (ls' := [some (.inr 120), some (.inl h), some (.inl 7), some (.inl (-1000001))]) sD10_of_37 (by decide) rfl ?_
        refine sd_iload_n sD10_of_38 rfl ?_
        refine sd_if_eq (tgt := 48) sD10_of_39 (by decide) (fun zc39 => (by exfalso; omega)) (fun zc39 => ?_)
        refine sd_aload_n sD10_of_42 rfl ?_
        refine sd_iload_n sD10_of_43 rfl ?_
        refine sd_callV (as := [.inl (-1000001)]) (st := []) sD10_of_44 sM10_52 rfl rfl sOC120 rfl (by decide) (Nat.le_of_ble_eq_true rfl) (cC_found (-1000001) 0 (by decide) (by decide) _ m hx (hF 0 (by decide))) (fun r m hq ho44 hm => ?_)
        obtain ⟨rfl, hx⟩ := hq
        show sd_Wp sd_SC 4 sY10_of 47 [some (.inr 120), some (.inl h), some (.inl 7), some (.inl (-1000001))] [.inl (-1000001)] m _
        refine sd_ireturn sD10_of_47 rfl (fun hr hm => ?_)
        first | (exfalso; omega) | exact sd_done (by unfold sp_of; (try simp only [Int.reduceToNat, sd_kth]); (try simp only [List.getD_cons_zero, List.getD_cons_succ]); ((repeat (first | rw [if_pos (by first | assumption | omega)] | rw [if_neg (by first | assumption | omega)] | rw [if_pos (by first | exact Or.inl (by assumption) | exact Or.inr (by assumption))] | rw [if_neg (fun q => by rcases q with q | q; omega; contradiction)])); try rfl)) hx
    ·
      subst zs21
      refine sd_aload_n sD10_of_21 rfl ?_
      refine sd_getfr sD10_of_22 sF10_10 sGC120_0 ?_
      refine sd_getfr sD10_of_25 sF10_41 sGC53_2 ?_
      refine sd_iload_n sD10_of_28 rfl ?_
      refine sd_gets900 sD10_of_29 sF10_73 ?_
      refine sd_iload_n sD10_of_32 rfl ?_
      refine sd_ro900 (v := 3) sD10_of_33 (by decide) (by decide) ?_
      refine sd_callVp (as := [.inl h, .inl 3]) (st := []) (v := .inl (sd_fo x h 3)) sD10_of_34 sM10_69 sOC13 rfl rfl rfl (by decide) (Nat.le_of_ble_eq_true rfl) (cC_findingOf h 3 _ m hx h1 h2) (fun ho34 => ?_)
      rcases (show sd_fo x h 3 = 0 ∨ sd_fo x h 3 = -1000003 ∨ sd_fo x h 3 = -1000001 from sd_fo_or x h 3) with zf37 | zf37 | zf37
      ·
        refine sd_eqs (ls' := [some (.inr 120), some (.inl h), some (.inl 8), none]) (st' := [.inl 0]) ?_ rfl (by rw [zf37])
        have zA34 := sd_foA zf37
        refine sd_istore_n (ls' := [some (.inr 120), some (.inl h), some (.inl 8), some (.inl 0)]) sD10_of_37 (by decide) rfl ?_
        refine sd_iload_n sD10_of_38 rfl ?_
        refine sd_if_eq (tgt := 48) sD10_of_39 (by decide) (fun zc39 => ?_) (fun zc39 => (by exfalso; omega))
        refine sd_iload_n sD10_of_48 rfl ?_
        refine sd_bipush sD10_of_49 rfl (by decide) ?_
        refine sd_icmp_ne (tgt := 68) sD10_of_51 (by decide) (fun zc51 => ?_) (fun zc51 => (by exfalso; omega))
        refine sd_aload_n sD10_of_68 rfl ?_
        refine sd_getfr sD10_of_69 sF10_10 sGC120_0 ?_
        refine sd_getfr sD10_of_72 sF10_41 sGC53_2 ?_
        refine sd_iload_n sD10_of_75 rfl ?_
        refine sd_iload_n sD10_of_76 rfl ?_
        refine sd_callVp (as := [.inl h, .inl 8]) (st := []) (v := .inl (sd_num x h.toNat 8)) sD10_of_77 sM10_83 sOC13 rfl rfl rfl (by decide) (Nat.le_of_ble_eq_true rfl) (cC_numberI h 8 _ m hx h1 (by omega)) (fun ho77 => ?_)
        refine sd_ireturn sD10_of_80 rfl (fun hr hm => ?_)
        first | (exfalso; omega) | exact sd_done (by unfold sp_of; (try simp only [Int.reduceToNat, sd_kth]); (try simp only [List.getD_cons_zero, List.getD_cons_succ]); ((repeat (first | rw [if_pos (by first | assumption | omega)] | rw [if_neg (by first | assumption | omega)] | rw [if_pos (by first | exact Or.inl (by assumption) | exact Or.inr (by assumption))] | rw [if_neg (fun q => by rcases q with q | q; omega; contradiction)])); try rfl)) hx
      ·
        refine sd_eqs (ls' := [some (.inr 120), some (.inl h), some (.inl 8), none]) (st' := [.inl (-1000003)]) ?_ rfl (by rw [zf37])
        have zA34 := sd_foK zf37
        refine sd_istore_n (ls' := [some (.inr 120), some (.inl h), some (.inl 8), some (.inl (-1000003))]) sD10_of_37 (by decide) rfl ?_
        refine sd_iload_n sD10_of_38 rfl ?_
        refine sd_if_eq (tgt := 48) sD10_of_39 (by decide) (fun zc39 => (by exfalso; omega)) (fun zc39 => ?_)
        refine sd_aload_n sD10_of_42 rfl ?_
        refine sd_iload_n sD10_of_43 rfl ?_
        refine sd_callV (as := [.inl (-1000003)]) (st := []) sD10_of_44 sM10_52 rfl rfl sOC120 rfl (by decide) (Nat.le_of_ble_eq_true rfl) (cC_found (-1000003) 2 (by decide) (by decide) _ m hx (hF 2 (by decide))) (fun r m hq ho44 hm => ?_)
        obtain ⟨rfl, hx⟩ := hq
        show sd_Wp sd_SC 4 sY10_of 47 [some (.inr 120), some (.inl h), some (.inl 8), some (.inl (-1000003))] [.inl (-1000003)] m _
        refine sd_ireturn sD10_of_47 rfl (fun hr hm => ?_)
        first | (exfalso; omega) | exact sd_done (by unfold sp_of; (try simp only [Int.reduceToNat, sd_kth]); (try simp only [List.getD_cons_zero, List.getD_cons_succ]); ((repeat (first | rw [if_pos (by first | assumption | omega)] | rw [if_neg (by first | assumption | omega)] | rw [if_pos (by first | exact Or.inl (by assumption) | exact Or.inr (by assumption))] | rw [if_neg (fun q => by rcases q with q | q; omega; contradiction)])); try rfl)) hx
      ·
        refine sd_eqs (ls' := [some (.inr 120), some (.inl h), some (.inl 8), none]) (st' := [.inl (-1000001)]) ?_ rfl (by rw [zf37])
        have zA34 := sd_foB zf37
        refine sd_istore_n (ls' := [some (.inr 120), some (.inl h), some (.inl 8), some (.inl (-1000001))]) sD10_of_37 (by decide) rfl ?_
        refine sd_iload_n sD10_of_38 rfl ?_
        refine sd_if_eq (tgt := 48) sD10_of_39 (by decide) (fun zc39 => (by exfalso; omega)) (fun zc39 => ?_)
        refine sd_aload_n sD10_of_42 rfl ?_
        refine sd_iload_n sD10_of_43 rfl ?_
        refine sd_callV (as := [.inl (-1000001)]) (st := []) sD10_of_44 sM10_52 rfl rfl sOC120 rfl (by decide) (Nat.le_of_ble_eq_true rfl) (cC_found (-1000001) 0 (by decide) (by decide) _ m hx (hF 0 (by decide))) (fun r m hq ho44 hm => ?_)
        obtain ⟨rfl, hx⟩ := hq
        show sd_Wp sd_SC 4 sY10_of 47 [some (.inr 120), some (.inl h), some (.inl 8), some (.inl (-1000001))] [.inl (-1000001)] m _
        refine sd_ireturn sD10_of_47 rfl (fun hr hm => ?_)
        first | (exfalso; omega) | exact sd_done (by unfold sp_of; (try simp only [Int.reduceToNat, sd_kth]); (try simp only [List.getD_cons_zero, List.getD_cons_succ]); ((repeat (first | rw [if_pos (by first | assumption | omega)] | rw [if_neg (by first | assumption | omega)] | rw [if_pos (by first | exact Or.inl (by assumption) | exact Or.inr (by assumption))] | rw [if_neg (fun q => by rcases q with q | q; omega; contradiction)])); try rfl)) hx
    ·
      subst zs21
      refine sd_aload_n sD10_of_21 rfl ?_
      refine sd_getfr sD10_of_22 sF10_10 sGC120_0 ?_
      refine sd_getfr sD10_of_25 sF10_41 sGC53_2 ?_
      refine sd_iload_n sD10_of_28 rfl ?_
      refine sd_gets900 sD10_of_29 sF10_73 ?_
      refine sd_iload_n sD10_of_32 rfl ?_
      refine sd_ro900 (v := 3) sD10_of_33 (by decide) (by decide) ?_
      refine sd_callVp (as := [.inl h, .inl 3]) (st := []) (v := .inl (sd_fo x h 3)) sD10_of_34 sM10_69 sOC13 rfl rfl rfl (by decide) (Nat.le_of_ble_eq_true rfl) (cC_findingOf h 3 _ m hx h1 h2) (fun ho34 => ?_)
      rcases (show sd_fo x h 3 = 0 ∨ sd_fo x h 3 = -1000003 ∨ sd_fo x h 3 = -1000001 from sd_fo_or x h 3) with zf37 | zf37 | zf37
      ·
        refine sd_eqs (ls' := [some (.inr 120), some (.inl h), some (.inl 9), none]) (st' := [.inl 0]) ?_ rfl (by rw [zf37])
        have zA34 := sd_foA zf37
        refine sd_istore_n (ls' := [some (.inr 120), some (.inl h), some (.inl 9), some (.inl 0)]) sD10_of_37 (by decide) rfl ?_
        refine sd_iload_n sD10_of_38 rfl ?_
        refine sd_if_eq (tgt := 48) sD10_of_39 (by decide) (fun zc39 => ?_) (fun zc39 => (by exfalso; omega))
        refine sd_iload_n sD10_of_48 rfl ?_
        refine sd_bipush sD10_of_49 rfl (by decide) ?_
        refine sd_icmp_ne (tgt := 68) sD10_of_51 (by decide) (fun zc51 => ?_) (fun zc51 => (by exfalso; omega))
        refine sd_aload_n sD10_of_68 rfl ?_
        refine sd_getfr sD10_of_69 sF10_10 sGC120_0 ?_
        refine sd_getfr sD10_of_72 sF10_41 sGC53_2 ?_
        refine sd_iload_n sD10_of_75 rfl ?_
        refine sd_iload_n sD10_of_76 rfl ?_
        refine sd_callVp (as := [.inl h, .inl 9]) (st := []) (v := .inl (sd_num x h.toNat 9)) sD10_of_77 sM10_83 sOC13 rfl rfl rfl (by decide) (Nat.le_of_ble_eq_true rfl) (cC_numberI h 9 _ m hx h1 (by omega)) (fun ho77 => ?_)
        refine sd_ireturn sD10_of_80 rfl (fun hr hm => ?_)
        first | (exfalso; omega) | exact sd_done (by unfold sp_of; (try simp only [Int.reduceToNat, sd_kth]); (try simp only [List.getD_cons_zero, List.getD_cons_succ]); ((repeat (first | rw [if_pos (by first | assumption | omega)] | rw [if_neg (by first | assumption | omega)] | rw [if_pos (by first | exact Or.inl (by assumption) | exact Or.inr (by assumption))] | rw [if_neg (fun q => by rcases q with q | q; omega; contradiction)])); try rfl)) hx
      ·
        refine sd_eqs (ls' := [some (.inr 120), some (.inl h), some (.inl 9), none]) (st' := [.inl (-1000003)]) ?_ rfl (by rw [zf37])
        have zA34 := sd_foK zf37
        refine sd_istore_n (ls' := [some (.inr 120), some (.inl h), some (.inl 9), some (.inl (-1000003))]) sD10_of_37 (by decide) rfl ?_
        refine sd_iload_n sD10_of_38 rfl ?_
        refine sd_if_eq (tgt := 48) sD10_of_39 (by decide) (fun zc39 => (by exfalso; omega)) (fun zc39 => ?_)
        refine sd_aload_n sD10_of_42 rfl ?_
        refine sd_iload_n sD10_of_43 rfl ?_
        refine sd_callV (as := [.inl (-1000003)]) (st := []) sD10_of_44 sM10_52 rfl rfl sOC120 rfl (by decide) (Nat.le_of_ble_eq_true rfl) (cC_found (-1000003) 2 (by decide) (by decide) _ m hx (hF 2 (by decide))) (fun r m hq ho44 hm => ?_)
        obtain ⟨rfl, hx⟩ := hq
        show sd_Wp sd_SC 4 sY10_of 47 [some (.inr 120), some (.inl h), some (.inl 9), some (.inl (-1000003))] [.inl (-1000003)] m _
        refine sd_ireturn sD10_of_47 rfl (fun hr hm => ?_)
        first | (exfalso; omega) | exact sd_done (by unfold sp_of; (try simp only [Int.reduceToNat, sd_kth]); (try simp only [List.getD_cons_zero, List.getD_cons_succ]); ((repeat (first | rw [if_pos (by first | assumption | omega)] | rw [if_neg (by first | assumption | omega)] | rw [if_pos (by first | exact Or.inl (by assumption) | exact Or.inr (by assumption))] | rw [if_neg (fun q => by rcases q with q | q; omega; contradiction)])); try rfl)) hx
      ·
        refine sd_eqs (ls' := [some (.inr 120), some (.inl h), some (.inl 9), none]) (st' := [.inl (-1000001)]) ?_ rfl (by rw [zf37])
        have zA34 := sd_foB zf37
        refine sd_istore_n (ls' := [some (.inr 120), some (.inl h), some (.inl 9), some (.inl (-1000001))]) sD10_of_37 (by decide) rfl ?_
        refine sd_iload_n sD10_of_38 rfl ?_
        refine sd_if_eq (tgt := 48) sD10_of_39 (by decide) (fun zc39 => (by exfalso; omega)) (fun zc39 => ?_)
        refine sd_aload_n sD10_of_42 rfl ?_
        refine sd_iload_n sD10_of_43 rfl ?_
        refine sd_callV (as := [.inl (-1000001)]) (st := []) sD10_of_44 sM10_52 rfl rfl sOC120 rfl (by decide) (Nat.le_of_ble_eq_true rfl) (cC_found (-1000001) 0 (by decide) (by decide) _ m hx (hF 0 (by decide))) (fun r m hq ho44 hm => ?_)
        obtain ⟨rfl, hx⟩ := hq
        show sd_Wp sd_SC 4 sY10_of 47 [some (.inr 120), some (.inl h), some (.inl 9), some (.inl (-1000001))] [.inl (-1000001)] m _
        refine sd_ireturn sD10_of_47 rfl (fun hr hm => ?_)
        first | (exfalso; omega) | exact sd_done (by unfold sp_of; (try simp only [Int.reduceToNat, sd_kth]); (try simp only [List.getD_cons_zero, List.getD_cons_succ]); ((repeat (first | rw [if_pos (by first | assumption | omega)] | rw [if_neg (by first | assumption | omega)] | rw [if_pos (by first | exact Or.inl (by assumption) | exact Or.inr (by assumption))] | rw [if_neg (fun q => by rcases q with q | q; omega; contradiction)])); try rfl)) hx
    ·
      subst zs21
      refine sd_aload_n sD10_of_21 rfl ?_
      refine sd_getfr sD10_of_22 sF10_10 sGC120_0 ?_
      refine sd_getfr sD10_of_25 sF10_41 sGC53_2 ?_
      refine sd_iload_n sD10_of_28 rfl ?_
      refine sd_gets900 sD10_of_29 sF10_73 ?_
      refine sd_iload_n sD10_of_32 rfl ?_
      refine sd_ro900 (v := 4) sD10_of_33 (by decide) (by decide) ?_
      refine sd_callVp (as := [.inl h, .inl 4]) (st := []) (v := .inl (sd_fo x h 4)) sD10_of_34 sM10_69 sOC13 rfl rfl rfl (by decide) (Nat.le_of_ble_eq_true rfl) (cC_findingOf h 4 _ m hx h1 h2) (fun ho34 => ?_)
      rcases (show sd_fo x h 4 = 0 ∨ sd_fo x h 4 = -1000003 ∨ sd_fo x h 4 = -1000001 from sd_fo_or x h 4) with zf37 | zf37 | zf37
      ·
        refine sd_eqs (ls' := [some (.inr 120), some (.inl h), some (.inl 10), none]) (st' := [.inl 0]) ?_ rfl (by rw [zf37])
        have zA34 := sd_foA zf37
        refine sd_istore_n (ls' := [some (.inr 120), some (.inl h), some (.inl 10), some (.inl 0)]) sD10_of_37 (by decide) rfl ?_
        refine sd_iload_n sD10_of_38 rfl ?_
        refine sd_if_eq (tgt := 48) sD10_of_39 (by decide) (fun zc39 => ?_) (fun zc39 => (by exfalso; omega))
        refine sd_iload_n sD10_of_48 rfl ?_
        refine sd_bipush sD10_of_49 rfl (by decide) ?_
        refine sd_icmp_ne (tgt := 68) sD10_of_51 (by decide) (fun zc51 => ?_) (fun zc51 => (by exfalso; omega))
        refine sd_aload_n sD10_of_68 rfl ?_
        refine sd_getfr sD10_of_69 sF10_10 sGC120_0 ?_
        refine sd_getfr sD10_of_72 sF10_41 sGC53_2 ?_
        refine sd_iload_n sD10_of_75 rfl ?_
        refine sd_iload_n sD10_of_76 rfl ?_
        refine sd_callVp (as := [.inl h, .inl 10]) (st := []) (v := .inl (sd_num x h.toNat 10)) sD10_of_77 sM10_83 sOC13 rfl rfl rfl (by decide) (Nat.le_of_ble_eq_true rfl) (cC_numberI h 10 _ m hx h1 (by omega)) (fun ho77 => ?_)
        refine sd_ireturn sD10_of_80 rfl (fun hr hm => ?_)
        first | (exfalso; omega) | exact sd_done (by unfold sp_of; (try simp only [Int.reduceToNat, sd_kth]); (try simp only [List.getD_cons_zero, List.getD_cons_succ]); ((repeat (first | rw [if_pos (by first | assumption | omega)] | rw [if_neg (by first | assumption | omega)] | rw [if_pos (by first | exact Or.inl (by assumption) | exact Or.inr (by assumption))] | rw [if_neg (fun q => by rcases q with q | q; omega; contradiction)])); try rfl)) hx
      ·
        refine sd_eqs (ls' := [some (.inr 120), some (.inl h), some (.inl 10), none]) (st' := [.inl (-1000003)]) ?_ rfl (by rw [zf37])
        have zA34 := sd_foK zf37
        refine sd_istore_n (ls' := [some (.inr 120), some (.inl h), some (.inl 10), some (.inl (-1000003))]) sD10_of_37 (by decide) rfl ?_
        refine sd_iload_n sD10_of_38 rfl ?_
        refine sd_if_eq (tgt := 48) sD10_of_39 (by decide) (fun zc39 => (by exfalso; omega)) (fun zc39 => ?_)
        refine sd_aload_n sD10_of_42 rfl ?_
        refine sd_iload_n sD10_of_43 rfl ?_
        refine sd_callV (as := [.inl (-1000003)]) (st := []) sD10_of_44 sM10_52 rfl rfl sOC120 rfl (by decide) (Nat.le_of_ble_eq_true rfl) (cC_found (-1000003) 2 (by decide) (by decide) _ m hx (hF 2 (by decide))) (fun r m hq ho44 hm => ?_)
        obtain ⟨rfl, hx⟩ := hq
        show sd_Wp sd_SC 4 sY10_of 47 [some (.inr 120), some (.inl h), some (.inl 10), some (.inl (-1000003))] [.inl (-1000003)] m _
        refine sd_ireturn sD10_of_47 rfl (fun hr hm => ?_)
        first | (exfalso; omega) | exact sd_done (by unfold sp_of; (try simp only [Int.reduceToNat, sd_kth]); (try simp only [List.getD_cons_zero, List.getD_cons_succ]); ((repeat (first | rw [if_pos (by first | assumption | omega)] | rw [if_neg (by first | assumption | omega)] | rw [if_pos (by first | exact Or.inl (by assumption) | exact Or.inr (by assumption))] | rw [if_neg (fun q => by rcases q with q | q; omega; contradiction)])); try rfl)) hx
      ·
        refine sd_eqs (ls' := [some (.inr 120), some (.inl h), some (.inl 10), none]) (st' := [.inl (-1000001)]) ?_ rfl (by rw [zf37])
        have zA34 := sd_foB zf37
        refine sd_istore_n (ls' := [some (.inr 120), some (.inl h), some (.inl 10), some (.inl (-1000001))]) sD10_of_37 (by decide) rfl ?_
        refine sd_iload_n sD10_of_38 rfl ?_
        refine sd_if_eq (tgt := 48) sD10_of_39 (by decide) (fun zc39 => (by exfalso; omega)) (fun zc39 => ?_)
        refine sd_aload_n sD10_of_42 rfl ?_
        refine sd_iload_n sD10_of_43 rfl ?_
        refine sd_callV (as := [.inl (-1000001)]) (st := []) sD10_of_44 sM10_52 rfl rfl sOC120 rfl (by decide) (Nat.le_of_ble_eq_true rfl) (cC_found (-1000001) 0 (by decide) (by decide) _ m hx (hF 0 (by decide))) (fun r m hq ho44 hm => ?_)
        obtain ⟨rfl, hx⟩ := hq
        show sd_Wp sd_SC 4 sY10_of 47 [some (.inr 120), some (.inl h), some (.inl 10), some (.inl (-1000001))] [.inl (-1000001)] m _
        refine sd_ireturn sD10_of_47 rfl (fun hr hm => ?_)
        first | (exfalso; omega) | exact sd_done (by unfold sp_of; (try simp only [Int.reduceToNat, sd_kth]); (try simp only [List.getD_cons_zero, List.getD_cons_succ]); ((repeat (first | rw [if_pos (by first | assumption | omega)] | rw [if_neg (by first | assumption | omega)] | rw [if_pos (by first | exact Or.inl (by assumption) | exact Or.inr (by assumption))] | rw [if_neg (fun q => by rcases q with q | q; omega; contradiction)])); try rfl)) hx
    ·
      subst zs21
      refine sd_aload_n sD10_of_21 rfl ?_
      refine sd_getfr sD10_of_22 sF10_10 sGC120_0 ?_
      refine sd_getfr sD10_of_25 sF10_41 sGC53_2 ?_
      refine sd_iload_n sD10_of_28 rfl ?_
      refine sd_gets900 sD10_of_29 sF10_73 ?_
      refine sd_iload_n sD10_of_32 rfl ?_
      refine sd_ro900 (v := 6) sD10_of_33 (by decide) (by decide) ?_
      refine sd_callVp (as := [.inl h, .inl 6]) (st := []) (v := .inl (sd_fo x h 6)) sD10_of_34 sM10_69 sOC13 rfl rfl rfl (by decide) (Nat.le_of_ble_eq_true rfl) (cC_findingOf h 6 _ m hx h1 h2) (fun ho34 => ?_)
      rcases (show sd_fo x h 6 = 0 ∨ sd_fo x h 6 = -1000003 ∨ sd_fo x h 6 = -1000001 from sd_fo_or x h 6) with zf37 | zf37 | zf37
      ·
        refine sd_eqs (ls' := [some (.inr 120), some (.inl h), some (.inl 11), none]) (st' := [.inl 0]) ?_ rfl (by rw [zf37])
        have zA34 := sd_foA zf37
        refine sd_istore_n (ls' := [some (.inr 120), some (.inl h), some (.inl 11), some (.inl 0)]) sD10_of_37 (by decide) rfl ?_
        refine sd_iload_n sD10_of_38 rfl ?_
        refine sd_if_eq (tgt := 48) sD10_of_39 (by decide) (fun zc39 => ?_) (fun zc39 => (by exfalso; omega))
        refine sd_iload_n sD10_of_48 rfl ?_
        refine sd_bipush sD10_of_49 rfl (by decide) ?_
        refine sd_icmp_ne (tgt := 68) sD10_of_51 (by decide) (fun zc51 => ?_) (fun zc51 => (by exfalso; omega))
        refine sd_aload_n sD10_of_68 rfl ?_
        refine sd_getfr sD10_of_69 sF10_10 sGC120_0 ?_
        refine sd_getfr sD10_of_72 sF10_41 sGC53_2 ?_
        refine sd_iload_n sD10_of_75 rfl ?_
        refine sd_iload_n sD10_of_76 rfl ?_
        refine sd_callVp (as := [.inl h, .inl 11]) (st := []) (v := .inl (sd_num x h.toNat 11)) sD10_of_77 sM10_83 sOC13 rfl rfl rfl (by decide) (Nat.le_of_ble_eq_true rfl) (cC_numberI h 11 _ m hx h1 (by omega)) (fun ho77 => ?_)
        refine sd_ireturn sD10_of_80 rfl (fun hr hm => ?_)
        first | (exfalso; omega) | exact sd_done (by unfold sp_of; (try simp only [Int.reduceToNat, sd_kth]); (try simp only [List.getD_cons_zero, List.getD_cons_succ]); ((repeat (first | rw [if_pos (by first | assumption | omega)] | rw [if_neg (by first | assumption | omega)] | rw [if_pos (by first | exact Or.inl (by assumption) | exact Or.inr (by assumption))] | rw [if_neg (fun q => by rcases q with q | q; omega; contradiction)])); try rfl)) hx
      ·
        refine sd_eqs (ls' := [some (.inr 120), some (.inl h), some (.inl 11), none]) (st' := [.inl (-1000003)]) ?_ rfl (by rw [zf37])
        have zA34 := sd_foK zf37
        refine sd_istore_n (ls' := [some (.inr 120), some (.inl h), some (.inl 11), some (.inl (-1000003))]) sD10_of_37 (by decide) rfl ?_
        refine sd_iload_n sD10_of_38 rfl ?_
        refine sd_if_eq (tgt := 48) sD10_of_39 (by decide) (fun zc39 => (by exfalso; omega)) (fun zc39 => ?_)
        refine sd_aload_n sD10_of_42 rfl ?_
        refine sd_iload_n sD10_of_43 rfl ?_
        refine sd_callV (as := [.inl (-1000003)]) (st := []) sD10_of_44 sM10_52 rfl rfl sOC120 rfl (by decide) (Nat.le_of_ble_eq_true rfl) (cC_found (-1000003) 2 (by decide) (by decide) _ m hx (hF 2 (by decide))) (fun r m hq ho44 hm => ?_)
        obtain ⟨rfl, hx⟩ := hq
        show sd_Wp sd_SC 4 sY10_of 47 [some (.inr 120), some (.inl h), some (.inl 11), some (.inl (-1000003))] [.inl (-1000003)] m _
        refine sd_ireturn sD10_of_47 rfl (fun hr hm => ?_)
        first | (exfalso; omega) | exact sd_done (by unfold sp_of; (try simp only [Int.reduceToNat, sd_kth]); (try simp only [List.getD_cons_zero, List.getD_cons_succ]); ((repeat (first | rw [if_pos (by first | assumption | omega)] | rw [if_neg (by first | assumption | omega)] | rw [if_pos (by first | exact Or.inl (by assumption) | exact Or.inr (by assumption))] | rw [if_neg (fun q => by rcases q with q | q; omega; contradiction)])); try rfl)) hx
      ·
        refine sd_eqs (ls' := [some (.inr 120), some (.inl h), some (.inl 11), none]) (st' := [.inl (-1000001)]) ?_ rfl (by rw [zf37])
        have zA34 := sd_foB zf37
        refine sd_istore_n (ls' := [some (.inr 120), some (.inl h), some (.inl 11), some (.inl (-1000001))]) sD10_of_37 (by decide) rfl ?_
        refine sd_iload_n sD10_of_38 rfl ?_
        refine sd_if_eq (tgt := 48) sD10_of_39 (by decide) (fun zc39 => (by exfalso; omega)) (fun zc39 => ?_)
        refine sd_aload_n sD10_of_42 rfl ?_
        refine sd_iload_n sD10_of_43 rfl ?_
        refine sd_callV (as := [.inl (-1000001)]) (st := []) sD10_of_44 sM10_52 rfl rfl sOC120 rfl (by decide) (Nat.le_of_ble_eq_true rfl) (cC_found (-1000001) 0 (by decide) (by decide) _ m hx (hF 0 (by decide))) (fun r m hq ho44 hm => ?_)
        obtain ⟨rfl, hx⟩ := hq
        show sd_Wp sd_SC 4 sY10_of 47 [some (.inr 120), some (.inl h), some (.inl 11), some (.inl (-1000001))] [.inl (-1000001)] m _
        refine sd_ireturn sD10_of_47 rfl (fun hr hm => ?_)
        first | (exfalso; omega) | exact sd_done (by unfold sp_of; (try simp only [Int.reduceToNat, sd_kth]); (try simp only [List.getD_cons_zero, List.getD_cons_succ]); ((repeat (first | rw [if_pos (by first | assumption | omega)] | rw [if_neg (by first | assumption | omega)] | rw [if_pos (by first | exact Or.inl (by assumption) | exact Or.inr (by assumption))] | rw [if_neg (fun q => by rcases q with q | q; omega; contradiction)])); try rfl)) hx
    ·
      subst zs21
      refine sd_aload_n sD10_of_21 rfl ?_
      refine sd_getfr sD10_of_22 sF10_10 sGC120_0 ?_
      refine sd_getfr sD10_of_25 sF10_41 sGC53_2 ?_
      refine sd_iload_n sD10_of_28 rfl ?_
      refine sd_gets900 sD10_of_29 sF10_73 ?_
      refine sd_iload_n sD10_of_32 rfl ?_
      refine sd_ro900 (v := 6) sD10_of_33 (by decide) (by decide) ?_
      refine sd_callVp (as := [.inl h, .inl 6]) (st := []) (v := .inl (sd_fo x h 6)) sD10_of_34 sM10_69 sOC13 rfl rfl rfl (by decide) (Nat.le_of_ble_eq_true rfl) (cC_findingOf h 6 _ m hx h1 h2) (fun ho34 => ?_)
      rcases (show sd_fo x h 6 = 0 ∨ sd_fo x h 6 = -1000003 ∨ sd_fo x h 6 = -1000001 from sd_fo_or x h 6) with zf37 | zf37 | zf37
      ·
        refine sd_eqs (ls' := [some (.inr 120), some (.inl h), some (.inl 12), none]) (st' := [.inl 0]) ?_ rfl (by rw [zf37])
        have zA34 := sd_foA zf37
        refine sd_istore_n (ls' := [some (.inr 120), some (.inl h), some (.inl 12), some (.inl 0)]) sD10_of_37 (by decide) rfl ?_
        refine sd_iload_n sD10_of_38 rfl ?_
        refine sd_if_eq (tgt := 48) sD10_of_39 (by decide) (fun zc39 => ?_) (fun zc39 => (by exfalso; omega))
        refine sd_iload_n sD10_of_48 rfl ?_
        refine sd_bipush sD10_of_49 rfl (by decide) ?_
        refine sd_icmp_ne (tgt := 68) sD10_of_51 (by decide) (fun zc51 => ?_) (fun zc51 => (by exfalso; omega))
        refine sd_aload_n sD10_of_68 rfl ?_
        refine sd_getfr sD10_of_69 sF10_10 sGC120_0 ?_
        refine sd_getfr sD10_of_72 sF10_41 sGC53_2 ?_
        refine sd_iload_n sD10_of_75 rfl ?_
        refine sd_iload_n sD10_of_76 rfl ?_
        refine sd_callVp (as := [.inl h, .inl 12]) (st := []) (v := .inl (sd_num x h.toNat 12)) sD10_of_77 sM10_83 sOC13 rfl rfl rfl (by decide) (Nat.le_of_ble_eq_true rfl) (cC_numberI h 12 _ m hx h1 (by omega)) (fun ho77 => ?_)
        refine sd_ireturn sD10_of_80 rfl (fun hr hm => ?_)
        first | (exfalso; omega) | exact sd_done (by unfold sp_of; (try simp only [Int.reduceToNat, sd_kth]); (try simp only [List.getD_cons_zero, List.getD_cons_succ]); ((repeat (first | rw [if_pos (by first | assumption | omega)] | rw [if_neg (by first | assumption | omega)] | rw [if_pos (by first | exact Or.inl (by assumption) | exact Or.inr (by assumption))] | rw [if_neg (fun q => by rcases q with q | q; omega; contradiction)])); try rfl)) hx
      ·
        refine sd_eqs (ls' := [some (.inr 120), some (.inl h), some (.inl 12), none]) (st' := [.inl (-1000003)]) ?_ rfl (by rw [zf37])
        have zA34 := sd_foK zf37
        refine sd_istore_n (ls' := [some (.inr 120), some (.inl h), some (.inl 12), some (.inl (-1000003))]) sD10_of_37 (by decide) rfl ?_
        refine sd_iload_n sD10_of_38 rfl ?_
        refine sd_if_eq (tgt := 48) sD10_of_39 (by decide) (fun zc39 => (by exfalso; omega)) (fun zc39 => ?_)
        refine sd_aload_n sD10_of_42 rfl ?_
        refine sd_iload_n sD10_of_43 rfl ?_
        refine sd_callV (as := [.inl (-1000003)]) (st := []) sD10_of_44 sM10_52 rfl rfl sOC120 rfl (by decide) (Nat.le_of_ble_eq_true rfl) (cC_found (-1000003) 2 (by decide) (by decide) _ m hx (hF 2 (by decide))) (fun r m hq ho44 hm => ?_)
        obtain ⟨rfl, hx⟩ := hq
        show sd_Wp sd_SC 4 sY10_of 47 [some (.inr 120), some (.inl h), some (.inl 12), some (.inl (-1000003))] [.inl (-1000003)] m _
        refine sd_ireturn sD10_of_47 rfl (fun hr hm => ?_)
        first | (exfalso; omega) | exact sd_done (by unfold sp_of; (try simp only [Int.reduceToNat, sd_kth]); (try simp only [List.getD_cons_zero, List.getD_cons_succ]); ((repeat (first | rw [if_pos (by first | assumption | omega)] | rw [if_neg (by first | assumption | omega)] | rw [if_pos (by first | exact Or.inl (by assumption) | exact Or.inr (by assumption))] | rw [if_neg (fun q => by rcases q with q | q; omega; contradiction)])); try rfl)) hx
      ·
        refine sd_eqs (ls' := [some (.inr 120), some (.inl h), some (.inl 12), none]) (st' := [.inl (-1000001)]) ?_ rfl (by rw [zf37])
        have zA34 := sd_foB zf37
        refine sd_istore_n (ls' := [some (.inr 120), some (.inl h), some (.inl 12), some (.inl (-1000001))]) sD10_of_37 (by decide) rfl ?_
        refine sd_iload_n sD10_of_38 rfl ?_
        refine sd_if_eq (tgt := 48) sD10_of_39 (by decide) (fun zc39 => (by exfalso; omega)) (fun zc39 => ?_)
        refine sd_aload_n sD10_of_42 rfl ?_
        refine sd_iload_n sD10_of_43 rfl ?_
        refine sd_callV (as := [.inl (-1000001)]) (st := []) sD10_of_44 sM10_52 rfl rfl sOC120 rfl (by decide) (Nat.le_of_ble_eq_true rfl) (cC_found (-1000001) 0 (by decide) (by decide) _ m hx (hF 0 (by decide))) (fun r m hq ho44 hm => ?_)
        obtain ⟨rfl, hx⟩ := hq
        show sd_Wp sd_SC 4 sY10_of 47 [some (.inr 120), some (.inl h), some (.inl 12), some (.inl (-1000001))] [.inl (-1000001)] m _
        refine sd_ireturn sD10_of_47 rfl (fun hr hm => ?_)
        first | (exfalso; omega) | exact sd_done (by unfold sp_of; (try simp only [Int.reduceToNat, sd_kth]); (try simp only [List.getD_cons_zero, List.getD_cons_succ]); ((repeat (first | rw [if_pos (by first | assumption | omega)] | rw [if_neg (by first | assumption | omega)] | rw [if_pos (by first | exact Or.inl (by assumption) | exact Or.inr (by assumption))] | rw [if_neg (fun q => by rcases q with q | q; omega; contradiction)])); try rfl)) hx
  ·
    refine sd_aload_n sD10_of_14 rfl ?_
    refine sd_ldc (z := -1000001) sD10_of_15 sK10_51 (by decide) ?_
    refine sd_callV (as := [.inl (-1000001)]) (st := []) sD10_of_17 sM10_52 rfl rfl sOC120 rfl (by decide) (Nat.le_of_ble_eq_true rfl) (cC_found (-1000001) 0 (by decide) (by decide) _ m hx (hF 0 (by decide))) (fun r m hq ho17 hm => ?_)
    obtain ⟨rfl, hx⟩ := hq
    show sd_Wp sd_SC 4 sY10_of 20 [some (.inr 120), some (.inl h), some (.inl w), none] [.inl (-1000001)] m _
    refine sd_ireturn sD10_of_20 rfl (fun hr hm => ?_)
    first | (exfalso; omega) | exact sd_done (by unfold sp_of; (try simp only [Int.reduceToNat, sd_kth]); (try simp only [List.getD_cons_zero, List.getD_cons_succ]); ((repeat (first | rw [if_pos (by first | assumption | omega)] | rw [if_neg (by first | assumption | omega)] | rw [if_pos (by first | exact Or.inl (by assumption) | exact Or.inr (by assumption))] | rw [if_neg (fun q => by rcases q with q | q; omega; contradiction)])); try rfl)) hx
