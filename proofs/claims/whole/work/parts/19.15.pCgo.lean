set_option maxRecDepth 100000 in
set_option maxHeartbeats 4000000 in
theorem pC_go (i : Int) (h : Int) (x m : sd_M) (hx : sd_ns x m) (h1 : sd_I1 x) (h2 : sd_I2 x) (h3 : sd_I3 x) (h4 : sd_I4 x) (hF : ∀ k : Nat, k < 7 → 0 ≤ x (4101 + k) ∧ x (4101 + k) ≤ 1000000) : sd_Ct sd_SC 3 sY10_go [.inr 120, .inl i, .inl h] m (sd_Qp (sp_go x i h)) := by
  refine sd_ct rfl (Nat.le_of_ble_eq_true rfl) (fun hok hm => ?_)
  obtain ⟨⟨i0, j0⟩, ⟨i1, j1⟩, ⟨i2, j2⟩, ⟨i3, j3⟩, ⟨i4, j4⟩, ⟨i5, j5⟩, ⟨i6, j6⟩, ⟨i7, j7⟩, ⟨i8, j8⟩⟩ := id h1
  have r_i : sd_R i := hok (.inl i) (by simp)
  have r_h : sd_R h := hok (.inl h) (by simp)
  show sd_Wp sd_SC 3 sY10_go 0 [some (.inr 120), some (.inl i), some (.inl h), none, none] [] m _
  refine sd_aload_n sD10_go_0 rfl ?_
  refine sd_getfr sD10_go_1 sF10_10 sGC120_0 ?_
  refine sd_getfr sD10_go_4 sF10_106 sGC53_3 ?_
  refine sd_iload_n sD10_go_7 rfl ?_
  refine sd_callVp (as := [.inl i]) (st := []) (v := .inl (sd_b (sd_isM x i))) sD10_go_8 sM10_116 sOC18 rfl rfl rfl (by decide) (Nat.le_of_ble_eq_true rfl) (cC_has i _ m hx h1 ) (fun ho8 => ?_)
  refine sd_bif_ne (tgt := 21) sD10_go_11 (by decide) (fun zc11 => ?_) (fun zc11 => ?_)
  ·
    refine sd_aload_n sD10_go_21 rfl ?_
    refine sd_getfr sD10_go_22 sF10_10 sGC120_0 ?_
    refine sd_getfr sD10_go_25 sF10_41 sGC53_2 ?_
    refine sd_iload_n sD10_go_28 rfl ?_
    refine sd_iconst sD10_go_29 (by decide) ?_
    refine sd_callVp (as := [.inl h, .inl 1]) (st := []) (v := .inl (sd_fo x h 1)) sD10_go_30 sM10_69 sOC13 rfl rfl rfl (by decide) (Nat.le_of_ble_eq_true rfl) (cC_findingOf h 1 _ m hx h1 h2) (fun ho30 => ?_)
    rcases (show sd_fo x h 1 = 0 ∨ sd_fo x h 1 = -1000003 ∨ sd_fo x h 1 = -1000001 from sd_fo_or x h 1) with zf33 | zf33 | zf33
    ·
      refine sd_eqs (ls' := [some (.inr 120), some (.inl i), some (.inl h), none, none]) (st' := [.inl 0]) ?_ rfl (by rw [zf33])
      have zA30 := sd_foA zf33
      refine sd_istore_n (ls' := [some (.inr 120), some (.inl i), some (.inl h), some (.inl 0), none]) sD10_go_33 (by decide) rfl ?_
      refine sd_iload_n sD10_go_34 rfl ?_
      refine sd_if_eq (tgt := 44) sD10_go_35 (by decide) (fun zc35 => ?_) (fun zc35 => (by exfalso; omega))
      have e4 := (h4 i.toNat (by omega)).1
      refine sd_aload_n sD10_go_44 rfl ?_
      refine sd_getfr sD10_go_45 sF10_10 sGC120_0 ?_
      refine sd_getfr sD10_go_48 sF10_106 sGC53_3 ?_
      refine sd_getfr sD10_go_51 sF10_120 sGC18_1 ?_
      refine sd_iload_n sD10_go_54 rfl ?_
      refine sd_ialdx (a := (322 + i.toNat)) (v := x (322 + i.toNat)) hx sD10_go_55 sAC14 (by omega) rfl ?_
      refine sd_istore (ls' := [some (.inr 120), some (.inl i), some (.inl h), some (.inl 0), some (.inl (x (322 + i.toNat)))]) sD10_go_56 (by decide) rfl ?_
      refine sd_iload sD10_go_58 rfl ?_
      refine sd_iconst sD10_go_60 (by decide) ?_
      refine sd_icmp_ne (tgt := 71) sD10_go_61 (by decide) (fun zc61 => ?_) (fun zc61 => ?_)
      ·
        have e4 := (h4 i.toNat (by omega)).1
        have e9 := sd_and1 (sd_shr (sd_rch x (sd_shl 1 (x (322 + i.toNat))) 8) h)
        refine sd_aload_n sD10_go_71 rfl ?_
        refine sd_getfr sD10_go_72 sF10_10 sGC120_0 ?_
        refine sd_iload sD10_go_75 rfl ?_
        refine sd_bipush sD10_go_77 rfl (by decide) ?_
        refine sd_callVp (as := [.inl (x (322 + i.toNat)), .inl 8]) (st := []) (v := .inl (sd_rch x (sd_shl 1 (x (322 + i.toNat))) 8)) sD10_go_79 sM10_124 sOC53 rfl rfl rfl (by decide) (Nat.le_of_ble_eq_true rfl) (cC_reachedFrom (x (322 + i.toNat)) 8 _ m hx h1 h2 h3 (by omega)) (fun ho79 => ?_)
        refine sd_iload_n sD10_go_82 rfl ?_
        refine sd_callSp (as := [.inl (sd_rch x (sd_shl 1 (x (322 + i.toNat))) 8), .inl h]) (st := []) (v := .inl (sd_b (sd_bit (sd_rch x (sd_shl 1 (x (322 + i.toNat))) 8) h))) sD10_go_83 sM10_127 rfl rfl (by decide) (Nat.le_of_ble_eq_true rfl) (cC_isIn (sd_rch x (sd_shl 1 (x (322 + i.toNat))) 8) h m) (fun ho83 => ?_)
        refine sd_bif_ne (tgt := 96) sD10_go_86 (by decide) (fun zc86 => ?_) (fun zc86 => ?_)
        ·
          refine sd_aload_n sD10_go_96 rfl ?_
          refine sd_getfr sD10_go_97 sF10_10 sGC120_0 ?_
          refine sd_getfr sD10_go_100 sF10_106 sGC53_3 ?_
          refine sd_getfr sD10_go_103 sF10_120 sGC18_1 ?_
          refine sd_iload_n sD10_go_106 rfl ?_
          refine sd_iload_n sD10_go_107 rfl ?_
          refine sd_iastx (a := (322 + i.toNat)) sd_sokC hx sD10_go_108 sAC14 (by omega) (fun m hx em108 => ?_)
          refine sd_iload sD10_go_109 rfl ?_
          refine sd_iload_n sD10_go_111 rfl ?_
          refine sd_cut (J := 120) (ls := [some (.inr 120), some (.inl i), some (.inl h), some (.inl 0), some (.inl (x (322 + i.toNat)))]) (st := []) (fun zv => zv = (sd_b (¬ x (322 + i.toNat) = h))) (fun zv hzv => ?_) (fun K112 => ?_)
          ·
            subst hzv
            refine sd_callSp (as := [.inl (sd_b (¬ x (322 + i.toNat) = h))]) (st := []) (v := .inl (sd_b (¬ x (322 + i.toNat) = h))) sD10_go_120 sM10_79 rfl rfl (by decide) (Nat.le_of_ble_eq_true rfl) (cC_asNumber (¬ x (322 + i.toNat) = h) m) (fun ho120 => ?_)
            refine sd_ireturn sD10_go_123 rfl (fun hr hm => ?_)
            exact sd_done (by unfold sp_go; ((repeat (first | rw [if_pos (by first | assumption | omega)] | rw [if_neg (by first | assumption | omega)])); try rfl)) hx
          ·
            refine sd_icmp_eq (tgt := 119) sD10_go_112 (by decide) (fun zc112 => ?_) (fun zc112 => ?_)
            ·
              refine sd_iconst sD10_go_119 (by decide) ?_
              exact K112 _ (by exact (sd_b0 (by omega)).symm)
            ·
              refine sd_iconst sD10_go_115 (by decide) ?_
              refine sd_goto (tgt := 120) sD10_go_116 (by decide) ?_
              exact K112 _ (by exact (sd_b1 (by omega)).symm)
        ·
          refine sd_aload_n sD10_go_89 rfl ?_
          refine sd_ldc (z := -1000004) sD10_go_90 sK10_130 (by decide) ?_
          refine sd_callV (as := [.inl (-1000004)]) (st := []) sD10_go_92 sM10_52 rfl rfl sOC120 rfl (by decide) (Nat.le_of_ble_eq_true rfl) (cC_found (-1000004) 3 (by decide) (by decide) _ m hx (hF 3 (by decide))) (fun r m hq ho92 hm => ?_)
          obtain ⟨rfl, hx⟩ := hq
          show sd_Wp sd_SC 3 sY10_go 95 [some (.inr 120), some (.inl i), some (.inl h), some (.inl 0), some (.inl (x (322 + i.toNat)))] [.inl (-1000004)] m _
          refine sd_ireturn sD10_go_95 rfl (fun hr hm => ?_)
          exact sd_done (by unfold sp_go; ((repeat (first | rw [if_pos (by first | assumption | omega)] | rw [if_neg (by first | assumption | omega)])); try rfl)) hx
      ·
        refine sd_aload_n sD10_go_64 rfl ?_
        refine sd_ldc (z := -1000005) sD10_go_65 sK10_123 (by decide) ?_
        refine sd_callV (as := [.inl (-1000005)]) (st := []) sD10_go_67 sM10_52 rfl rfl sOC120 rfl (by decide) (Nat.le_of_ble_eq_true rfl) (cC_found (-1000005) 4 (by decide) (by decide) _ m hx (hF 4 (by decide))) (fun r m hq ho67 hm => ?_)
        obtain ⟨rfl, hx⟩ := hq
        show sd_Wp sd_SC 3 sY10_go 70 [some (.inr 120), some (.inl i), some (.inl h), some (.inl 0), some (.inl (x (322 + i.toNat)))] [.inl (-1000005)] m _
        refine sd_ireturn sD10_go_70 rfl (fun hr hm => ?_)
        exact sd_done (by unfold sp_go; ((repeat (first | rw [if_pos (by first | assumption | omega)] | rw [if_neg (by first | assumption | omega)])); try rfl)) hx
    ·
      refine sd_eqs (ls' := [some (.inr 120), some (.inl i), some (.inl h), none, none]) (st' := [.inl (-1000003)]) ?_ rfl (by rw [zf33])
      have zA30 := sd_foK zf33
      refine sd_istore_n (ls' := [some (.inr 120), some (.inl i), some (.inl h), some (.inl (-1000003)), none]) sD10_go_33 (by decide) rfl ?_
      refine sd_iload_n sD10_go_34 rfl ?_
      refine sd_if_eq (tgt := 44) sD10_go_35 (by decide) (fun zc35 => (by exfalso; omega)) (fun zc35 => ?_)
      refine sd_aload_n sD10_go_38 rfl ?_
      refine sd_iload_n sD10_go_39 rfl ?_
      refine sd_callV (as := [.inl (-1000003)]) (st := []) sD10_go_40 sM10_52 rfl rfl sOC120 rfl (by decide) (Nat.le_of_ble_eq_true rfl) (cC_found (-1000003) 2 (by decide) (by decide) _ m hx (hF 2 (by decide))) (fun r m hq ho40 hm => ?_)
      obtain ⟨rfl, hx⟩ := hq
      show sd_Wp sd_SC 3 sY10_go 43 [some (.inr 120), some (.inl i), some (.inl h), some (.inl (-1000003)), none] [.inl (-1000003)] m _
      refine sd_ireturn sD10_go_43 rfl (fun hr hm => ?_)
      exact sd_done (by unfold sp_go; ((repeat (first | rw [if_pos (by first | assumption | omega)] | rw [if_neg (by first | assumption | omega)])); try rfl)) hx
    ·
      refine sd_eqs (ls' := [some (.inr 120), some (.inl i), some (.inl h), none, none]) (st' := [.inl (-1000001)]) ?_ rfl (by rw [zf33])
      have zA30 := sd_foB zf33
      refine sd_istore_n (ls' := [some (.inr 120), some (.inl i), some (.inl h), some (.inl (-1000001)), none]) sD10_go_33 (by decide) rfl ?_
      refine sd_iload_n sD10_go_34 rfl ?_
      refine sd_if_eq (tgt := 44) sD10_go_35 (by decide) (fun zc35 => (by exfalso; omega)) (fun zc35 => ?_)
      refine sd_aload_n sD10_go_38 rfl ?_
      refine sd_iload_n sD10_go_39 rfl ?_
      refine sd_callV (as := [.inl (-1000001)]) (st := []) sD10_go_40 sM10_52 rfl rfl sOC120 rfl (by decide) (Nat.le_of_ble_eq_true rfl) (cC_found (-1000001) 0 (by decide) (by decide) _ m hx (hF 0 (by decide))) (fun r m hq ho40 hm => ?_)
      obtain ⟨rfl, hx⟩ := hq
      show sd_Wp sd_SC 3 sY10_go 43 [some (.inr 120), some (.inl i), some (.inl h), some (.inl (-1000001)), none] [.inl (-1000001)] m _
      refine sd_ireturn sD10_go_43 rfl (fun hr hm => ?_)
      exact sd_done (by unfold sp_go; ((repeat (first | rw [if_pos (by first | assumption | omega)] | rw [if_neg (by first | assumption | omega)])); try rfl)) hx
  ·
    refine sd_aload_n sD10_go_14 rfl ?_
    refine sd_ldc (z := -1000001) sD10_go_15 sK10_51 (by decide) ?_
    refine sd_callV (as := [.inl (-1000001)]) (st := []) sD10_go_17 sM10_52 rfl rfl sOC120 rfl (by decide) (Nat.le_of_ble_eq_true rfl) (cC_found (-1000001) 0 (by decide) (by decide) _ m hx (hF 0 (by decide))) (fun r m hq ho17 hm => ?_)
    obtain ⟨rfl, hx⟩ := hq
    show sd_Wp sd_SC 3 sY10_go 20 [some (.inr 120), some (.inl i), some (.inl h), none, none] [.inl (-1000001)] m _
    refine sd_ireturn sD10_go_20 rfl (fun hr hm => ?_)
    exact sd_done (by unfold sp_go; ((repeat (first | rw [if_pos (by first | assumption | omega)] | rw [if_neg (by first | assumption | omega)])); try rfl)) hx
