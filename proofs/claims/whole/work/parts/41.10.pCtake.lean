set_option maxRecDepth 100000 in
set_option maxHeartbeats 4000000 in
theorem pC_take (g : Int) (x m : sd_M) (hx : sd_ns x m) (h1 : sd_I1 x) (h2 : sd_I2 x) (h3 : sd_I3 x) (h4 : sd_I4 x) (h6 : sd_I6 x) (hR : sd_IR x) (hF : ∀ k : Nat, k < 7 → 0 ≤ x (4101 + k) ∧ x (4101 + k) ≤ 1000000) : sd_Ct sd_SC 4 sY10_take [.inr 120, .inl g] m (sd_Qp (sp_take x g)) := by
  refine sd_ct rfl (Nat.le_of_ble_eq_true rfl) (fun hok hm => ?_)
  obtain ⟨⟨i0, j0⟩, ⟨i1, j1⟩, ⟨i2, j2⟩, ⟨i3, j3⟩, ⟨i4, j4⟩, ⟨i5, j5⟩, ⟨i6, j6⟩, ⟨i7, j7⟩, ⟨i8, j8⟩⟩ := id h1
  have r_g : sd_R g := hok (.inl g) (by simp)
  show sd_Wp sd_SC 4 sY10_take 0 [some (.inr 120), some (.inl g), none, none] [] m _
  refine sd_aload_n sD10_take_0 rfl ?_
  refine sd_getfr sD10_take_1 sF10_10 sGC120_0 ?_
  refine sd_getfr sD10_take_4 sF10_41 sGC53_2 ?_
  refine sd_iload_n sD10_take_7 rfl ?_
  refine sd_iconst sD10_take_8 (by decide) ?_
  refine sd_callVp (as := [.inl g, .inl 3]) (st := []) (v := .inl (sd_fo x g 3)) sD10_take_9 sM10_69 sOC13 rfl rfl rfl (by decide) (Nat.le_of_ble_eq_true rfl) (cC_findingOf g 3 _ m hx h1 h2) (fun ho9 => ?_)
  rcases (show sd_fo x g 3 = 0 ∨ sd_fo x g 3 = -1000003 ∨ sd_fo x g 3 = -1000001 from sd_fo_or x g 3) with zf12 | zf12 | zf12
  ·
    refine sd_eqs (ls' := [some (.inr 120), some (.inl g), none, none]) (st' := [.inl 0]) ?_ rfl (by rw [zf12])
    have zA9 := sd_foA zf12
    refine sd_istore_n (ls' := [some (.inr 120), some (.inl g), some (.inl 0), none]) sD10_take_12 (by decide) rfl ?_
    refine sd_iload_n sD10_take_13 rfl ?_
    refine sd_if_eq (tgt := 23) sD10_take_14 (by decide) (fun zc14 => ?_) (fun zc14 => (by exfalso; omega))
    refine sd_aload_n sD10_take_23 rfl ?_
    refine sd_getfr sD10_take_24 sF10_10 sGC120_0 ?_
    refine sd_getfr sD10_take_27 sF10_41 sGC53_2 ?_
    refine sd_getfr sD10_take_30 sF10_173 sGC13_10 ?_
    refine sd_iload_n sD10_take_33 rfl ?_
    refine sd_ialdx (a := (202 + g.toNat)) (v := x (202 + g.toNat)) hx sD10_take_34 sAC8 (by omega) rfl ?_
    refine sd_iconst sD10_take_35 (by decide) ?_
    refine sd_icmp_eq (tgt := 72) sD10_take_36 (by decide) (fun zc36 => ?_) (fun zc36 => ?_)
    ·
      refine sd_aload_n sD10_take_72 rfl ?_
      refine sd_ldc (z := -1000005) sD10_take_73 sK10_123 (by decide) ?_
      refine sd_callV (as := [.inl (-1000005)]) (st := []) sD10_take_75 sM10_52 rfl rfl sOC120 rfl (by decide) (Nat.le_of_ble_eq_true rfl) (cC_found (-1000005) 4 (by decide) (by decide) _ m hx (hF 4 (by decide))) (fun r m hq ho75 hm => ?_)
      obtain ⟨rfl, hx⟩ := hq
      show sd_Wp sd_SC 4 sY10_take 78 [some (.inr 120), some (.inl g), some (.inl 0), none] [.inl (-1000005)] m _
      refine sd_ireturn sD10_take_78 rfl (fun hr hm => ?_)
      exact sd_done (by unfold sp_take; ((repeat (first | rw [if_pos (by first | assumption | omega)] | rw [if_neg (by first | assumption | omega)] | rw [if_pos (by first | exact Or.inl (by assumption) | exact Or.inr (by assumption))] | rw [if_neg (fun q => by rcases q with q | q; omega; contradiction)])); try rfl)) hx
    ·
      have e3 := sd_gA h1 h3 (i := g.toNat) (by omega) (by omega)
      refine sd_aload_n sD10_take_39 rfl ?_
      refine sd_getfr sD10_take_40 sF10_10 sGC120_0 ?_
      refine sd_getfr sD10_take_43 sF10_145 sGC53_5 ?_
      refine sd_aload_n sD10_take_46 rfl ?_
      refine sd_getfr sD10_take_47 sF10_10 sGC120_0 ?_
      refine sd_iconst sD10_take_50 (by decide) ?_
      refine sd_aload_n sD10_take_51 rfl ?_
      refine sd_getfr sD10_take_52 sF10_10 sGC120_0 ?_
      refine sd_getfr sD10_take_55 sF10_41 sGC53_2 ?_
      refine sd_getfr sD10_take_58 sF10_176 sGC13_3 ?_
      refine sd_iload_n sD10_take_61 rfl ?_
      refine sd_ialdx (a := (34 + g.toNat)) (v := x (34 + g.toNat)) hx sD10_take_62 sAC1 (by omega) rfl ?_
      refine sd_callV (as := [.inl 2, .inl (x (34 + g.toNat))]) (st := [.inr 36]) sD10_take_63 sM10_149 rfl rfl sOC53 rfl (by decide) (Nat.le_of_ble_eq_true rfl) (cC_clauseAt 2 (x (34 + g.toNat)) _ m hx (by omega) h1 h2 h4 h6 hR) (fun r m hq ho63 hm => ?_)
      obtain ⟨rfl, hx⟩ := hq
      have zk63 := sd_clx_rng h1 hR 2 (x (34 + g.toNat))
      show sd_Wp sd_SC 4 sY10_take 66 [some (.inr 120), some (.inl g), some (.inl 0), none] [.inl (sd_clx x 2 (x (34 + g.toNat))), .inr 36] m _
      refine sd_callVp (as := [.inl (sd_clx x 2 (x (34 + g.toNat)))]) (st := []) (v := .inl (sd_b (sd_brs x (sd_clx x 2 (x (34 + g.toNat)))))) sD10_take_66 sM10_152 sOC36 rfl rfl rfl (by decide) (Nat.le_of_ble_eq_true rfl) (cC_bars (sd_clx x 2 (x (34 + g.toNat))) _ m hx  (by omega)) (fun ho66 => ?_)
      refine sd_bif_eq (tgt := 79) sD10_take_69 (by decide) (fun zc69 => ?_) (fun zc69 => ?_)
      ·
        refine sd_aload_n sD10_take_79 rfl ?_
        refine sd_getfr sD10_take_80 sF10_10 sGC120_0 ?_
        refine sd_iload_n sD10_take_83 rfl ?_
        refine sd_callVp (as := [.inl g]) (st := []) (v := .inl (sd_frc x g.toNat)) sD10_take_84 sM10_170 sOC53 rfl rfl rfl (by decide) (Nat.le_of_ble_eq_true rfl) (cC_forceAt g _ m hx h1 h2 h3 h4 (by omega)) (fun ho84 => ?_)
        refine sd_istore_n (ls' := [some (.inr 120), some (.inl g), some (.inl 0), some (.inl (sd_frc x g.toNat))]) sD10_take_87 (by decide) rfl ?_
        refine sd_iload_n sD10_take_88 rfl ?_
        refine sd_if_eq (tgt := 108) sD10_take_89 (by decide) (fun zc89 => ?_) (fun zc89 => ?_)
        ·
          refine sd_aload_n sD10_take_108 rfl ?_
          refine sd_ldc (z := -1000004) sD10_take_109 sK10_130 (by decide) ?_
          refine sd_callV (as := [.inl (-1000004)]) (st := []) sD10_take_111 sM10_52 rfl rfl sOC120 rfl (by decide) (Nat.le_of_ble_eq_true rfl) (cC_found (-1000004) 3 (by decide) (by decide) _ m hx (hF 3 (by decide))) (fun r m hq ho111 hm => ?_)
          obtain ⟨rfl, hx⟩ := hq
          show sd_Wp sd_SC 4 sY10_take 114 [some (.inr 120), some (.inl g), some (.inl 0), some (.inl (sd_frc x g.toNat))] [.inl (-1000004)] m _
          refine sd_ireturn sD10_take_114 rfl (fun hr hm => ?_)
          exact sd_done (by unfold sp_take; ((repeat (first | rw [if_pos (by first | assumption | omega)] | rw [if_neg (by first | assumption | omega)] | rw [if_pos (by first | exact Or.inl (by assumption) | exact Or.inr (by assumption))] | rw [if_neg (fun q => by rcases q with q | q; omega; contradiction)])); try rfl)) hx
        ·
          refine sd_iload_n sD10_take_92 rfl ?_
          refine sd_aload_n sD10_take_93 rfl ?_
          refine sd_getfr sD10_take_94 sF10_10 sGC120_0 ?_
          refine sd_getfr sD10_take_97 sF10_41 sGC53_2 ?_
          refine sd_getfr sD10_take_100 sF10_179 sGC13_11 ?_
          refine sd_iload_n sD10_take_103 rfl ?_
          refine sd_ialdx (a := (226 + g.toNat)) (v := x (226 + g.toNat)) hx sD10_take_104 sAC9 (by omega) rfl ?_
          refine sd_icmp_ge (tgt := 115) sD10_take_105 (by decide) (fun zc105 => ?_) (fun zc105 => ?_)
          ·
            refine sd_aload_n sD10_take_115 rfl ?_
            refine sd_getfr sD10_take_116 sF10_10 sGC120_0 ?_
            refine sd_getfr sD10_take_119 sF10_41 sGC53_2 ?_
            refine sd_getfr sD10_take_122 sF10_173 sGC13_10 ?_
            refine sd_iload_n sD10_take_125 rfl ?_
            refine sd_iconst sD10_take_126 (by decide) ?_
            refine sd_iastx (a := (202 + g.toNat)) sd_sokC hx sD10_take_127 sAC8 (by omega) (fun m hx em127 => ?_)
            refine sd_aload_n sD10_take_128 rfl ?_
            refine sd_getfr sD10_take_129 sF10_10 sGC120_0 ?_
            refine sd_getfr sD10_take_132 sF10_41 sGC53_2 ?_
            refine sd_getfr sD10_take_135 sF10_179 sGC13_11 ?_
            refine sd_iload_n sD10_take_138 rfl ?_
            refine sd_iconst sD10_take_139 (by decide) ?_
            refine sd_iastx (a := (226 + g.toNat)) sd_sokC hx sD10_take_140 sAC9 (by omega) (fun m hx em140 => ?_)
            refine sd_iload_n sD10_take_141 rfl ?_
            refine sd_ireturn sD10_take_142 rfl (fun hr hm => ?_)
            exact sd_done (by unfold sp_take; ((repeat (first | rw [if_pos (by first | assumption | omega)] | rw [if_neg (by first | assumption | omega)] | rw [if_pos (by first | exact Or.inl (by assumption) | exact Or.inr (by assumption))] | rw [if_neg (fun q => by rcases q with q | q; omega; contradiction)])); try rfl)) hx
          ·
            refine sd_aload_n sD10_take_108 rfl ?_
            refine sd_ldc (z := -1000004) sD10_take_109 sK10_130 (by decide) ?_
            refine sd_callV (as := [.inl (-1000004)]) (st := []) sD10_take_111 sM10_52 rfl rfl sOC120 rfl (by decide) (Nat.le_of_ble_eq_true rfl) (cC_found (-1000004) 3 (by decide) (by decide) _ m hx (hF 3 (by decide))) (fun r m hq ho111 hm => ?_)
            obtain ⟨rfl, hx⟩ := hq
            show sd_Wp sd_SC 4 sY10_take 114 [some (.inr 120), some (.inl g), some (.inl 0), some (.inl (sd_frc x g.toNat))] [.inl (-1000004)] m _
            refine sd_ireturn sD10_take_114 rfl (fun hr hm => ?_)
            exact sd_done (by unfold sp_take; ((repeat (first | rw [if_pos (by first | assumption | omega)] | rw [if_neg (by first | assumption | omega)] | rw [if_pos (by first | exact Or.inl (by assumption) | exact Or.inr (by assumption))] | rw [if_neg (fun q => by rcases q with q | q; omega; contradiction)])); try rfl)) hx
      ·
        refine sd_aload_n sD10_take_72 rfl ?_
        refine sd_ldc (z := -1000005) sD10_take_73 sK10_123 (by decide) ?_
        refine sd_callV (as := [.inl (-1000005)]) (st := []) sD10_take_75 sM10_52 rfl rfl sOC120 rfl (by decide) (Nat.le_of_ble_eq_true rfl) (cC_found (-1000005) 4 (by decide) (by decide) _ m hx (hF 4 (by decide))) (fun r m hq ho75 hm => ?_)
        obtain ⟨rfl, hx⟩ := hq
        show sd_Wp sd_SC 4 sY10_take 78 [some (.inr 120), some (.inl g), some (.inl 0), none] [.inl (-1000005)] m _
        refine sd_ireturn sD10_take_78 rfl (fun hr hm => ?_)
        exact sd_done (by unfold sp_take; ((repeat (first | rw [if_pos (by first | assumption | omega)] | rw [if_neg (by first | assumption | omega)] | rw [if_pos (by first | exact Or.inl (by assumption) | exact Or.inr (by assumption))] | rw [if_neg (fun q => by rcases q with q | q; omega; contradiction)])); try rfl)) hx
  ·
    refine sd_eqs (ls' := [some (.inr 120), some (.inl g), none, none]) (st' := [.inl (-1000003)]) ?_ rfl (by rw [zf12])
    have zA9 := sd_foK zf12
    refine sd_istore_n (ls' := [some (.inr 120), some (.inl g), some (.inl (-1000003)), none]) sD10_take_12 (by decide) rfl ?_
    refine sd_iload_n sD10_take_13 rfl ?_
    refine sd_if_eq (tgt := 23) sD10_take_14 (by decide) (fun zc14 => (by exfalso; omega)) (fun zc14 => ?_)
    refine sd_aload_n sD10_take_17 rfl ?_
    refine sd_iload_n sD10_take_18 rfl ?_
    refine sd_callV (as := [.inl (-1000003)]) (st := []) sD10_take_19 sM10_52 rfl rfl sOC120 rfl (by decide) (Nat.le_of_ble_eq_true rfl) (cC_found (-1000003) 2 (by decide) (by decide) _ m hx (hF 2 (by decide))) (fun r m hq ho19 hm => ?_)
    obtain ⟨rfl, hx⟩ := hq
    show sd_Wp sd_SC 4 sY10_take 22 [some (.inr 120), some (.inl g), some (.inl (-1000003)), none] [.inl (-1000003)] m _
    refine sd_ireturn sD10_take_22 rfl (fun hr hm => ?_)
    exact sd_done (by unfold sp_take; ((repeat (first | rw [if_pos (by first | assumption | omega)] | rw [if_neg (by first | assumption | omega)] | rw [if_pos (by first | exact Or.inl (by assumption) | exact Or.inr (by assumption))] | rw [if_neg (fun q => by rcases q with q | q; omega; contradiction)])); try rfl)) hx
  ·
    refine sd_eqs (ls' := [some (.inr 120), some (.inl g), none, none]) (st' := [.inl (-1000001)]) ?_ rfl (by rw [zf12])
    have zA9 := sd_foB zf12
    refine sd_istore_n (ls' := [some (.inr 120), some (.inl g), some (.inl (-1000001)), none]) sD10_take_12 (by decide) rfl ?_
    refine sd_iload_n sD10_take_13 rfl ?_
    refine sd_if_eq (tgt := 23) sD10_take_14 (by decide) (fun zc14 => (by exfalso; omega)) (fun zc14 => ?_)
    refine sd_aload_n sD10_take_17 rfl ?_
    refine sd_iload_n sD10_take_18 rfl ?_
    refine sd_callV (as := [.inl (-1000001)]) (st := []) sD10_take_19 sM10_52 rfl rfl sOC120 rfl (by decide) (Nat.le_of_ble_eq_true rfl) (cC_found (-1000001) 0 (by decide) (by decide) _ m hx (hF 0 (by decide))) (fun r m hq ho19 hm => ?_)
    obtain ⟨rfl, hx⟩ := hq
    show sd_Wp sd_SC 4 sY10_take 22 [some (.inr 120), some (.inl g), some (.inl (-1000001)), none] [.inl (-1000001)] m _
    refine sd_ireturn sD10_take_22 rfl (fun hr hm => ?_)
    exact sd_done (by unfold sp_take; ((repeat (first | rw [if_pos (by first | assumption | omega)] | rw [if_neg (by first | assumption | omega)] | rw [if_pos (by first | exact Or.inl (by assumption) | exact Or.inr (by assumption))] | rw [if_neg (fun q => by rcases q with q | q; omega; contradiction)])); try rfl)) hx
