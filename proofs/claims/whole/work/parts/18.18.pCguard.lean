set_option maxRecDepth 100000 in
set_option maxHeartbeats 4000000 in
theorem pC_guard (g : Int) (n : Int) (x m : sd_M) (hx : sd_ns x m) (h1 : sd_I1 x) (h2 : sd_I2 x) (h3 : sd_I3 x) (h4 : sd_I4 x) (hF : ∀ k : Nat, k < 7 → 0 ≤ x (4101 + k) ∧ x (4101 + k) ≤ 1000000) : sd_Ct sd_SC 4 sY10_guard [.inr 120, .inl g, .inl n] m (sd_Qp (sp_guard x g n)) := by
  refine sd_ct rfl (Nat.le_of_ble_eq_true rfl) (fun hok hm => ?_)
  obtain ⟨⟨i0, j0⟩, ⟨i1, j1⟩, ⟨i2, j2⟩, ⟨i3, j3⟩, ⟨i4, j4⟩, ⟨i5, j5⟩, ⟨i6, j6⟩, ⟨i7, j7⟩, ⟨i8, j8⟩⟩ := id h1
  have r_g : sd_R g := hok (.inl g) (by simp)
  have r_n : sd_R n := hok (.inl n) (by simp)
  show sd_Wp sd_SC 4 sY10_guard 0 [some (.inr 120), some (.inl g), some (.inl n), none] [] m _
  refine sd_iload_n sD10_guard_0 rfl ?_
  refine sd_iconst sD10_guard_1 (by decide) ?_
  refine sd_bipush sD10_guard_2 rfl (by decide) ?_
  refine sd_callSp (as := [.inl n, .inl 0, .inl 99]) (st := []) (v := .inl (sd_b (0 ≤ n ∧ n ≤ 99))) sD10_guard_4 sM10_65 rfl rfl (by decide) (Nat.le_of_ble_eq_true rfl) (cC_isWithin n 0 99 m) (fun ho4 => ?_)
  refine sd_bif_ne (tgt := 17) sD10_guard_7 (by decide) (fun zc7 => ?_) (fun zc7 => ?_)
  ·
    refine sd_aload_n sD10_guard_17 rfl ?_
    refine sd_getfr sD10_guard_18 sF10_10 sGC120_0 ?_
    refine sd_getfr sD10_guard_21 sF10_41 sGC53_2 ?_
    refine sd_iload_n sD10_guard_24 rfl ?_
    refine sd_iconst sD10_guard_25 (by decide) ?_
    refine sd_callVp (as := [.inl g, .inl 3]) (st := []) (v := .inl (sd_fo x g 3)) sD10_guard_26 sM10_69 sOC13 rfl rfl rfl (by decide) (Nat.le_of_ble_eq_true rfl) (cC_findingOf g 3 _ m hx h1 h2) (fun ho26 => ?_)
    rcases (show sd_fo x g 3 = 0 ∨ sd_fo x g 3 = -1000003 ∨ sd_fo x g 3 = -1000001 from sd_fo_or x g 3) with zf29 | zf29 | zf29
    ·
      refine sd_eqs (ls' := [some (.inr 120), some (.inl g), some (.inl n), none]) (st' := [.inl 0]) ?_ rfl (by rw [zf29])
      have zA26 := sd_foA zf29
      refine sd_istore_n (ls' := [some (.inr 120), some (.inl g), some (.inl n), some (.inl 0)]) sD10_guard_29 (by decide) rfl ?_
      refine sd_iload_n sD10_guard_30 rfl ?_
      refine sd_if_eq (tgt := 40) sD10_guard_31 (by decide) (fun zc31 => ?_) (fun zc31 => (by exfalso; omega))
      have e2 := (h2 g.toNat (by omega)).2.2.2.2.2.2.2.2.1
      refine sd_aload_n sD10_guard_40 rfl ?_
      refine sd_getfr sD10_guard_41 sF10_10 sGC120_0 ?_
      refine sd_getfr sD10_guard_44 sF10_41 sGC53_2 ?_
      refine sd_getfr sD10_guard_47 sF10_173 sGC13_10 ?_
      refine sd_iload_n sD10_guard_50 rfl ?_
      refine sd_ialdx (a := (202 + g.toNat)) (v := x (202 + g.toNat)) hx sD10_guard_51 sAC8 (by omega) rfl ?_
      refine sd_iconst sD10_guard_52 (by decide) ?_
      refine sd_icmp_ne (tgt := 70) sD10_guard_53 (by decide) (fun zc53 => ?_) (fun zc53 => ?_)
      ·
        refine sd_aload_n sD10_guard_70 rfl ?_
        refine sd_getfr sD10_guard_71 sF10_10 sGC120_0 ?_
        refine sd_getfr sD10_guard_74 sF10_41 sGC53_2 ?_
        refine sd_getfr sD10_guard_77 sF10_173 sGC13_10 ?_
        refine sd_iload_n sD10_guard_80 rfl ?_
        refine sd_iconst sD10_guard_81 (by decide) ?_
        refine sd_iastx (a := (202 + g.toNat)) sd_sokC hx sD10_guard_82 sAC8 (by omega) (fun m hx em82 => ?_)
        refine sd_aload_n sD10_guard_83 rfl ?_
        refine sd_getfr sD10_guard_84 sF10_10 sGC120_0 ?_
        refine sd_getfr sD10_guard_87 sF10_41 sGC53_2 ?_
        refine sd_getfr sD10_guard_90 sF10_179 sGC13_11 ?_
        refine sd_iload_n sD10_guard_93 rfl ?_
        refine sd_iload_n sD10_guard_94 rfl ?_
        refine sd_iastx (a := (226 + g.toNat)) sd_sokC hx sD10_guard_95 sAC9 (by omega) (fun m hx em95 => ?_)
        refine sd_iconst sD10_guard_96 (by decide) ?_
        refine sd_ireturn sD10_guard_97 rfl (fun hr hm => ?_)
        exact sd_done (by unfold sp_guard; ((repeat (first | rw [if_pos (by first | assumption | omega)] | rw [if_neg (by first | assumption | omega)])); try rfl)) hx
      ·
        refine sd_iload_n sD10_guard_56 rfl ?_
        refine sd_aload_n sD10_guard_57 rfl ?_
        refine sd_getfr sD10_guard_58 sF10_10 sGC120_0 ?_
        refine sd_iload_n sD10_guard_61 rfl ?_
        refine sd_callVp (as := [.inl g]) (st := [.inl n]) (v := .inl (sd_frc x g.toNat)) sD10_guard_62 sM10_170 sOC53 rfl rfl rfl (by decide) (Nat.le_of_ble_eq_true rfl) (cC_forceAt g _ m hx h1 h2 h3 h4 (by omega)) (fun ho62 => ?_)
        refine sd_icmp_gt (tgt := 70) sD10_guard_65 (by decide) (fun zc65 => ?_) (fun zc65 => ?_)
        ·
          refine sd_aload_n sD10_guard_70 rfl ?_
          refine sd_getfr sD10_guard_71 sF10_10 sGC120_0 ?_
          refine sd_getfr sD10_guard_74 sF10_41 sGC53_2 ?_
          refine sd_getfr sD10_guard_77 sF10_173 sGC13_10 ?_
          refine sd_iload_n sD10_guard_80 rfl ?_
          refine sd_iconst sD10_guard_81 (by decide) ?_
          refine sd_iastx (a := (202 + g.toNat)) sd_sokC hx sD10_guard_82 sAC8 (by omega) (fun m hx em82 => ?_)
          refine sd_aload_n sD10_guard_83 rfl ?_
          refine sd_getfr sD10_guard_84 sF10_10 sGC120_0 ?_
          refine sd_getfr sD10_guard_87 sF10_41 sGC53_2 ?_
          refine sd_getfr sD10_guard_90 sF10_179 sGC13_11 ?_
          refine sd_iload_n sD10_guard_93 rfl ?_
          refine sd_iload_n sD10_guard_94 rfl ?_
          refine sd_iastx (a := (226 + g.toNat)) sd_sokC hx sD10_guard_95 sAC9 (by omega) (fun m hx em95 => ?_)
          refine sd_iconst sD10_guard_96 (by decide) ?_
          refine sd_ireturn sD10_guard_97 rfl (fun hr hm => ?_)
          exact sd_done (by unfold sp_guard; ((repeat (first | rw [if_pos (by first | assumption | omega)] | rw [if_neg (by first | assumption | omega)])); try rfl)) hx
        ·
          refine sd_iconst sD10_guard_68 (by decide) ?_
          refine sd_ireturn sD10_guard_69 rfl (fun hr hm => ?_)
          exact sd_done (by unfold sp_guard; ((repeat (first | rw [if_pos (by first | assumption | omega)] | rw [if_neg (by first | assumption | omega)])); try rfl)) hx
    ·
      refine sd_eqs (ls' := [some (.inr 120), some (.inl g), some (.inl n), none]) (st' := [.inl (-1000003)]) ?_ rfl (by rw [zf29])
      have zA26 := sd_foK zf29
      refine sd_istore_n (ls' := [some (.inr 120), some (.inl g), some (.inl n), some (.inl (-1000003))]) sD10_guard_29 (by decide) rfl ?_
      refine sd_iload_n sD10_guard_30 rfl ?_
      refine sd_if_eq (tgt := 40) sD10_guard_31 (by decide) (fun zc31 => (by exfalso; omega)) (fun zc31 => ?_)
      refine sd_aload_n sD10_guard_34 rfl ?_
      refine sd_iload_n sD10_guard_35 rfl ?_
      refine sd_callV (as := [.inl (-1000003)]) (st := []) sD10_guard_36 sM10_52 rfl rfl sOC120 rfl (by decide) (Nat.le_of_ble_eq_true rfl) (cC_found (-1000003) 2 (by decide) (by decide) _ m hx (hF 2 (by decide))) (fun r m hq ho36 hm => ?_)
      obtain ⟨rfl, hx⟩ := hq
      show sd_Wp sd_SC 4 sY10_guard 39 [some (.inr 120), some (.inl g), some (.inl n), some (.inl (-1000003))] [.inl (-1000003)] m _
      refine sd_ireturn sD10_guard_39 rfl (fun hr hm => ?_)
      exact sd_done (by unfold sp_guard; ((repeat (first | rw [if_pos (by first | assumption | omega)] | rw [if_neg (by first | assumption | omega)])); try rfl)) hx
    ·
      refine sd_eqs (ls' := [some (.inr 120), some (.inl g), some (.inl n), none]) (st' := [.inl (-1000001)]) ?_ rfl (by rw [zf29])
      have zA26 := sd_foB zf29
      refine sd_istore_n (ls' := [some (.inr 120), some (.inl g), some (.inl n), some (.inl (-1000001))]) sD10_guard_29 (by decide) rfl ?_
      refine sd_iload_n sD10_guard_30 rfl ?_
      refine sd_if_eq (tgt := 40) sD10_guard_31 (by decide) (fun zc31 => (by exfalso; omega)) (fun zc31 => ?_)
      refine sd_aload_n sD10_guard_34 rfl ?_
      refine sd_iload_n sD10_guard_35 rfl ?_
      refine sd_callV (as := [.inl (-1000001)]) (st := []) sD10_guard_36 sM10_52 rfl rfl sOC120 rfl (by decide) (Nat.le_of_ble_eq_true rfl) (cC_found (-1000001) 0 (by decide) (by decide) _ m hx (hF 0 (by decide))) (fun r m hq ho36 hm => ?_)
      obtain ⟨rfl, hx⟩ := hq
      show sd_Wp sd_SC 4 sY10_guard 39 [some (.inr 120), some (.inl g), some (.inl n), some (.inl (-1000001))] [.inl (-1000001)] m _
      refine sd_ireturn sD10_guard_39 rfl (fun hr hm => ?_)
      exact sd_done (by unfold sp_guard; ((repeat (first | rw [if_pos (by first | assumption | omega)] | rw [if_neg (by first | assumption | omega)])); try rfl)) hx
  ·
    refine sd_aload_n sD10_guard_10 rfl ?_
    refine sd_ldc (z := -1000001) sD10_guard_11 sK10_51 (by decide) ?_
    refine sd_callV (as := [.inl (-1000001)]) (st := []) sD10_guard_13 sM10_52 rfl rfl sOC120 rfl (by decide) (Nat.le_of_ble_eq_true rfl) (cC_found (-1000001) 0 (by decide) (by decide) _ m hx (hF 0 (by decide))) (fun r m hq ho13 hm => ?_)
    obtain ⟨rfl, hx⟩ := hq
    show sd_Wp sd_SC 4 sY10_guard 16 [some (.inr 120), some (.inl g), some (.inl n), none] [.inl (-1000001)] m _
    refine sd_ireturn sD10_guard_16 rfl (fun hr hm => ?_)
    exact sd_done (by unfold sp_guard; ((repeat (first | rw [if_pos (by first | assumption | omega)] | rw [if_neg (by first | assumption | omega)])); try rfl)) hx
