set_option maxRecDepth 100000 in
set_option maxHeartbeats 4000000 in
theorem cC_gStepsA (d q n : Nat) (hd1 : 1 ≤ d) (hq5 : q < n) (hn5 : n ≤ 5) (g : Int → Int → Int) (hgr : ∀ w o, -1 ≤ g w o ∧ g w o ≤ 1) (w o lo hi : Int) (x m : sd_M) (hx : sd_ns x m) (h9 : sd_L9 x) (hst : m 5110 = (n : Int)) (hpl : m (5100 + q) = -1) (b : Int) (hb9 : 0 ≤ b ∧ b ≤ 900) (hw : -b ≤ w ∧ w ≤ b) (ho : -b ≤ o ∧ o ≤ b) (hlh : -1 ≤ lo ∧ lo < hi ∧ hi ≤ 1) (hmn : ∀ w o lo hi : Int, (-(b + 9) ≤ w ∧ w ≤ b + 9) → (-(b + 9) ≤ o ∧ o ≤ b + 9) → (-1 ≤ lo ∧ lo < hi ∧ hi ≤ 1) → sd_Ct sd_SC d sY0_behindMen [.inr 49, .inl (q : Int), .inl w, .inl o, .inl lo, .inl hi] m (fun r m' => m' = m ∧ ∃ z, r = some (.inl z) ∧ sd_Cl lo hi (sd_pM x g w o) z)) : sd_Ct sd_SC (d + 1) sY0_behindSteps [.inr 49, .inl (q : Int), .inl w, .inl o, .inl lo, .inl hi] m (fun r m' => m' = m ∧ ∃ z, r = some (.inl z) ∧ sd_Cl lo hi (sd_pS x g (-1) w o) z) := by
  refine sd_ct rfl (Nat.le_of_ble_eq_true rfl) (fun hok hm => ?_)
  have a0 := sd_pM_rng (x := x) hgr (w + x 6520) (o + x 6526)
  have b0 := h9 0 (by decide)
  have a1 := sd_pM_rng (x := x) hgr (w + x 6521) (o + x 6527)
  have b1 := h9 1 (by decide)
  have a2 := sd_pM_rng (x := x) hgr (w + x 6522) (o + x 6528)
  have b2 := h9 2 (by decide)
  simp only [Nat.reduceAdd, Nat.reduceMul, Nat.add_zero] at b0 b1 b2
  have eA0 : sd_pA x g (-1) 0 w o = sd_pM x g (w + x 6520) (o + x 6526) := by unfold sd_pA; rw [if_pos (by omega)]
  have eA1 : sd_pA x g (-1) 1 w o = sd_pM x g (w + x 6521) (o + x 6527) := by unfold sd_pA; rw [if_pos (by omega)]
  have eA2 : sd_pA x g (-1) 2 w o = sd_pM x g (w + x 6522) (o + x 6528) := by unfold sd_pA; rw [if_pos (by omega)]
  show sd_Wp sd_SC (d + 1) sY0_behindSteps 0 [some (.inr 49), some (.inl (q : Int)), some (.inl w), some (.inl o), some (.inl lo), some (.inl hi), none, none, none] [] m _
  refine sd_iload_n sD0_behindSteps_0 rfl ?_
  refine sd_aload_n sD0_behindSteps_1 rfl ?_
  refine sd_getfi sD0_behindSteps_2 sF0_21 sGC49_3 ?_
  refine sd_icmp_ge (tgt := 13) sD0_behindSteps_5 (by decide) (fun zc5 => (by exfalso; omega)) (fun zc5 => ?_)
  refine sd_iload_n sD0_behindSteps_8 rfl ?_
  refine sd_iconst sD0_behindSteps_9 (by decide) ?_
  refine sd_icmp_lt (tgt := 15) sD0_behindSteps_10 (by decide) (fun zc10 => ?_) (fun zc10 => (by exfalso; omega))
  refine sd_iconst sD0_behindSteps_15 (by decide) ?_
  refine sd_istore (ls' := [some (.inr 49), some (.inl (q : Int)), some (.inl w), some (.inl o), some (.inl lo), some (.inl hi), some (.inl (-1)), none, none]) sD0_behindSteps_16 (by decide) rfl ?_
  refine sd_iconst sD0_behindSteps_18 (by decide) ?_
  refine sd_istore (ls' := [some (.inr 49), some (.inl (q : Int)), some (.inl w), some (.inl o), some (.inl lo), some (.inl hi), some (.inl (-1)), some (.inl 0), none]) sD0_behindSteps_19 (by decide) rfl ?_
  refine sd_iload sD0_behindSteps_21 rfl ?_
  refine sd_iconst sD0_behindSteps_23 (by decide) ?_
  refine sd_icmp_ge (tgt := 104) sD0_behindSteps_24 (by decide) (fun zc24 => (by exfalso; omega)) (fun zc24 => ?_)
  refine sd_iload sD0_behindSteps_27 rfl ?_
  refine sd_iload sD0_behindSteps_29 rfl ?_
  refine sd_icmp_ge (tgt := 104) sD0_behindSteps_31 (by decide) (fun zc31 => ?_) (fun zc31 => ?_)
  ·
    refine sd_iload sD0_behindSteps_104 rfl ?_
    refine sd_ireturn sD0_behindSteps_106 rfl (fun hr hm => ?_)
    (refine ⟨rfl, _, rfl, ?_⟩; unfold sd_pS; rw [eA0, eA1, eA2]; omega)
  ·
    refine sd_aload_n sD0_behindSteps_34 rfl ?_
    refine sd_getfr sD0_behindSteps_35 sF0_18 sGC49_2 ?_
    refine sd_iload_n sD0_behindSteps_38 rfl ?_
    refine sd_iald (a := (5100 + q)) sD0_behindSteps_39 sAC48 (by omega) ?_
    refine sd_eqs (ls' := [some (.inr 49), some (.inl (q : Int)), some (.inl w), some (.inl o), some (.inl lo), some (.inl hi), some (.inl (-1)), some (.inl 0), none]) (st' := [.inl (-1)]) ?_ rfl (by rw [hpl])
    refine sd_iconst sD0_behindSteps_40 (by decide) ?_
    refine sd_icmp_eq (tgt := 55) sD0_behindSteps_41 (by decide) (fun zc41 => ?_) (fun zc41 => (by exfalso; omega))
    refine sd_iload sD0_behindSteps_55 rfl ?_
    refine sd_iload sD0_behindSteps_57 rfl ?_
    refine sd_mmax sD0_behindSteps_59 sM0_41 (by omega) (Nat.le_of_ble_eq_true rfl) ?_
    refine sd_istore (ls' := [some (.inr 49), some (.inl (q : Int)), some (.inl w), some (.inl o), some (.inl lo), some (.inl hi), some (.inl (-1)), some (.inl 0), some (.inl (max lo (-1)))]) sD0_behindSteps_62 (by decide) rfl ?_
    refine sd_iload sD0_behindSteps_64 rfl ?_
    refine sd_aload_n sD0_behindSteps_66 rfl ?_
    refine sd_iload_n sD0_behindSteps_67 rfl ?_
    refine sd_iload_n sD0_behindSteps_68 rfl ?_
    refine sd_aload_n sD0_behindSteps_69 rfl ?_
    refine sd_getfr sD0_behindSteps_70 sF0_9 sGC49_0 ?_
    refine sd_iload sD0_behindSteps_73 rfl ?_
    refine sd_ialdx (a := 6520) (v := x 6520) hx sD0_behindSteps_75 sAC46 (by omega) rfl ?_
    refine sd_iadd (z := (w + x 6520)) sD0_behindSteps_76 (by omega) (by omega) ?_
    refine sd_iload_n sD0_behindSteps_77 rfl ?_
    refine sd_aload_n sD0_behindSteps_78 rfl ?_
    refine sd_getfr sD0_behindSteps_79 sF0_15 sGC49_1 ?_
    refine sd_iload sD0_behindSteps_82 rfl ?_
    refine sd_ialdx (a := 6526) (v := x 6526) hx sD0_behindSteps_84 sAC47 (by omega) rfl ?_
    refine sd_iadd (z := (o + x 6526)) sD0_behindSteps_85 (by omega) (by omega) ?_
    refine sd_iload sD0_behindSteps_86 rfl ?_
    refine sd_iload sD0_behindSteps_88 rfl ?_
    refine sd_callVx (as := [.inl (q : Int), .inl (w + x 6520), .inl (o + x 6526), .inl (max lo (-1)), .inl hi]) (st := [.inl (-1)]) sD0_behindSteps_90 sM0_47 sOC49 rfl rfl rfl (by omega) (Nat.le_of_ble_eq_true rfl) (hmn (w + x 6520) (o + x 6526) (max lo (-1)) hi (by omega) (by omega) (by omega)) (fun z90_1 hz90_1 => ?_)
    refine sd_mmax sD0_behindSteps_93 sM0_41 (by omega) (Nat.le_of_ble_eq_true rfl) ?_
    refine sd_istore (ls' := [some (.inr 49), some (.inl (q : Int)), some (.inl w), some (.inl o), some (.inl lo), some (.inl hi), some (.inl (max (-1) z90_1)), some (.inl 0), some (.inl (max lo (-1)))]) sD0_behindSteps_96 (by decide) rfl ?_
    refine sd_iinc (y := 1) (ls' := [some (.inr 49), some (.inl (q : Int)), some (.inl w), some (.inl o), some (.inl lo), some (.inl hi), some (.inl (max (-1) z90_1)), some (.inl 1), some (.inl (max lo (-1)))]) sD0_behindSteps_98 rfl (by omega) (by omega) (by decide) rfl ?_
    refine sd_goto (tgt := 21) sD0_behindSteps_101 (by decide) ?_
    refine sd_iload sD0_behindSteps_21 rfl ?_
    refine sd_iconst sD0_behindSteps_23 (by decide) ?_
    refine sd_icmp_ge (tgt := 104) sD0_behindSteps_24 (by decide) (fun zc24 => (by exfalso; omega)) (fun zc24 => ?_)
    refine sd_iload sD0_behindSteps_27 rfl ?_
    refine sd_iload sD0_behindSteps_29 rfl ?_
    refine sd_icmp_ge (tgt := 104) sD0_behindSteps_31 (by decide) (fun zc31 => ?_) (fun zc31 => ?_)
    ·
      refine sd_iload sD0_behindSteps_104 rfl ?_
      refine sd_ireturn sD0_behindSteps_106 rfl (fun hr hm => ?_)
      (refine ⟨rfl, _, rfl, ?_⟩; unfold sd_pS; rw [eA0, eA1, eA2]; omega)
    ·
      refine sd_aload_n sD0_behindSteps_34 rfl ?_
      refine sd_getfr sD0_behindSteps_35 sF0_18 sGC49_2 ?_
      refine sd_iload_n sD0_behindSteps_38 rfl ?_
      refine sd_iald (a := (5100 + q)) sD0_behindSteps_39 sAC48 (by omega) ?_
      refine sd_eqs (ls' := [some (.inr 49), some (.inl (q : Int)), some (.inl w), some (.inl o), some (.inl lo), some (.inl hi), some (.inl (max (-1) z90_1)), some (.inl 1), some (.inl (max lo (-1)))]) (st' := [.inl (-1)]) ?_ rfl (by rw [hpl])
      refine sd_iconst sD0_behindSteps_40 (by decide) ?_
      refine sd_icmp_eq (tgt := 55) sD0_behindSteps_41 (by decide) (fun zc41 => ?_) (fun zc41 => (by exfalso; omega))
      refine sd_iload sD0_behindSteps_55 rfl ?_
      refine sd_iload sD0_behindSteps_57 rfl ?_
      refine sd_mmax sD0_behindSteps_59 sM0_41 (by omega) (Nat.le_of_ble_eq_true rfl) ?_
      refine sd_istore (ls' := [some (.inr 49), some (.inl (q : Int)), some (.inl w), some (.inl o), some (.inl lo), some (.inl hi), some (.inl (max (-1) z90_1)), some (.inl 1), some (.inl (max lo (max (-1) z90_1)))]) sD0_behindSteps_62 (by decide) rfl ?_
      refine sd_iload sD0_behindSteps_64 rfl ?_
      refine sd_aload_n sD0_behindSteps_66 rfl ?_
      refine sd_iload_n sD0_behindSteps_67 rfl ?_
      refine sd_iload_n sD0_behindSteps_68 rfl ?_
      refine sd_aload_n sD0_behindSteps_69 rfl ?_
      refine sd_getfr sD0_behindSteps_70 sF0_9 sGC49_0 ?_
      refine sd_iload sD0_behindSteps_73 rfl ?_
      refine sd_ialdx (a := 6521) (v := x 6521) hx sD0_behindSteps_75 sAC46 (by omega) rfl ?_
      refine sd_iadd (z := (w + x 6521)) sD0_behindSteps_76 (by omega) (by omega) ?_
      refine sd_iload_n sD0_behindSteps_77 rfl ?_
      refine sd_aload_n sD0_behindSteps_78 rfl ?_
      refine sd_getfr sD0_behindSteps_79 sF0_15 sGC49_1 ?_
      refine sd_iload sD0_behindSteps_82 rfl ?_
      refine sd_ialdx (a := 6527) (v := x 6527) hx sD0_behindSteps_84 sAC47 (by omega) rfl ?_
      refine sd_iadd (z := (o + x 6527)) sD0_behindSteps_85 (by omega) (by omega) ?_
      refine sd_iload sD0_behindSteps_86 rfl ?_
      refine sd_iload sD0_behindSteps_88 rfl ?_
      refine sd_callVx (as := [.inl (q : Int), .inl (w + x 6521), .inl (o + x 6527), .inl (max lo (max (-1) z90_1)), .inl hi]) (st := [.inl (max (-1) z90_1)]) sD0_behindSteps_90 sM0_47 sOC49 rfl rfl rfl (by omega) (Nat.le_of_ble_eq_true rfl) (hmn (w + x 6521) (o + x 6527) (max lo (max (-1) z90_1)) hi (by omega) (by omega) (by omega)) (fun z90_2 hz90_2 => ?_)
      refine sd_mmax sD0_behindSteps_93 sM0_41 (by omega) (Nat.le_of_ble_eq_true rfl) ?_
      refine sd_istore (ls' := [some (.inr 49), some (.inl (q : Int)), some (.inl w), some (.inl o), some (.inl lo), some (.inl hi), some (.inl (max (max (-1) z90_1) z90_2)), some (.inl 1), some (.inl (max lo (max (-1) z90_1)))]) sD0_behindSteps_96 (by decide) rfl ?_
      refine sd_iinc (y := 2) (ls' := [some (.inr 49), some (.inl (q : Int)), some (.inl w), some (.inl o), some (.inl lo), some (.inl hi), some (.inl (max (max (-1) z90_1) z90_2)), some (.inl 2), some (.inl (max lo (max (-1) z90_1)))]) sD0_behindSteps_98 rfl (by omega) (by omega) (by decide) rfl ?_
      refine sd_goto (tgt := 21) sD0_behindSteps_101 (by decide) ?_
      refine sd_iload sD0_behindSteps_21 rfl ?_
      refine sd_iconst sD0_behindSteps_23 (by decide) ?_
      refine sd_icmp_ge (tgt := 104) sD0_behindSteps_24 (by decide) (fun zc24 => (by exfalso; omega)) (fun zc24 => ?_)
      refine sd_iload sD0_behindSteps_27 rfl ?_
      refine sd_iload sD0_behindSteps_29 rfl ?_
      refine sd_icmp_ge (tgt := 104) sD0_behindSteps_31 (by decide) (fun zc31 => ?_) (fun zc31 => ?_)
      ·
        refine sd_iload sD0_behindSteps_104 rfl ?_
        refine sd_ireturn sD0_behindSteps_106 rfl (fun hr hm => ?_)
        (refine ⟨rfl, _, rfl, ?_⟩; unfold sd_pS; rw [eA0, eA1, eA2]; omega)
      ·
        refine sd_aload_n sD0_behindSteps_34 rfl ?_
        refine sd_getfr sD0_behindSteps_35 sF0_18 sGC49_2 ?_
        refine sd_iload_n sD0_behindSteps_38 rfl ?_
        refine sd_iald (a := (5100 + q)) sD0_behindSteps_39 sAC48 (by omega) ?_
        refine sd_eqs (ls' := [some (.inr 49), some (.inl (q : Int)), some (.inl w), some (.inl o), some (.inl lo), some (.inl hi), some (.inl (max (max (-1) z90_1) z90_2)), some (.inl 2), some (.inl (max lo (max (-1) z90_1)))]) (st' := [.inl (-1)]) ?_ rfl (by rw [hpl])
        refine sd_iconst sD0_behindSteps_40 (by decide) ?_
        refine sd_icmp_eq (tgt := 55) sD0_behindSteps_41 (by decide) (fun zc41 => ?_) (fun zc41 => (by exfalso; omega))
        refine sd_iload sD0_behindSteps_55 rfl ?_
        refine sd_iload sD0_behindSteps_57 rfl ?_
        refine sd_mmax sD0_behindSteps_59 sM0_41 (by omega) (Nat.le_of_ble_eq_true rfl) ?_
        refine sd_istore (ls' := [some (.inr 49), some (.inl (q : Int)), some (.inl w), some (.inl o), some (.inl lo), some (.inl hi), some (.inl (max (max (-1) z90_1) z90_2)), some (.inl 2), some (.inl (max lo (max (max (-1) z90_1) z90_2)))]) sD0_behindSteps_62 (by decide) rfl ?_
        refine sd_iload sD0_behindSteps_64 rfl ?_
        refine sd_aload_n sD0_behindSteps_66 rfl ?_
        refine sd_iload_n sD0_behindSteps_67 rfl ?_
        refine sd_iload_n sD0_behindSteps_68 rfl ?_
        refine sd_aload_n sD0_behindSteps_69 rfl ?_
        refine sd_getfr sD0_behindSteps_70 sF0_9 sGC49_0 ?_
        refine sd_iload sD0_behindSteps_73 rfl ?_
        refine sd_ialdx (a := 6522) (v := x 6522) hx sD0_behindSteps_75 sAC46 (by omega) rfl ?_
        refine sd_iadd (z := (w + x 6522)) sD0_behindSteps_76 (by omega) (by omega) ?_
        refine sd_iload_n sD0_behindSteps_77 rfl ?_
        refine sd_aload_n sD0_behindSteps_78 rfl ?_
        refine sd_getfr sD0_behindSteps_79 sF0_15 sGC49_1 ?_
        refine sd_iload sD0_behindSteps_82 rfl ?_
        refine sd_ialdx (a := 6528) (v := x 6528) hx sD0_behindSteps_84 sAC47 (by omega) rfl ?_
        refine sd_iadd (z := (o + x 6528)) sD0_behindSteps_85 (by omega) (by omega) ?_
        refine sd_iload sD0_behindSteps_86 rfl ?_
        refine sd_iload sD0_behindSteps_88 rfl ?_
        refine sd_callVx (as := [.inl (q : Int), .inl (w + x 6522), .inl (o + x 6528), .inl (max lo (max (max (-1) z90_1) z90_2)), .inl hi]) (st := [.inl (max (max (-1) z90_1) z90_2)]) sD0_behindSteps_90 sM0_47 sOC49 rfl rfl rfl (by omega) (Nat.le_of_ble_eq_true rfl) (hmn (w + x 6522) (o + x 6528) (max lo (max (max (-1) z90_1) z90_2)) hi (by omega) (by omega) (by omega)) (fun z90_3 hz90_3 => ?_)
        refine sd_mmax sD0_behindSteps_93 sM0_41 (by omega) (Nat.le_of_ble_eq_true rfl) ?_
        refine sd_istore (ls' := [some (.inr 49), some (.inl (q : Int)), some (.inl w), some (.inl o), some (.inl lo), some (.inl hi), some (.inl (max (max (max (-1) z90_1) z90_2) z90_3)), some (.inl 2), some (.inl (max lo (max (max (-1) z90_1) z90_2)))]) sD0_behindSteps_96 (by decide) rfl ?_
        refine sd_iinc (y := 3) (ls' := [some (.inr 49), some (.inl (q : Int)), some (.inl w), some (.inl o), some (.inl lo), some (.inl hi), some (.inl (max (max (max (-1) z90_1) z90_2) z90_3)), some (.inl 3), some (.inl (max lo (max (max (-1) z90_1) z90_2)))]) sD0_behindSteps_98 rfl (by omega) (by omega) (by decide) rfl ?_
        refine sd_goto (tgt := 21) sD0_behindSteps_101 (by decide) ?_
        refine sd_iload sD0_behindSteps_21 rfl ?_
        refine sd_iconst sD0_behindSteps_23 (by decide) ?_
        refine sd_icmp_ge (tgt := 104) sD0_behindSteps_24 (by decide) (fun zc24 => ?_) (fun zc24 => (by exfalso; omega))
        refine sd_iload sD0_behindSteps_104 rfl ?_
        refine sd_ireturn sD0_behindSteps_106 rfl (fun hr hm => ?_)
        (refine ⟨rfl, _, rfl, ?_⟩; unfold sd_pS; rw [eA0, eA1, eA2]; omega)
