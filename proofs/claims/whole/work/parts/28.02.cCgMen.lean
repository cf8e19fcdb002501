set_option maxRecDepth 100000 in
set_option maxHeartbeats 4000000 in
theorem cC_gMen (d q : Nat) (hd1 : 1 ≤ d) (hq5 : q < 5) (g : Int → Int → Int) (hgr : ∀ w o, -1 ≤ g w o ∧ g w o ≤ 1) (w o lo hi : Int) (x m : sd_M) (hx : sd_ns x m) (h9 : sd_L9 x) (b : Int) (hb9 : 0 ≤ b ∧ b ≤ 900) (hw : -b ≤ w ∧ w ≤ b) (ho : -b ≤ o ∧ o ≤ b) (hlh : -1 ≤ lo ∧ lo < hi ∧ hi ≤ 1) (hcm : ∀ w o lo hi : Int, (-(b + 9) ≤ w ∧ w ≤ b + 9) → (-(b + 9) ≤ o ∧ o ≤ b + 9) → (-1 ≤ lo ∧ lo < hi ∧ hi ≤ 1) → sd_Ct sd_SC d sY0_behindCompany [.inr 49, .inl (q : Int), .inl w, .inl o, .inl lo, .inl hi] m (fun r m' => m' = m ∧ ∃ z, r = some (.inl z) ∧ sd_Cl lo hi (sd_pC g w o) z)) : sd_Ct sd_SC (d + 1) sY0_behindMen [.inr 49, .inl (q : Int), .inl w, .inl o, .inl lo, .inl hi] m (fun r m' => m' = m ∧ ∃ z, r = some (.inl z) ∧ sd_Cl lo hi (sd_pM x g w o) z) := by
  refine sd_ct rfl (Nat.le_of_ble_eq_true rfl) (fun hok hm => ?_)
  have a3 := sd_pC_rng hgr (w + x 6523) (o + x 6529)
  have b3 := h9 3 (by decide)
  have a4 := sd_pC_rng hgr (w + x 6524) (o + x 6530)
  have b4 := h9 4 (by decide)
  have a5 := sd_pC_rng hgr (w + x 6525) (o + x 6531)
  have b5 := h9 5 (by decide)
  simp only [Nat.reduceAdd, Nat.reduceMul] at b3 b4 b5
  show sd_Wp sd_SC (d + 1) sY0_behindMen 0 [some (.inr 49), some (.inl (q : Int)), some (.inl w), some (.inl o), some (.inl lo), some (.inl hi), none, none, none] [] m _
  refine sd_iload_n sD0_behindMen_0 rfl ?_
  refine sd_if_gt (tgt := 6) sD0_behindMen_1 (by decide) (fun zc1 => ?_) (fun zc1 => ?_)
  ·
    refine sd_iload_n sD0_behindMen_6 rfl ?_
    refine sd_if_gt (tgt := 12) sD0_behindMen_7 (by decide) (fun zc7 => ?_) (fun zc7 => ?_)
    ·
      refine sd_iconst sD0_behindMen_12 (by decide) ?_
      refine sd_istore (ls' := [some (.inr 49), some (.inl (q : Int)), some (.inl w), some (.inl o), some (.inl lo), some (.inl hi), some (.inl 1), none, none]) sD0_behindMen_13 (by decide) rfl ?_
      refine sd_iconst sD0_behindMen_15 (by decide) ?_
      refine sd_istore (ls' := [some (.inr 49), some (.inl (q : Int)), some (.inl w), some (.inl o), some (.inl lo), some (.inl hi), some (.inl 1), some (.inl 3), none]) sD0_behindMen_16 (by decide) rfl ?_
      refine sd_iload sD0_behindMen_18 rfl ?_
      refine sd_bipush sD0_behindMen_20 rfl (by decide) ?_
      refine sd_icmp_ge (tgt := 81) sD0_behindMen_22 (by decide) (fun zc22 => (by exfalso; omega)) (fun zc22 => ?_)
      refine sd_iload sD0_behindMen_25 rfl ?_
      refine sd_iload sD0_behindMen_27 rfl ?_
      refine sd_icmp_le (tgt := 81) sD0_behindMen_29 (by decide) (fun zc29 => ?_) (fun zc29 => ?_)
      ·
        refine sd_iload sD0_behindMen_81 rfl ?_
        refine sd_ireturn sD0_behindMen_83 rfl (fun hr hm => ?_)
        (refine ⟨rfl, _, rfl, ?_⟩; unfold sd_pM; (repeat (first | rw [if_pos (by omega)] | rw [if_neg (by omega)])); omega)
      ·
        refine sd_iload sD0_behindMen_32 rfl ?_
        refine sd_iload sD0_behindMen_34 rfl ?_
        refine sd_mmin sD0_behindMen_36 sM0_50 (by omega) (Nat.le_of_ble_eq_true rfl) ?_
        refine sd_istore (ls' := [some (.inr 49), some (.inl (q : Int)), some (.inl w), some (.inl o), some (.inl lo), some (.inl hi), some (.inl 1), some (.inl 3), some (.inl (min hi 1))]) sD0_behindMen_39 (by decide) rfl ?_
        refine sd_iload sD0_behindMen_41 rfl ?_
        refine sd_aload_n sD0_behindMen_43 rfl ?_
        refine sd_iload_n sD0_behindMen_44 rfl ?_
        refine sd_iload_n sD0_behindMen_45 rfl ?_
        refine sd_aload_n sD0_behindMen_46 rfl ?_
        refine sd_getfr sD0_behindMen_47 sF0_9 sGC49_0 ?_
        refine sd_iload sD0_behindMen_50 rfl ?_
        refine sd_ialdx (a := 6523) (v := x 6523) hx sD0_behindMen_52 sAC46 (by omega) rfl ?_
        refine sd_iadd (z := (w + x 6523)) sD0_behindMen_53 (by omega) (by omega) ?_
        refine sd_iload_n sD0_behindMen_54 rfl ?_
        refine sd_aload_n sD0_behindMen_55 rfl ?_
        refine sd_getfr sD0_behindMen_56 sF0_15 sGC49_1 ?_
        refine sd_iload sD0_behindMen_59 rfl ?_
        refine sd_ialdx (a := 6529) (v := x 6529) hx sD0_behindMen_61 sAC47 (by omega) rfl ?_
        refine sd_iadd (z := (o + x 6529)) sD0_behindMen_62 (by omega) (by omega) ?_
        refine sd_iload sD0_behindMen_63 rfl ?_
        refine sd_iload sD0_behindMen_65 rfl ?_
        refine sd_callVx (as := [.inl (q : Int), .inl (w + x 6523), .inl (o + x 6529), .inl lo, .inl (min hi 1)]) (st := [.inl 1]) sD0_behindMen_67 sM0_53 sOC49 rfl rfl rfl (by omega) (Nat.le_of_ble_eq_true rfl) (hcm (w + x 6523) (o + x 6529) lo (min hi 1) (by omega) (by omega) (by omega)) (fun z67_1 hz67_1 => ?_)
        refine sd_mmin sD0_behindMen_70 sM0_50 (by omega) (Nat.le_of_ble_eq_true rfl) ?_
        refine sd_istore (ls' := [some (.inr 49), some (.inl (q : Int)), some (.inl w), some (.inl o), some (.inl lo), some (.inl hi), some (.inl (min 1 z67_1)), some (.inl 3), some (.inl (min hi 1))]) sD0_behindMen_73 (by decide) rfl ?_
        refine sd_iinc (y := 4) (ls' := [some (.inr 49), some (.inl (q : Int)), some (.inl w), some (.inl o), some (.inl lo), some (.inl hi), some (.inl (min 1 z67_1)), some (.inl 4), some (.inl (min hi 1))]) sD0_behindMen_75 rfl (by omega) (by omega) (by decide) rfl ?_
        refine sd_goto (tgt := 18) sD0_behindMen_78 (by decide) ?_
        refine sd_iload sD0_behindMen_18 rfl ?_
        refine sd_bipush sD0_behindMen_20 rfl (by decide) ?_
        refine sd_icmp_ge (tgt := 81) sD0_behindMen_22 (by decide) (fun zc22 => (by exfalso; omega)) (fun zc22 => ?_)
        refine sd_iload sD0_behindMen_25 rfl ?_
        refine sd_iload sD0_behindMen_27 rfl ?_
        refine sd_icmp_le (tgt := 81) sD0_behindMen_29 (by decide) (fun zc29 => ?_) (fun zc29 => ?_)
        ·
          refine sd_iload sD0_behindMen_81 rfl ?_
          refine sd_ireturn sD0_behindMen_83 rfl (fun hr hm => ?_)
          (refine ⟨rfl, _, rfl, ?_⟩; unfold sd_pM; (repeat (first | rw [if_pos (by omega)] | rw [if_neg (by omega)])); omega)
        ·
          refine sd_iload sD0_behindMen_32 rfl ?_
          refine sd_iload sD0_behindMen_34 rfl ?_
          refine sd_mmin sD0_behindMen_36 sM0_50 (by omega) (Nat.le_of_ble_eq_true rfl) ?_
          refine sd_istore (ls' := [some (.inr 49), some (.inl (q : Int)), some (.inl w), some (.inl o), some (.inl lo), some (.inl hi), some (.inl (min 1 z67_1)), some (.inl 4), some (.inl (min hi (min 1 z67_1)))]) sD0_behindMen_39 (by decide) rfl ?_
          refine sd_iload sD0_behindMen_41 rfl ?_
          refine sd_aload_n sD0_behindMen_43 rfl ?_
          refine sd_iload_n sD0_behindMen_44 rfl ?_
          refine sd_iload_n sD0_behindMen_45 rfl ?_
          refine sd_aload_n sD0_behindMen_46 rfl ?_
          refine sd_getfr sD0_behindMen_47 sF0_9 sGC49_0 ?_
          refine sd_iload sD0_behindMen_50 rfl ?_
          refine sd_ialdx (a := 6524) (v := x 6524) hx sD0_behindMen_52 sAC46 (by omega) rfl ?_
          refine sd_iadd (z := (w + x 6524)) sD0_behindMen_53 (by omega) (by omega) ?_
          refine sd_iload_n sD0_behindMen_54 rfl ?_
          refine sd_aload_n sD0_behindMen_55 rfl ?_
          refine sd_getfr sD0_behindMen_56 sF0_15 sGC49_1 ?_
          refine sd_iload sD0_behindMen_59 rfl ?_
          refine sd_ialdx (a := 6530) (v := x 6530) hx sD0_behindMen_61 sAC47 (by omega) rfl ?_
          refine sd_iadd (z := (o + x 6530)) sD0_behindMen_62 (by omega) (by omega) ?_
          refine sd_iload sD0_behindMen_63 rfl ?_
          refine sd_iload sD0_behindMen_65 rfl ?_
          refine sd_callVx (as := [.inl (q : Int), .inl (w + x 6524), .inl (o + x 6530), .inl lo, .inl (min hi (min 1 z67_1))]) (st := [.inl (min 1 z67_1)]) sD0_behindMen_67 sM0_53 sOC49 rfl rfl rfl (by omega) (Nat.le_of_ble_eq_true rfl) (hcm (w + x 6524) (o + x 6530) lo (min hi (min 1 z67_1)) (by omega) (by omega) (by omega)) (fun z67_2 hz67_2 => ?_)
          refine sd_mmin sD0_behindMen_70 sM0_50 (by omega) (Nat.le_of_ble_eq_true rfl) ?_
          refine sd_istore (ls' := [some (.inr 49), some (.inl (q : Int)), some (.inl w), some (.inl o), some (.inl lo), some (.inl hi), some (.inl (min (min 1 z67_1) z67_2)), some (.inl 4), some (.inl (min hi (min 1 z67_1)))]) sD0_behindMen_73 (by decide) rfl ?_
          refine sd_iinc (y := 5) (ls' := [some (.inr 49), some (.inl (q : Int)), some (.inl w), some (.inl o), some (.inl lo), some (.inl hi), some (.inl (min (min 1 z67_1) z67_2)), some (.inl 5), some (.inl (min hi (min 1 z67_1)))]) sD0_behindMen_75 rfl (by omega) (by omega) (by decide) rfl ?_
          refine sd_goto (tgt := 18) sD0_behindMen_78 (by decide) ?_
          refine sd_iload sD0_behindMen_18 rfl ?_
          refine sd_bipush sD0_behindMen_20 rfl (by decide) ?_
          refine sd_icmp_ge (tgt := 81) sD0_behindMen_22 (by decide) (fun zc22 => (by exfalso; omega)) (fun zc22 => ?_)
          refine sd_iload sD0_behindMen_25 rfl ?_
          refine sd_iload sD0_behindMen_27 rfl ?_
          refine sd_icmp_le (tgt := 81) sD0_behindMen_29 (by decide) (fun zc29 => ?_) (fun zc29 => ?_)
          ·
            refine sd_iload sD0_behindMen_81 rfl ?_
            refine sd_ireturn sD0_behindMen_83 rfl (fun hr hm => ?_)
            (refine ⟨rfl, _, rfl, ?_⟩; unfold sd_pM; (repeat (first | rw [if_pos (by omega)] | rw [if_neg (by omega)])); omega)
          ·
            refine sd_iload sD0_behindMen_32 rfl ?_
            refine sd_iload sD0_behindMen_34 rfl ?_
            refine sd_mmin sD0_behindMen_36 sM0_50 (by omega) (Nat.le_of_ble_eq_true rfl) ?_
            refine sd_istore (ls' := [some (.inr 49), some (.inl (q : Int)), some (.inl w), some (.inl o), some (.inl lo), some (.inl hi), some (.inl (min (min 1 z67_1) z67_2)), some (.inl 5), some (.inl (min hi (min (min 1 z67_1) z67_2)))]) sD0_behindMen_39 (by decide) rfl ?_
            refine sd_iload sD0_behindMen_41 rfl ?_
            refine sd_aload_n sD0_behindMen_43 rfl ?_
            refine sd_iload_n sD0_behindMen_44 rfl ?_
            refine sd_iload_n sD0_behindMen_45 rfl ?_
            refine sd_aload_n sD0_behindMen_46 rfl ?_
            refine sd_getfr sD0_behindMen_47 sF0_9 sGC49_0 ?_
            refine sd_iload sD0_behindMen_50 rfl ?_
            refine sd_ialdx (a := 6525) (v := x 6525) hx sD0_behindMen_52 sAC46 (by omega) rfl ?_
            refine sd_iadd (z := (w + x 6525)) sD0_behindMen_53 (by omega) (by omega) ?_
            refine sd_iload_n sD0_behindMen_54 rfl ?_
            refine sd_aload_n sD0_behindMen_55 rfl ?_
            refine sd_getfr sD0_behindMen_56 sF0_15 sGC49_1 ?_
            refine sd_iload sD0_behindMen_59 rfl ?_
            refine sd_ialdx (a := 6531) (v := x 6531) hx sD0_behindMen_61 sAC47 (by omega) rfl ?_
            refine sd_iadd (z := (o + x 6531)) sD0_behindMen_62 (by omega) (by omega) ?_
            refine sd_iload sD0_behindMen_63 rfl ?_
            refine sd_iload sD0_behindMen_65 rfl ?_
            refine sd_callVx (as := [.inl (q : Int), .inl (w + x 6525), .inl (o + x 6531), .inl lo, .inl (min hi (min (min 1 z67_1) z67_2))]) (st := [.inl (min (min 1 z67_1) z67_2)]) sD0_behindMen_67 sM0_53 sOC49 rfl rfl rfl (by omega) (Nat.le_of_ble_eq_true rfl) (hcm (w + x 6525) (o + x 6531) lo (min hi (min (min 1 z67_1) z67_2)) (by omega) (by omega) (by omega)) (fun z67_3 hz67_3 => ?_)
            refine sd_mmin sD0_behindMen_70 sM0_50 (by omega) (Nat.le_of_ble_eq_true rfl) ?_
            refine sd_istore (ls' := [some (.inr 49), some (.inl (q : Int)), some (.inl w), some (.inl o), some (.inl lo), some (.inl hi), some (.inl (min (min (min 1 z67_1) z67_2) z67_3)), some (.inl 5), some (.inl (min hi (min (min 1 z67_1) z67_2)))]) sD0_behindMen_73 (by decide) rfl ?_
            refine sd_iinc (y := 6) (ls' := [some (.inr 49), some (.inl (q : Int)), some (.inl w), some (.inl o), some (.inl lo), some (.inl hi), some (.inl (min (min (min 1 z67_1) z67_2) z67_3)), some (.inl 6), some (.inl (min hi (min (min 1 z67_1) z67_2)))]) sD0_behindMen_75 rfl (by omega) (by omega) (by decide) rfl ?_
            refine sd_goto (tgt := 18) sD0_behindMen_78 (by decide) ?_
            refine sd_iload sD0_behindMen_18 rfl ?_
            refine sd_bipush sD0_behindMen_20 rfl (by decide) ?_
            refine sd_icmp_ge (tgt := 81) sD0_behindMen_22 (by decide) (fun zc22 => ?_) (fun zc22 => (by exfalso; omega))
            refine sd_iload sD0_behindMen_81 rfl ?_
            refine sd_ireturn sD0_behindMen_83 rfl (fun hr hm => ?_)
            (refine ⟨rfl, _, rfl, ?_⟩; unfold sd_pM; (repeat (first | rw [if_pos (by omega)] | rw [if_neg (by omega)])); omega)
    ·
      refine sd_iconst sD0_behindMen_10 (by decide) ?_
      refine sd_ireturn sD0_behindMen_11 rfl (fun hr hm => ?_)
      (refine ⟨rfl, _, rfl, ?_⟩; unfold sd_pM; (repeat (first | rw [if_pos (by omega)] | rw [if_neg (by omega)])); omega)
  ·
    refine sd_iconst sD0_behindMen_4 (by decide) ?_
    refine sd_ireturn sD0_behindMen_5 rfl (fun hr hm => ?_)
    (refine ⟨rfl, _, rfl, ?_⟩; unfold sd_pM; (repeat (first | rw [if_pos (by omega)] | rw [if_neg (by omega)])); omega)
