set_option maxRecDepth 100000 in
set_option maxHeartbeats 4000000 in
theorem cC_clauseFor (w hr_ : Int) (f : Nat → Int) (x m : sd_M) (hx : sd_ns x m) (hh : hr_ = x 0) (hf : ∀ i, i < 4 → m (5000 + i) = f i) (hfr : ∀ i, 0 ≤ f i ∧ f i ≤ 40) (h1 : sd_I1 x) (h6 : sd_I6 x) (hR : sd_IR x) : sd_Cp sd_SC 1 sY8_clauseFor [.inr 36, .inl w, .inl hr_, .inr 51] m (.inl (sd_clf x f w (x 5).toNat)) := by
  refine sd_ct rfl (Nat.le_of_ble_eq_true rfl) (fun hok hm => ?_)
  obtain ⟨⟨i0, j0⟩, ⟨i1, j1⟩, ⟨i2, j2⟩, ⟨i3, j3⟩, ⟨i4, j4⟩, ⟨i5, j5⟩, ⟨i6, j6⟩, ⟨i7, j7⟩, ⟨i8, j8⟩⟩ := id h1
  show sd_Wp sd_SC 1 sY8_clauseFor 0 [some (.inr 36), some (.inl w), some (.inl hr_), some (.inr 51), none, none, none, none] [] m _
  refine sd_aload_n sD8_clauseFor_0 rfl ?_
  refine sd_getfx (v := x 5) hx sD8_clauseFor_1 sF8_9 sGC36_0 (by decide) rfl ?_
  refine sd_iconst sD8_clauseFor_4 (by decide) ?_
  refine sd_isub (z := (x 5 - 1)) sD8_clauseFor_5 (by omega) (by omega) ?_
  refine sd_istore (ls' := [some (.inr 36), some (.inl w), some (.inl hr_), some (.inr 51), some (.inl (x 5 - 1)), none, none, none]) sD8_clauseFor_6 (by decide) rfl ?_
  refine sd_forH ((x 5).toNat) (fun zi8 : Nat => [some (.inr 36), some (.inl w), some (.inl hr_), some (.inr 51), some (.inl (x 5 - 1 - (zi8 : Int))), none, none, none]) (fun zi8 : Nat => sd_clf x f w (x 5).toNat = sd_clf x f w ((x 5).toNat - zi8)) (by rw [show x 5 - 1 - ((0 : Nat) : Int) = x 5 - 1 from by omega]) (fun zi8 hizi8 hhzi8 ihzi8 => ?_) (fun hhzi8 => ?_) (by rw [Nat.sub_zero])
  ·
    refine sd_iload sD8_clauseFor_8 rfl ?_
    refine sd_if_lt (tgt := 91) sD8_clauseFor_10 (by decide) (fun zc10 => (by exfalso; omega)) (fun zc10 => ?_)
    obtain ⟨t, htq⟩ : ∃ t : Nat, t = (x 5).toNat - 1 - zi8 := ⟨_, rfl⟩
    refine sd_eqw (ls' := [some (.inr 36), some (.inl w), some (.inl hr_), some (.inr 51), some (.inl (t : Int)), none, none, none]) ?_ (sd_cg rfl (sd_cg rfl (sd_cg rfl (sd_cg rfl (sd_cg (sd_ce (by omega)) rfl))))) rfl
    have hRt := hR t (by omega)
    have hRa := hRt.1
    have ecl : sd_clf x f w (x 5).toNat = sd_clf x f w (t + 1) := by rw [hhzi8]; congr 1; omega
    refine sd_aload_n sD8_clauseFor_13 rfl ?_
    refine sd_iload sD8_clauseFor_14 rfl ?_
    refine sd_iload_n sD8_clauseFor_16 rfl ?_
    refine sd_callVp (as := [.inl (t : Int), .inl hr_]) (st := []) (v := .inl (sd_b (sd_inF x t hr_))) sD8_clauseFor_17 sM8_56 sOC36 rfl rfl rfl (by decide) (Nat.le_of_ble_eq_true rfl) (cC_isInForce (t : Int) hr_ _ m hx h6 (by omega) (by first | rfl | assumption | omega | (simp only [sd_up]; rw [if_neg (by omega)]))) (fun ho17 => ?_)
    refine sd_cut (J := 34) (ls := [some (.inr 36), some (.inl w), some (.inl hr_), some (.inr 51), some (.inl (t : Int)), none, none, none]) (st := []) (fun zv => zv = (sd_aft x t)) (fun zv hzv => ?_) (fun K20 => ?_)
    ·
      subst hzv
      refine sd_istore (ls' := [some (.inr 36), some (.inl w), some (.inl hr_), some (.inr 51), some (.inl (t : Int)), some (.inl (sd_aft x t)), none, none]) sD8_clauseFor_34 (by decide) rfl ?_
      refine sd_iconst sD8_clauseFor_36 (by decide) ?_
      refine sd_istore (ls' := [some (.inr 36), some (.inl w), some (.inl hr_), some (.inr 51), some (.inl (t : Int)), some (.inl (sd_aft x t)), some (.inl 0), none]) sD8_clauseFor_37 (by decide) rfl ?_
      refine sd_forH ((sd_aft x t).toNat) (fun zi39 : Nat => [some (.inr 36), some (.inl w), some (.inl hr_), some (.inr 51), some (.inl (t : Int)), some (.inl (sd_aft x t)), some (.inl (zi39 : Int)), none]) (fun zi39 : Nat => ∀ j, j < zi39 → ¬ sd_Pcl x f w t j) (by rfl) (fun zi39 hizi39 hhzi39 ihzi39 => ?_) (fun hhzi39 => ?_) (by intro j hj; omega)
      ·
        have haf : sd_aft x t ≤ x (6010 + t) ∧ 0 ≤ sd_aft x t := by unfold sd_aft; split <;> omega
        refine sd_iload sD8_clauseFor_39 rfl ?_
        refine sd_iload sD8_clauseFor_41 rfl ?_
        refine sd_icmp_ge (tgt := 85) sD8_clauseFor_43 (by decide) (fun zc43 => (by exfalso; omega)) (fun zc43 => ?_)
        refine sd_iload sD8_clauseFor_46 rfl ?_
        refine sd_iconst sD8_clauseFor_48 (by decide) ?_
        refine sd_imul (z := ((t : Int) * 5)) sD8_clauseFor_49 (by omega) (by omega) ?_
        refine sd_iload sD8_clauseFor_50 rfl ?_
        refine sd_iadd (z := ((5 * t + zi39 : Nat) : Int)) sD8_clauseFor_52 (by omega) (by omega) ?_
        refine sd_istore (ls' := [some (.inr 36), some (.inl w), some (.inl hr_), some (.inr 51), some (.inl (t : Int)), some (.inl (sd_aft x t)), some (.inl (zi39 : Int)), some (.inl ((5 * t + zi39 : Nat) : Int))]) sD8_clauseFor_53 (by decide) rfl ?_
        refine sd_aload_n sD8_clauseFor_55 rfl ?_
        refine sd_getfr sD8_clauseFor_56 sF8_34 sGC36_7 ?_
        refine sd_iload sD8_clauseFor_59 rfl ?_
        refine sd_ialdx (a := (6060 + (5 * t + zi39))) (v := x (6060 + (5 * t + zi39))) hx sD8_clauseFor_61 sAC30 (by omega) rfl ?_
        refine sd_iload_n sD8_clauseFor_62 rfl ?_
        refine sd_icmp_ne (tgt := 79) sD8_clauseFor_63 (by decide) (fun zc63 => ?_) (fun zc63 => ?_)
        ·
          refine sd_iinc (y := ((zi39 : Int) + 1)) (ls' := [some (.inr 36), some (.inl w), some (.inl hr_), some (.inr 51), some (.inl (t : Int)), some (.inl (sd_aft x t)), some (.inl ((zi39 : Int) + 1)), some (.inl ((5 * t + zi39 : Nat) : Int))]) sD8_clauseFor_79 rfl (by omega) (by omega) (by decide) rfl ?_
          refine sd_goto (tgt := 39) sD8_clauseFor_82 (by decide) ?_
          refine sd_less (ls' := [some (.inr 36), some (.inl w), some (.inl hr_), some (.inr 51), some (.inl (t : Int)), some (.inl (sd_aft x t)), some (.inl ((zi39 : Int) + 1)), none]) ?_ rfl (by intro zi zv zh; rcases zi with _ | _ | _ | _ | _ | _ | _ | _ | zi <;> first | exact zh | cases zh)
          exact sd_eqw (ls' := [some (.inr 36), some (.inl w), some (.inl hr_), some (.inr 51), some (.inl (t : Int)), some (.inl (sd_aft x t)), some (.inl ((zi39 + 1 : Nat) : Int)), none]) (ihzi39 (by exact sd_all_succ hhzi39 (fun q => by have q1 := q.1; have q2 := q.2; first | contradiction | omega))) (sd_cg rfl (sd_cg rfl (sd_cg rfl (sd_cg rfl (sd_cg rfl (sd_cg rfl (sd_cg (sd_ce (show (((zi39 : Int) + 1) : Int) = ((zi39 + 1 : Nat) : Int) from by omega)) (sd_cg rfl rfl)))))))) rfl
        ·
          refine sd_aload_n sD8_clauseFor_66 rfl ?_
          refine sd_iload sD8_clauseFor_67 rfl ?_
          refine sd_aload_n sD8_clauseFor_69 rfl ?_
          refine sd_callVp (as := [.inl ((5 * t + zi39 : Nat) : Int), .inr 51]) (st := []) (v := .inl (sd_b (sd_so x f (5 * t + zi39)))) sD8_clauseFor_70 sM8_77 sOC36 rfl rfl rfl (by decide) (Nat.le_of_ble_eq_true rfl) ((cC_isSo (5 * t + zi39) (by omega) f _ m hx hf hfr ⟨(hRt.2 zi39 (by omega)).1, (hRt.2 zi39 (by omega)).2.2⟩)) (fun ho70 => ?_)
          refine sd_bif_eq (tgt := 79) sD8_clauseFor_73 (by decide) (fun zc73 => ?_) (fun zc73 => ?_)
          ·
            refine sd_iinc (y := ((zi39 : Int) + 1)) (ls' := [some (.inr 36), some (.inl w), some (.inl hr_), some (.inr 51), some (.inl (t : Int)), some (.inl (sd_aft x t)), some (.inl ((zi39 : Int) + 1)), some (.inl ((5 * t + zi39 : Nat) : Int))]) sD8_clauseFor_79 rfl (by omega) (by omega) (by decide) rfl ?_
            refine sd_goto (tgt := 39) sD8_clauseFor_82 (by decide) ?_
            refine sd_less (ls' := [some (.inr 36), some (.inl w), some (.inl hr_), some (.inr 51), some (.inl (t : Int)), some (.inl (sd_aft x t)), some (.inl ((zi39 : Int) + 1)), none]) ?_ rfl (by intro zi zv zh; rcases zi with _ | _ | _ | _ | _ | _ | _ | _ | zi <;> first | exact zh | cases zh)
            exact sd_eqw (ls' := [some (.inr 36), some (.inl w), some (.inl hr_), some (.inr 51), some (.inl (t : Int)), some (.inl (sd_aft x t)), some (.inl ((zi39 + 1 : Nat) : Int)), none]) (ihzi39 (by exact sd_all_succ hhzi39 (fun q => by have q1 := q.1; have q2 := q.2; first | contradiction | omega))) (sd_cg rfl (sd_cg rfl (sd_cg rfl (sd_cg rfl (sd_cg rfl (sd_cg rfl (sd_cg (sd_ce (show (((zi39 : Int) + 1) : Int) = ((zi39 + 1 : Nat) : Int) from by omega)) (sd_cg rfl rfl)))))))) rfl
          ·
            refine sd_iload sD8_clauseFor_76 rfl ?_
            refine sd_iretp sD8_clauseFor_78 rfl ?_
            have zf : sd_fcx x f w t = (zi39 : Int) := sd_fst_at (P := sd_Pcl x f w t) hhzi39 ⟨by assumption, by assumption⟩ (by unfold sd_aft at hizi39; split at hizi39 <;> omega)
            have zi : sd_inF x t (x 0) := by unfold sd_aft at hizi39; split at hizi39; assumption; omega
            rw [ecl]; simp only [sd_clf]; rw [if_pos ⟨zi, by omega⟩, zf]; omega
      ·
        show sd_Wp sd_SC 1 sY8_clauseFor 39 [some (.inr 36), some (.inl w), some (.inl hr_), some (.inr 51), some (.inl (t : Int)), some (.inl (sd_aft x t)), some (.inl ((((sd_aft x t).toNat) : Nat) : Int)), none] [] m _
        have haf : sd_aft x t ≤ x (6010 + t) ∧ 0 ≤ sd_aft x t := by unfold sd_aft; split <;> omega
        refine sd_iload sD8_clauseFor_39 rfl ?_
        refine sd_iload sD8_clauseFor_41 rfl ?_
        refine sd_icmp_ge (tgt := 85) sD8_clauseFor_43 (by decide) (fun zc43 => ?_) (fun zc43 => (by exfalso; omega))
        refine sd_iinc (y := (t : Int) - 1) (ls' := [some (.inr 36), some (.inl w), some (.inl hr_), some (.inr 51), some (.inl ((t : Int) - 1)), some (.inl (sd_aft x t)), some (.inl ((((sd_aft x t).toNat) : Nat) : Int)), none]) sD8_clauseFor_85 rfl (by omega) (by omega) (by decide) rfl ?_
        refine sd_goto (tgt := 8) sD8_clauseFor_88 (by decide) ?_
        have ecm : sd_clf x f w (t + 1) = sd_clf x f w t := by simp only [sd_clf]; rw [if_neg (fun q => q.2 (by unfold sd_fcx; have q1 := hhzi39; unfold sd_aft at q1; rw [if_pos q.1] at q1; exact sd_fst_none (P := sd_Pcl x f w t) q1))]
        refine sd_less (ls' := [some (.inr 36), some (.inl w), some (.inl hr_), some (.inr 51), some (.inl ((t : Int) - 1)), none, none, none]) ?_ rfl (by intro zi zv zh; rcases zi with _ | _ | _ | _ | _ | _ | _ | _ | zi <;> first | exact zh | cases zh)
        exact sd_eqw (ls' := [some (.inr 36), some (.inl w), some (.inl hr_), some (.inr 51), some (.inl (x 5 - 1 - ((zi8 + 1 : Nat) : Int))), none, none, none]) (ihzi8 (by rw [ecl, ecm]; congr 1; omega)) (sd_cg rfl (sd_cg rfl (sd_cg rfl (sd_cg rfl (sd_cg (sd_ce (show ((t : Int) - 1 : Int) = (x 5 - 1 - ((zi8 + 1 : Nat) : Int)) from by omega)) (sd_cg rfl (sd_cg rfl (sd_cg rfl rfl)))))))) rfl
    ·
      refine sd_bif_eq (tgt := 33) sD8_clauseFor_20 (by decide) (fun zc20 => ?_) (fun zc20 => ?_)
      ·
        refine sd_iconst sD8_clauseFor_33 (by decide) ?_
        exact K20 _ (by unfold sd_aft; first | (rw [if_pos (by rw [← hh]; assumption)]; done) | (rw [if_neg (by rw [← hh]; assumption)]; done))
      ·
        refine sd_aload_n sD8_clauseFor_23 rfl ?_
        refine sd_getfr sD8_clauseFor_24 sF8_28 sGC36_5 ?_
        refine sd_iload sD8_clauseFor_27 rfl ?_
        refine sd_ialdx (a := (6010 + t)) (v := x (6010 + t)) hx sD8_clauseFor_29 sAC28 (by omega) rfl ?_
        refine sd_goto (tgt := 34) sD8_clauseFor_30 (by decide) ?_
        exact K20 _ (by unfold sd_aft; first | (rw [if_pos (by rw [← hh]; assumption)]; done) | (rw [if_neg (by rw [← hh]; assumption)]; done))
  ·
    show sd_Wp sd_SC 1 sY8_clauseFor 8 [some (.inr 36), some (.inl w), some (.inl hr_), some (.inr 51), some (.inl (x 5 - 1 - ((((x 5).toNat) : Nat) : Int))), none, none, none] [] m _
    refine sd_iload sD8_clauseFor_8 rfl ?_
    refine sd_if_lt (tgt := 91) sD8_clauseFor_10 (by decide) (fun zc10 => ?_) (fun zc10 => (by exfalso; omega))
    refine sd_iconst sD8_clauseFor_91 (by decide) ?_
    refine sd_iretp sD8_clauseFor_92 rfl ?_
    rw [hhzi8, Nat.sub_self]; rfl
