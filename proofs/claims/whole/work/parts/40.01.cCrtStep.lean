set_option maxRecDepth 100000 in
set_option maxHeartbeats 4000000 in
theorem cC_rtStep (B : Nat → Int) (n t c k : Nat) (ht : t < 8) (hck : c + 1 + k = 5) (Q : Option sd_V → sd_M → Prop) (x m : sd_M) (p : Nat) (hx : sd_ns x m) (hT : sd_TB x B n) (hp : m 5390 = (p : Int)) (hpn : p ≤ n) (h5 : x 5 = (t : Int)) (hQ : ∀ r m', sd_Qt B n t c (k + 1) p x r m' → Q r m')
    (ih : 0 < k → ∀ (x m : sd_M) (p : Nat), sd_ns x m → sd_TB x B n → m 5390 = (p : Int) → p ≤ n → x 5 = (t : Int) → (∀ r m', sd_Qt B n t (c + 1) k p x r m' → Q r m') → sd_Wp sd_SC 8 sY7_readText 34 [some (.inr 118), some (.inr 36), some (.inl ((c + 1 : Nat) : Int)), some (.inl ((5 * t + (c + 1) : Nat) : Int))] [] m Q) : sd_Wp sd_SC 8 sY7_readText 34 [some (.inr 118), some (.inr 36), some (.inl (c : Int)), some (.inl ((5 * t + c : Nat) : Int))] [] m Q := by
  have t1 := hT.1
  have t2 := hT.2.1
  refine sd_aload_n sD7_readText_34 rfl ?_
  refine sd_aload_n sD7_readText_35 rfl ?_
  refine sd_iload_n sD7_readText_36 rfl ?_
  refine sd_callV (as := [.inr 36, .inl ((5 * t + c : Nat) : Int)]) (st := []) sD7_readText_37 sM7_29 rfl rfl sOC118 rfl (by decide) (Nat.le_of_ble_eq_true rfl) (cC_rwords (5 * t + c) (by omega) B n p _ m hx hT hp (by omega)) (fun r m hq ho37 hm => ?_)
  obtain ⟨X37_1, hx, ho37_1, hq37_1⟩ := hq
  replace hT : sd_TB X37_1 B n := hT.keep (fun j hj => ho37_1 j (by omega) (by omega) (by omega))
  have t137_1 := hT.1
  have h537_1 : X37_1 5 = (t : Int) := (ho37_1 5 (by omega) (by omega) (by omega)).trans h5
  have hf37_1 : ∀ j, ¬ sd_rg t c j → X37_1 j = x j := fun j hj => (ho37_1 j (by omega) (by omega) (by omega)).trans ((fun j _ => rfl) j hj)
  rcases hq37_1 with ⟨q37_1, hz37_1, rfl, hp37_1, hn37_1⟩ | ⟨sw37_1, q37_1, hz37_1, rfl, hp37_1, hn37_1, hw137_1, hw237_1, hw337_1⟩
  ·
    show sd_Wp sd_SC 8 sY7_readText 40 [some (.inr 118), some (.inr 36), some (.inl (c : Int)), some (.inl ((5 * t + c : Nat) : Int))] [.inl 0] m _
    refine sd_if_ne (tgt := 45) sD7_readText_40 (by decide) (fun zc40 => (by exfalso; omega)) (fun zc40 => ?_)
    refine sd_iconst sD7_readText_43 (by decide) ?_
    refine sd_zreturn sD7_readText_44 rfl (by decide) (fun hm => hQ _ _ ?_)
    exact ⟨X37_1, hx, hf37_1, Or.inl ⟨q37_1, by simp only [sd_txt, sd_cls, hz37_1], rfl, hp37_1⟩⟩
  ·
    show sd_Wp sd_SC 8 sY7_readText 40 [some (.inr 118), some (.inr 36), some (.inl (c : Int)), some (.inl ((5 * t + c : Nat) : Int))] [.inl 1] m _
    refine sd_if_ne (tgt := 45) sD7_readText_40 (by decide) (fun zc40 => ?_) (fun zc40 => (by exfalso; omega))
    refine sd_aload_n sD7_readText_45 rfl ?_
    refine sd_bipush sD7_readText_46 rfl (by decide) ?_
    refine sd_callV (as := [.inl 32]) (st := []) sD7_readText_48 sM7_25 rfl rfl sOC118 rfl (by decide) (Nat.le_of_ble_eq_true rfl) (cC_sees 32 (by decide) B n q37_1 _ m hx hT hp37_1 (by omega)) (fun r m hq ho48 hm => ?_)
    obtain ⟨rfl, hx, hq48_2⟩ := hq
    rcases (Classical.em (B q37_1 = 32)) with hb48_2 | hb48_2
    ·
      rw [if_pos hb48_2] at hq48_2
      have hn48_2 := ((hT.byte q37_1 (c := 32) (by decide)).mp hb48_2).1
      rw [sd_b1 hb48_2]
      show sd_Wp sd_SC 8 sY7_readText 51 [some (.inr 118), some (.inr 36), some (.inl (c : Int)), some (.inl ((5 * t + c : Nat) : Int))] [.inl 1] m _
      refine sd_if_eq (tgt := 74) sD7_readText_51 (by decide) (fun zc51 => (by exfalso; omega)) (fun zc51 => ?_)
      refine sd_aload_n sD7_readText_54 rfl ?_
      refine sd_ldcS (i := 7) sD7_readText_55 rfl rfl ?_
      refine sd_callV (as := [.inr 917]) (st := []) sD7_readText_57 sM7_35 rfl rfl sOC118 rfl (by decide) (Nat.le_of_ble_eq_true rfl) (cC_spells 7 (by decide) B n (q37_1 + 1) _ m hx hT hq48_2 (by omega)) (fun r m hq ho57 hm => ?_)
      obtain ⟨rfl, hx, hq57_3⟩ := hq
      have hn57_3 : sd_fe B (q37_1 + 1) 7 ≤ n := sd_fe_le hT (by decide) (by omega)
      rcases (Classical.em (sd_ff B (q37_1 + 1) 7 = -1)) with hb57_3 | hb57_3
      ·
        rw [sd_b1 hb57_3]
        show sd_Wp sd_SC 8 sY7_readText 60 [some (.inr 118), some (.inr 36), some (.inl (c : Int)), some (.inl ((5 * t + c : Nat) : Int))] [.inl 1] m _
        refine sd_if_eq (tgt := 72) sD7_readText_60 (by decide) (fun zc60 => (by exfalso; omega)) (fun zc60 => ?_)
        refine sd_aload_n sD7_readText_63 rfl ?_
        refine sd_aload_n sD7_readText_64 rfl ?_
        refine sd_iload_n sD7_readText_65 rfl ?_
        refine sd_callV (as := [.inr 36, .inl ((5 * t + c : Nat) : Int)]) (st := []) sD7_readText_66 sM7_39 rfl rfl sOC118 rfl (by decide) (Nat.le_of_ble_eq_true rfl) (cC_rtests (5 * t + c) (by omega) B n (sd_fe B (q37_1 + 1) 7) _ m hx hT hq57_3 (by omega)) (fun r m hq ho66 hm => ?_)
        obtain ⟨X66_4, hx, ho66_4, hq66_4⟩ := hq
        replace hT : sd_TB X66_4 B n := hT.keep (fun j hj => ho66_4 j (by omega) (by omega) (by omega) (by omega))
        have t166_4 := hT.1
        have h566_4 : X66_4 5 = (t : Int) := (ho66_4 5 (by omega) (by omega) (by omega) (by omega)).trans h537_1
        have hf66_4 : ∀ j, ¬ sd_rg t c j → X66_4 j = x j := fun j hj => (ho66_4 j (by omega) (by omega) (by omega) (by omega)).trans (hf37_1 j hj)
        rcases hq66_4 with ⟨q66_4, hz66_4, rfl, hp66_4, hn66_4⟩ | ⟨ts66_4, q66_4, hz66_4, rfl, hp66_4, hn66_4, hl66_4, hr66_4⟩
        ·
          show sd_Wp sd_SC 8 sY7_readText 69 [some (.inr 118), some (.inr 36), some (.inl (c : Int)), some (.inl ((5 * t + c : Nat) : Int))] [.inl 0] m _
          refine sd_if_ne (tgt := 74) sD7_readText_69 (by decide) (fun zc69 => (by exfalso; omega)) (fun zc69 => ?_)
          refine sd_iconst sD7_readText_72 (by decide) ?_
          refine sd_zreturn sD7_readText_73 rfl (by decide) (fun hm => hQ _ _ ?_)
          exact ⟨X66_4, hx, hf66_4, Or.inl ⟨q66_4, by simp only [sd_txt, sd_cls, hz37_1]; rw [if_pos hb48_2, if_pos hb57_3, hz66_4], rfl, hp66_4⟩⟩
        ·
          show sd_Wp sd_SC 8 sY7_readText 69 [some (.inr 118), some (.inr 36), some (.inl (c : Int)), some (.inl ((5 * t + c : Nat) : Int))] [.inl 1] m _
          refine sd_if_ne (tgt := 74) sD7_readText_69 (by decide) (fun zc69 => ?_) (fun zc69 => (by exfalso; omega))
          have hcl : sd_cls B p = .inr ((sw37_1.1, sw37_1.2, ts66_4), q66_4) := by simp only [sd_cls, hz37_1]; rw [if_pos hb48_2, if_pos hb57_3, hz66_4]
          have hC : sd_rC X66_4 (5 * t + c) (sw37_1.1, sw37_1.2, ts66_4) := ⟨by rw [ho66_4 _ (by omega) (by omega) (by omega) (by omega)]; exact hw137_1, by rw [ho66_4 _ (by omega) (by omega) (by omega) (by omega)]; exact hw237_1, hl66_4, hr66_4⟩
          refine sd_aload_n sD7_readText_74 rfl ?_
          refine sd_getfi sD7_readText_75 sF7_15 sGC118_1 ?_
          rw [show m 5390 = (q66_4 : Int) from hp66_4]
          refine sd_aload_n sD7_readText_78 rfl ?_
          refine sd_getfx (v := X66_4 4100) hx sD7_readText_79 sF7_9 sGC118_0 (by decide) rfl ?_
          refine sd_icmp_ne (tgt := 99) sD7_readText_82 (by decide) (fun zc82 => ?_) (fun zc82 => ?_)
          ·
            refine sd_iinc (y := ((c : Int) + 1)) (ls' := [some (.inr 118), some (.inr 36), some (.inl ((c : Int) + 1)), some (.inl ((5 * t + c : Nat) : Int))]) sD7_readText_99 rfl (by omega) (by omega) (by decide) rfl ?_
            refine sd_goto (tgt := 7) sD7_readText_102 (by decide) ?_
            refine sd_iload_n sD7_readText_7 rfl ?_
            refine sd_iconst sD7_readText_8 (by decide) ?_
            refine sd_icmp_ge (tgt := 105) sD7_readText_9 (by decide) (fun zc9 => ?_) (fun zc9 => ?_)
            ·
              refine sd_iconst sD7_readText_105 (by decide) ?_
              refine sd_zreturn sD7_readText_106 rfl (by decide) (fun hm => hQ _ _ ?_)
              exact ⟨X66_4, hx, hf66_4, Or.inl ⟨q66_4, by simp only [sd_txt, hcl]; rw [if_neg (by omega), if_pos (by omega)], rfl, hp66_4⟩⟩
            ·
              refine sd_aload_n sD7_readText_12 rfl ?_
              refine sd_getfx (v := (t : Int)) hx sD7_readText_13 sF7_22 sGC36_0 (by decide) h566_4 ?_
              refine sd_iconst sD7_readText_16 (by decide) ?_
              refine sd_imul (z := ((t : Int) * 5)) sD7_readText_17 (by omega) (by omega) ?_
              refine sd_iload_n sD7_readText_18 rfl ?_
              refine sd_iadd (z := (((t : Int) * 5) + ((c : Int) + 1))) sD7_readText_19 (by omega) (by omega) ?_
              refine sd_istore_n (ls' := [some (.inr 118), some (.inr 36), some (.inl ((c : Int) + 1)), some (.inl (((t : Int) * 5) + ((c : Int) + 1)))]) sD7_readText_20 (by decide) rfl ?_
              refine sd_iload_n sD7_readText_21 rfl ?_
              refine sd_if_le (tgt := 34) sD7_readText_22 (by decide) (fun zc22 => (by exfalso; omega)) (fun zc22 => ?_)
              refine sd_aload_n sD7_readText_25 rfl ?_
              refine sd_bipush sD7_readText_26 rfl (by decide) ?_
              refine sd_callV (as := [.inl 59]) (st := []) sD7_readText_28 sM7_25 rfl rfl sOC118 rfl (by decide) (Nat.le_of_ble_eq_true rfl) (cC_sees 59 (by decide) B n q66_4 _ m hx hT hp66_4 (by omega)) (fun r m hq ho28 hm => ?_)
              obtain ⟨rfl, hx, hq28_5⟩ := hq
              rcases (Classical.em (B q66_4 = 59)) with hb28_5 | hb28_5
              ·
                rw [if_pos hb28_5] at hq28_5
                have hn28_5 := ((hT.byte q66_4 (c := 59) (by decide)).mp hb28_5).1
                rw [sd_b1 hb28_5]
                show sd_Wp sd_SC 8 sY7_readText 31 [some (.inr 118), some (.inr 36), some (.inl ((c : Int) + 1)), some (.inl (((t : Int) * 5) + ((c : Int) + 1)))] [.inl 1] m _
                refine sd_if_eq (tgt := 43) sD7_readText_31 (by decide) (fun zc31 => (by exfalso; omega)) (fun zc31 => ?_)
                refine sd_eqw (ls' := [some (.inr 118), some (.inr 36), some (.inl ((c + 1 : Nat) : Int)), some (.inl ((5 * t + (c + 1) : Nat) : Int))]) ?_ (sd_cg rfl (sd_cg rfl (sd_cg (sd_ce (by omega)) (sd_cg (sd_ce (by omega)) rfl)))) rfl
                exact ih (by omega) X66_4 m (q66_4 + 1) hx hT hq28_5 (by omega) h566_4 (fun r m2 hq => hQ r m2 (sd_Qt_step ht (by omega) hcl (by omega) (by omega) hb28_5 hC hf66_4 hq))
              ·
                rw [if_neg hb28_5] at hq28_5
                rw [sd_b0 hb28_5]
                show sd_Wp sd_SC 8 sY7_readText 31 [some (.inr 118), some (.inr 36), some (.inl ((c : Int) + 1)), some (.inl (((t : Int) * 5) + ((c : Int) + 1)))] [.inl 0] m _
                refine sd_if_eq (tgt := 43) sD7_readText_31 (by decide) (fun zc31 => ?_) (fun zc31 => (by exfalso; omega))
                refine sd_iconst sD7_readText_43 (by decide) ?_
                refine sd_zreturn sD7_readText_44 rfl (by decide) (fun hm => hQ _ _ ?_)
                exact ⟨X66_4, hx, hf66_4, Or.inl ⟨q66_4, by simp only [sd_txt, hcl]; rw [if_neg (by omega), if_neg (by omega), if_neg hb28_5], rfl, hq28_5⟩⟩
          ·
            refine sd_aload_n sD7_readText_85 rfl ?_
            refine sd_getfr sD7_readText_86 sF7_42 sGC36_5 ?_
            refine sd_aload_n sD7_readText_89 rfl ?_
            refine sd_getfx (v := (t : Int)) hx sD7_readText_90 sF7_22 sGC36_0 (by decide) h566_4 ?_
            refine sd_iload_n sD7_readText_93 rfl ?_
            refine sd_iconst sD7_readText_94 (by decide) ?_
            refine sd_iadd (z := ((c : Int) + 1)) sD7_readText_95 (by omega) (by omega) ?_
            refine sd_iastx (a := (6010 + t)) sd_sokC hx sD7_readText_96 sAC28 (by omega) (fun m hx em96 => ?_)
            have hpl96_6 : m 5390 = ((q66_4 : Nat) : Int) := by rw [em96, sd_up_ne (by omega)]; exact hp66_4
            refine sd_iconst sD7_readText_97 (by decide) ?_
            refine sd_zreturn sD7_readText_98 rfl (by decide) (fun hm => hQ _ _ ?_)
            refine ⟨(sd_up X66_4 (6010 + t) ((c : Int) + 1)), hx, fun j hj => by rw [sd_up_ne (by omega)]; exact hf66_4 j hj, Or.inr ⟨[(sw37_1.1, sw37_1.2, ts66_4)], by simp only [sd_txt, hcl]; rw [if_pos (by omega)], rfl, by rw [sd_up_eq]; rfl, fun i cl hi => ?_⟩⟩
            rcases i with _ | i
            · simp at hi; subst hi; exact sd_rC_keep hC (sd_cls_len hcl) (fun j hj => by rw [sd_up_ne (by omega)])
            · simp at hi
      ·
        rw [sd_b0 hb57_3]
        show sd_Wp sd_SC 8 sY7_readText 60 [some (.inr 118), some (.inr 36), some (.inl (c : Int)), some (.inl ((5 * t + c : Nat) : Int))] [.inl 0] m _
        refine sd_if_eq (tgt := 72) sD7_readText_60 (by decide) (fun zc60 => ?_) (fun zc60 => (by exfalso; omega))
        refine sd_iconst sD7_readText_72 (by decide) ?_
        refine sd_zreturn sD7_readText_73 rfl (by decide) (fun hm => hQ _ _ ?_)
        exact ⟨X37_1, hx, hf37_1, Or.inl ⟨(sd_fe B (q37_1 + 1) 7), by simp only [sd_txt, sd_cls, hz37_1]; rw [if_pos hb48_2, if_neg hb57_3], rfl, hq57_3⟩⟩
    ·
      rw [if_neg hb48_2] at hq48_2
      rw [sd_b0 hb48_2]
      show sd_Wp sd_SC 8 sY7_readText 51 [some (.inr 118), some (.inr 36), some (.inl (c : Int)), some (.inl ((5 * t + c : Nat) : Int))] [.inl 0] m _
      refine sd_if_eq (tgt := 74) sD7_readText_51 (by decide) (fun zc51 => ?_) (fun zc51 => (by exfalso; omega))
      have hcl : sd_cls B p = .inr ((sw37_1.1, sw37_1.2, []), q37_1) := by simp only [sd_cls, hz37_1]; rw [if_neg hb48_2]
      have hC : sd_rC X37_1 (5 * t + c) (sw37_1.1, sw37_1.2, []) := ⟨hw137_1, hw237_1, hw337_1, fun k t ht => by simp at ht⟩
      refine sd_aload_n sD7_readText_74 rfl ?_
      refine sd_getfi sD7_readText_75 sF7_15 sGC118_1 ?_
      rw [show m 5390 = (q37_1 : Int) from hq48_2]
      refine sd_aload_n sD7_readText_78 rfl ?_
      refine sd_getfx (v := X37_1 4100) hx sD7_readText_79 sF7_9 sGC118_0 (by decide) rfl ?_
      refine sd_icmp_ne (tgt := 99) sD7_readText_82 (by decide) (fun zc82 => ?_) (fun zc82 => ?_)
      ·
        refine sd_iinc (y := ((c : Int) + 1)) (ls' := [some (.inr 118), some (.inr 36), some (.inl ((c : Int) + 1)), some (.inl ((5 * t + c : Nat) : Int))]) sD7_readText_99 rfl (by omega) (by omega) (by decide) rfl ?_
        refine sd_goto (tgt := 7) sD7_readText_102 (by decide) ?_
        refine sd_iload_n sD7_readText_7 rfl ?_
        refine sd_iconst sD7_readText_8 (by decide) ?_
        refine sd_icmp_ge (tgt := 105) sD7_readText_9 (by decide) (fun zc9 => ?_) (fun zc9 => ?_)
        ·
          refine sd_iconst sD7_readText_105 (by decide) ?_
          refine sd_zreturn sD7_readText_106 rfl (by decide) (fun hm => hQ _ _ ?_)
          exact ⟨X37_1, hx, hf37_1, Or.inl ⟨q37_1, by simp only [sd_txt, hcl]; rw [if_neg (by omega), if_pos (by omega)], rfl, hq48_2⟩⟩
        ·
          refine sd_aload_n sD7_readText_12 rfl ?_
          refine sd_getfx (v := (t : Int)) hx sD7_readText_13 sF7_22 sGC36_0 (by decide) h537_1 ?_
          refine sd_iconst sD7_readText_16 (by decide) ?_
          refine sd_imul (z := ((t : Int) * 5)) sD7_readText_17 (by omega) (by omega) ?_
          refine sd_iload_n sD7_readText_18 rfl ?_
          refine sd_iadd (z := (((t : Int) * 5) + ((c : Int) + 1))) sD7_readText_19 (by omega) (by omega) ?_
          refine sd_istore_n (ls' := [some (.inr 118), some (.inr 36), some (.inl ((c : Int) + 1)), some (.inl (((t : Int) * 5) + ((c : Int) + 1)))]) sD7_readText_20 (by decide) rfl ?_
          refine sd_iload_n sD7_readText_21 rfl ?_
          refine sd_if_le (tgt := 34) sD7_readText_22 (by decide) (fun zc22 => (by exfalso; omega)) (fun zc22 => ?_)
          refine sd_aload_n sD7_readText_25 rfl ?_
          refine sd_bipush sD7_readText_26 rfl (by decide) ?_
          refine sd_callV (as := [.inl 59]) (st := []) sD7_readText_28 sM7_25 rfl rfl sOC118 rfl (by decide) (Nat.le_of_ble_eq_true rfl) (cC_sees 59 (by decide) B n q37_1 _ m hx hT hq48_2 (by omega)) (fun r m hq ho28 hm => ?_)
          obtain ⟨rfl, hx, hq28_7⟩ := hq
          rcases (Classical.em (B q37_1 = 59)) with hb28_7 | hb28_7
          ·
            rw [if_pos hb28_7] at hq28_7
            have hn28_7 := ((hT.byte q37_1 (c := 59) (by decide)).mp hb28_7).1
            rw [sd_b1 hb28_7]
            show sd_Wp sd_SC 8 sY7_readText 31 [some (.inr 118), some (.inr 36), some (.inl ((c : Int) + 1)), some (.inl (((t : Int) * 5) + ((c : Int) + 1)))] [.inl 1] m _
            refine sd_if_eq (tgt := 43) sD7_readText_31 (by decide) (fun zc31 => (by exfalso; omega)) (fun zc31 => ?_)
            refine sd_eqw (ls' := [some (.inr 118), some (.inr 36), some (.inl ((c + 1 : Nat) : Int)), some (.inl ((5 * t + (c + 1) : Nat) : Int))]) ?_ (sd_cg rfl (sd_cg rfl (sd_cg (sd_ce (by omega)) (sd_cg (sd_ce (by omega)) rfl)))) rfl
            exact ih (by omega) X37_1 m (q37_1 + 1) hx hT hq28_7 (by omega) h537_1 (fun r m2 hq => hQ r m2 (sd_Qt_step ht (by omega) hcl (by omega) (by omega) hb28_7 hC hf37_1 hq))
          ·
            rw [if_neg hb28_7] at hq28_7
            rw [sd_b0 hb28_7]
            show sd_Wp sd_SC 8 sY7_readText 31 [some (.inr 118), some (.inr 36), some (.inl ((c : Int) + 1)), some (.inl (((t : Int) * 5) + ((c : Int) + 1)))] [.inl 0] m _
            refine sd_if_eq (tgt := 43) sD7_readText_31 (by decide) (fun zc31 => ?_) (fun zc31 => (by exfalso; omega))
            refine sd_iconst sD7_readText_43 (by decide) ?_
            refine sd_zreturn sD7_readText_44 rfl (by decide) (fun hm => hQ _ _ ?_)
            exact ⟨X37_1, hx, hf37_1, Or.inl ⟨q37_1, by simp only [sd_txt, hcl]; rw [if_neg (by omega), if_neg (by omega), if_neg hb28_7], rfl, hq28_7⟩⟩
      ·
        refine sd_aload_n sD7_readText_85 rfl ?_
        refine sd_getfr sD7_readText_86 sF7_42 sGC36_5 ?_
        refine sd_aload_n sD7_readText_89 rfl ?_
        refine sd_getfx (v := (t : Int)) hx sD7_readText_90 sF7_22 sGC36_0 (by decide) h537_1 ?_
        refine sd_iload_n sD7_readText_93 rfl ?_
        refine sd_iconst sD7_readText_94 (by decide) ?_
        refine sd_iadd (z := ((c : Int) + 1)) sD7_readText_95 (by omega) (by omega) ?_
        refine sd_iastx (a := (6010 + t)) sd_sokC hx sD7_readText_96 sAC28 (by omega) (fun m hx em96 => ?_)
        have hpl96_8 : m 5390 = ((q37_1 : Nat) : Int) := by rw [em96, sd_up_ne (by omega)]; exact hq48_2
        refine sd_iconst sD7_readText_97 (by decide) ?_
        refine sd_zreturn sD7_readText_98 rfl (by decide) (fun hm => hQ _ _ ?_)
        refine ⟨(sd_up X37_1 (6010 + t) ((c : Int) + 1)), hx, fun j hj => by rw [sd_up_ne (by omega)]; exact hf37_1 j hj, Or.inr ⟨[(sw37_1.1, sw37_1.2, ([] : List (Nat × Nat × Int)))], by simp only [sd_txt, hcl]; rw [if_pos (by omega)], rfl, by rw [sd_up_eq]; rfl, fun i cl hi => ?_⟩⟩
        rcases i with _ | i
        · simp at hi; subst hi; exact sd_rC_keep hC (sd_cls_len hcl) (fun j hj => by rw [sd_up_ne (by omega)])
        · simp at hi
