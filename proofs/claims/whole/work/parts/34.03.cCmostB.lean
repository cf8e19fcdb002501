set_option maxRecDepth 100000 in
set_option maxHeartbeats 4000000 in
theorem cC_mostB (m : sd_M) (cr sa : Nat → Int) (hc : ∀ g, g < 24 → m (5070 + g) = cr g) (hs : ∀ g, g < 24 → m (5040 + g) = sa g) (hcr : ∀ g, 0 ≤ cr g ∧ cr g ≤ 54) (hsa : ∀ g, 0 ≤ sa g ∧ sa g ≤ 9) : sd_Cp sd_SC 1 sY4_mostBelieved [.inr 42] m (.inl (sd_mbk cr sa 24)) := by
  refine sd_ct rfl (Nat.le_of_ble_eq_true rfl) (fun hok hm => ?_)
  show sd_Wp sd_SC 1 sY4_mostBelieved 0 [some (.inr 42), none, none] [] m _
  refine sd_iconst sD4_mostBelieved_0 (by decide) ?_
  refine sd_istore_n (ls' := [some (.inr 42), some (.inl (-1)), none]) sD4_mostBelieved_1 (by decide) rfl ?_
  refine sd_iconst sD4_mostBelieved_2 (by decide) ?_
  refine sd_istore_n (ls' := [some (.inr 42), some (.inl (-1)), some (.inl 0)]) sD4_mostBelieved_3 (by decide) rfl ?_
  refine sd_forE (24) (fun zi4 : Nat => [some (.inr 42), some (.inl (sd_mbk cr sa zi4)), some (.inl (zi4 : Int))]) (by rfl) (fun zi4 hizi4 ihzi4 => ?_) ?_
  ·
    have e1 := hc zi4 (by omega)
    have e2 := sd_mbk_rng cr sa zi4
    refine sd_iload_n sD4_mostBelieved_4 rfl ?_
    refine sd_bipush sD4_mostBelieved_5 rfl (by decide) ?_
    refine sd_icmp_ge (tgt := 41) sD4_mostBelieved_7 (by decide) (fun zc7 => (by exfalso; omega)) (fun zc7 => ?_)
    refine sd_aload_n sD4_mostBelieved_10 rfl ?_
    refine sd_getfr sD4_mostBelieved_11 sF4_31 sGC42_6 ?_
    refine sd_iload_n sD4_mostBelieved_14 rfl ?_
    refine sd_iald (a := (5070 + zi4)) sD4_mostBelieved_15 sAC41 (by omega) ?_
    refine sd_if_le (tgt := 35) sD4_mostBelieved_16 (by decide) (fun zc16 => ?_) (fun zc16 => ?_)
    ·
      refine sd_iinc (y := ((zi4 : Int) + 1)) (ls' := [some (.inr 42), some (.inl (sd_mbk cr sa zi4)), some (.inl ((zi4 : Int) + 1))]) sD4_mostBelieved_35 rfl (by omega) (by omega) (by decide) rfl ?_
      refine sd_goto (tgt := 4) sD4_mostBelieved_38 (by decide) ?_
      exact sd_eqw (ls' := [some (.inr 42), some (.inl (sd_mbk cr sa (zi4 + 1))), some (.inl ((zi4 + 1 : Nat) : Int))]) ihzi4 (sd_cg rfl (sd_cg (sd_ce (show (sd_mbk cr sa zi4 : Int) = sd_mbk cr sa (zi4 + 1) from by simp only [sd_mbk]; first | (rw [if_pos ⟨by omega, by first | exact Or.inl (by assumption) | exact Or.inr (by assumption)⟩]; done) | (rw [if_neg (fun q => by have q1 := q.1; rcases q.2 with q2 | q2 <;> first | omega | contradiction)]; done))) (sd_cg (sd_ce (show (((zi4 : Int) + 1) : Int) = ((zi4 + 1 : Nat) : Int) from by omega)) rfl))) rfl
    ·
      refine sd_iload_n sD4_mostBelieved_19 rfl ?_
      refine sd_iconst sD4_mostBelieved_20 (by decide) ?_
      refine sd_icmp_eq (tgt := 33) sD4_mostBelieved_21 (by decide) (fun zc21 => ?_) (fun zc21 => ?_)
      ·
        refine sd_iload_n sD4_mostBelieved_33 rfl ?_
        refine sd_istore_n (ls' := [some (.inr 42), some (.inl (zi4 : Int)), some (.inl (zi4 : Int))]) sD4_mostBelieved_34 (by decide) rfl ?_
        refine sd_iinc (y := ((zi4 : Int) + 1)) (ls' := [some (.inr 42), some (.inl (zi4 : Int)), some (.inl ((zi4 : Int) + 1))]) sD4_mostBelieved_35 rfl (by omega) (by omega) (by decide) rfl ?_
        refine sd_goto (tgt := 4) sD4_mostBelieved_38 (by decide) ?_
        exact sd_eqw (ls' := [some (.inr 42), some (.inl (sd_mbk cr sa (zi4 + 1))), some (.inl ((zi4 + 1 : Nat) : Int))]) ihzi4 (sd_cg rfl (sd_cg (sd_ce (show ((zi4 : Int) : Int) = sd_mbk cr sa (zi4 + 1) from by simp only [sd_mbk]; first | (rw [if_pos ⟨by omega, by first | exact Or.inl (by assumption) | exact Or.inr (by assumption)⟩]; done) | (rw [if_neg (fun q => by have q1 := q.1; rcases q.2 with q2 | q2 <;> first | omega | contradiction)]; done))) (sd_cg (sd_ce (show (((zi4 : Int) + 1) : Int) = ((zi4 + 1 : Nat) : Int) from by omega)) rfl))) rfl
      ·
        refine sd_aload_n sD4_mostBelieved_24 rfl ?_
        refine sd_iload_n sD4_mostBelieved_25 rfl ?_
        refine sd_iload_n sD4_mostBelieved_26 rfl ?_
        refine sd_callVp (as := [.inl (zi4 : Int), .inl (sd_mbk cr sa zi4)]) (st := []) (v := .inl (sd_b (cr ((sd_mbk cr sa zi4).toNat) * (sa zi4 + 1) < cr zi4 * (sa ((sd_mbk cr sa zi4).toNat) + 1)))) sD4_mostBelieved_27 sM4_56 sOC42 rfl rfl rfl (by decide) (Nat.le_of_ble_eq_true rfl) (cC_isMoreB zi4 (sd_mbk cr sa zi4) m (by omega) (by omega) cr sa hc hs hcr hsa) (fun ho27 => ?_)
        refine sd_bif_eq (tgt := 35) sD4_mostBelieved_30 (by decide) (fun zc30 => ?_) (fun zc30 => ?_)
        ·
          refine sd_iinc (y := ((zi4 : Int) + 1)) (ls' := [some (.inr 42), some (.inl (sd_mbk cr sa zi4)), some (.inl ((zi4 : Int) + 1))]) sD4_mostBelieved_35 rfl (by omega) (by omega) (by decide) rfl ?_
          refine sd_goto (tgt := 4) sD4_mostBelieved_38 (by decide) ?_
          exact sd_eqw (ls' := [some (.inr 42), some (.inl (sd_mbk cr sa (zi4 + 1))), some (.inl ((zi4 + 1 : Nat) : Int))]) ihzi4 (sd_cg rfl (sd_cg (sd_ce (show (sd_mbk cr sa zi4 : Int) = sd_mbk cr sa (zi4 + 1) from by simp only [sd_mbk]; first | (rw [if_pos ⟨by omega, by first | exact Or.inl (by assumption) | exact Or.inr (by assumption)⟩]; done) | (rw [if_neg (fun q => by have q1 := q.1; rcases q.2 with q2 | q2 <;> first | omega | contradiction)]; done))) (sd_cg (sd_ce (show (((zi4 : Int) + 1) : Int) = ((zi4 + 1 : Nat) : Int) from by omega)) rfl))) rfl
        ·
          refine sd_iload_n sD4_mostBelieved_33 rfl ?_
          refine sd_istore_n (ls' := [some (.inr 42), some (.inl (zi4 : Int)), some (.inl (zi4 : Int))]) sD4_mostBelieved_34 (by decide) rfl ?_
          refine sd_iinc (y := ((zi4 : Int) + 1)) (ls' := [some (.inr 42), some (.inl (zi4 : Int)), some (.inl ((zi4 : Int) + 1))]) sD4_mostBelieved_35 rfl (by omega) (by omega) (by decide) rfl ?_
          refine sd_goto (tgt := 4) sD4_mostBelieved_38 (by decide) ?_
          exact sd_eqw (ls' := [some (.inr 42), some (.inl (sd_mbk cr sa (zi4 + 1))), some (.inl ((zi4 + 1 : Nat) : Int))]) ihzi4 (sd_cg rfl (sd_cg (sd_ce (show ((zi4 : Int) : Int) = sd_mbk cr sa (zi4 + 1) from by simp only [sd_mbk]; first | (rw [if_pos ⟨by omega, by first | exact Or.inl (by assumption) | exact Or.inr (by assumption)⟩]; done) | (rw [if_neg (fun q => by have q1 := q.1; rcases q.2 with q2 | q2 <;> first | omega | contradiction)]; done))) (sd_cg (sd_ce (show (((zi4 : Int) + 1) : Int) = ((zi4 + 1 : Nat) : Int) from by omega)) rfl))) rfl
  ·
    show sd_Wp sd_SC 1 sY4_mostBelieved 4 [some (.inr 42), some (.inl (sd_mbk cr sa 24)), some (.inl (24 : Int))] [] m _
    refine sd_iload_n sD4_mostBelieved_4 rfl ?_
    refine sd_bipush sD4_mostBelieved_5 rfl (by decide) ?_
    refine sd_icmp_ge (tgt := 41) sD4_mostBelieved_7 (by decide) (fun zc7 => ?_) (fun zc7 => (by exfalso; omega))
    refine sd_iload_n sD4_mostBelieved_41 rfl ?_
    refine sd_iretp sD4_mostBelieved_42 rfl ?_
    rfl
