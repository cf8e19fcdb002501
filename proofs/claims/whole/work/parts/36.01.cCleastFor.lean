set_option maxRecDepth 100000 in
set_option maxHeartbeats 4000000 in
theorem cC_leastFor (g tk : Int) (x m : sd_M) (hx : sd_ns x m) (h1 : sd_I1 x) (h2 : sd_I2 x) (h7 : sd_I7 x) (hg : 0 ≤ g ∧ g < 24) : sd_Ct sd_SC 3 sY4_leastFor [.inr 42, .inl g, .inl tk, .inr 13] m (fun r m' => r = some (.inl (sd_lf x g.toNat tk (sd_sqN (sd_oth x)))) ∧ sd_ns x m') := by
  refine sd_ct rfl (Nat.le_of_ble_eq_true rfl) (fun hok hm => ?_)
  obtain ⟨⟨i0, j0⟩, ⟨i1, j1⟩, ⟨i2, j2⟩, ⟨i3, j3⟩, ⟨i4, j4⟩, ⟨i5, j5⟩, ⟨i6, j6⟩, ⟨i7, j7⟩, ⟨i8, j8⟩⟩ := id h1
  show sd_Wp sd_SC 3 sY4_leastFor 0 [some (.inr 42), some (.inl g), some (.inl tk), some (.inr 13), none, none, none, none, none, none] [] m _
  refine sd_aload_n sD4_leastFor_0 rfl ?_
  refine sd_callVp (as := []) (st := []) (v := .inl (sd_tho x)) sD4_leastFor_1 sM4_59 sOC42 rfl rfl rfl (by decide) (Nat.le_of_ble_eq_true rfl) (cC_thoseOut  _ m hx h1 h7 ) (fun ho1 => ?_)
  refine sd_istore (ls' := [some (.inr 42), some (.inl g), some (.inl tk), some (.inr 13), some (.inl (sd_tho x)), none, none, none, none, none]) sD4_leastFor_4 (by decide) rfl ?_
  have e1 := sd_p6 h1
  have e2 := sd_oth_rng h1
  refine sd_iconst sD4_leastFor_6 (by decide) ?_
  refine sd_aload_n sD4_leastFor_7 rfl ?_
  refine sd_getfx (v := x 6) hx sD4_leastFor_8 sF4_9 sGC42_0 (by decide) rfl ?_
  refine sd_ishl sD4_leastFor_11 ?_
  refine sd_iconst sD4_leastFor_12 (by decide) ?_
  refine sd_isub (z := (sd_shl 1 (x 6) - 1)) sD4_leastFor_13 (by omega) (by omega) ?_
  refine sd_iload sD4_leastFor_14 rfl ?_
  refine sd_iconst sD4_leastFor_16 (by decide) ?_
  refine sd_ixor sD4_leastFor_17 ?_
  refine sd_iand sD4_leastFor_18 ?_
  show sd_Wp _ _ _ _ _ [.inl (sd_oth x)] m _
  refine sd_istore (ls' := [some (.inr 42), some (.inl g), some (.inl tk), some (.inr 13), some (.inl (sd_tho x)), some (.inl (sd_oth x)), none, none, none, none]) sD4_leastFor_19 (by decide) rfl ?_
  refine sd_iconst sD4_leastFor_21 (by decide) ?_
  refine sd_istore (ls' := [some (.inr 42), some (.inl g), some (.inl tk), some (.inr 13), some (.inl (sd_tho x)), some (.inl (sd_oth x)), some (.inl (-1)), none, none, none]) sD4_leastFor_22 (by decide) rfl ?_
  refine sd_iconst sD4_leastFor_24 (by decide) ?_
  refine sd_istore (ls' := [some (.inr 42), some (.inl g), some (.inl tk), some (.inr 13), some (.inl (sd_tho x)), some (.inl (sd_oth x)), some (.inl (-1)), some (.inl 0), none, none]) sD4_leastFor_25 (by decide) rfl ?_
  refine sd_iconst sD4_leastFor_27 (by decide) ?_
  refine sd_iload sD4_leastFor_28 rfl ?_
  refine sd_callSp (as := [.inl (sd_oth x)]) (st := [.inl 1]) (v := .inl (sd_ones (sd_oth x))) sD4_leastFor_30 sM4_62 rfl rfl (by decide) (Nat.le_of_ble_eq_true rfl) (cC_bitCount (sd_oth x) m (by first | omega | assumption)) (fun ho30 => ?_)
  refine sd_ishl sD4_leastFor_33 ?_
  rw [sd_shl_ones]
  refine sd_istore (ls' := [some (.inr 42), some (.inl g), some (.inl tk), some (.inr 13), some (.inl (sd_tho x)), some (.inl (sd_oth x)), some (.inl (-1)), some (.inl 0), some (.inl ((sd_sqN (sd_oth x) : Nat) : Int)), none]) sD4_leastFor_34 (by decide) rfl ?_
  refine sd_iconst sD4_leastFor_36 (by decide) ?_
  refine sd_istore (ls' := [some (.inr 42), some (.inl g), some (.inl tk), some (.inr 13), some (.inl (sd_tho x)), some (.inl (sd_oth x)), some (.inl (-1)), some (.inl 0), some (.inl ((sd_sqN (sd_oth x) : Nat) : Int)), some (.inl 0)]) sD4_leastFor_37 (by decide) rfl ?_
  refine sd_forX (sd_sqN (sd_oth x)) (fun zi39 : Nat => [some (.inr 42), some (.inl g), some (.inl tk), some (.inr 13), some (.inl (sd_tho x)), some (.inl (sd_oth x)), some (.inl (sd_lf x g.toNat tk zi39)), some (.inl (sd_sq (sd_oth x) zi39)), some (.inl ((sd_sqN (sd_oth x) : Nat) : Int)), some (.inl (zi39 : Int))]) (fun zi39 : Nat => x) (fun (zi39 : Nat) (m : sd_M) => True) (by rfl) (fun zi39 hizi39 m hx hpzi39 ihzi39 => ?_) (fun m hx hpzi39 => ?_) (by exact hx) (by trivial)
  ·
    have e5 := sd_sq_rng (S := sd_oth x) (by omega) zi39
    have e6 := sd_lf_rng h1 g.toNat tk zi39
    have e7 := sd_sqN_le (sd_oth x)
    have e8 := sd_sqd_rng h1 (sd_or (sd_tho x) (sd_sq (sd_oth x) zi39)) g.toNat
    refine sd_iload sD4_leastFor_39 rfl ?_
    refine sd_iload sD4_leastFor_41 rfl ?_
    refine sd_icmp_ge (tgt := 116) sD4_leastFor_43 (by decide) (fun zc43 => (by exfalso; omega)) (fun zc43 => ?_)
    refine sd_iload_n sD4_leastFor_46 rfl ?_
    refine sd_if_le (tgt := 116) sD4_leastFor_47 (by decide) (fun zc47 => ?_) (fun zc47 => ?_)
    ·
      refine sd_iload sD4_leastFor_116 rfl ?_
      refine sd_ireturn sD4_leastFor_118 rfl (fun hr hm => ?_)
      first | exact ⟨rfl, hx⟩ | exact ⟨by rw [sd_lf_neg (by omega), sd_lf_neg (by omega)], hx⟩
    ·
      refine sd_iload sD4_leastFor_50 rfl ?_
      refine sd_iconst sD4_leastFor_52 (by decide) ?_
      refine sd_icmp_eq (tgt := 69) sD4_leastFor_53 (by decide) (fun zc53 => ?_) (fun zc53 => ?_)
      ·
        refine sd_aload_n sD4_leastFor_69 rfl ?_
        refine sd_iload sD4_leastFor_70 rfl ?_
        refine sd_iload sD4_leastFor_72 rfl ?_
        refine sd_ior sD4_leastFor_74 ?_
        refine sd_aload_n sD4_leastFor_75 rfl ?_
        refine sd_callV (as := [.inl (sd_or (sd_tho x) (sd_sq (sd_oth x) zi39)), .inr 13]) (st := []) sD4_leastFor_76 sM4_68 rfl rfl sOC42 rfl (by decide) (Nat.le_of_ble_eq_true rfl) (cC_setSquads (sd_or (sd_tho x) (sd_sq (sd_oth x) zi39)) _ m hx h1 h2 h7) (fun r m hq ho76 hm => ?_)
        obtain ⟨rfl, hx, hsq76⟩ := hq
        show sd_Wp sd_SC 3 sY4_leastFor 79 [some (.inr 42), some (.inl g), some (.inl tk), some (.inr 13), some (.inl (sd_tho x)), some (.inl (sd_oth x)), some (.inl (sd_lf x g.toNat tk zi39)), some (.inl (sd_sq (sd_oth x) zi39)), some (.inl ((sd_sqN (sd_oth x) : Nat) : Int)), some (.inl (zi39 : Int))] [] m _
        refine sd_iload_n sD4_leastFor_79 rfl ?_
        refine sd_bipush sD4_leastFor_80 rfl (by decide) ?_
        refine sd_aload_n sD4_leastFor_82 rfl ?_
        refine sd_getfr sD4_leastFor_83 sF4_28 sGC42_5 ?_
        refine sd_iload_n sD4_leastFor_86 rfl ?_
        refine sd_iald (a := (5040 + g.toNat)) sD4_leastFor_87 sAC40 (by omega) ?_
        rw [show m (5040 + g.toNat) = sd_sqd x (sd_or (sd_tho x) (sd_sq (sd_oth x) zi39)) g.toNat from hsq76 g.toNat (by omega)]
        refine sd_imul (z := (9 * (sd_sqd x (sd_or (sd_tho x) (sd_sq (sd_oth x) zi39)) g.toNat))) sD4_leastFor_88 (by omega) (by omega) ?_
        refine sd_icmp_lt (tgt := 97) sD4_leastFor_89 (by decide) (fun zc89 => ?_) (fun zc89 => ?_)
        ·
          refine sd_iload sD4_leastFor_97 rfl ?_
          refine sd_istore (ls' := [some (.inr 42), some (.inl g), some (.inl tk), some (.inr 13), some (.inl (sd_tho x)), some (.inl (sd_oth x)), some (.inl (sd_lf x g.toNat tk zi39)), some (.inl (sd_sq (sd_oth x) zi39)), some (.inl ((sd_sqN (sd_oth x) : Nat) : Int)), some (.inl (zi39 : Int))]) sD4_leastFor_99 (by decide) rfl ?_
          refine sd_iload sD4_leastFor_101 rfl ?_
          refine sd_iload sD4_leastFor_103 rfl ?_
          refine sd_callNp (as := [.inl (sd_sq (sd_oth x) zi39), .inl (sd_oth x)]) (st := []) (v := .inl (sd_and ((sd_sq (sd_oth x) zi39) - (sd_oth x)) (sd_oth x))) sD4_leastFor_105 sM4_72 rfl rfl (by decide) (Nat.le_of_ble_eq_true rfl) (cC_nextSubset (sd_sq (sd_oth x) zi39) (sd_oth x) _ m hx  (by omega) (by omega)) (fun ho105 => ?_)
          refine sd_istore (ls' := [some (.inr 42), some (.inl g), some (.inl tk), some (.inr 13), some (.inl (sd_tho x)), some (.inl (sd_oth x)), some (.inl (sd_lf x g.toNat tk zi39)), some (.inl (sd_and ((sd_sq (sd_oth x) zi39) - (sd_oth x)) (sd_oth x))), some (.inl ((sd_sqN (sd_oth x) : Nat) : Int)), some (.inl (zi39 : Int))]) sD4_leastFor_108 (by decide) rfl ?_
          refine sd_iinc (y := ((zi39 : Int) + 1)) (ls' := [some (.inr 42), some (.inl g), some (.inl tk), some (.inr 13), some (.inl (sd_tho x)), some (.inl (sd_oth x)), some (.inl (sd_lf x g.toNat tk zi39)), some (.inl (sd_and ((sd_sq (sd_oth x) zi39) - (sd_oth x)) (sd_oth x))), some (.inl ((sd_sqN (sd_oth x) : Nat) : Int)), some (.inl ((zi39 : Int) + 1))]) sD4_leastFor_110 rfl (by omega) (by omega) (by decide) rfl ?_
          refine sd_goto (tgt := 39) sD4_leastFor_113 (by decide) ?_
          exact sd_eqw (ls' := [some (.inr 42), some (.inl g), some (.inl tk), some (.inr 13), some (.inl (sd_tho x)), some (.inl (sd_oth x)), some (.inl (sd_lf x g.toNat tk (zi39 + 1))), some (.inl (sd_sq (sd_oth x) (zi39 + 1))), some (.inl ((sd_sqN (sd_oth x) : Nat) : Int)), some (.inl ((zi39 + 1 : Nat) : Int))]) (ihzi39 m (by exact hx) (by trivial)) (sd_cg rfl (sd_cg rfl (sd_cg rfl (sd_cg rfl (sd_cg rfl (sd_cg rfl (sd_cg (sd_ce (show (sd_lf x g.toNat tk zi39 : Int) = sd_lf x g.toNat tk (zi39 + 1) from by simp only [sd_lf]; unfold sd_lst; first | (rw [if_pos ⟨⟨by omega, by omega⟩, by omega⟩]; done) | (rw [if_neg (fun q => by have q1 := q.1.2; have q2 := q.2; omega)]; done))) (sd_cg (sd_ce (show (sd_and ((sd_sq (sd_oth x) zi39) - (sd_oth x)) (sd_oth x) : Int) = sd_sq (sd_oth x) (zi39 + 1) from by rfl)) (sd_cg rfl (sd_cg (sd_ce (show (((zi39 : Int) + 1) : Int) = ((zi39 + 1 : Nat) : Int) from by omega)) rfl)))))))))) rfl
        ·
          refine sd_iload sD4_leastFor_92 rfl ?_
          refine sd_goto (tgt := 99) sD4_leastFor_94 (by decide) ?_
          refine sd_istore (ls' := [some (.inr 42), some (.inl g), some (.inl tk), some (.inr 13), some (.inl (sd_tho x)), some (.inl (sd_oth x)), some (.inl (sd_sq (sd_oth x) zi39)), some (.inl (sd_sq (sd_oth x) zi39)), some (.inl ((sd_sqN (sd_oth x) : Nat) : Int)), some (.inl (zi39 : Int))]) sD4_leastFor_99 (by decide) rfl ?_
          refine sd_iload sD4_leastFor_101 rfl ?_
          refine sd_iload sD4_leastFor_103 rfl ?_
          refine sd_callNp (as := [.inl (sd_sq (sd_oth x) zi39), .inl (sd_oth x)]) (st := []) (v := .inl (sd_and ((sd_sq (sd_oth x) zi39) - (sd_oth x)) (sd_oth x))) sD4_leastFor_105 sM4_72 rfl rfl (by decide) (Nat.le_of_ble_eq_true rfl) (cC_nextSubset (sd_sq (sd_oth x) zi39) (sd_oth x) _ m hx  (by omega) (by omega)) (fun ho105 => ?_)
          refine sd_istore (ls' := [some (.inr 42), some (.inl g), some (.inl tk), some (.inr 13), some (.inl (sd_tho x)), some (.inl (sd_oth x)), some (.inl (sd_sq (sd_oth x) zi39)), some (.inl (sd_and ((sd_sq (sd_oth x) zi39) - (sd_oth x)) (sd_oth x))), some (.inl ((sd_sqN (sd_oth x) : Nat) : Int)), some (.inl (zi39 : Int))]) sD4_leastFor_108 (by decide) rfl ?_
          refine sd_iinc (y := ((zi39 : Int) + 1)) (ls' := [some (.inr 42), some (.inl g), some (.inl tk), some (.inr 13), some (.inl (sd_tho x)), some (.inl (sd_oth x)), some (.inl (sd_sq (sd_oth x) zi39)), some (.inl (sd_and ((sd_sq (sd_oth x) zi39) - (sd_oth x)) (sd_oth x))), some (.inl ((sd_sqN (sd_oth x) : Nat) : Int)), some (.inl ((zi39 : Int) + 1))]) sD4_leastFor_110 rfl (by omega) (by omega) (by decide) rfl ?_
          refine sd_goto (tgt := 39) sD4_leastFor_113 (by decide) ?_
          exact sd_eqw (ls' := [some (.inr 42), some (.inl g), some (.inl tk), some (.inr 13), some (.inl (sd_tho x)), some (.inl (sd_oth x)), some (.inl (sd_lf x g.toNat tk (zi39 + 1))), some (.inl (sd_sq (sd_oth x) (zi39 + 1))), some (.inl ((sd_sqN (sd_oth x) : Nat) : Int)), some (.inl ((zi39 + 1 : Nat) : Int))]) (ihzi39 m (by exact hx) (by trivial)) (sd_cg rfl (sd_cg rfl (sd_cg rfl (sd_cg rfl (sd_cg rfl (sd_cg rfl (sd_cg (sd_ce (show (sd_sq (sd_oth x) zi39 : Int) = sd_lf x g.toNat tk (zi39 + 1) from by simp only [sd_lf]; unfold sd_lst; first | (rw [if_pos ⟨⟨by omega, by omega⟩, by omega⟩]; done) | (rw [if_neg (fun q => by have q1 := q.1.2; have q2 := q.2; omega)]; done))) (sd_cg (sd_ce (show (sd_and ((sd_sq (sd_oth x) zi39) - (sd_oth x)) (sd_oth x) : Int) = sd_sq (sd_oth x) (zi39 + 1) from by rfl)) (sd_cg rfl (sd_cg (sd_ce (show (((zi39 : Int) + 1) : Int) = ((zi39 + 1 : Nat) : Int) from by omega)) rfl)))))))))) rfl
      ·
        refine sd_iload sD4_leastFor_56 rfl ?_
        refine sd_callSp (as := [.inl (sd_sq (sd_oth x) zi39)]) (st := []) (v := .inl (sd_ones (sd_sq (sd_oth x) zi39))) sD4_leastFor_58 sM4_62 rfl rfl (by decide) (Nat.le_of_ble_eq_true rfl) (cC_bitCount (sd_sq (sd_oth x) zi39) m (by first | omega | assumption)) (fun ho58 => ?_)
        refine sd_iload sD4_leastFor_61 rfl ?_
        refine sd_callSp (as := [.inl (sd_lf x g.toNat tk zi39)]) (st := [.inl (sd_ones (sd_sq (sd_oth x) zi39))]) (v := .inl (sd_ones (sd_lf x g.toNat tk zi39))) sD4_leastFor_63 sM4_62 rfl rfl (by decide) (Nat.le_of_ble_eq_true rfl) (cC_bitCount (sd_lf x g.toNat tk zi39) m (by first | omega | assumption)) (fun ho63 => ?_)
        refine sd_icmp_ge (tgt := 101) sD4_leastFor_66 (by decide) (fun zc66 => ?_) (fun zc66 => ?_)
        ·
          refine sd_iload sD4_leastFor_101 rfl ?_
          refine sd_iload sD4_leastFor_103 rfl ?_
          refine sd_callNp (as := [.inl (sd_sq (sd_oth x) zi39), .inl (sd_oth x)]) (st := []) (v := .inl (sd_and ((sd_sq (sd_oth x) zi39) - (sd_oth x)) (sd_oth x))) sD4_leastFor_105 sM4_72 rfl rfl (by decide) (Nat.le_of_ble_eq_true rfl) (cC_nextSubset (sd_sq (sd_oth x) zi39) (sd_oth x) _ m hx  (by omega) (by omega)) (fun ho105 => ?_)
          refine sd_istore (ls' := [some (.inr 42), some (.inl g), some (.inl tk), some (.inr 13), some (.inl (sd_tho x)), some (.inl (sd_oth x)), some (.inl (sd_lf x g.toNat tk zi39)), some (.inl (sd_and ((sd_sq (sd_oth x) zi39) - (sd_oth x)) (sd_oth x))), some (.inl ((sd_sqN (sd_oth x) : Nat) : Int)), some (.inl (zi39 : Int))]) sD4_leastFor_108 (by decide) rfl ?_
          refine sd_iinc (y := ((zi39 : Int) + 1)) (ls' := [some (.inr 42), some (.inl g), some (.inl tk), some (.inr 13), some (.inl (sd_tho x)), some (.inl (sd_oth x)), some (.inl (sd_lf x g.toNat tk zi39)), some (.inl (sd_and ((sd_sq (sd_oth x) zi39) - (sd_oth x)) (sd_oth x))), some (.inl ((sd_sqN (sd_oth x) : Nat) : Int)), some (.inl ((zi39 : Int) + 1))]) sD4_leastFor_110 rfl (by omega) (by omega) (by decide) rfl ?_
          refine sd_goto (tgt := 39) sD4_leastFor_113 (by decide) ?_
          exact sd_eqw (ls' := [some (.inr 42), some (.inl g), some (.inl tk), some (.inr 13), some (.inl (sd_tho x)), some (.inl (sd_oth x)), some (.inl (sd_lf x g.toNat tk (zi39 + 1))), some (.inl (sd_sq (sd_oth x) (zi39 + 1))), some (.inl ((sd_sqN (sd_oth x) : Nat) : Int)), some (.inl ((zi39 + 1 : Nat) : Int))]) (ihzi39 m (by exact hx) (by trivial)) (sd_cg rfl (sd_cg rfl (sd_cg rfl (sd_cg rfl (sd_cg rfl (sd_cg rfl (sd_cg (sd_ce (show (sd_lf x g.toNat tk zi39 : Int) = sd_lf x g.toNat tk (zi39 + 1) from by simp only [sd_lf]; unfold sd_lst; first | (rw [if_pos ⟨⟨by omega, by omega⟩, by omega⟩]; done) | (rw [if_neg (fun q => by have q1 := q.1.2; have q2 := q.2; omega)]; done))) (sd_cg (sd_ce (show (sd_and ((sd_sq (sd_oth x) zi39) - (sd_oth x)) (sd_oth x) : Int) = sd_sq (sd_oth x) (zi39 + 1) from by rfl)) (sd_cg rfl (sd_cg (sd_ce (show (((zi39 : Int) + 1) : Int) = ((zi39 + 1 : Nat) : Int) from by omega)) rfl)))))))))) rfl
        ·
          refine sd_aload_n sD4_leastFor_69 rfl ?_
          refine sd_iload sD4_leastFor_70 rfl ?_
          refine sd_iload sD4_leastFor_72 rfl ?_
          refine sd_ior sD4_leastFor_74 ?_
          refine sd_aload_n sD4_leastFor_75 rfl ?_
          refine sd_callV (as := [.inl (sd_or (sd_tho x) (sd_sq (sd_oth x) zi39)), .inr 13]) (st := []) sD4_leastFor_76 sM4_68 rfl rfl sOC42 rfl (by decide) (Nat.le_of_ble_eq_true rfl) (cC_setSquads (sd_or (sd_tho x) (sd_sq (sd_oth x) zi39)) _ m hx h1 h2 h7) (fun r m hq ho76 hm => ?_)
          obtain ⟨rfl, hx, hsq76⟩ := hq
          show sd_Wp sd_SC 3 sY4_leastFor 79 [some (.inr 42), some (.inl g), some (.inl tk), some (.inr 13), some (.inl (sd_tho x)), some (.inl (sd_oth x)), some (.inl (sd_lf x g.toNat tk zi39)), some (.inl (sd_sq (sd_oth x) zi39)), some (.inl ((sd_sqN (sd_oth x) : Nat) : Int)), some (.inl (zi39 : Int))] [] m _
          refine sd_iload_n sD4_leastFor_79 rfl ?_
          refine sd_bipush sD4_leastFor_80 rfl (by decide) ?_
          refine sd_aload_n sD4_leastFor_82 rfl ?_
          refine sd_getfr sD4_leastFor_83 sF4_28 sGC42_5 ?_
          refine sd_iload_n sD4_leastFor_86 rfl ?_
          refine sd_iald (a := (5040 + g.toNat)) sD4_leastFor_87 sAC40 (by omega) ?_
          rw [show m (5040 + g.toNat) = sd_sqd x (sd_or (sd_tho x) (sd_sq (sd_oth x) zi39)) g.toNat from hsq76 g.toNat (by omega)]
          refine sd_imul (z := (9 * (sd_sqd x (sd_or (sd_tho x) (sd_sq (sd_oth x) zi39)) g.toNat))) sD4_leastFor_88 (by omega) (by omega) ?_
          refine sd_icmp_lt (tgt := 97) sD4_leastFor_89 (by decide) (fun zc89 => ?_) (fun zc89 => ?_)
          ·
            refine sd_iload sD4_leastFor_97 rfl ?_
            refine sd_istore (ls' := [some (.inr 42), some (.inl g), some (.inl tk), some (.inr 13), some (.inl (sd_tho x)), some (.inl (sd_oth x)), some (.inl (sd_lf x g.toNat tk zi39)), some (.inl (sd_sq (sd_oth x) zi39)), some (.inl ((sd_sqN (sd_oth x) : Nat) : Int)), some (.inl (zi39 : Int))]) sD4_leastFor_99 (by decide) rfl ?_
            refine sd_iload sD4_leastFor_101 rfl ?_
            refine sd_iload sD4_leastFor_103 rfl ?_
            refine sd_callNp (as := [.inl (sd_sq (sd_oth x) zi39), .inl (sd_oth x)]) (st := []) (v := .inl (sd_and ((sd_sq (sd_oth x) zi39) - (sd_oth x)) (sd_oth x))) sD4_leastFor_105 sM4_72 rfl rfl (by decide) (Nat.le_of_ble_eq_true rfl) (cC_nextSubset (sd_sq (sd_oth x) zi39) (sd_oth x) _ m hx  (by omega) (by omega)) (fun ho105 => ?_)
            refine sd_istore (ls' := [some (.inr 42), some (.inl g), some (.inl tk), some (.inr 13), some (.inl (sd_tho x)), some (.inl (sd_oth x)), some (.inl (sd_lf x g.toNat tk zi39)), some (.inl (sd_and ((sd_sq (sd_oth x) zi39) - (sd_oth x)) (sd_oth x))), some (.inl ((sd_sqN (sd_oth x) : Nat) : Int)), some (.inl (zi39 : Int))]) sD4_leastFor_108 (by decide) rfl ?_
            refine sd_iinc (y := ((zi39 : Int) + 1)) (ls' := [some (.inr 42), some (.inl g), some (.inl tk), some (.inr 13), some (.inl (sd_tho x)), some (.inl (sd_oth x)), some (.inl (sd_lf x g.toNat tk zi39)), some (.inl (sd_and ((sd_sq (sd_oth x) zi39) - (sd_oth x)) (sd_oth x))), some (.inl ((sd_sqN (sd_oth x) : Nat) : Int)), some (.inl ((zi39 : Int) + 1))]) sD4_leastFor_110 rfl (by omega) (by omega) (by decide) rfl ?_
            refine sd_goto (tgt := 39) sD4_leastFor_113 (by decide) ?_
            exact sd_eqw (ls' := [some (.inr 42), some (.inl g), some (.inl tk), some (.inr 13), some (.inl (sd_tho x)), some (.inl (sd_oth x)), some (.inl (sd_lf x g.toNat tk (zi39 + 1))), some (.inl (sd_sq (sd_oth x) (zi39 + 1))), some (.inl ((sd_sqN (sd_oth x) : Nat) : Int)), some (.inl ((zi39 + 1 : Nat) : Int))]) (ihzi39 m (by exact hx) (by trivial)) (sd_cg rfl (sd_cg rfl (sd_cg rfl (sd_cg rfl (sd_cg rfl (sd_cg rfl (sd_cg (sd_ce (show (sd_lf x g.toNat tk zi39 : Int) = sd_lf x g.toNat tk (zi39 + 1) from by simp only [sd_lf]; unfold sd_lst; first | (rw [if_pos ⟨⟨by omega, by omega⟩, by omega⟩]; done) | (rw [if_neg (fun q => by have q1 := q.1.2; have q2 := q.2; omega)]; done))) (sd_cg (sd_ce (show (sd_and ((sd_sq (sd_oth x) zi39) - (sd_oth x)) (sd_oth x) : Int) = sd_sq (sd_oth x) (zi39 + 1) from by rfl)) (sd_cg rfl (sd_cg (sd_ce (show (((zi39 : Int) + 1) : Int) = ((zi39 + 1 : Nat) : Int) from by omega)) rfl)))))))))) rfl
          ·
            refine sd_iload sD4_leastFor_92 rfl ?_
            refine sd_goto (tgt := 99) sD4_leastFor_94 (by decide) ?_
            refine sd_istore (ls' := [some (.inr 42), some (.inl g), some (.inl tk), some (.inr 13), some (.inl (sd_tho x)), some (.inl (sd_oth x)), some (.inl (sd_sq (sd_oth x) zi39)), some (.inl (sd_sq (sd_oth x) zi39)), some (.inl ((sd_sqN (sd_oth x) : Nat) : Int)), some (.inl (zi39 : Int))]) sD4_leastFor_99 (by decide) rfl ?_
            refine sd_iload sD4_leastFor_101 rfl ?_
            refine sd_iload sD4_leastFor_103 rfl ?_
            refine sd_callNp (as := [.inl (sd_sq (sd_oth x) zi39), .inl (sd_oth x)]) (st := []) (v := .inl (sd_and ((sd_sq (sd_oth x) zi39) - (sd_oth x)) (sd_oth x))) sD4_leastFor_105 sM4_72 rfl rfl (by decide) (Nat.le_of_ble_eq_true rfl) (cC_nextSubset (sd_sq (sd_oth x) zi39) (sd_oth x) _ m hx  (by omega) (by omega)) (fun ho105 => ?_)
            refine sd_istore (ls' := [some (.inr 42), some (.inl g), some (.inl tk), some (.inr 13), some (.inl (sd_tho x)), some (.inl (sd_oth x)), some (.inl (sd_sq (sd_oth x) zi39)), some (.inl (sd_and ((sd_sq (sd_oth x) zi39) - (sd_oth x)) (sd_oth x))), some (.inl ((sd_sqN (sd_oth x) : Nat) : Int)), some (.inl (zi39 : Int))]) sD4_leastFor_108 (by decide) rfl ?_
            refine sd_iinc (y := ((zi39 : Int) + 1)) (ls' := [some (.inr 42), some (.inl g), some (.inl tk), some (.inr 13), some (.inl (sd_tho x)), some (.inl (sd_oth x)), some (.inl (sd_sq (sd_oth x) zi39)), some (.inl (sd_and ((sd_sq (sd_oth x) zi39) - (sd_oth x)) (sd_oth x))), some (.inl ((sd_sqN (sd_oth x) : Nat) : Int)), some (.inl ((zi39 : Int) + 1))]) sD4_leastFor_110 rfl (by omega) (by omega) (by decide) rfl ?_
            refine sd_goto (tgt := 39) sD4_leastFor_113 (by decide) ?_
            exact sd_eqw (ls' := [some (.inr 42), some (.inl g), some (.inl tk), some (.inr 13), some (.inl (sd_tho x)), some (.inl (sd_oth x)), some (.inl (sd_lf x g.toNat tk (zi39 + 1))), some (.inl (sd_sq (sd_oth x) (zi39 + 1))), some (.inl ((sd_sqN (sd_oth x) : Nat) : Int)), some (.inl ((zi39 + 1 : Nat) : Int))]) (ihzi39 m (by exact hx) (by trivial)) (sd_cg rfl (sd_cg rfl (sd_cg rfl (sd_cg rfl (sd_cg rfl (sd_cg rfl (sd_cg (sd_ce (show (sd_sq (sd_oth x) zi39 : Int) = sd_lf x g.toNat tk (zi39 + 1) from by simp only [sd_lf]; unfold sd_lst; first | (rw [if_pos ⟨⟨by omega, by omega⟩, by omega⟩]; done) | (rw [if_neg (fun q => by have q1 := q.1.2; have q2 := q.2; omega)]; done))) (sd_cg (sd_ce (show (sd_and ((sd_sq (sd_oth x) zi39) - (sd_oth x)) (sd_oth x) : Int) = sd_sq (sd_oth x) (zi39 + 1) from by rfl)) (sd_cg rfl (sd_cg (sd_ce (show (((zi39 : Int) + 1) : Int) = ((zi39 + 1 : Nat) : Int) from by omega)) rfl)))))))))) rfl
  ·
    show sd_Wp sd_SC 3 sY4_leastFor 39 [some (.inr 42), some (.inl g), some (.inl tk), some (.inr 13), some (.inl (sd_tho x)), some (.inl (sd_oth x)), some (.inl (sd_lf x g.toNat tk (sd_sqN (sd_oth x)))), some (.inl (sd_sq (sd_oth x) (sd_sqN (sd_oth x)))), some (.inl ((sd_sqN (sd_oth x) : Nat) : Int)), some (.inl (((sd_sqN (sd_oth x)) : Nat) : Int))] [] m _
    refine sd_iload sD4_leastFor_39 rfl ?_
    refine sd_iload sD4_leastFor_41 rfl ?_
    refine sd_icmp_ge (tgt := 116) sD4_leastFor_43 (by decide) (fun zc43 => ?_) (fun zc43 => (by exfalso; omega))
    refine sd_iload sD4_leastFor_116 rfl ?_
    refine sd_ireturn sD4_leastFor_118 rfl (fun hr hm => ?_)
    first | exact ⟨rfl, hx⟩ | exact ⟨by rw [sd_lf_neg (by omega), sd_lf_neg (by omega)], hx⟩
