set_option maxRecDepth 100000 in
set_option maxHeartbeats 4000000 in
theorem cC_leastShops (W : Int) (x m : sd_M) (hx : sd_ns x m) (h1 : sd_I1 x) (h2 : sd_I2 x) (h3 : sd_I3 x) (h4 : sd_I4 x) (h5 : sd_I5 x) (h6 : sd_I6 x) (hR : sd_IR x) (hW : 0 ≤ W ∧ W < ((2 ^ (x 4).toNat : Nat) : Int)) : sd_Ct sd_SC 5 sY6_leastShops [.inr 53, .inl W] m (fun q m' => q = some (.inl (sd_lsv x W)) ∧ sd_ns x m') := by
  refine sd_ct rfl (Nat.le_of_ble_eq_true rfl) (fun hok hm => ?_)
  obtain ⟨⟨i0, j0⟩, ⟨i1, j1⟩, ⟨i2, j2⟩, ⟨i3, j3⟩, ⟨i4, j4⟩, ⟨i5, j5⟩, ⟨i6, j6⟩, ⟨i7, j7⟩, ⟨i8, j8⟩⟩ := id h1
  show sd_Wp sd_SC 5 sY6_leastShops 0 [some (.inr 53), some (.inl W), none, none, none, none, none, none] [] m _
  refine sd_aload_n sD6_leastShops_0 rfl ?_
  refine sd_callV (as := []) (st := []) sD6_leastShops_1 sM6_157 rfl rfl sOC53 rfl (by decide) (Nat.le_of_ble_eq_true rfl) (cC_makers _ m hx h1 h2 h4 h6 hR) (fun r m hq ho1 hm => ?_)
  obtain ⟨rfl, hx⟩ := hq
  have zm1 := sd_mks_rng h1
  show sd_Wp sd_SC 5 sY6_leastShops 4 [some (.inr 53), some (.inl W), none, none, none, none, none, none] [.inl (sd_mks x)] m _
  refine sd_istore_n (ls' := [some (.inr 53), some (.inl W), some (.inl (sd_mks x)), none, none, none, none, none]) sD6_leastShops_4 (by decide) rfl ?_
  refine sd_iconst sD6_leastShops_5 (by decide) ?_
  refine sd_istore_n (ls' := [some (.inr 53), some (.inl W), some (.inl (sd_mks x)), some (.inl (-1)), none, none, none, none]) sD6_leastShops_6 (by decide) rfl ?_
  refine sd_iconst sD6_leastShops_7 (by decide) ?_
  refine sd_istore (ls' := [some (.inr 53), some (.inl W), some (.inl (sd_mks x)), some (.inl (-1)), some (.inl 0), none, none, none]) sD6_leastShops_8 (by decide) rfl ?_
  refine sd_iconst sD6_leastShops_10 (by decide) ?_
  refine sd_iload_n sD6_leastShops_11 rfl ?_
  refine sd_callSp (as := [.inl (sd_mks x)]) (st := [.inl 1]) (v := .inl (sd_ones (sd_mks x))) sD6_leastShops_12 sM6_161 rfl rfl (by decide) (Nat.le_of_ble_eq_true rfl) (cC_bitCount (sd_mks x) m (by first | omega | assumption)) (fun ho12 => ?_)
  refine sd_ishl sD6_leastShops_15 ?_
  rw [sd_shl_ones]
  refine sd_istore (ls' := [some (.inr 53), some (.inl W), some (.inl (sd_mks x)), some (.inl (-1)), some (.inl 0), some (.inl ((sd_sqN (sd_mks x) : Nat) : Int)), none, none]) sD6_leastShops_16 (by decide) rfl ?_
  refine sd_iconst sD6_leastShops_18 (by decide) ?_
  refine sd_istore (ls' := [some (.inr 53), some (.inl W), some (.inl (sd_mks x)), some (.inl (-1)), some (.inl 0), some (.inl ((sd_sqN (sd_mks x) : Nat) : Int)), some (.inl 0), none]) sD6_leastShops_19 (by decide) rfl ?_
  refine sd_forX (sd_sqN (sd_mks x)) (fun zi21 : Nat => [some (.inr 53), some (.inl W), some (.inl (sd_mks x)), some (.inl (sd_lss x W zi21)), some (.inl (sd_sq (sd_mks x) zi21)), some (.inl ((sd_sqN (sd_mks x) : Nat) : Int)), some (.inl (zi21 : Int)), none]) (fun zi21 : Nat => x) (fun (zi21 : Nat) (m : sd_M) => True) (by rfl) (fun zi21 hizi21 m hx hpzi21 ihzi21 => ?_) (fun m hx hpzi21 => ?_) (by exact hx) (by trivial)
  ·
    have e5 := sd_sq_rng (S := sd_mks x) (by omega) zi21
    have e6 := sd_lss_rng h1 W zi21
    have e7 := sd_sqN_le (sd_mks x)
    refine sd_iload sD6_leastShops_21 rfl ?_
    refine sd_iload sD6_leastShops_23 rfl ?_
    refine sd_icmp_ge (tgt := 95) sD6_leastShops_25 (by decide) (fun zc25 => (by exfalso; omega)) (fun zc25 => ?_)
    refine sd_iload_n sD6_leastShops_28 rfl ?_
    refine sd_iconst sD6_leastShops_29 (by decide) ?_
    refine sd_cut (J := 50) (ls := [some (.inr 53), some (.inl W), some (.inl (sd_mks x)), some (.inl (sd_lss x W zi21)), some (.inl (sd_sq (sd_mks x) zi21)), some (.inl ((sd_sqN (sd_mks x) : Nat) : Int)), some (.inl (zi21 : Int)), none]) (st := []) (fun zv => zv = (sd_b ((sd_lss x W zi21 = (-1)) ∨ ((¬ sd_lss x W zi21 = (-1)) ∧ (sd_ones (sd_sq (sd_mks x) zi21) < sd_ones (sd_lss x W zi21)))))) (fun zv hzv => ?_) (fun K30 => ?_)
    ·
      subst hzv
      refine sd_istore (ls' := [some (.inr 53), some (.inl W), some (.inl (sd_mks x)), some (.inl (sd_lss x W zi21)), some (.inl (sd_sq (sd_mks x) zi21)), some (.inl ((sd_sqN (sd_mks x) : Nat) : Int)), some (.inl (zi21 : Int)), some (.inl (sd_b ((sd_lss x W zi21 = (-1)) ∨ ((¬ sd_lss x W zi21 = (-1)) ∧ (sd_ones (sd_sq (sd_mks x) zi21) < sd_ones (sd_lss x W zi21))))))]) sD6_leastShops_50 (by decide) rfl ?_
      refine sd_iload sD6_leastShops_52 rfl ?_
      refine sd_bif_eq (tgt := 81) sD6_leastShops_54 (by decide) (fun zc54 => ?_) (fun zc54 => ?_)
      ·
        refine sd_iload sD6_leastShops_81 rfl ?_
        refine sd_iload_n sD6_leastShops_83 rfl ?_
        refine sd_callNp (as := [.inl (sd_sq (sd_mks x) zi21), .inl (sd_mks x)]) (st := []) (v := .inl (sd_and ((sd_sq (sd_mks x) zi21) - (sd_mks x)) (sd_mks x))) sD6_leastShops_84 sM6_174 rfl rfl (by decide) (Nat.le_of_ble_eq_true rfl) (cC_nextSubset (sd_sq (sd_mks x) zi21) (sd_mks x) _ m hx  (by omega) (by omega)) (fun ho84 => ?_)
        refine sd_istore (ls' := [some (.inr 53), some (.inl W), some (.inl (sd_mks x)), some (.inl (sd_lss x W zi21)), some (.inl (sd_and ((sd_sq (sd_mks x) zi21) - (sd_mks x)) (sd_mks x))), some (.inl ((sd_sqN (sd_mks x) : Nat) : Int)), some (.inl (zi21 : Int)), some (.inl (sd_b ((sd_lss x W zi21 = (-1)) ∨ ((¬ sd_lss x W zi21 = (-1)) ∧ (sd_ones (sd_sq (sd_mks x) zi21) < sd_ones (sd_lss x W zi21))))))]) sD6_leastShops_87 (by decide) rfl ?_
        refine sd_iinc (y := ((zi21 : Int) + 1)) (ls' := [some (.inr 53), some (.inl W), some (.inl (sd_mks x)), some (.inl (sd_lss x W zi21)), some (.inl (sd_and ((sd_sq (sd_mks x) zi21) - (sd_mks x)) (sd_mks x))), some (.inl ((sd_sqN (sd_mks x) : Nat) : Int)), some (.inl ((zi21 : Int) + 1)), some (.inl (sd_b ((sd_lss x W zi21 = (-1)) ∨ ((¬ sd_lss x W zi21 = (-1)) ∧ (sd_ones (sd_sq (sd_mks x) zi21) < sd_ones (sd_lss x W zi21))))))]) sD6_leastShops_89 rfl (by omega) (by omega) (by decide) rfl ?_
        refine sd_goto (tgt := 21) sD6_leastShops_92 (by decide) ?_
        refine sd_less (ls' := [some (.inr 53), some (.inl W), some (.inl (sd_mks x)), some (.inl (sd_lss x W zi21)), some (.inl (sd_and ((sd_sq (sd_mks x) zi21) - (sd_mks x)) (sd_mks x))), some (.inl ((sd_sqN (sd_mks x) : Nat) : Int)), some (.inl ((zi21 : Int) + 1)), none]) ?_ rfl (by intro zi zv zh; rcases zi with _ | _ | _ | _ | _ | _ | _ | _ | zi <;> first | exact zh | cases zh)
        exact sd_eqw (ls' := [some (.inr 53), some (.inl W), some (.inl (sd_mks x)), some (.inl (sd_lss x W (zi21 + 1))), some (.inl (sd_sq (sd_mks x) (zi21 + 1))), some (.inl ((sd_sqN (sd_mks x) : Nat) : Int)), some (.inl ((zi21 + 1 : Nat) : Int)), none]) (ihzi21 m (by exact hx) (by trivial)) (sd_cg rfl (sd_cg rfl (sd_cg rfl (sd_cg (sd_ce (show (sd_lss x W zi21 : Int) = sd_lss x W (zi21 + 1) from by simp only [sd_lss]; unfold sd_lsS; first | (rw [if_pos ⟨by omega, by assumption⟩]; done) | (rw [if_neg (fun q => by have q1 := q.1; have q2 := q.2; first | contradiction | omega)]; done))) (sd_cg (sd_ce (show (sd_and ((sd_sq (sd_mks x) zi21) - (sd_mks x)) (sd_mks x) : Int) = sd_sq (sd_mks x) (zi21 + 1) from by rfl)) (sd_cg rfl (sd_cg (sd_ce (show (((zi21 : Int) + 1) : Int) = ((zi21 + 1 : Nat) : Int) from by omega)) (sd_cg rfl rfl)))))))) rfl
      ·
        refine sd_aload_n sD6_leastShops_57 rfl ?_
        refine sd_getfr sD6_leastShops_58 sF6_35 sGC53_4 ?_
        refine sd_iload_n sD6_leastShops_61 rfl ?_
        refine sd_aload_n sD6_leastShops_62 rfl ?_
        refine sd_iload_n sD6_leastShops_63 rfl ?_
        refine sd_iload sD6_leastShops_64 rfl ?_
        refine sd_iconst sD6_leastShops_66 (by decide) ?_
        refine sd_ixor sD6_leastShops_67 ?_
        refine sd_iand sD6_leastShops_68 ?_
        refine sd_callV (as := [.inl (sd_and (sd_mks x) (sd_xor (sd_sq (sd_mks x) zi21) (-1)))]) (st := [.inl W, .inr 23]) sD6_leastShops_69 sM6_166 rfl rfl sOC53 rfl (by decide) (Nat.le_of_ble_eq_true rfl) (cC_madeBy (sd_and (sd_mks x) (sd_xor (sd_sq (sd_mks x) zi21) (-1))) _ m hx h1 h2 (sd_mks_A h1 h3 h2 (sd_andn_sub _ _))) (fun r m hq ho69 hm => ?_)
        obtain ⟨rfl, hx, hmd69⟩ := hq
        show sd_Wp sd_SC 5 sY6_leastShops 72 [some (.inr 53), some (.inl W), some (.inl (sd_mks x)), some (.inl (sd_lss x W zi21)), some (.inl (sd_sq (sd_mks x) zi21)), some (.inl ((sd_sqN (sd_mks x) : Nat) : Int)), some (.inl (zi21 : Int)), some (.inl (sd_b ((sd_lss x W zi21 = (-1)) ∨ ((¬ sd_lss x W zi21 = (-1)) ∧ (sd_ones (sd_sq (sd_mks x) zi21) < sd_ones (sd_lss x W zi21))))))] [.inr 52, .inl W, .inr 23] m _
        refine sd_callV (as := [.inl W, .inr 52]) (st := []) sD6_leastShops_72 sM6_170 rfl rfl sOC23 rfl (by decide) (Nat.le_of_ble_eq_true rfl) (cC_would W (sd_mka x (sd_and (sd_mks x) (sd_xor (sd_sq (sd_mks x) zi21) (-1)))) _ m hx h1 h5 (sd_mka_kr h1 h2 _) hmd69 hW) (fun r m hq ho72 hm => ?_)
        obtain ⟨rfl, hx⟩ := hq
        show sd_Wp sd_SC 5 sY6_leastShops 75 [some (.inr 53), some (.inl W), some (.inl (sd_mks x)), some (.inl (sd_lss x W zi21)), some (.inl (sd_sq (sd_mks x) zi21)), some (.inl ((sd_sqN (sd_mks x) : Nat) : Int)), some (.inl (zi21 : Int)), some (.inl (sd_b ((sd_lss x W zi21 = (-1)) ∨ ((¬ sd_lss x W zi21 = (-1)) ∧ (sd_ones (sd_sq (sd_mks x) zi21) < sd_ones (sd_lss x W zi21))))))] [.inl (sd_b (sd_all x (sd_mka x (sd_and (sd_mks x) (sd_xor (sd_sq (sd_mks x) zi21) (-1)))) W))] m _
        refine sd_bif_eq (tgt := 81) sD6_leastShops_75 (by decide) (fun zc75 => ?_) (fun zc75 => ?_)
        ·
          refine sd_iload sD6_leastShops_81 rfl ?_
          refine sd_iload_n sD6_leastShops_83 rfl ?_
          refine sd_callNp (as := [.inl (sd_sq (sd_mks x) zi21), .inl (sd_mks x)]) (st := []) (v := .inl (sd_and ((sd_sq (sd_mks x) zi21) - (sd_mks x)) (sd_mks x))) sD6_leastShops_84 sM6_174 rfl rfl (by decide) (Nat.le_of_ble_eq_true rfl) (cC_nextSubset (sd_sq (sd_mks x) zi21) (sd_mks x) _ m hx  (by omega) (by omega)) (fun ho84 => ?_)
          refine sd_istore (ls' := [some (.inr 53), some (.inl W), some (.inl (sd_mks x)), some (.inl (sd_lss x W zi21)), some (.inl (sd_and ((sd_sq (sd_mks x) zi21) - (sd_mks x)) (sd_mks x))), some (.inl ((sd_sqN (sd_mks x) : Nat) : Int)), some (.inl (zi21 : Int)), some (.inl (sd_b ((sd_lss x W zi21 = (-1)) ∨ ((¬ sd_lss x W zi21 = (-1)) ∧ (sd_ones (sd_sq (sd_mks x) zi21) < sd_ones (sd_lss x W zi21))))))]) sD6_leastShops_87 (by decide) rfl ?_
          refine sd_iinc (y := ((zi21 : Int) + 1)) (ls' := [some (.inr 53), some (.inl W), some (.inl (sd_mks x)), some (.inl (sd_lss x W zi21)), some (.inl (sd_and ((sd_sq (sd_mks x) zi21) - (sd_mks x)) (sd_mks x))), some (.inl ((sd_sqN (sd_mks x) : Nat) : Int)), some (.inl ((zi21 : Int) + 1)), some (.inl (sd_b ((sd_lss x W zi21 = (-1)) ∨ ((¬ sd_lss x W zi21 = (-1)) ∧ (sd_ones (sd_sq (sd_mks x) zi21) < sd_ones (sd_lss x W zi21))))))]) sD6_leastShops_89 rfl (by omega) (by omega) (by decide) rfl ?_
          refine sd_goto (tgt := 21) sD6_leastShops_92 (by decide) ?_
          refine sd_less (ls' := [some (.inr 53), some (.inl W), some (.inl (sd_mks x)), some (.inl (sd_lss x W zi21)), some (.inl (sd_and ((sd_sq (sd_mks x) zi21) - (sd_mks x)) (sd_mks x))), some (.inl ((sd_sqN (sd_mks x) : Nat) : Int)), some (.inl ((zi21 : Int) + 1)), none]) ?_ rfl (by intro zi zv zh; rcases zi with _ | _ | _ | _ | _ | _ | _ | _ | zi <;> first | exact zh | cases zh)
          exact sd_eqw (ls' := [some (.inr 53), some (.inl W), some (.inl (sd_mks x)), some (.inl (sd_lss x W (zi21 + 1))), some (.inl (sd_sq (sd_mks x) (zi21 + 1))), some (.inl ((sd_sqN (sd_mks x) : Nat) : Int)), some (.inl ((zi21 + 1 : Nat) : Int)), none]) (ihzi21 m (by exact hx) (by trivial)) (sd_cg rfl (sd_cg rfl (sd_cg rfl (sd_cg (sd_ce (show (sd_lss x W zi21 : Int) = sd_lss x W (zi21 + 1) from by simp only [sd_lss]; unfold sd_lsS; first | (rw [if_pos ⟨by omega, by assumption⟩]; done) | (rw [if_neg (fun q => by have q1 := q.1; have q2 := q.2; first | contradiction | omega)]; done))) (sd_cg (sd_ce (show (sd_and ((sd_sq (sd_mks x) zi21) - (sd_mks x)) (sd_mks x) : Int) = sd_sq (sd_mks x) (zi21 + 1) from by rfl)) (sd_cg rfl (sd_cg (sd_ce (show (((zi21 : Int) + 1) : Int) = ((zi21 + 1 : Nat) : Int) from by omega)) (sd_cg rfl rfl)))))))) rfl
        ·
          refine sd_iload sD6_leastShops_78 rfl ?_
          refine sd_istore_n (ls' := [some (.inr 53), some (.inl W), some (.inl (sd_mks x)), some (.inl (sd_sq (sd_mks x) zi21)), some (.inl (sd_sq (sd_mks x) zi21)), some (.inl ((sd_sqN (sd_mks x) : Nat) : Int)), some (.inl (zi21 : Int)), some (.inl (sd_b ((sd_lss x W zi21 = (-1)) ∨ ((¬ sd_lss x W zi21 = (-1)) ∧ (sd_ones (sd_sq (sd_mks x) zi21) < sd_ones (sd_lss x W zi21))))))]) sD6_leastShops_80 (by decide) rfl ?_
          refine sd_iload sD6_leastShops_81 rfl ?_
          refine sd_iload_n sD6_leastShops_83 rfl ?_
          refine sd_callNp (as := [.inl (sd_sq (sd_mks x) zi21), .inl (sd_mks x)]) (st := []) (v := .inl (sd_and ((sd_sq (sd_mks x) zi21) - (sd_mks x)) (sd_mks x))) sD6_leastShops_84 sM6_174 rfl rfl (by decide) (Nat.le_of_ble_eq_true rfl) (cC_nextSubset (sd_sq (sd_mks x) zi21) (sd_mks x) _ m hx  (by omega) (by omega)) (fun ho84 => ?_)
          refine sd_istore (ls' := [some (.inr 53), some (.inl W), some (.inl (sd_mks x)), some (.inl (sd_sq (sd_mks x) zi21)), some (.inl (sd_and ((sd_sq (sd_mks x) zi21) - (sd_mks x)) (sd_mks x))), some (.inl ((sd_sqN (sd_mks x) : Nat) : Int)), some (.inl (zi21 : Int)), some (.inl (sd_b ((sd_lss x W zi21 = (-1)) ∨ ((¬ sd_lss x W zi21 = (-1)) ∧ (sd_ones (sd_sq (sd_mks x) zi21) < sd_ones (sd_lss x W zi21))))))]) sD6_leastShops_87 (by decide) rfl ?_
          refine sd_iinc (y := ((zi21 : Int) + 1)) (ls' := [some (.inr 53), some (.inl W), some (.inl (sd_mks x)), some (.inl (sd_sq (sd_mks x) zi21)), some (.inl (sd_and ((sd_sq (sd_mks x) zi21) - (sd_mks x)) (sd_mks x))), some (.inl ((sd_sqN (sd_mks x) : Nat) : Int)), some (.inl ((zi21 : Int) + 1)), some (.inl (sd_b ((sd_lss x W zi21 = (-1)) ∨ ((¬ sd_lss x W zi21 = (-1)) ∧ (sd_ones (sd_sq (sd_mks x) zi21) < sd_ones (sd_lss x W zi21))))))]) sD6_leastShops_89 rfl (by omega) (by omega) (by decide) rfl ?_
          refine sd_goto (tgt := 21) sD6_leastShops_92 (by decide) ?_
          refine sd_less (ls' := [some (.inr 53), some (.inl W), some (.inl (sd_mks x)), some (.inl (sd_sq (sd_mks x) zi21)), some (.inl (sd_and ((sd_sq (sd_mks x) zi21) - (sd_mks x)) (sd_mks x))), some (.inl ((sd_sqN (sd_mks x) : Nat) : Int)), some (.inl ((zi21 : Int) + 1)), none]) ?_ rfl (by intro zi zv zh; rcases zi with _ | _ | _ | _ | _ | _ | _ | _ | zi <;> first | exact zh | cases zh)
          exact sd_eqw (ls' := [some (.inr 53), some (.inl W), some (.inl (sd_mks x)), some (.inl (sd_lss x W (zi21 + 1))), some (.inl (sd_sq (sd_mks x) (zi21 + 1))), some (.inl ((sd_sqN (sd_mks x) : Nat) : Int)), some (.inl ((zi21 + 1 : Nat) : Int)), none]) (ihzi21 m (by exact hx) (by trivial)) (sd_cg rfl (sd_cg rfl (sd_cg rfl (sd_cg (sd_ce (show (sd_sq (sd_mks x) zi21 : Int) = sd_lss x W (zi21 + 1) from by simp only [sd_lss]; unfold sd_lsS; first | (rw [if_pos ⟨by omega, by assumption⟩]; done) | (rw [if_neg (fun q => by have q1 := q.1; have q2 := q.2; first | contradiction | omega)]; done))) (sd_cg (sd_ce (show (sd_and ((sd_sq (sd_mks x) zi21) - (sd_mks x)) (sd_mks x) : Int) = sd_sq (sd_mks x) (zi21 + 1) from by rfl)) (sd_cg rfl (sd_cg (sd_ce (show (((zi21 : Int) + 1) : Int) = ((zi21 + 1 : Nat) : Int) from by omega)) (sd_cg rfl rfl)))))))) rfl
    ·
      refine sd_icmp_eq (tgt := 45) sD6_leastShops_30 (by decide) (fun zc30 => ?_) (fun zc30 => ?_)
      ·
        refine sd_iconst sD6_leastShops_45 (by decide) ?_
        refine sd_goto (tgt := 50) sD6_leastShops_46 (by decide) ?_
        exact K30 _ (by exact (sd_b1 (by omega)).symm)
      ·
        refine sd_iload sD6_leastShops_33 rfl ?_
        refine sd_callSp (as := [.inl (sd_sq (sd_mks x) zi21)]) (st := []) (v := .inl (sd_ones (sd_sq (sd_mks x) zi21))) sD6_leastShops_35 sM6_161 rfl rfl (by decide) (Nat.le_of_ble_eq_true rfl) (cC_bitCount (sd_sq (sd_mks x) zi21) m (by first | omega | assumption)) (fun ho35 => ?_)
        refine sd_iload_n sD6_leastShops_38 rfl ?_
        refine sd_callSp (as := [.inl (sd_lss x W zi21)]) (st := [.inl (sd_ones (sd_sq (sd_mks x) zi21))]) (v := .inl (sd_ones (sd_lss x W zi21))) sD6_leastShops_39 sM6_161 rfl rfl (by decide) (Nat.le_of_ble_eq_true rfl) (cC_bitCount (sd_lss x W zi21) m (by first | omega | assumption)) (fun ho39 => ?_)
        refine sd_icmp_ge (tgt := 49) sD6_leastShops_42 (by decide) (fun zc42 => ?_) (fun zc42 => ?_)
        ·
          refine sd_iconst sD6_leastShops_49 (by decide) ?_
          exact K30 _ (by exact (sd_b0 (by omega)).symm)
        ·
          refine sd_iconst sD6_leastShops_45 (by decide) ?_
          refine sd_goto (tgt := 50) sD6_leastShops_46 (by decide) ?_
          exact K30 _ (by exact (sd_b1 (by omega)).symm)
  ·
    show sd_Wp sd_SC 5 sY6_leastShops 21 [some (.inr 53), some (.inl W), some (.inl (sd_mks x)), some (.inl (sd_lss x W (sd_sqN (sd_mks x)))), some (.inl (sd_sq (sd_mks x) (sd_sqN (sd_mks x)))), some (.inl ((sd_sqN (sd_mks x) : Nat) : Int)), some (.inl (((sd_sqN (sd_mks x)) : Nat) : Int)), none] [] m _
    refine sd_iload sD6_leastShops_21 rfl ?_
    refine sd_iload sD6_leastShops_23 rfl ?_
    refine sd_icmp_ge (tgt := 95) sD6_leastShops_25 (by decide) (fun zc25 => ?_) (fun zc25 => (by exfalso; omega))
    refine sd_iload_n sD6_leastShops_95 rfl ?_
    refine sd_ireturn sD6_leastShops_96 rfl (fun hr hm => ?_)
    exact ⟨rfl, hx⟩
