set_option maxRecDepth 100000 in
set_option maxHeartbeats 4000000 in
theorem cC_termsToSign (t a l : Int) (x m : sd_M) (hx : sd_ns x m) (h1 : sd_I1 x) (h2 : sd_I2 x) (ht : 0 ≤ t ∧ t < 16777216) : sd_Cp sd_SC 3 sY1_termsToSign [.inr 13, .inl t, .inl a, .inl l] m (.inl (sd_sgb x t a l)) := by
  refine sd_ct rfl (Nat.le_of_ble_eq_true rfl) (fun hok hm => ?_)
  obtain ⟨⟨i0, j0⟩, ⟨i1, j1⟩, ⟨i2, j2⟩, ⟨i3, j3⟩, ⟨i4, j4⟩, ⟨i5, j5⟩, ⟨i6, j6⟩, ⟨i7, j7⟩, ⟨i8, j8⟩⟩ := id h1
  show sd_Wp sd_SC 3 sY1_termsToSign 0 [some (.inr 13), some (.inl t), some (.inl a), some (.inl l), none, none, none, none] [] m _
  refine sd_iconst sD1_termsToSign_0 (by decide) ?_
  refine sd_istore (ls' := [some (.inr 13), some (.inl t), some (.inl a), some (.inl l), some (.inl (-1)), none, none, none]) sD1_termsToSign_1 (by decide) rfl ?_
  refine sd_iconst sD1_termsToSign_3 (by decide) ?_
  refine sd_istore (ls' := [some (.inr 13), some (.inl t), some (.inl a), some (.inl l), some (.inl (-1)), some (.inl 0), none, none]) sD1_termsToSign_4 (by decide) rfl ?_
  refine sd_iconst sD1_termsToSign_6 (by decide) ?_
  refine sd_iload_n sD1_termsToSign_7 rfl ?_
  refine sd_callSp (as := [.inl t]) (st := [.inl 1]) (v := .inl (sd_ones t)) sD1_termsToSign_8 sM1_106 rfl rfl (by decide) (Nat.le_of_ble_eq_true rfl) (cC_bitCount t m (by first | omega | assumption)) (fun ho8 => ?_)
  refine sd_ishl sD1_termsToSign_11 ?_
  rw [sd_shl_ones]
  refine sd_istore (ls' := [some (.inr 13), some (.inl t), some (.inl a), some (.inl l), some (.inl (-1)), some (.inl 0), some (.inl ((sd_sqN t : Nat) : Int)), none]) sD1_termsToSign_12 (by decide) rfl ?_
  refine sd_iconst sD1_termsToSign_14 (by decide) ?_
  refine sd_istore (ls' := [some (.inr 13), some (.inl t), some (.inl a), some (.inl l), some (.inl (-1)), some (.inl 0), some (.inl ((sd_sqN t : Nat) : Int)), some (.inl 0)]) sD1_termsToSign_15 (by decide) rfl ?_
  refine sd_forE (sd_sqN t) (fun zi17 : Nat => [some (.inr 13), some (.inl t), some (.inl a), some (.inl l), some (.inl (sd_sbs x t a l zi17)), some (.inl (sd_sq t zi17)), some (.inl ((sd_sqN t : Nat) : Int)), some (.inl (zi17 : Int))]) (by rfl) (fun zi17 hizi17 ihzi17 => ?_) ?_
  ·
    have e5 := sd_sq_rng (S := t) (by omega) zi17
    have e6 := sd_sbs_rng (x := x) (S := t) (by omega) a l zi17
    have e7 := sd_sqN_le t
    refine sd_iload sD1_termsToSign_17 rfl ?_
    refine sd_iload sD1_termsToSign_19 rfl ?_
    refine sd_icmp_ge (tgt := 70) sD1_termsToSign_21 (by decide) (fun zc21 => (by exfalso; omega)) (fun zc21 => ?_)
    refine sd_aload_n sD1_termsToSign_24 rfl ?_
    refine sd_iload sD1_termsToSign_25 rfl ?_
    refine sd_iload_n sD1_termsToSign_27 rfl ?_
    refine sd_iload_n sD1_termsToSign_28 rfl ?_
    refine sd_callVp (as := [.inl (sd_sq t zi17), .inl a, .inl l]) (st := []) (v := .inl (sd_b (sd_sgd x (sd_sq t zi17) a l))) sD1_termsToSign_29 sM1_112 sOC13 rfl rfl rfl (by decide) (Nat.le_of_ble_eq_true rfl) (cC_isSigned (sd_sq t zi17) a l _ m hx h1 h2 ) (fun ho29 => ?_)
    refine sd_bif_eq (tgt := 56) sD1_termsToSign_32 (by decide) (fun zc32 => ?_) (fun zc32 => ?_)
    ·
      refine sd_iload sD1_termsToSign_56 rfl ?_
      refine sd_iload_n sD1_termsToSign_58 rfl ?_
      refine sd_callNp (as := [.inl (sd_sq t zi17), .inl t]) (st := []) (v := .inl (sd_and ((sd_sq t zi17) - t) t)) sD1_termsToSign_59 sM1_118 rfl rfl (by decide) (Nat.le_of_ble_eq_true rfl) (cC_nextSubset (sd_sq t zi17) t _ m hx  (by omega) (by omega)) (fun ho59 => ?_)
      refine sd_istore (ls' := [some (.inr 13), some (.inl t), some (.inl a), some (.inl l), some (.inl (sd_sbs x t a l zi17)), some (.inl (sd_and ((sd_sq t zi17) - t) t)), some (.inl ((sd_sqN t : Nat) : Int)), some (.inl (zi17 : Int))]) sD1_termsToSign_62 (by decide) rfl ?_
      refine sd_iinc (y := ((zi17 : Int) + 1)) (ls' := [some (.inr 13), some (.inl t), some (.inl a), some (.inl l), some (.inl (sd_sbs x t a l zi17)), some (.inl (sd_and ((sd_sq t zi17) - t) t)), some (.inl ((sd_sqN t : Nat) : Int)), some (.inl ((zi17 : Int) + 1))]) sD1_termsToSign_64 rfl (by omega) (by omega) (by decide) rfl ?_
      refine sd_goto (tgt := 17) sD1_termsToSign_67 (by decide) ?_
      exact sd_eqw (ls' := [some (.inr 13), some (.inl t), some (.inl a), some (.inl l), some (.inl (sd_sbs x t a l (zi17 + 1))), some (.inl (sd_sq t (zi17 + 1))), some (.inl ((sd_sqN t : Nat) : Int)), some (.inl ((zi17 + 1 : Nat) : Int))]) ihzi17 (sd_cg rfl (sd_cg rfl (sd_cg rfl (sd_cg rfl (sd_cg (sd_ce (show (sd_sbs x t a l zi17 : Int) = sd_sbs x t a l (zi17 + 1) from by (simp only [sd_sbs]; first | (rw [if_pos ⟨by assumption, by first | exact Or.inl (by assumption) | exact Or.inr (by assumption)⟩]; done) | (rw [if_neg (fun hh => by first | exact absurd hh.1 (by assumption) | (rcases hh.2 with q | q; exact absurd q (by assumption); exact absurd q (by assumption)))]; done)))) (sd_cg (sd_ce (show (sd_and ((sd_sq t zi17) - t) t : Int) = sd_sq t (zi17 + 1) from by rfl)) (sd_cg rfl (sd_cg (sd_ce (show (((zi17 : Int) + 1) : Int) = ((zi17 + 1 : Nat) : Int) from by omega)) rfl)))))))) rfl
    ·
      refine sd_iload sD1_termsToSign_35 rfl ?_
      refine sd_iconst sD1_termsToSign_37 (by decide) ?_
      refine sd_icmp_eq (tgt := 52) sD1_termsToSign_38 (by decide) (fun zc38 => ?_) (fun zc38 => ?_)
      ·
        refine sd_iload sD1_termsToSign_52 rfl ?_
        refine sd_istore (ls' := [some (.inr 13), some (.inl t), some (.inl a), some (.inl l), some (.inl (sd_sq t zi17)), some (.inl (sd_sq t zi17)), some (.inl ((sd_sqN t : Nat) : Int)), some (.inl (zi17 : Int))]) sD1_termsToSign_54 (by decide) rfl ?_
        refine sd_iload sD1_termsToSign_56 rfl ?_
        refine sd_iload_n sD1_termsToSign_58 rfl ?_
        refine sd_callNp (as := [.inl (sd_sq t zi17), .inl t]) (st := []) (v := .inl (sd_and ((sd_sq t zi17) - t) t)) sD1_termsToSign_59 sM1_118 rfl rfl (by decide) (Nat.le_of_ble_eq_true rfl) (cC_nextSubset (sd_sq t zi17) t _ m hx  (by omega) (by omega)) (fun ho59 => ?_)
        refine sd_istore (ls' := [some (.inr 13), some (.inl t), some (.inl a), some (.inl l), some (.inl (sd_sq t zi17)), some (.inl (sd_and ((sd_sq t zi17) - t) t)), some (.inl ((sd_sqN t : Nat) : Int)), some (.inl (zi17 : Int))]) sD1_termsToSign_62 (by decide) rfl ?_
        refine sd_iinc (y := ((zi17 : Int) + 1)) (ls' := [some (.inr 13), some (.inl t), some (.inl a), some (.inl l), some (.inl (sd_sq t zi17)), some (.inl (sd_and ((sd_sq t zi17) - t) t)), some (.inl ((sd_sqN t : Nat) : Int)), some (.inl ((zi17 : Int) + 1))]) sD1_termsToSign_64 rfl (by omega) (by omega) (by decide) rfl ?_
        refine sd_goto (tgt := 17) sD1_termsToSign_67 (by decide) ?_
        exact sd_eqw (ls' := [some (.inr 13), some (.inl t), some (.inl a), some (.inl l), some (.inl (sd_sbs x t a l (zi17 + 1))), some (.inl (sd_sq t (zi17 + 1))), some (.inl ((sd_sqN t : Nat) : Int)), some (.inl ((zi17 + 1 : Nat) : Int))]) ihzi17 (sd_cg rfl (sd_cg rfl (sd_cg rfl (sd_cg rfl (sd_cg (sd_ce (show (sd_sq t zi17 : Int) = sd_sbs x t a l (zi17 + 1) from by (simp only [sd_sbs]; first | (rw [if_pos ⟨by assumption, by first | exact Or.inl (by assumption) | exact Or.inr (by assumption)⟩]; done) | (rw [if_neg (fun hh => by first | exact absurd hh.1 (by assumption) | (rcases hh.2 with q | q; exact absurd q (by assumption); exact absurd q (by assumption)))]; done)))) (sd_cg (sd_ce (show (sd_and ((sd_sq t zi17) - t) t : Int) = sd_sq t (zi17 + 1) from by rfl)) (sd_cg rfl (sd_cg (sd_ce (show (((zi17 : Int) + 1) : Int) = ((zi17 + 1 : Nat) : Int) from by omega)) rfl)))))))) rfl
      ·
        refine sd_aload_n sD1_termsToSign_41 rfl ?_
        refine sd_iload sD1_termsToSign_42 rfl ?_
        refine sd_iload sD1_termsToSign_44 rfl ?_
        refine sd_callVp (as := [.inl (sd_sbs x t a l zi17), .inl (sd_sq t zi17)]) (st := []) (v := .inl (sd_b (sd_der x (sd_sbs x t a l zi17) (sd_sq t zi17)))) sD1_termsToSign_46 sM1_115 sOC13 rfl rfl rfl (by decide) (Nat.le_of_ble_eq_true rfl) (cC_isDearer (sd_sbs x t a l zi17) (sd_sq t zi17) _ m hx h1 h2 (by omega) (by omega)) (fun ho46 => ?_)
        refine sd_bif_eq (tgt := 56) sD1_termsToSign_49 (by decide) (fun zc49 => ?_) (fun zc49 => ?_)
        ·
          refine sd_iload sD1_termsToSign_56 rfl ?_
          refine sd_iload_n sD1_termsToSign_58 rfl ?_
          refine sd_callNp (as := [.inl (sd_sq t zi17), .inl t]) (st := []) (v := .inl (sd_and ((sd_sq t zi17) - t) t)) sD1_termsToSign_59 sM1_118 rfl rfl (by decide) (Nat.le_of_ble_eq_true rfl) (cC_nextSubset (sd_sq t zi17) t _ m hx  (by omega) (by omega)) (fun ho59 => ?_)
          refine sd_istore (ls' := [some (.inr 13), some (.inl t), some (.inl a), some (.inl l), some (.inl (sd_sbs x t a l zi17)), some (.inl (sd_and ((sd_sq t zi17) - t) t)), some (.inl ((sd_sqN t : Nat) : Int)), some (.inl (zi17 : Int))]) sD1_termsToSign_62 (by decide) rfl ?_
          refine sd_iinc (y := ((zi17 : Int) + 1)) (ls' := [some (.inr 13), some (.inl t), some (.inl a), some (.inl l), some (.inl (sd_sbs x t a l zi17)), some (.inl (sd_and ((sd_sq t zi17) - t) t)), some (.inl ((sd_sqN t : Nat) : Int)), some (.inl ((zi17 : Int) + 1))]) sD1_termsToSign_64 rfl (by omega) (by omega) (by decide) rfl ?_
          refine sd_goto (tgt := 17) sD1_termsToSign_67 (by decide) ?_
          exact sd_eqw (ls' := [some (.inr 13), some (.inl t), some (.inl a), some (.inl l), some (.inl (sd_sbs x t a l (zi17 + 1))), some (.inl (sd_sq t (zi17 + 1))), some (.inl ((sd_sqN t : Nat) : Int)), some (.inl ((zi17 + 1 : Nat) : Int))]) ihzi17 (sd_cg rfl (sd_cg rfl (sd_cg rfl (sd_cg rfl (sd_cg (sd_ce (show (sd_sbs x t a l zi17 : Int) = sd_sbs x t a l (zi17 + 1) from by (simp only [sd_sbs]; first | (rw [if_pos ⟨by assumption, by first | exact Or.inl (by assumption) | exact Or.inr (by assumption)⟩]; done) | (rw [if_neg (fun hh => by first | exact absurd hh.1 (by assumption) | (rcases hh.2 with q | q; exact absurd q (by assumption); exact absurd q (by assumption)))]; done)))) (sd_cg (sd_ce (show (sd_and ((sd_sq t zi17) - t) t : Int) = sd_sq t (zi17 + 1) from by rfl)) (sd_cg rfl (sd_cg (sd_ce (show (((zi17 : Int) + 1) : Int) = ((zi17 + 1 : Nat) : Int) from by omega)) rfl)))))))) rfl
        ·
          refine sd_iload sD1_termsToSign_52 rfl ?_
          refine sd_istore (ls' := [some (.inr 13), some (.inl t), some (.inl a), some (.inl l), some (.inl (sd_sq t zi17)), some (.inl (sd_sq t zi17)), some (.inl ((sd_sqN t : Nat) : Int)), some (.inl (zi17 : Int))]) sD1_termsToSign_54 (by decide) rfl ?_
          refine sd_iload sD1_termsToSign_56 rfl ?_
          refine sd_iload_n sD1_termsToSign_58 rfl ?_
          refine sd_callNp (as := [.inl (sd_sq t zi17), .inl t]) (st := []) (v := .inl (sd_and ((sd_sq t zi17) - t) t)) sD1_termsToSign_59 sM1_118 rfl rfl (by decide) (Nat.le_of_ble_eq_true rfl) (cC_nextSubset (sd_sq t zi17) t _ m hx  (by omega) (by omega)) (fun ho59 => ?_)
          refine sd_istore (ls' := [some (.inr 13), some (.inl t), some (.inl a), some (.inl l), some (.inl (sd_sq t zi17)), some (.inl (sd_and ((sd_sq t zi17) - t) t)), some (.inl ((sd_sqN t : Nat) : Int)), some (.inl (zi17 : Int))]) sD1_termsToSign_62 (by decide) rfl ?_
          refine sd_iinc (y := ((zi17 : Int) + 1)) (ls' := [some (.inr 13), some (.inl t), some (.inl a), some (.inl l), some (.inl (sd_sq t zi17)), some (.inl (sd_and ((sd_sq t zi17) - t) t)), some (.inl ((sd_sqN t : Nat) : Int)), some (.inl ((zi17 : Int) + 1))]) sD1_termsToSign_64 rfl (by omega) (by omega) (by decide) rfl ?_
          refine sd_goto (tgt := 17) sD1_termsToSign_67 (by decide) ?_
          exact sd_eqw (ls' := [some (.inr 13), some (.inl t), some (.inl a), some (.inl l), some (.inl (sd_sbs x t a l (zi17 + 1))), some (.inl (sd_sq t (zi17 + 1))), some (.inl ((sd_sqN t : Nat) : Int)), some (.inl ((zi17 + 1 : Nat) : Int))]) ihzi17 (sd_cg rfl (sd_cg rfl (sd_cg rfl (sd_cg rfl (sd_cg (sd_ce (show (sd_sq t zi17 : Int) = sd_sbs x t a l (zi17 + 1) from by (simp only [sd_sbs]; first | (rw [if_pos ⟨by assumption, by first | exact Or.inl (by assumption) | exact Or.inr (by assumption)⟩]; done) | (rw [if_neg (fun hh => by first | exact absurd hh.1 (by assumption) | (rcases hh.2 with q | q; exact absurd q (by assumption); exact absurd q (by assumption)))]; done)))) (sd_cg (sd_ce (show (sd_and ((sd_sq t zi17) - t) t : Int) = sd_sq t (zi17 + 1) from by rfl)) (sd_cg rfl (sd_cg (sd_ce (show (((zi17 : Int) + 1) : Int) = ((zi17 + 1 : Nat) : Int) from by omega)) rfl)))))))) rfl
  ·
    show sd_Wp sd_SC 3 sY1_termsToSign 17 [some (.inr 13), some (.inl t), some (.inl a), some (.inl l), some (.inl (sd_sbs x t a l (sd_sqN t))), some (.inl (sd_sq t (sd_sqN t))), some (.inl ((sd_sqN t : Nat) : Int)), some (.inl (((sd_sqN t) : Nat) : Int))] [] m _
    refine sd_iload sD1_termsToSign_17 rfl ?_
    refine sd_iload sD1_termsToSign_19 rfl ?_
    refine sd_icmp_ge (tgt := 70) sD1_termsToSign_21 (by decide) (fun zc21 => ?_) (fun zc21 => (by exfalso; omega))
    refine sd_iload sD1_termsToSign_70 rfl ?_
    refine sd_iretp sD1_termsToSign_72 rfl ?_
    rfl
