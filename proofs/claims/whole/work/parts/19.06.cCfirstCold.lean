set_option maxRecDepth 100000 in
set_option maxHeartbeats 4000000 in
theorem cC_firstCold (s : Int) (v : Int) (x m : sd_M) (hx : sd_ns x m) (h1 : sd_I1 x) (h2 : sd_I2 x) (hs : 0 ≤ s ∧ s < 24) : sd_Cp sd_SC 2 sY6_firstCold [.inr 53, .inl s, .inl v] m (.inl (sd_fc x s v)) := by
  refine sd_ct rfl (Nat.le_of_ble_eq_true rfl) (fun hok hm => ?_)
  obtain ⟨⟨i0, j0⟩, ⟨i1, j1⟩, ⟨i2, j2⟩, ⟨i3, j3⟩, ⟨i4, j4⟩, ⟨i5, j5⟩, ⟨i6, j6⟩, ⟨i7, j7⟩, ⟨i8, j8⟩⟩ := id h1
  have r_s : sd_R s := hok (.inl s) (by simp)
  have r_v : sd_R v := hok (.inl v) (by simp)
  show sd_Wp sd_SC 2 sY6_firstCold 0 [some (.inr 53), some (.inl s), some (.inl v), none, none] [] m _
  refine sd_aload_n sD6_firstCold_0 rfl ?_
  refine sd_getfr sD6_firstCold_1 sF6_21 sGC53_2 ?_
  refine sd_getfr sD6_firstCold_4 sF6_120 sGC13_5 ?_
  refine sd_iload_n sD6_firstCold_7 rfl ?_
  refine sd_ialdx (a := (82 + s.toNat)) (v := x (82 + s.toNat)) hx sD6_firstCold_8 sAC3 (by omega) rfl ?_
  refine sd_istore_n (ls' := [some (.inr 53), some (.inl s), some (.inl v), some (.inl (x (82 + s.toNat))), none]) sD6_firstCold_9 (by decide) rfl ?_
  refine sd_iconst sD6_firstCold_10 (by decide) ?_
  refine sd_istore (ls' := [some (.inr 53), some (.inl s), some (.inl v), some (.inl (x (82 + s.toNat))), some (.inl 0)]) sD6_firstCold_11 (by decide) rfl ?_
  refine sd_forH (100) (fun zi13 : Nat => [some (.inr 53), some (.inl s), some (.inl v), some (.inl (sd_wit x s zi13)), some (.inl (zi13 : Int))]) (fun zi13 : Nat => ∀ j, j < zi13 → ¬ sd_Pc_ x s v j) (by rfl) (fun zi13 hizi13 hhzi13 ihzi13 => ?_) (fun hhzi13 => ?_) (by intro j hj; omega)
  ·
    have e5 := sd_wit_rng h1 h2 hs zi13
    refine sd_iload sD6_firstCold_13 rfl ?_
    refine sd_bipush sD6_firstCold_15 rfl (by decide) ?_
    refine sd_icmp_ge (tgt := 53) sD6_firstCold_17 (by decide) (fun zc17 => (by exfalso; omega)) (fun zc17 => ?_)
    refine sd_aload_n sD6_firstCold_20 rfl ?_
    refine sd_getfr sD6_firstCold_21 sF6_21 sGC53_2 ?_
    refine sd_iload_n sD6_firstCold_24 rfl ?_
    refine sd_iload_n sD6_firstCold_25 rfl ?_
    refine sd_aload_n sD6_firstCold_26 rfl ?_
    refine sd_getfx (v := x 1) hx sD6_firstCold_27 sF6_15 sGC53_1 (by decide) rfl ?_
    refine sd_callVp (as := [.inl s, .inl (sd_wit x s zi13), .inl (x 1)]) (st := []) (v := .inl (sd_wth x s (sd_wit x s zi13))) sD6_firstCold_30 sM6_177 sOC13 rfl rfl rfl (by decide) (Nat.le_of_ble_eq_true rfl) (cC_warmthBehind s (sd_wit x s zi13) (x 1) _ m hx h1 h2 (by omega) (by first | rfl | omega)) (fun ho30 => ?_)
    refine sd_istore_n (ls' := [some (.inr 53), some (.inl s), some (.inl v), some (.inl (sd_wth x s (sd_wit x s zi13))), some (.inl (zi13 : Int))]) sD6_firstCold_33 (by decide) rfl ?_
    refine sd_iload_n sD6_firstCold_34 rfl ?_
    refine sd_iload_n sD6_firstCold_35 rfl ?_
    refine sd_icmp_gt (tgt := 47) sD6_firstCold_36 (by decide) (fun zc36 => ?_) (fun zc36 => ?_)
    ·
      refine sd_iinc (y := ((zi13 : Int) + 1)) (ls' := [some (.inr 53), some (.inl s), some (.inl v), some (.inl (sd_wth x s (sd_wit x s zi13))), some (.inl ((zi13 : Int) + 1))]) sD6_firstCold_47 rfl (by omega) (by omega) (by decide) rfl ?_
      refine sd_goto (tgt := 13) sD6_firstCold_50 (by decide) ?_
      exact sd_eqw (ls' := [some (.inr 53), some (.inl s), some (.inl v), some (.inl (sd_wit x s (zi13 + 1))), some (.inl ((zi13 + 1 : Nat) : Int))]) (ihzi13 (by exact sd_all_succ hhzi13 (fun (hp : sd_wth x s (sd_wit x s zi13) ≤ v) => by omega))) (by rw [show (sd_wth x s (sd_wit x s zi13) : Int) = sd_wit x s (zi13 + 1) from by rfl, show (((zi13 : Int) + 1) : Int) = ((zi13 + 1 : Nat) : Int) from by omega]) rfl
    ·
      refine sd_aload_n sD6_firstCold_39 rfl ?_
      refine sd_getfx (v := x 0) hx sD6_firstCold_40 sF6_9 sGC53_0 (by decide) rfl ?_
      refine sd_iload sD6_firstCold_43 rfl ?_
      refine sd_iadd (z := (x 0 + (zi13 : Int))) sD6_firstCold_45 (by omega) (by omega) ?_
      refine sd_iretp sD6_firstCold_46 rfl ?_
      (unfold sd_fc; first | (rw [sd_fst_at (P := sd_Pc_ x s v) (i := zi13) hhzi13 (by assumption) (by omega), if_neg (by omega)]; done) | (rw [sd_fst_none (P := sd_Pc_ x s v) hhzi13]; rfl))
  ·
    show sd_Wp sd_SC 2 sY6_firstCold 13 [some (.inr 53), some (.inl s), some (.inl v), some (.inl (sd_wit x s 100)), some (.inl (100 : Int))] [] m _
    refine sd_iload sD6_firstCold_13 rfl ?_
    refine sd_bipush sD6_firstCold_15 rfl (by decide) ?_
    refine sd_icmp_ge (tgt := 53) sD6_firstCold_17 (by decide) (fun zc17 => ?_) (fun zc17 => (by exfalso; omega))
    refine sd_iconst sD6_firstCold_53 (by decide) ?_
    refine sd_iretp sD6_firstCold_54 rfl ?_
    (unfold sd_fc; first | (rw [sd_fst_at (P := sd_Pc_ x s v) (i := zi13) hhzi13 (by assumption) (by omega), if_neg (by omega)]; done) | (rw [sd_fst_none (P := sd_Pc_ x s v) hhzi13]; rfl))
