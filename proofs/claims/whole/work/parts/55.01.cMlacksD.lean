set_option maxRecDepth 100000 in
set_option maxHeartbeats 4000000 in
theorem cM_lacksD (w : Nat) (hw : w < 6) (g : Nat → Int) (c : Int) (x m : sd_M) (hx : sd_ns (sd_rc x g c) m) : sd_Cp sd_SM 0 sY11_lacks [.inr 15, .inr 0, .inl 386, .inl (w : Int)] m (.inl (sd_lk x w g)) := by
  refine sd_ct rfl (Nat.le_of_ble_eq_true rfl) (fun hok hm => ?_)
  show sd_Wp sd_SM 0 sY11_lacks 0 [some (.inr 15), some (.inr 0), some (.inl 386), some (.inl (w : Int)), none] [] m _
  refine sd_iconst sD11_lacks_0 (by decide) ?_
  refine sd_istore (ls' := [some (.inr 15), some (.inr 0), some (.inl 386), some (.inl (w : Int)), some (.inl 0)]) sD11_lacks_1 (by decide) rfl ?_
  refine sd_forH (6) (fun zi3 : Nat => [some (.inr 15), some (.inr 0), some (.inl 386), some (.inl (w : Int)), some (.inl (zi3 : Int))]) (fun zi3 : Nat => ∀ j, j < zi3 → ¬ sd_Plk x w g j) (by rfl) (fun zi3 hizi3 hhzi3 ihzi3 => ?_) (fun hhzi3 => ?_) (by intro j hj; omega)
  ·
    refine sd_iload sD11_lacks_3 rfl ?_
    refine sd_bipush sD11_lacks_5 rfl (by decide) ?_
    refine sd_icmp_ge (tgt := 44) sD11_lacks_7 (by decide) (fun zc7 => (by exfalso; omega)) (fun zc7 => ?_)
    refine sd_aload_n sD11_lacks_10 rfl ?_
    refine sd_iload_n sD11_lacks_11 rfl ?_
    refine sd_iload sD11_lacks_12 rfl ?_
    refine sd_iadd (z := (386 + (zi3 : Int))) sD11_lacks_14 (by omega) (by omega) ?_
    refine sd_ialdx (a := (386 + zi3)) (v := g zi3) hx sD11_lacks_15 sAM0 (by omega) (sd_rc_at (by omega)) ?_
    refine sd_aload_n sD11_lacks_16 rfl ?_
    refine sd_getfr sD11_lacks_17 sF11_7 sGM15_0 ?_
    refine sd_sipush sD11_lacks_20 rfl (by decide) ?_
    refine sd_bipush sD11_lacks_23 rfl (by decide) ?_
    refine sd_iload_n sD11_lacks_25 rfl ?_
    refine sd_imul (z := (6 * (w : Int))) sD11_lacks_26 (by omega) (by omega) ?_
    refine sd_iadd (z := (392 + (6 * (w : Int)))) sD11_lacks_27 (by omega) (by omega) ?_
    refine sd_iload sD11_lacks_28 rfl ?_
    refine sd_iadd (z := ((392 + (6 * (w : Int))) + (zi3 : Int))) sD11_lacks_30 (by omega) (by omega) ?_
    refine sd_ialdx (a := (392 + (6 * w + zi3))) (v := x (392 + (6 * w + zi3))) hx sD11_lacks_31 sAM0 (by omega) (sd_rc_o (by omega) (by omega)) ?_
    refine sd_icmp_ge (tgt := 38) sD11_lacks_32 (by decide) (fun zc32 => ?_) (fun zc32 => ?_)
    ·
      refine sd_iinc (y := ((zi3 : Int) + 1)) (ls' := [some (.inr 15), some (.inr 0), some (.inl 386), some (.inl (w : Int)), some (.inl ((zi3 : Int) + 1))]) sD11_lacks_38 rfl (by omega) (by omega) (by decide) rfl ?_
      refine sd_goto (tgt := 3) sD11_lacks_41 (by decide) ?_
      exact sd_eqw (ls' := [some (.inr 15), some (.inr 0), some (.inl 386), some (.inl (w : Int)), some (.inl ((zi3 + 1 : Nat) : Int))]) (ihzi3 (by exact sd_all_succ hhzi3 (fun (q : g zi3 < x (392 + (6 * w + zi3))) => by omega))) (sd_cg rfl (sd_cg rfl (sd_cg rfl (sd_cg rfl (sd_cg (sd_ce (show (((zi3 : Int) + 1) : Int) = ((zi3 + 1 : Nat) : Int) from by omega)) rfl))))) rfl
    ·
      refine sd_iload sD11_lacks_35 rfl ?_
      refine sd_iretp sD11_lacks_37 rfl ?_
      first | exact (sd_fst_at (P := sd_Plk x w g) hhzi3 (by assumption) (by omega)).symm | exact (sd_fst_none (P := sd_Plk x w g) hhzi3).symm
  ·
    show sd_Wp sd_SM 0 sY11_lacks 3 [some (.inr 15), some (.inr 0), some (.inl 386), some (.inl (w : Int)), some (.inl (6 : Int))] [] m _
    refine sd_iload sD11_lacks_3 rfl ?_
    refine sd_bipush sD11_lacks_5 rfl (by decide) ?_
    refine sd_icmp_ge (tgt := 44) sD11_lacks_7 (by decide) (fun zc7 => ?_) (fun zc7 => (by exfalso; omega))
    refine sd_iconst sD11_lacks_44 (by decide) ?_
    refine sd_iretp sD11_lacks_45 rfl ?_
    first | exact (sd_fst_at (P := sd_Plk x w g) hhzi3 (by assumption) (by omega)).symm | exact (sd_fst_none (P := sd_Plk x w g) hhzi3).symm
