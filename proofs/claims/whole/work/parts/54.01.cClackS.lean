set_option maxRecDepth 100000 in
set_option maxHeartbeats 4000000 in
theorem cC_lackS (w : Nat) (hw : w < 6) (g : Nat → Int) (c : Int) (x m : sd_M) (hx : sd_ns (sd_rc x g c) m) : sd_Cp sd_SC 0 sY9_lackOf [.inr 23, .inl (w : Int), .inr 19] m (.inl (sd_lk x w g)) := by
  refine sd_ct rfl (Nat.le_of_ble_eq_true rfl) (fun hok hm => ?_)
  show sd_Wp sd_SC 0 sY9_lackOf 0 [some (.inr 23), some (.inl (w : Int)), some (.inr 19), none] [] m _
  refine sd_iconst sD9_lackOf_0 (by decide) ?_
  refine sd_istore_n (ls' := [some (.inr 23), some (.inl (w : Int)), some (.inr 19), some (.inl 0)]) sD9_lackOf_1 (by decide) rfl ?_
  refine sd_forH (6) (fun zi2 : Nat => [some (.inr 23), some (.inl (w : Int)), some (.inr 19), some (.inl (zi2 : Int))]) (fun zi2 : Nat => ∀ j, j < zi2 → ¬ sd_Plk x w g j) (by rfl) (fun zi2 hizi2 hhzi2 ihzi2 => ?_) (fun hhzi2 => ?_) (by intro j hj; omega)
  ·
    refine sd_iload_n sD9_lackOf_2 rfl ?_
    refine sd_bipush sD9_lackOf_3 rfl (by decide) ?_
    refine sd_icmp_ge (tgt := 33) sD9_lackOf_5 (by decide) (fun zc5 => (by exfalso; omega)) (fun zc5 => ?_)
    refine sd_aload_n sD9_lackOf_8 rfl ?_
    refine sd_iload_n sD9_lackOf_9 rfl ?_
    refine sd_ialdx (a := (386 + zi2)) (v := g zi2) hx sD9_lackOf_10 sAC19 (by omega) (sd_rc_at (by omega)) ?_
    refine sd_aload_n sD9_lackOf_11 rfl ?_
    refine sd_getfr sD9_lackOf_12 sF9_22 sGC23_3 ?_
    refine sd_iload_n sD9_lackOf_15 rfl ?_
    refine sd_bipush sD9_lackOf_16 rfl (by decide) ?_
    refine sd_imul (z := ((w : Int) * 6)) sD9_lackOf_18 (by omega) (by omega) ?_
    refine sd_iload_n sD9_lackOf_19 rfl ?_
    refine sd_iadd (z := (((w : Int) * 6) + (zi2 : Int))) sD9_lackOf_20 (by omega) (by omega) ?_
    refine sd_ialdx (a := (392 + (6 * w + zi2))) (v := x (392 + (6 * w + zi2))) hx sD9_lackOf_21 sAC20 (by omega) (sd_rc_o (by omega) (by omega)) ?_
    refine sd_icmp_ge (tgt := 27) sD9_lackOf_22 (by decide) (fun zc22 => ?_) (fun zc22 => ?_)
    ·
      refine sd_iinc (y := ((zi2 : Int) + 1)) (ls' := [some (.inr 23), some (.inl (w : Int)), some (.inr 19), some (.inl ((zi2 : Int) + 1))]) sD9_lackOf_27 rfl (by omega) (by omega) (by decide) rfl ?_
      refine sd_goto (tgt := 2) sD9_lackOf_30 (by decide) ?_
      exact sd_eqw (ls' := [some (.inr 23), some (.inl (w : Int)), some (.inr 19), some (.inl ((zi2 + 1 : Nat) : Int))]) (ihzi2 (by exact sd_all_succ hhzi2 (fun (q : g zi2 < x (392 + (6 * w + zi2))) => by omega))) (sd_cg rfl (sd_cg rfl (sd_cg rfl (sd_cg (sd_ce (show (((zi2 : Int) + 1) : Int) = ((zi2 + 1 : Nat) : Int) from by omega)) rfl)))) rfl
    ·
      refine sd_iload_n sD9_lackOf_25 rfl ?_
      refine sd_iretp sD9_lackOf_26 rfl ?_
      first | exact (sd_fst_at (P := sd_Plk x w g) hhzi2 (by assumption) (by omega)).symm | exact (sd_fst_none (P := sd_Plk x w g) hhzi2).symm
  ·
    show sd_Wp sd_SC 0 sY9_lackOf 2 [some (.inr 23), some (.inl (w : Int)), some (.inr 19), some (.inl (6 : Int))] [] m _
    refine sd_iload_n sD9_lackOf_2 rfl ?_
    refine sd_bipush sD9_lackOf_3 rfl (by decide) ?_
    refine sd_icmp_ge (tgt := 33) sD9_lackOf_5 (by decide) (fun zc5 => ?_) (fun zc5 => (by exfalso; omega))
    refine sd_iconst sD9_lackOf_33 (by decide) ?_
    refine sd_iretp sD9_lackOf_34 rfl ?_
    first | exact (sd_fst_at (P := sd_Plk x w g) hhzi2 (by assumption) (by omega)).symm | exact (sd_fst_none (P := sd_Plk x w g) hhzi2).symm
