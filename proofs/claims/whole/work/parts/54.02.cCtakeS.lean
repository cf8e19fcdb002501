set_option maxRecDepth 100000 in
set_option maxHeartbeats 4000000 in
theorem cC_takeS (w : Nat) (hw : w < 6) (g : Nat → Int) (c : Int) (x m : sd_M) (hx : sd_ns (sd_rc x g c) m) (h5 : sd_I5 x) (hrr : sd_rr g) : sd_Ct sd_SC 0 sY9_takeNeed [.inr 23, .inl (w : Int), .inr 19] m (fun q m' => q = none ∧ sd_ns (sd_rc x (sd_tk x w g) c) m' ∧ True) := by
  refine sd_ct rfl (Nat.le_of_ble_eq_true rfl) (fun hok hm => ?_)
  show sd_Wp sd_SC 0 sY9_takeNeed 0 [some (.inr 23), some (.inl (w : Int)), some (.inr 19), none] [] m _
  refine sd_iconst sD9_takeNeed_0 (by decide) ?_
  refine sd_istore_n (ls' := [some (.inr 23), some (.inl (w : Int)), some (.inr 19), some (.inl 0)]) sD9_takeNeed_1 (by decide) rfl ?_
  refine sd_forX (6) (fun zi2 : Nat => [some (.inr 23), some (.inl (w : Int)), some (.inr 19), some (.inl (zi2 : Int))]) (fun zi2 : Nat => sd_rc x (sd_pt g (sd_tk x w g) zi2) (c)) (fun (zi2 : Nat) (m : sd_M) => True) (by rfl) (fun zi2 hizi2 m hx hpzi2 ihzi2 => ?_) (fun m hx hpzi2 => ?_) (by exact sd_nseq (sd_rc_cong (fun p hp => by unfold sd_pt; rw [if_neg (by omega)])) hx) (by trivial)
  ·
    have e1 := hrr zi2 (by omega)
    have e2 := h5.2 (6 * w + zi2) (by omega)
    refine sd_iload_n sD9_takeNeed_2 rfl ?_
    refine sd_bipush sD9_takeNeed_3 rfl (by decide) ?_
    refine sd_icmp_ge (tgt := 31) sD9_takeNeed_5 (by decide) (fun zc5 => (by exfalso; omega)) (fun zc5 => ?_)
    refine sd_aload_n sD9_takeNeed_8 rfl ?_
    refine sd_iload_n sD9_takeNeed_9 rfl ?_
    refine sd_dup2 sD9_takeNeed_10 ?_
    refine sd_ialdx (a := (386 + zi2)) (v := g zi2) hx sD9_takeNeed_11 sAC19 (by omega) (by rw [sd_rc_at (by omega)]; unfold sd_pt; rw [if_neg (by omega)]) ?_
    refine sd_aload_n sD9_takeNeed_12 rfl ?_
    refine sd_getfr sD9_takeNeed_13 sF9_22 sGC23_3 ?_
    refine sd_iload_n sD9_takeNeed_16 rfl ?_
    refine sd_bipush sD9_takeNeed_17 rfl (by decide) ?_
    refine sd_imul (z := ((w : Int) * 6)) sD9_takeNeed_19 (by omega) (by omega) ?_
    refine sd_iload_n sD9_takeNeed_20 rfl ?_
    refine sd_iadd (z := (((w : Int) * 6) + (zi2 : Int))) sD9_takeNeed_21 (by omega) (by omega) ?_
    refine sd_ialdx (a := (392 + (6 * w + zi2))) (v := x (392 + (6 * w + zi2))) hx sD9_takeNeed_22 sAC20 (by omega) (sd_rc_o (by omega) (by omega)) ?_
    refine sd_isub (z := (g zi2 - (x (392 + (6 * w + zi2))))) sD9_takeNeed_23 (by omega) (by omega) ?_
    refine sd_iastx (a := (386 + zi2)) sd_sokC hx sD9_takeNeed_24 sAC19 (by omega) (fun m hx em24 => ?_)
    refine sd_iinc (y := ((zi2 : Int) + 1)) (ls' := [some (.inr 23), some (.inl (w : Int)), some (.inr 19), some (.inl ((zi2 : Int) + 1))]) sD9_takeNeed_25 rfl (by omega) (by omega) (by decide) rfl ?_
    refine sd_goto (tgt := 2) sD9_takeNeed_28 (by decide) ?_
    exact sd_eqw (ls' := [some (.inr 23), some (.inl (w : Int)), some (.inr 19), some (.inl ((zi2 + 1 : Nat) : Int))]) (ihzi2 m (by exact sd_nseq (sd_rc_st (by omega) (by rw [sd_pt_s.1]; rfl) (fun p hp hn => sd_pt_s.2 p hn)) hx) (by trivial)) (sd_cg rfl (sd_cg rfl (sd_cg rfl (sd_cg (sd_ce (show (((zi2 : Int) + 1) : Int) = ((zi2 + 1 : Nat) : Int) from by omega)) rfl)))) rfl
  ·
    show sd_Wp sd_SC 0 sY9_takeNeed 2 [some (.inr 23), some (.inl (w : Int)), some (.inr 19), some (.inl (6 : Int))] [] m _
    refine sd_iload_n sD9_takeNeed_2 rfl ?_
    refine sd_bipush sD9_takeNeed_3 rfl (by decide) ?_
    refine sd_icmp_ge (tgt := 31) sD9_takeNeed_5 (by decide) (fun zc5 => ?_) (fun zc5 => (by exfalso; omega))
    refine sd_vreturn sD9_takeNeed_31 rfl (fun hm => ?_)
    exact ⟨rfl, sd_nseq (sd_rc_cong (fun p hp => by unfold sd_pt; rw [if_pos hp])) hx, hpzi2⟩
