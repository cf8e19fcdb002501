set_option maxRecDepth 100000 in
set_option maxHeartbeats 4000000 in
theorem cC_bestFirst (w v : Int) (n : Nat) (x m : sd_M) (hx : sd_ns x m) (h9 : sd_L9 x) (hw : 1 ≤ w ∧ w ≤ 99) (hv : 1 ≤ v ∧ v ≤ 99) (hn : n + 1 ≤ 5) : sd_Ct sd_SC 17 sY0_bestFirstMove [.inr 49, .inl w, .inl v, .inl ((n + 1 : Nat) : Int)] m (fun r m' => r = some (.inl (sd_bst x (2 * n + 1) w v)) ∧ sd_ns x m') := by
  refine sd_ct rfl (Nat.le_of_ble_eq_true rfl) (fun hok hm => ?_)
  show sd_Wp sd_SC 17 sY0_bestFirstMove 0 [some (.inr 49), some (.inl w), some (.inl v), some (.inl ((n + 1 : Nat) : Int)), none, none] [] m _
  refine sd_aload_n sD0_bestFirstMove_0 rfl ?_
  refine sd_iload_n sD0_bestFirstMove_1 rfl ?_
  refine sd_iload_n sD0_bestFirstMove_2 rfl ?_
  refine sd_iload_n sD0_bestFirstMove_3 rfl ?_
  refine sd_callV (as := [.inl w, .inl v, .inl ((n + 1 : Nat) : Int)]) (st := []) sD0_bestFirstMove_4 sM0_37 rfl rfl sOC49 rfl (by decide) (Nat.le_of_ble_eq_true rfl) (cC_playFreely w v (n + 1) _ m hx h9 (by omega) (by omega) (by omega)) (fun r m hq ho4 hm => ?_)
  obtain ⟨rfl, hx, hp1, hp2⟩ := hq
  show sd_Wp sd_SC 17 sY0_bestFirstMove 7 [some (.inr 49), some (.inl w), some (.inl v), some (.inl ((n + 1 : Nat) : Int)), none, none] [.inl (sd_gv x (2 * (n + 1)) false w v)] m _
  refine sd_istore (ls' := [some (.inr 49), some (.inl w), some (.inl v), some (.inl ((n + 1 : Nat) : Int)), some (.inl (sd_gv x (2 * (n + 1)) false w v)), none]) sD0_bestFirstMove_7 (by decide) rfl ?_
  refine sd_iconst sD0_bestFirstMove_9 (by decide) ?_
  refine sd_istore (ls' := [some (.inr 49), some (.inl w), some (.inl v), some (.inl ((n + 1 : Nat) : Int)), some (.inl (sd_gv x (2 * (n + 1)) false w v)), some (.inl 0)]) sD0_bestFirstMove_10 (by decide) rfl ?_
  refine sd_iload sD0_bestFirstMove_12 rfl ?_
  refine sd_iconst sD0_bestFirstMove_14 (by decide) ?_
  refine sd_icmp_ge (tgt := 49) sD0_bestFirstMove_15 (by decide) (fun zc15 => (by exfalso; omega)) (fun zc15 => ?_)
  refine sd_aload_n sD0_bestFirstMove_18 rfl ?_
  refine sd_getfr sD0_bestFirstMove_19 sF0_18 sGC49_2 ?_
  refine sd_iconst sD0_bestFirstMove_22 (by decide) ?_
  refine sd_iload sD0_bestFirstMove_23 rfl ?_
  refine sd_iastc (a := 5100) sd_sokC hx sD0_bestFirstMove_25 sAC48 (by omega) (fun m hx em25 => ?_)
  have hp3 : m 5100 = (0 : Int) := by rw [em25]; unfold sd_up; rw [if_pos rfl]
  replace hp1 : m 5110 = ((n + 1 : Nat) : Int) := by rw [em25]; unfold sd_up; rw [if_neg (by decide)]; exact hp1
  replace hp2 : ∀ q, q < 5 → 0 < q → m (5100 + q) = -1 := by intro q hq hq0; rw [em25]; unfold sd_up; rw [if_neg (by omega)]; first | exact hp2 q hq hq0 | exact hp2 q hq
  refine sd_aload_n sD0_bestFirstMove_26 rfl ?_
  refine sd_iconst sD0_bestFirstMove_27 (by decide) ?_
  refine sd_iload_n sD0_bestFirstMove_28 rfl ?_
  refine sd_iload_n sD0_bestFirstMove_29 rfl ?_
  refine sd_iconst sD0_bestFirstMove_30 (by decide) ?_
  refine sd_iconst sD0_bestFirstMove_31 (by decide) ?_
  refine sd_callVp (as := [.inl 0, .inl w, .inl v, .inl (-1), .inl 1]) (st := []) (v := .inl (sd_bh x (sd_gv x (2 * n + 1) true) 0 w v)) sD0_bestFirstMove_32 sM0_33 sOC49 rfl rfl rfl (by decide) (Nat.le_of_ble_eq_true rfl) (sd_best1 x m hx h9 n (by omega) 0 (by decide) hp1 hp2 hp3 w v hw hv) (fun ho32 => ?_)
  refine sd_iload sD0_bestFirstMove_35 rfl ?_
  refine sd_icmp_ne (tgt := 43) sD0_bestFirstMove_37 (by decide) (fun zc37 => ?_) (fun zc37 => ?_)
  ·
    refine sd_iinc (y := 1) (ls' := [some (.inr 49), some (.inl w), some (.inl v), some (.inl ((n + 1 : Nat) : Int)), some (.inl (sd_gv x (2 * (n + 1)) false w v)), some (.inl 1)]) sD0_bestFirstMove_43 rfl (by omega) (by omega) (by decide) rfl ?_
    refine sd_goto (tgt := 12) sD0_bestFirstMove_46 (by decide) ?_
    refine sd_iload sD0_bestFirstMove_12 rfl ?_
    refine sd_iconst sD0_bestFirstMove_14 (by decide) ?_
    refine sd_icmp_ge (tgt := 49) sD0_bestFirstMove_15 (by decide) (fun zc15 => (by exfalso; omega)) (fun zc15 => ?_)
    refine sd_aload_n sD0_bestFirstMove_18 rfl ?_
    refine sd_getfr sD0_bestFirstMove_19 sF0_18 sGC49_2 ?_
    refine sd_iconst sD0_bestFirstMove_22 (by decide) ?_
    refine sd_iload sD0_bestFirstMove_23 rfl ?_
    refine sd_iastc (a := 5100) sd_sokC hx sD0_bestFirstMove_25 sAC48 (by omega) (fun m hx em25 => ?_)
    have hp3 : m 5100 = (1 : Int) := by rw [em25]; unfold sd_up; rw [if_pos rfl]
    replace hp1 : m 5110 = ((n + 1 : Nat) : Int) := by rw [em25]; unfold sd_up; rw [if_neg (by decide)]; exact hp1
    replace hp2 : ∀ q, q < 5 → 0 < q → m (5100 + q) = -1 := by intro q hq hq0; rw [em25]; unfold sd_up; rw [if_neg (by omega)]; first | exact hp2 q hq hq0 | exact hp2 q hq
    refine sd_aload_n sD0_bestFirstMove_26 rfl ?_
    refine sd_iconst sD0_bestFirstMove_27 (by decide) ?_
    refine sd_iload_n sD0_bestFirstMove_28 rfl ?_
    refine sd_iload_n sD0_bestFirstMove_29 rfl ?_
    refine sd_iconst sD0_bestFirstMove_30 (by decide) ?_
    refine sd_iconst sD0_bestFirstMove_31 (by decide) ?_
    refine sd_callVp (as := [.inl 0, .inl w, .inl v, .inl (-1), .inl 1]) (st := []) (v := .inl (sd_bh x (sd_gv x (2 * n + 1) true) 1 w v)) sD0_bestFirstMove_32 sM0_33 sOC49 rfl rfl rfl (by decide) (Nat.le_of_ble_eq_true rfl) (sd_best1 x m hx h9 n (by omega) 1 (by decide) hp1 hp2 hp3 w v hw hv) (fun ho32 => ?_)
    refine sd_iload sD0_bestFirstMove_35 rfl ?_
    refine sd_icmp_ne (tgt := 43) sD0_bestFirstMove_37 (by decide) (fun zc37 => ?_) (fun zc37 => ?_)
    ·
      refine sd_iinc (y := 2) (ls' := [some (.inr 49), some (.inl w), some (.inl v), some (.inl ((n + 1 : Nat) : Int)), some (.inl (sd_gv x (2 * (n + 1)) false w v)), some (.inl 2)]) sD0_bestFirstMove_43 rfl (by omega) (by omega) (by decide) rfl ?_
      refine sd_goto (tgt := 12) sD0_bestFirstMove_46 (by decide) ?_
      refine sd_iload sD0_bestFirstMove_12 rfl ?_
      refine sd_iconst sD0_bestFirstMove_14 (by decide) ?_
      refine sd_icmp_ge (tgt := 49) sD0_bestFirstMove_15 (by decide) (fun zc15 => ?_) (fun zc15 => (by exfalso; omega))
      refine sd_iconst sD0_bestFirstMove_49 (by decide) ?_
      refine sd_ireturn sD0_bestFirstMove_50 rfl (fun hr hm => ?_)
      (refine ⟨?_, hx⟩; congr 2; symm; unfold sd_bst; (repeat (first | rw [if_pos (by assumption)] | rw [if_neg (by assumption)])))
    ·
      refine sd_iload sD0_bestFirstMove_40 rfl ?_
      refine sd_ireturn sD0_bestFirstMove_42 rfl (fun hr hm => ?_)
      (refine ⟨?_, hx⟩; congr 2; symm; unfold sd_bst; (repeat (first | rw [if_pos (by assumption)] | rw [if_neg (by assumption)])))
  ·
    refine sd_iload sD0_bestFirstMove_40 rfl ?_
    refine sd_ireturn sD0_bestFirstMove_42 rfl (fun hr hm => ?_)
    (refine ⟨?_, hx⟩; congr 2; symm; unfold sd_bst; (repeat (first | rw [if_pos (by assumption)] | rw [if_neg (by assumption)])))
