set_option maxRecDepth 100000 in
set_option maxHeartbeats 4000000 in
theorem pC_tick (n : Int) (x m : sd_M) (hx : sd_ns x m)  (hF : ∀ k : Nat, k < 7 → 0 ≤ x (4101 + k) ∧ x (4101 + k) ≤ 1000000) (hJ : sd_J x) (hc : x 8 ≤ 6 * x 0) : sd_Ct sd_SC 6 sY10_tick [.inr 120, .inl n] m (sd_Qp (sp_tick x n)) := by
  refine sd_ct rfl (Nat.le_of_ble_eq_true rfl) (fun hok hm => ?_)
  have r_n : sd_R n := hok (.inl n) (by simp)
  have h1 := hJ.1
  obtain ⟨⟨i0, j0⟩, ⟨i1, j1⟩, ⟨i2, j2⟩, ⟨i3, j3⟩, ⟨i4, j4⟩, ⟨i5, j5⟩, ⟨i6, j6⟩, ⟨i7, j7⟩, ⟨i8, j8⟩⟩ := id h1
  show sd_Wp sd_SC 6 sY10_tick 0 [some (.inr 120), some (.inl n), none] [] m _
  refine sd_iload_n sD10_tick_0 rfl ?_
  refine sd_iconst sD10_tick_1 (by decide) ?_
  refine sd_bipush sD10_tick_2 rfl (by decide) ?_
  refine sd_callSp (as := [.inl n, .inl 1, .inl 99]) (st := []) (v := .inl (sd_b (1 ≤ n ∧ n ≤ 99))) sD10_tick_4 sM10_65 rfl rfl (by decide) (Nat.le_of_ble_eq_true rfl) (cC_isWithin n 1 99 m) (fun ho4 => ?_)
  refine sd_bif_ne (tgt := 17) sD10_tick_7 (by decide) (fun zc7 => ?_) (fun zc7 => ?_)
  ·
    refine sd_aload_n sD10_tick_17 rfl ?_
    refine sd_getfr sD10_tick_18 sF10_10 sGC120_0 ?_
    refine sd_getfx (v := x 0) hx sD10_tick_21 sF10_220 sGC53_0 (by decide) rfl ?_
    refine sd_iload_n sD10_tick_24 rfl ?_
    refine sd_iadd (z := (x 0 + n)) sD10_tick_25 (by omega) (by omega) ?_
    refine sd_sipush sD10_tick_26 rfl (by decide) ?_
    refine sd_icmp_le (tgt := 39) sD10_tick_29 (by decide) (fun zc29 => ?_) (fun zc29 => ?_)
    ·
      refine sd_iconst sD10_tick_39 (by decide) ?_
      refine sd_istore_n (ls' := [some (.inr 120), some (.inl n), some (.inl 0)]) sD10_tick_40 (by decide) rfl ?_
      refine sd_forX (n.toNat) (fun zi41 : Nat => [some (.inr 120), some (.inl n), some (.inl (zi41 : Int))]) (fun zi41 : Nat => sd_clk x zi41) (fun (zi41 : Nat) (m : sd_M) => True) (by rfl) (fun zi41 hizi41 m hx hpzi41 ihzi41 => ?_) (fun m hx hpzi41 => ?_) (by exact hx) (by trivial)
      ·
        have hJz := sd_clkJ hJ hc zi41 (by omega)
        have hz0 := hJz.2.2
        refine sd_iload_n sD10_tick_41 rfl ?_
        refine sd_iload_n sD10_tick_42 rfl ?_
        refine sd_icmp_ge (tgt := 59) sD10_tick_43 (by decide) (fun zc43 => (by exfalso; omega)) (fun zc43 => ?_)
        refine sd_aload_n sD10_tick_46 rfl ?_
        refine sd_getfr sD10_tick_47 sF10_10 sGC120_0 ?_
        refine sd_callV (as := []) (st := []) sD10_tick_50 sM10_347 rfl rfl sOC53 rfl (by decide) (Nat.le_of_ble_eq_true rfl) (cC_closeHour _ m hx hJz.1 hJz.2.1 (by omega)) (fun r m hq ho50 hm => ?_)
        obtain ⟨rfl, hx⟩ := hq
        show sd_Wp sd_SC 6 sY10_tick 53 [some (.inr 120), some (.inl n), some (.inl (zi41 : Int))] [] m _
        refine sd_iinc (y := ((zi41 : Int) + 1)) (ls' := [some (.inr 120), some (.inl n), some (.inl ((zi41 : Int) + 1))]) sD10_tick_53 rfl (by omega) (by omega) (by decide) rfl ?_
        refine sd_goto (tgt := 41) sD10_tick_56 (by decide) ?_
        exact sd_eqw (ls' := [some (.inr 120), some (.inl n), some (.inl ((zi41 + 1 : Nat) : Int))]) (ihzi41 m (by exact hx) (by trivial)) (sd_cg rfl (sd_cg rfl (sd_cg (sd_ce (show (((zi41 : Int) + 1) : Int) = ((zi41 + 1 : Nat) : Int) from by omega)) rfl))) rfl
      ·
        show sd_Wp sd_SC 6 sY10_tick 41 [some (.inr 120), some (.inl n), some (.inl ((n.toNat : Nat) : Int))] [] m _
        refine sd_iload_n sD10_tick_41 rfl ?_
        refine sd_iload_n sD10_tick_42 rfl ?_
        refine sd_icmp_ge (tgt := 59) sD10_tick_43 (by decide) (fun zc43 => ?_) (fun zc43 => (by exfalso; omega))
        refine sd_aload_n sD10_tick_59 rfl ?_
        refine sd_getfr sD10_tick_60 sF10_10 sGC120_0 ?_
        refine sd_getfx (v := (sd_clk x n.toNat) 0) hx sD10_tick_63 sF10_220 sGC53_0 (by decide) rfl ?_
        refine sd_ireturn sD10_tick_66 rfl (fun hr hm => ?_)
        exact sd_done (by unfold sp_tick; ((repeat (first | rw [if_pos (by first | assumption | omega)] | rw [if_neg (by first | assumption | omega)])); try rfl)) hx
    ·
      refine sd_aload_n sD10_tick_32 rfl ?_
      refine sd_ldc (z := -1000002) sD10_tick_33 sK10_60 (by decide) ?_
      refine sd_callV (as := [.inl (-1000002)]) (st := []) sD10_tick_35 sM10_52 rfl rfl sOC120 rfl (by decide) (Nat.le_of_ble_eq_true rfl) (cC_found (-1000002) 1 (by decide) (by decide) _ m hx (hF 1 (by decide))) (fun r m hq ho35 hm => ?_)
      obtain ⟨rfl, hx⟩ := hq
      show sd_Wp sd_SC 6 sY10_tick 38 [some (.inr 120), some (.inl n), none] [.inl (-1000002)] m _
      refine sd_ireturn sD10_tick_38 rfl (fun hr hm => ?_)
      exact sd_done (by unfold sp_tick; ((repeat (first | rw [if_pos (by first | assumption | omega)] | rw [if_neg (by first | assumption | omega)])); try rfl)) hx
  ·
    refine sd_aload_n sD10_tick_10 rfl ?_
    refine sd_ldc (z := -1000001) sD10_tick_11 sK10_51 (by decide) ?_
    refine sd_callV (as := [.inl (-1000001)]) (st := []) sD10_tick_13 sM10_52 rfl rfl sOC120 rfl (by decide) (Nat.le_of_ble_eq_true rfl) (cC_found (-1000001) 0 (by decide) (by decide) _ m hx (hF 0 (by decide))) (fun r m hq ho13 hm => ?_)
    obtain ⟨rfl, hx⟩ := hq
    show sd_Wp sd_SC 6 sY10_tick 16 [some (.inr 120), some (.inl n), none] [.inl (-1000001)] m _
    refine sd_ireturn sD10_tick_16 rfl (fun hr hm => ?_)
    exact sd_done (by unfold sp_tick; ((repeat (first | rw [if_pos (by first | assumption | omega)] | rw [if_neg (by first | assumption | omega)])); try rfl)) hx
