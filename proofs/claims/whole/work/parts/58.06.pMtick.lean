set_option maxRecDepth 100000 in
set_option maxHeartbeats 4000000 in
theorem pM_tick (n : Int) (x m : sd_M) (hx : sd_ns x m)  (hF : ∀ k : Nat, k < 7 → 0 ≤ x (4101 + k) ∧ x (4101 + k) ≤ 1000000) (hJ : sd_J x) (hc : x 8 ≤ 6 * x 0) : sd_Ct sd_SM 9 sY11_tick [.inr 15, .inl n] m (sd_Qp (sp_tick x n)) := by
  refine sd_ct rfl (Nat.le_of_ble_eq_true rfl) (fun hok hm => ?_)
  have r_n : sd_R n := hok (.inl n) (by simp)
  have h1 := hJ.1
  obtain ⟨⟨i0, j0⟩, ⟨i1, j1⟩, ⟨i2, j2⟩, ⟨i3, j3⟩, ⟨i4, j4⟩, ⟨i5, j5⟩, ⟨i6, j6⟩, ⟨i7, j7⟩, ⟨i8, j8⟩⟩ := id h1
  show sd_Wp sd_SM 9 sY11_tick 0 [some (.inr 15), some (.inl n), none] [] m _
  refine sd_iload_n sD11_tick_0 rfl ?_
  refine sd_iconst sD11_tick_1 (by decide) ?_
  refine sd_bipush sD11_tick_2 rfl (by decide) ?_
  refine sd_callSp (as := [.inl n, .inl 1, .inl 99]) (st := []) (v := .inl (sd_b (1 ≤ n ∧ n ≤ 99))) sD11_tick_4 sM11_56 rfl rfl (by decide) (Nat.le_of_ble_eq_true rfl) (cM_in n 1 99 m) (fun ho4 => ?_)
  refine sd_bif_ne (tgt := 16) sD11_tick_7 (by decide) (fun zc7 => ?_) (fun zc7 => ?_)
  ·
    refine sd_aload_n sD11_tick_16 rfl ?_
    refine sd_getfr sD11_tick_17 sF11_7 sGM15_0 ?_
    refine sd_iconst sD11_tick_20 (by decide) ?_
    refine sd_ialdx (a := 0) (v := x 0) hx sD11_tick_21 sAM0 (by omega) rfl ?_
    refine sd_iload_n sD11_tick_22 rfl ?_
    refine sd_iadd (z := (x 0 + n)) sD11_tick_23 (by omega) (by omega) ?_
    refine sd_sipush sD11_tick_24 rfl (by decide) ?_
    refine sd_icmp_le (tgt := 36) sD11_tick_27 (by decide) (fun zc27 => ?_) (fun zc27 => ?_)
    ·
      refine sd_iconst sD11_tick_36 (by decide) ?_
      refine sd_istore_n (ls' := [some (.inr 15), some (.inl n), some (.inl 0)]) sD11_tick_37 (by decide) rfl ?_
      refine sd_forX (n.toNat) (fun zi38 : Nat => [some (.inr 15), some (.inl n), some (.inl (zi38 : Int))]) (fun zi38 : Nat => sd_clk x zi38) (fun (zi38 : Nat) (m : sd_M) => True) (by rfl) (fun zi38 hizi38 m hx hpzi38 ihzi38 => ?_) (fun m hx hpzi38 => ?_) (by exact hx) (by trivial)
      ·
        have hJz := sd_clkJ hJ hc zi38 (by omega)
        have hz0 := hJz.2.2
        refine sd_iload_n sD11_tick_38 rfl ?_
        refine sd_iload_n sD11_tick_39 rfl ?_
        refine sd_icmp_ge (tgt := 53) sD11_tick_40 (by decide) (fun zc40 => (by exfalso; omega)) (fun zc40 => ?_)
        refine sd_aload_n sD11_tick_43 rfl ?_
        refine sd_callV (as := []) (st := []) sD11_tick_44 sM11_249 rfl rfl sOM15 rfl (by decide) (Nat.le_of_ble_eq_true rfl) (cM_closes _ m hx hJz.1 hJz.2.1 (by omega)) (fun r m hq ho44 hm => ?_)
        obtain ⟨rfl, hx⟩ := hq
        show sd_Wp sd_SM 9 sY11_tick 47 [some (.inr 15), some (.inl n), some (.inl (zi38 : Int))] [] m _
        refine sd_iinc (y := ((zi38 : Int) + 1)) (ls' := [some (.inr 15), some (.inl n), some (.inl ((zi38 : Int) + 1))]) sD11_tick_47 rfl (by omega) (by omega) (by decide) rfl ?_
        refine sd_goto (tgt := 38) sD11_tick_50 (by decide) ?_
        exact sd_eqw (ls' := [some (.inr 15), some (.inl n), some (.inl ((zi38 + 1 : Nat) : Int))]) (ihzi38 m (by exact hx) (by trivial)) (sd_cg rfl (sd_cg rfl (sd_cg (sd_ce (show (((zi38 : Int) + 1) : Int) = ((zi38 + 1 : Nat) : Int) from by omega)) rfl))) rfl
      ·
        show sd_Wp sd_SM 9 sY11_tick 38 [some (.inr 15), some (.inl n), some (.inl ((n.toNat : Nat) : Int))] [] m _
        refine sd_iload_n sD11_tick_38 rfl ?_
        refine sd_iload_n sD11_tick_39 rfl ?_
        refine sd_icmp_ge (tgt := 53) sD11_tick_40 (by decide) (fun zc40 => ?_) (fun zc40 => (by exfalso; omega))
        refine sd_aload_n sD11_tick_53 rfl ?_
        refine sd_getfr sD11_tick_54 sF11_7 sGM15_0 ?_
        refine sd_iconst sD11_tick_57 (by decide) ?_
        refine sd_ialdx (a := 0) (v := (sd_clk x n.toNat) 0) hx sD11_tick_58 sAM0 (by omega) rfl ?_
        refine sd_ireturn sD11_tick_59 rfl (fun hr hm => ?_)
        exact sd_done (by unfold sp_tick; ((repeat (first | rw [if_pos (by first | assumption | omega)] | rw [if_neg (by first | assumption | omega)])); try rfl)) hx
    ·
      refine sd_aload_n sD11_tick_30 rfl ?_
      refine sd_iconst sD11_tick_31 (by decide) ?_
      refine sd_callV (as := [.inl 1]) (st := []) sD11_tick_32 sM11_78 rfl rfl sOM15 rfl (by decide) (Nat.le_of_ble_eq_true rfl) (cM_finding 1 (by decide) _ m hx (hF 1 (by decide))) (fun r m hq ho32 hm => ?_)
      obtain ⟨rfl, hx⟩ := hq
      show sd_Wp sd_SM 9 sY11_tick 35 [some (.inr 15), some (.inl n), none] [.inl (-1000002)] m _
      refine sd_ireturn sD11_tick_35 rfl (fun hr hm => ?_)
      exact sd_done (by unfold sp_tick; ((repeat (first | rw [if_pos (by first | assumption | omega)] | rw [if_neg (by first | assumption | omega)])); try rfl)) hx
  ·
    refine sd_aload_n sD11_tick_10 rfl ?_
    refine sd_iconst sD11_tick_11 (by decide) ?_
    refine sd_callV (as := [.inl 0]) (st := []) sD11_tick_12 sM11_78 rfl rfl sOM15 rfl (by decide) (Nat.le_of_ble_eq_true rfl) (cM_finding 0 (by decide) _ m hx (hF 0 (by decide))) (fun r m hq ho12 hm => ?_)
    obtain ⟨rfl, hx⟩ := hq
    show sd_Wp sd_SM 9 sY11_tick 15 [some (.inr 15), some (.inl n), none] [.inl (-1000001)] m _
    refine sd_ireturn sD11_tick_15 rfl (fun hr hm => ?_)
    exact sd_done (by unfold sp_tick; ((repeat (first | rw [if_pos (by first | assumption | omega)] | rw [if_neg (by first | assumption | omega)])); try rfl)) hx
