set_option maxRecDepth 100000 in
set_option maxHeartbeats 4000000 in
theorem cC_spells (i : Nat) (hi : i < 15) (B : Nat → Int) (n p : Nat) (x m : sd_M) (hx : sd_ns x m) (hT : sd_TB x B n) (hp : m 5390 = (p : Int)) (hpn : p ≤ n) : sd_Ct sd_SC 4 sY7_spells [.inr 118, .inr (910 + i)] m (fun r m' => r = some (.inl (sd_b (sd_ff B p i = -1))) ∧ sd_ns x m' ∧ m' 5390 = ((sd_fe B p i : Nat) : Int)) := by
  refine sd_ct rfl (Nat.le_of_ble_eq_true rfl) (fun hok hm => ?_)
  have t1 := hT.1
  have t2 := hT.2.1
  have t3 := sd_len5 hi
  show sd_Wp sd_SC 4 sY7_spells 0 [some (.inr 118), some (.inr (910 + i)), none] [] m _
  refine sd_iconst sD7_spells_0 (by decide) ?_
  refine sd_istore_n (ls' := [some (.inr 118), some (.inr (910 + i)), some (.inl 0)]) sD7_spells_1 (by decide) rfl ?_
  refine sd_forX (sd_len.getD i 0) (fun zi2 : Nat => [some (.inr 118), some (.inr (910 + i)), some (.inl (zi2 : Int))]) (fun zi2 : Nat => x) (fun (zi2 : Nat) (m : sd_M) => m 5390 = ((p + zi2 : Nat) : Int) ∧ ∀ j, j < zi2 → ¬ sd_Pmm B p i j) (by rfl) (fun zi2 hizi2 m hx hpzi2 ihzi2 => ?_) (fun m hx hpzi2 => ?_) (by exact hx) (by exact ⟨hp, fun j hj => absurd hj (by omega)⟩)
  ·
    have hpn2 : p + zi2 ≤ n := by
      rcases Nat.eq_zero_or_pos zi2 with q | q
      · omega
      · have z1 := hpzi2.2 (zi2 - 1) (by omega)
        have z2 : B (p + (zi2 - 1)) = sd_wch i (zi2 - 1) := Classical.not_not.mp z1
        have z3 := ((hT.byte _ (sd_wch_ne hi (by omega))).mp z2).1
        omega
    refine sd_iload_n sD7_spells_2 rfl ?_
    refine sd_aload_n sD7_spells_3 rfl ?_
    refine sd_callVsp (i := i) (as := []) (st := [.inl (zi2 : Int)]) (v := .inl ((sd_len.getD i 0 : Nat) : Int)) sD7_spells_4 sM7_125 (by omega) rfl rfl rfl (by decide) (Nat.le_of_ble_eq_true rfl) (cJ_length i (by omega) m) (fun ho4 => ?_)
    refine sd_icmp_ge (tgt := 30) sD7_spells_7 (by decide) (fun zc7 => (by exfalso; omega)) (fun zc7 => ?_)
    refine sd_aload_n sD7_spells_10 rfl ?_
    refine sd_aload_n sD7_spells_11 rfl ?_
    refine sd_iload_n sD7_spells_12 rfl ?_
    refine sd_callVsp (i := i) (as := [.inl (zi2 : Int)]) (st := [.inr 118]) (v := .inl (sd_wch i zi2)) sD7_spells_13 sM7_121 (by omega) rfl rfl rfl (by decide) (Nat.le_of_ble_eq_true rfl) (cJ_charAt i (by omega) (zi2 : Int) (by omega) m) (fun ho13 => ?_)
    refine sd_callV (as := [.inl (sd_wch i zi2)]) (st := []) sD7_spells_16 sM7_25 rfl rfl sOC118 rfl (by decide) (Nat.le_of_ble_eq_true rfl) (cC_sees (sd_wch i zi2) (sd_wch_ne (by omega) (by omega)) B n (p + zi2) _ m hx hT hpzi2.1 (by omega)) (fun r m hq ho16 hm => ?_)
    obtain ⟨rfl, hx, hq16_1⟩ := hq
    rcases (Classical.em (B (p + zi2) = (sd_wch i zi2))) with hb16_1 | hb16_1
    ·
      rw [if_pos hb16_1] at hq16_1
      have hn16_1 := ((hT.byte (p + zi2) (c := (sd_wch i zi2)) (sd_wch_ne (by omega) (by omega))).mp hb16_1).1
      rw [sd_b1 hb16_1]
      show sd_Wp sd_SC 4 sY7_spells 19 [some (.inr 118), some (.inr (910 + i)), some (.inl (zi2 : Int))] [.inl 1] m _
      refine sd_if_ne (tgt := 24) sD7_spells_19 (by decide) (fun zc19 => ?_) (fun zc19 => (by exfalso; omega))
      refine sd_iinc (y := ((zi2 : Int) + 1)) (ls' := [some (.inr 118), some (.inr (910 + i)), some (.inl ((zi2 : Int) + 1))]) sD7_spells_24 rfl (by omega) (by omega) (by decide) rfl ?_
      refine sd_goto (tgt := 2) sD7_spells_27 (by decide) ?_
      exact sd_eqw (ls' := [some (.inr 118), some (.inr (910 + i)), some (.inl ((zi2 + 1 : Nat) : Int))]) (ihzi2 m (by exact hx) (by exact ⟨by have zz := hq16_1; rw [zz]; congr 1, sd_all_succ hpzi2.2 (fun q => q (by assumption))⟩)) (sd_cg rfl (sd_cg rfl (sd_cg (sd_ce (show (((zi2 : Int) + 1) : Int) = ((zi2 + 1 : Nat) : Int) from by omega)) rfl))) rfl
    ·
      rw [if_neg hb16_1] at hq16_1
      rw [sd_b0 hb16_1]
      show sd_Wp sd_SC 4 sY7_spells 19 [some (.inr 118), some (.inr (910 + i)), some (.inl (zi2 : Int))] [.inl 0] m _
      refine sd_if_ne (tgt := 24) sD7_spells_19 (by decide) (fun zc19 => (by exfalso; omega)) (fun zc19 => ?_)
      refine sd_iconst sD7_spells_22 (by decide) ?_
      refine sd_zreturn sD7_spells_23 rfl (by decide) (fun hm => ?_)
      have zf : sd_ff B p i = (zi2 : Int) := sd_fst_at (P := sd_Pmm B p i) hpzi2.2 (by assumption) hizi2
      exact ⟨by rw [sd_b0 (by omega)], hx, by unfold sd_fe; rw [if_neg (by omega), zf, Int.toNat_natCast]; exact hq16_1⟩
  ·
    show sd_Wp sd_SC 4 sY7_spells 2 [some (.inr 118), some (.inr (910 + i)), some (.inl (((sd_len.getD i 0) : Nat) : Int))] [] m _
    refine sd_iload_n sD7_spells_2 rfl ?_
    refine sd_aload_n sD7_spells_3 rfl ?_
    refine sd_callVsp (i := i) (as := []) (st := [.inl (((sd_len.getD i 0) : Nat) : Int)]) (v := .inl ((sd_len.getD i 0 : Nat) : Int)) sD7_spells_4 sM7_125 (by omega) rfl rfl rfl (by decide) (Nat.le_of_ble_eq_true rfl) (cJ_length i (by omega) m) (fun ho4 => ?_)
    refine sd_icmp_ge (tgt := 30) sD7_spells_7 (by decide) (fun zc7 => ?_) (fun zc7 => (by exfalso; omega))
    refine sd_iconst sD7_spells_30 (by decide) ?_
    refine sd_zreturn sD7_spells_31 rfl (by decide) (fun hm => ?_)
    have zf : sd_ff B p i = -1 := sd_fst_none (P := sd_Pmm B p i) hpzi2.2
    exact ⟨by rw [sd_b1 zf], hx, by unfold sd_fe; rw [if_pos zf]; exact hpzi2.1⟩
