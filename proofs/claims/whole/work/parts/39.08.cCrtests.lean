set_option maxRecDepth 100000 in
set_option maxHeartbeats 4000000 in
theorem cC_rtests (c : Nat) (hc : c < 40) (B : Nat → Int) (n p : Nat) (x m : sd_M) (hx : sd_ns x m) (hT : sd_TB x B n) (hp : m 5390 = (p : Int)) (hpn : p ≤ n) : sd_Ct sd_SC 7 sY7_readTests [.inr 118, .inr 36, .inl (c : Int)] m (sd_ttP B n p c x) := by
  refine sd_ct rfl (Nat.le_of_ble_eq_true rfl) (fun hok hm => ?_)
  have t1 := hT.1
  have t2 := hT.2.1
  show sd_Wp sd_SC 7 sY7_readTests 0 [some (.inr 118), some (.inr 36), some (.inl (c : Int)), none] [] m _
  refine sd_iconst sD7_readTests_0 (by decide) ?_
  refine sd_istore_n (ls' := [some (.inr 118), some (.inr 36), some (.inl (c : Int)), some (.inl 0)]) sD7_readTests_1 (by decide) rfl ?_
  refine sd_iload_n sD7_readTests_2 rfl ?_
  refine sd_iconst sD7_readTests_3 (by decide) ?_
  refine sd_icmp_ge (tgt := 52) sD7_readTests_4 (by decide) (fun zc4 => (by exfalso; omega)) (fun zc4 => ?_)
  refine sd_iload_n sD7_readTests_7 rfl ?_
  refine sd_if_le (tgt := 22) sD7_readTests_8 (by decide) (fun zc8 => ?_) (fun zc8 => (by exfalso; omega))
  refine sd_aload_n sD7_readTests_22 rfl ?_
  refine sd_aload_n sD7_readTests_23 rfl ?_
  refine sd_iload_n sD7_readTests_24 rfl ?_
  refine sd_iconst sD7_readTests_25 (by decide) ?_
  refine sd_imul (z := ((c : Int) * 3)) sD7_readTests_26 (by omega) (by omega) ?_
  refine sd_iload_n sD7_readTests_27 rfl ?_
  refine sd_iadd (z := ((3 * c + 0 : Nat) : Int)) sD7_readTests_28 (by omega) (by omega) ?_
  refine sd_callV (as := [.inr 36, .inl ((3 * c + 0 : Nat) : Int)]) (st := []) sD7_readTests_29 sM7_72 rfl rfl sOC118 rfl (by decide) (Nat.le_of_ble_eq_true rfl) (cC_rtest (3 * c + 0) (by omega) B n p _ m hx hT hp (by omega)) (fun r m hq ho29 hm => ?_)
  obtain ⟨X29_1, hx, ho29_1, hq29_1⟩ := hq
  rcases hq29_1 with ⟨q29_1, hz29_1, rfl, hp29_1, hn29_1⟩ | ⟨t29_1, q29_1, hz29_1, rfl, hp29_1, hn29_1, hr29_1⟩
  ·
    show sd_Wp sd_SC 7 sY7_readTests 32 [some (.inr 118), some (.inr 36), some (.inl (c : Int)), some (.inl 0)] [.inl 0] m _
    refine sd_if_ne (tgt := 37) sD7_readTests_32 (by decide) (fun zc32 => (by exfalso; omega)) (fun zc32 => ?_)
    refine sd_iconst sD7_readTests_35 (by decide) ?_
    refine sd_zreturn sD7_readTests_36 rfl (by decide) (fun hm => ?_)
    exact ⟨X29_1, hx, fun j a1 a2 a3 a4 => by rw [ho29_1 j (by omega) (by omega) (by omega)], Or.inl ⟨q29_1, by simp only [sd_tt, hz29_1], rfl, hp29_1, by omega⟩⟩
  ·
    replace hT : sd_TB X29_1 B n := hT.keep (fun j hj => ho29_1 j (by omega) (by omega) (by omega))
    show sd_Wp sd_SC 7 sY7_readTests 32 [some (.inr 118), some (.inr 36), some (.inl (c : Int)), some (.inl 0)] [.inl 1] m _
    refine sd_if_ne (tgt := 37) sD7_readTests_32 (by decide) (fun zc32 => ?_) (fun zc32 => (by exfalso; omega))
    refine sd_aload_n sD7_readTests_37 rfl ?_
    refine sd_getfr sD7_readTests_38 sF7_69 sGC36_8 ?_
    refine sd_iload_n sD7_readTests_41 rfl ?_
    refine sd_iload_n sD7_readTests_42 rfl ?_
    refine sd_iconst sD7_readTests_43 (by decide) ?_
    refine sd_iadd (z := 1) sD7_readTests_44 (by omega) (by omega) ?_
    refine sd_iastx (a := (6100 + c)) sd_sokC hx sD7_readTests_45 sAC31 (by omega) (fun m hx em45 => ?_)
    have hpl45_2 : m 5390 = ((q29_1 : Nat) : Int) := by rw [em45, sd_up_ne (by omega)]; exact hp29_1
    refine sd_iinc (y := 1) (ls' := [some (.inr 118), some (.inr 36), some (.inl (c : Int)), some (.inl 1)]) sD7_readTests_46 rfl (by omega) (by omega) (by decide) rfl ?_
    refine sd_goto (tgt := 2) sD7_readTests_49 (by decide) ?_
    refine sd_iload_n sD7_readTests_2 rfl ?_
    refine sd_iconst sD7_readTests_3 (by decide) ?_
    refine sd_icmp_ge (tgt := 52) sD7_readTests_4 (by decide) (fun zc4 => (by exfalso; omega)) (fun zc4 => ?_)
    refine sd_iload_n sD7_readTests_7 rfl ?_
    refine sd_if_le (tgt := 22) sD7_readTests_8 (by decide) (fun zc8 => (by exfalso; omega)) (fun zc8 => ?_)
    refine sd_aload_n sD7_readTests_11 rfl ?_
    refine sd_bipush sD7_readTests_12 rfl (by decide) ?_
    refine sd_callV (as := [.inl 38]) (st := []) sD7_readTests_14 sM7_25 rfl rfl sOC118 rfl (by decide) (Nat.le_of_ble_eq_true rfl) (cC_sees 38 (by decide) B n q29_1 _ m hx (hT.keep (fun j hj => by rw [sd_up_ne (by omega)])) hpl45_2 (by omega)) (fun r m hq ho14 hm => ?_)
    obtain ⟨rfl, hx, hq14_3⟩ := hq
    rcases (Classical.em (B q29_1 = 38)) with hb14_3 | hb14_3
    ·
      rw [if_pos hb14_3] at hq14_3
      have hn14_3 := ((hT.byte q29_1 (c := 38) (by decide)).mp hb14_3).1
      rw [sd_b1 hb14_3]
      show sd_Wp sd_SC 7 sY7_readTests 17 [some (.inr 118), some (.inr 36), some (.inl (c : Int)), some (.inl 1)] [.inl 1] m _
      refine sd_if_ne (tgt := 22) sD7_readTests_17 (by decide) (fun zc17 => ?_) (fun zc17 => (by exfalso; omega))
      refine sd_aload_n sD7_readTests_22 rfl ?_
      refine sd_aload_n sD7_readTests_23 rfl ?_
      refine sd_iload_n sD7_readTests_24 rfl ?_
      refine sd_iconst sD7_readTests_25 (by decide) ?_
      refine sd_imul (z := ((c : Int) * 3)) sD7_readTests_26 (by omega) (by omega) ?_
      refine sd_iload_n sD7_readTests_27 rfl ?_
      refine sd_iadd (z := ((3 * c + 1 : Nat) : Int)) sD7_readTests_28 (by omega) (by omega) ?_
      refine sd_callV (as := [.inr 36, .inl ((3 * c + 1 : Nat) : Int)]) (st := []) sD7_readTests_29 sM7_72 rfl rfl sOC118 rfl (by decide) (Nat.le_of_ble_eq_true rfl) (cC_rtest (3 * c + 1) (by omega) B n (q29_1 + 1) _ m hx (hT.keep (fun j hj => by rw [sd_up_ne (by omega)])) hq14_3 (by omega)) (fun r m hq ho29 hm => ?_)
      obtain ⟨X29_4, hx, ho29_4, hq29_4⟩ := hq
      rcases hq29_4 with ⟨q29_4, hz29_4, rfl, hp29_4, hn29_4⟩ | ⟨t29_4, q29_4, hz29_4, rfl, hp29_4, hn29_4, hr29_4⟩
      ·
        show sd_Wp sd_SC 7 sY7_readTests 32 [some (.inr 118), some (.inr 36), some (.inl (c : Int)), some (.inl 1)] [.inl 0] m _
        refine sd_if_ne (tgt := 37) sD7_readTests_32 (by decide) (fun zc32 => (by exfalso; omega)) (fun zc32 => ?_)
        refine sd_iconst sD7_readTests_35 (by decide) ?_
        refine sd_zreturn sD7_readTests_36 rfl (by decide) (fun hm => ?_)
        exact ⟨X29_4, hx, fun j a1 a2 a3 a4 => by rw [ho29_4 j (by omega) (by omega) (by omega), sd_up_ne (by omega), ho29_1 j (by omega) (by omega) (by omega)], Or.inl ⟨q29_4, by simp only [sd_tt, hz29_1, hz29_4]; simp [hb14_3], rfl, hp29_4, by omega⟩⟩
      ·
        replace hT : sd_TB X29_4 B n := (hT.keep (fun j hj => by rw [sd_up_ne (by omega)])).keep (fun j hj => ho29_4 j (by omega) (by omega) (by omega))
        show sd_Wp sd_SC 7 sY7_readTests 32 [some (.inr 118), some (.inr 36), some (.inl (c : Int)), some (.inl 1)] [.inl 1] m _
        refine sd_if_ne (tgt := 37) sD7_readTests_32 (by decide) (fun zc32 => ?_) (fun zc32 => (by exfalso; omega))
        refine sd_aload_n sD7_readTests_37 rfl ?_
        refine sd_getfr sD7_readTests_38 sF7_69 sGC36_8 ?_
        refine sd_iload_n sD7_readTests_41 rfl ?_
        refine sd_iload_n sD7_readTests_42 rfl ?_
        refine sd_iconst sD7_readTests_43 (by decide) ?_
        refine sd_iadd (z := 2) sD7_readTests_44 (by omega) (by omega) ?_
        refine sd_iastx (a := (6100 + c)) sd_sokC hx sD7_readTests_45 sAC31 (by omega) (fun m hx em45 => ?_)
        have hpl45_5 : m 5390 = ((q29_4 : Nat) : Int) := by rw [em45, sd_up_ne (by omega)]; exact hp29_4
        refine sd_iinc (y := 2) (ls' := [some (.inr 118), some (.inr 36), some (.inl (c : Int)), some (.inl 2)]) sD7_readTests_46 rfl (by omega) (by omega) (by decide) rfl ?_
        refine sd_goto (tgt := 2) sD7_readTests_49 (by decide) ?_
        refine sd_iload_n sD7_readTests_2 rfl ?_
        refine sd_iconst sD7_readTests_3 (by decide) ?_
        refine sd_icmp_ge (tgt := 52) sD7_readTests_4 (by decide) (fun zc4 => (by exfalso; omega)) (fun zc4 => ?_)
        refine sd_iload_n sD7_readTests_7 rfl ?_
        refine sd_if_le (tgt := 22) sD7_readTests_8 (by decide) (fun zc8 => (by exfalso; omega)) (fun zc8 => ?_)
        refine sd_aload_n sD7_readTests_11 rfl ?_
        refine sd_bipush sD7_readTests_12 rfl (by decide) ?_
        refine sd_callV (as := [.inl 38]) (st := []) sD7_readTests_14 sM7_25 rfl rfl sOC118 rfl (by decide) (Nat.le_of_ble_eq_true rfl) (cC_sees 38 (by decide) B n q29_4 _ m hx (hT.keep (fun j hj => by rw [sd_up_ne (by omega)])) hpl45_5 (by omega)) (fun r m hq ho14 hm => ?_)
        obtain ⟨rfl, hx, hq14_6⟩ := hq
        rcases (Classical.em (B q29_4 = 38)) with hb14_6 | hb14_6
        ·
          rw [if_pos hb14_6] at hq14_6
          have hn14_6 := ((hT.byte q29_4 (c := 38) (by decide)).mp hb14_6).1
          rw [sd_b1 hb14_6]
          show sd_Wp sd_SC 7 sY7_readTests 17 [some (.inr 118), some (.inr 36), some (.inl (c : Int)), some (.inl 2)] [.inl 1] m _
          refine sd_if_ne (tgt := 22) sD7_readTests_17 (by decide) (fun zc17 => ?_) (fun zc17 => (by exfalso; omega))
          refine sd_aload_n sD7_readTests_22 rfl ?_
          refine sd_aload_n sD7_readTests_23 rfl ?_
          refine sd_iload_n sD7_readTests_24 rfl ?_
          refine sd_iconst sD7_readTests_25 (by decide) ?_
          refine sd_imul (z := ((c : Int) * 3)) sD7_readTests_26 (by omega) (by omega) ?_
          refine sd_iload_n sD7_readTests_27 rfl ?_
          refine sd_iadd (z := ((3 * c + 2 : Nat) : Int)) sD7_readTests_28 (by omega) (by omega) ?_
          refine sd_callV (as := [.inr 36, .inl ((3 * c + 2 : Nat) : Int)]) (st := []) sD7_readTests_29 sM7_72 rfl rfl sOC118 rfl (by decide) (Nat.le_of_ble_eq_true rfl) (cC_rtest (3 * c + 2) (by omega) B n (q29_4 + 1) _ m hx (hT.keep (fun j hj => by rw [sd_up_ne (by omega)])) hq14_6 (by omega)) (fun r m hq ho29 hm => ?_)
          obtain ⟨X29_7, hx, ho29_7, hq29_7⟩ := hq
          rcases hq29_7 with ⟨q29_7, hz29_7, rfl, hp29_7, hn29_7⟩ | ⟨t29_7, q29_7, hz29_7, rfl, hp29_7, hn29_7, hr29_7⟩
          ·
            show sd_Wp sd_SC 7 sY7_readTests 32 [some (.inr 118), some (.inr 36), some (.inl (c : Int)), some (.inl 2)] [.inl 0] m _
            refine sd_if_ne (tgt := 37) sD7_readTests_32 (by decide) (fun zc32 => (by exfalso; omega)) (fun zc32 => ?_)
            refine sd_iconst sD7_readTests_35 (by decide) ?_
            refine sd_zreturn sD7_readTests_36 rfl (by decide) (fun hm => ?_)
            exact ⟨X29_7, hx, fun j a1 a2 a3 a4 => by rw [ho29_7 j (by omega) (by omega) (by omega), sd_up_ne (by omega), ho29_4 j (by omega) (by omega) (by omega), sd_up_ne (by omega), ho29_1 j (by omega) (by omega) (by omega)], Or.inl ⟨q29_7, by simp only [sd_tt, hz29_1, hz29_4, hz29_7]; simp [hb14_3, hb14_6], rfl, hp29_7, by omega⟩⟩
          ·
            replace hT : sd_TB X29_7 B n := (hT.keep (fun j hj => by rw [sd_up_ne (by omega)])).keep (fun j hj => ho29_7 j (by omega) (by omega) (by omega))
            show sd_Wp sd_SC 7 sY7_readTests 32 [some (.inr 118), some (.inr 36), some (.inl (c : Int)), some (.inl 2)] [.inl 1] m _
            refine sd_if_ne (tgt := 37) sD7_readTests_32 (by decide) (fun zc32 => ?_) (fun zc32 => (by exfalso; omega))
            refine sd_aload_n sD7_readTests_37 rfl ?_
            refine sd_getfr sD7_readTests_38 sF7_69 sGC36_8 ?_
            refine sd_iload_n sD7_readTests_41 rfl ?_
            refine sd_iload_n sD7_readTests_42 rfl ?_
            refine sd_iconst sD7_readTests_43 (by decide) ?_
            refine sd_iadd (z := 3) sD7_readTests_44 (by omega) (by omega) ?_
            refine sd_iastx (a := (6100 + c)) sd_sokC hx sD7_readTests_45 sAC31 (by omega) (fun m hx em45 => ?_)
            have hpl45_8 : m 5390 = ((q29_7 : Nat) : Int) := by rw [em45, sd_up_ne (by omega)]; exact hp29_7
            refine sd_iinc (y := 3) (ls' := [some (.inr 118), some (.inr 36), some (.inl (c : Int)), some (.inl 3)]) sD7_readTests_46 rfl (by omega) (by omega) (by decide) rfl ?_
            refine sd_goto (tgt := 2) sD7_readTests_49 (by decide) ?_
            refine sd_iload_n sD7_readTests_2 rfl ?_
            refine sd_iconst sD7_readTests_3 (by decide) ?_
            refine sd_icmp_ge (tgt := 52) sD7_readTests_4 (by decide) (fun zc4 => ?_) (fun zc4 => (by exfalso; omega))
            refine sd_iconst sD7_readTests_52 (by decide) ?_
            refine sd_zreturn sD7_readTests_53 rfl (by decide) (fun hm => ?_)
            refine ⟨(sd_up X29_7 (6100 + c) 3), hx, fun j a1 a2 a3 a4 => by rw [sd_up_ne (by omega), ho29_7 j (by omega) (by omega) (by omega), sd_up_ne (by omega), ho29_4 j (by omega) (by omega) (by omega), sd_up_ne (by omega), ho29_1 j (by omega) (by omega) (by omega)], Or.inr ⟨[t29_1, t29_4, t29_7], q29_7, by simp only [sd_tt, hz29_1, hz29_4, hz29_7]; simp [hb14_3, hb14_6], rfl, hpl45_8, by omega, by rw [sd_up_eq]; rfl, ?_⟩⟩
            intro k t hk
            rcases k with _ | k
            · simp at hk; subst hk; exact (sd_rT_up (sd_rT_keep (sd_rT_up (sd_rT_keep (sd_rT_up hr29_1 (by omega) (by omega)) ho29_4 (by omega) (by omega)) (by omega) (by omega)) ho29_7 (by omega) (by omega)) (by omega) (by omega))
            · rcases k with _ | k
              · simp at hk; subst hk; exact (sd_rT_up (sd_rT_keep (sd_rT_up hr29_4 (by omega) (by omega)) ho29_7 (by omega) (by omega)) (by omega) (by omega))
              · rcases k with _ | k
                · simp at hk; subst hk; exact (sd_rT_up hr29_7 (by omega) (by omega))
                · simp at hk
        ·
          rw [if_neg hb14_6] at hq14_6
          rw [sd_b0 hb14_6]
          show sd_Wp sd_SC 7 sY7_readTests 17 [some (.inr 118), some (.inr 36), some (.inl (c : Int)), some (.inl 2)] [.inl 0] m _
          refine sd_if_ne (tgt := 22) sD7_readTests_17 (by decide) (fun zc17 => (by exfalso; omega)) (fun zc17 => ?_)
          refine sd_iconst sD7_readTests_20 (by decide) ?_
          refine sd_zreturn sD7_readTests_21 rfl (by decide) (fun hm => ?_)
          refine ⟨(sd_up X29_4 (6100 + c) 2), hx, fun j a1 a2 a3 a4 => by rw [sd_up_ne (by omega), ho29_4 j (by omega) (by omega) (by omega), sd_up_ne (by omega), ho29_1 j (by omega) (by omega) (by omega)], Or.inr ⟨[t29_1, t29_4], q29_4, by simp only [sd_tt, hz29_1, hz29_4]; simp [hb14_3, hb14_6], rfl, hq14_6, by omega, by rw [sd_up_eq]; rfl, ?_⟩⟩
          intro k t hk
          rcases k with _ | k
          · simp at hk; subst hk; exact (sd_rT_up (sd_rT_keep (sd_rT_up hr29_1 (by omega) (by omega)) ho29_4 (by omega) (by omega)) (by omega) (by omega))
          · rcases k with _ | k
            · simp at hk; subst hk; exact (sd_rT_up hr29_4 (by omega) (by omega))
            · simp at hk
    ·
      rw [if_neg hb14_3] at hq14_3
      rw [sd_b0 hb14_3]
      show sd_Wp sd_SC 7 sY7_readTests 17 [some (.inr 118), some (.inr 36), some (.inl (c : Int)), some (.inl 1)] [.inl 0] m _
      refine sd_if_ne (tgt := 22) sD7_readTests_17 (by decide) (fun zc17 => (by exfalso; omega)) (fun zc17 => ?_)
      refine sd_iconst sD7_readTests_20 (by decide) ?_
      refine sd_zreturn sD7_readTests_21 rfl (by decide) (fun hm => ?_)
      refine ⟨(sd_up X29_1 (6100 + c) 1), hx, fun j a1 a2 a3 a4 => by rw [sd_up_ne (by omega), ho29_1 j (by omega) (by omega) (by omega)], Or.inr ⟨[t29_1], q29_1, by simp only [sd_tt, hz29_1]; simp [hb14_3], rfl, hq14_3, by omega, by rw [sd_up_eq]; rfl, ?_⟩⟩
      intro k t hk
      rcases k with _ | k
      · simp at hk; subst hk; exact (sd_rT_up hr29_1 (by omega) (by omega))
      · simp at hk
