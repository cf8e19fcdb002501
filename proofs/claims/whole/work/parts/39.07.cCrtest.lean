set_option maxRecDepth 100000 in
set_option maxHeartbeats 4000000 in
theorem cC_rtest (i : Nat) (hi : i < 120) (B : Nat → Int) (n p : Nat) (x m : sd_M) (hx : sd_ns x m) (hT : sd_TB x B n) (hp : m 5390 = (p : Int)) (hpn : p ≤ n) : sd_Ct sd_SC 6 sY7_readTest [.inr 118, .inr 36, .inl (i : Int)] m (sd_tsP B n p i x) := by
  refine sd_ct rfl (Nat.le_of_ble_eq_true rfl) (fun hok hm => ?_)
  have t1 := hT.1
  have t2 := hT.2.1
  show sd_Wp sd_SC 6 sY7_readTest 0 [some (.inr 118), some (.inr 36), some (.inl (i : Int)), none, none, none] [] m _
  refine sd_aload_n sD7_readTest_0 rfl ?_
  refine sd_ldcS (i := 8) sD7_readTest_1 rfl rfl ?_
  refine sd_ldcS (i := 9) sD7_readTest_3 rfl rfl ?_
  refine sd_ldcS (i := 10) sD7_readTest_5 rfl rfl ?_
  refine sd_ldcS (i := 11) sD7_readTest_7 rfl rfl ?_
  refine sd_callV (as := [.inr 918, .inr 919, .inr 920, .inr 921]) (st := []) sD7_readTest_9 sM7_51 rfl rfl sOC118 rfl (by decide) (Nat.le_of_ble_eq_true rfl) (cC_ro8 B n p _ m hx hT hp (by omega)) (fun r m hq ho9 hm => ?_)
  obtain ⟨hx, hq9_1⟩ := hq
  rcases hq9_1 with ⟨q9_1, hz9_1, rfl, hp9_1, hn9_1⟩ | ⟨j9_1, q9_1, hz9_1, rfl, hp9_1, hn9_1, hj9_1⟩
  ·
    show sd_Wp sd_SC 6 sY7_readTest 12 [some (.inr 118), some (.inr 36), some (.inl (i : Int)), none, none, none] [.inl (-1)] m _
    refine sd_istore_n (ls' := [some (.inr 118), some (.inr 36), some (.inl (i : Int)), some (.inl (-1)), none, none]) sD7_readTest_12 (by decide) rfl ?_
    refine sd_iload_n sD7_readTest_13 rfl ?_
    refine sd_iconst sD7_readTest_14 (by decide) ?_
    refine sd_icmp_ne (tgt := 20) sD7_readTest_15 (by decide) (fun zc15 => (by exfalso; omega)) (fun zc15 => ?_)
    refine sd_iconst sD7_readTest_18 (by decide) ?_
    refine sd_zreturn sD7_readTest_19 rfl (by decide) (fun hm => ?_)
    exact ⟨x, hx, fun _ _ _ _ => rfl, Or.inl ⟨q9_1, by simp only [sd_ts, hz9_1], rfl, hp9_1, by omega⟩⟩
  ·
    show sd_Wp sd_SC 6 sY7_readTest 12 [some (.inr 118), some (.inr 36), some (.inl (i : Int)), none, none, none] [.inl (j9_1 : Int)] m _
    refine sd_istore_n (ls' := [some (.inr 118), some (.inr 36), some (.inl (i : Int)), some (.inl (j9_1 : Int)), none, none]) sD7_readTest_12 (by decide) rfl ?_
    refine sd_iload_n sD7_readTest_13 rfl ?_
    refine sd_iconst sD7_readTest_14 (by decide) ?_
    refine sd_icmp_ne (tgt := 20) sD7_readTest_15 (by decide) (fun zc15 => ?_) (fun zc15 => (by exfalso; omega))
    refine sd_aload_n sD7_readTest_20 rfl ?_
    refine sd_ldcS (i := 12) sD7_readTest_21 rfl rfl ?_
    refine sd_ldcS (i := 13) sD7_readTest_23 rfl rfl ?_
    refine sd_ldcS (i := 14) sD7_readTest_25 rfl rfl ?_
    refine sd_ldcS (i := 2) sD7_readTest_27 rfl rfl ?_
    refine sd_callV (as := [.inr 922, .inr 923, .inr 924, .inr 912]) (st := []) sD7_readTest_29 sM7_51 rfl rfl sOC118 rfl (by decide) (Nat.le_of_ble_eq_true rfl) (cC_ro12 B n q9_1 _ m hx hT hp9_1 (by omega)) (fun r m hq ho29 hm => ?_)
    obtain ⟨hx, hq29_2⟩ := hq
    rcases hq29_2 with ⟨q29_2, hz29_2, rfl, hp29_2, hn29_2⟩ | ⟨j29_2, q29_2, hz29_2, rfl, hp29_2, hn29_2, hj29_2⟩
    ·
      show sd_Wp sd_SC 6 sY7_readTest 32 [some (.inr 118), some (.inr 36), some (.inl (i : Int)), some (.inl (j9_1 : Int)), none, none] [.inl (-1)] m _
      refine sd_istore (ls' := [some (.inr 118), some (.inr 36), some (.inl (i : Int)), some (.inl (j9_1 : Int)), some (.inl (-1)), none]) sD7_readTest_32 (by decide) rfl ?_
      refine sd_iload sD7_readTest_34 rfl ?_
      refine sd_iconst sD7_readTest_36 (by decide) ?_
      refine sd_icmp_ne (tgt := 42) sD7_readTest_37 (by decide) (fun zc37 => (by exfalso; omega)) (fun zc37 => ?_)
      refine sd_iconst sD7_readTest_40 (by decide) ?_
      refine sd_zreturn sD7_readTest_41 rfl (by decide) (fun hm => ?_)
      exact ⟨x, hx, fun _ _ _ _ => rfl, Or.inl ⟨q29_2, by simp only [sd_ts, hz9_1, hz29_2], rfl, hp29_2, by omega⟩⟩
    ·
      show sd_Wp sd_SC 6 sY7_readTest 32 [some (.inr 118), some (.inr 36), some (.inl (i : Int)), some (.inl (j9_1 : Int)), none, none] [.inl (j29_2 : Int)] m _
      refine sd_istore (ls' := [some (.inr 118), some (.inr 36), some (.inl (i : Int)), some (.inl (j9_1 : Int)), some (.inl (j29_2 : Int)), none]) sD7_readTest_32 (by decide) rfl ?_
      refine sd_iload sD7_readTest_34 rfl ?_
      refine sd_iconst sD7_readTest_36 (by decide) ?_
      refine sd_icmp_ne (tgt := 42) sD7_readTest_37 (by decide) (fun zc37 => ?_) (fun zc37 => (by exfalso; omega))
      refine sd_aload_n sD7_readTest_42 rfl ?_
      refine sd_callV (as := []) (st := []) sD7_readTest_43 sM7_89 rfl rfl sOC118 rfl (by decide) (Nat.le_of_ble_eq_true rfl) (cC_rn B n q29_2 _ m hx hT hp29_2 (by omega)) (fun r m hq ho43 hm => ?_)
      obtain ⟨rfl, hx, hp43_3⟩ := hq
      have hn43_3 := sd_dn_le hT (p := q29_2) (by omega)
      have hv43_3 := sd_nv_dn B q29_2
      rcases (⟨trivial⟩ : Nonempty True) with hy43_3
      ·
        show sd_Wp sd_SC 6 sY7_readTest 46 [some (.inr 118), some (.inr 36), some (.inl (i : Int)), some (.inl (j9_1 : Int)), some (.inl (j29_2 : Int)), none] [.inl (sd_nv B q29_2 (sd_dn B q29_2))] m _
        refine sd_istore (ls' := [some (.inr 118), some (.inr 36), some (.inl (i : Int)), some (.inl (j9_1 : Int)), some (.inl (j29_2 : Int)), some (.inl (sd_nv B q29_2 (sd_dn B q29_2)))]) sD7_readTest_46 (by decide) rfl ?_
        refine sd_aload_n sD7_readTest_48 rfl ?_
        refine sd_getfr sD7_readTest_49 sF7_93 sGC36_9 ?_
        refine sd_iload_n sD7_readTest_52 rfl ?_
        refine sd_iload_n sD7_readTest_53 rfl ?_
        refine sd_iastx (a := (6140 + i)) sd_sokC hx sD7_readTest_54 sAC32 (by omega) (fun m hx em54 => ?_)
        have hpl54_4 : m 5390 = (((q29_2 + sd_dn B q29_2) : Nat) : Int) := by rw [em54, sd_up_ne (by omega)]; exact hp43_3
        refine sd_aload_n sD7_readTest_55 rfl ?_
        refine sd_getfr sD7_readTest_56 sF7_96 sGC36_10 ?_
        refine sd_iload_n sD7_readTest_59 rfl ?_
        refine sd_iload sD7_readTest_60 rfl ?_
        refine sd_iconst sD7_readTest_62 (by decide) ?_
        refine sd_isub (z := ((j29_2 : Int) - 1)) sD7_readTest_63 (by omega) (by omega) ?_
        refine sd_iastx (a := (6260 + i)) sd_sokC hx sD7_readTest_64 sAC33 (by omega) (fun m hx em64 => ?_)
        have hpl64_5 : m 5390 = (((q29_2 + sd_dn B q29_2) : Nat) : Int) := by rw [em64, sd_up_ne (by omega)]; exact hpl54_4
        refine sd_aload_n sD7_readTest_65 rfl ?_
        refine sd_getfr sD7_readTest_66 sF7_99 sGC36_11 ?_
        refine sd_iload_n sD7_readTest_69 rfl ?_
        refine sd_iload sD7_readTest_70 rfl ?_
        refine sd_iastx (a := (6380 + i)) sd_sokC hx sD7_readTest_72 sAC34 (by omega) (fun m hx em72 => ?_)
        have hpl72_6 : m 5390 = (((q29_2 + sd_dn B q29_2) : Nat) : Int) := by rw [em72, sd_up_ne (by omega)]; exact hpl64_5
        refine sd_iload sD7_readTest_73 rfl ?_
        refine sd_iconst sD7_readTest_75 (by decide) ?_
        refine sd_icmp_eq (tgt := 83) sD7_readTest_76 (by decide) (fun zc76 => ?_) (fun zc76 => ?_)
        ·
          refine sd_iconst sD7_readTest_83 (by decide) ?_
          refine sd_zreturn sD7_readTest_84 rfl (by decide) (fun hm => ?_)
          have zd : sd_dn B q29_2 = 0 := by omega
          exact ⟨(sd_up (sd_up (sd_up x (6140 + i) (j9_1 : Int)) (6260 + i) ((j29_2 : Int) - 1)) (6380 + i) (sd_nv B q29_2 (sd_dn B q29_2))), hx, fun j a1 a2 a3 => by rw [sd_up_ne a3, sd_up_ne a2, sd_up_ne a1], Or.inl ⟨q29_2, by simp only [sd_ts, hz9_1, hz29_2]; rw [if_pos zd], rfl, by have zz := hpl72_6; rw [zd, Nat.add_zero] at zz; exact zz, by omega⟩⟩
        ·
          refine sd_iconst sD7_readTest_79 (by decide) ?_
          refine sd_goto (tgt := 84) sD7_readTest_80 (by decide) ?_
          refine sd_zreturn sD7_readTest_84 rfl (by decide) (fun hm => ?_)
          have zd : ¬ sd_dn B q29_2 = 0 := by omega
          exact ⟨(sd_up (sd_up (sd_up x (6140 + i) (j9_1 : Int)) (6260 + i) ((j29_2 : Int) - 1)) (6380 + i) (sd_nv B q29_2 (sd_dn B q29_2))), hx, fun j a1 a2 a3 => by rw [sd_up_ne a3, sd_up_ne a2, sd_up_ne a1], Or.inr ⟨(j9_1, j29_2, sd_nv B q29_2 (sd_dn B q29_2)), (q29_2 + sd_dn B q29_2), by simp only [sd_ts, hz9_1, hz29_2]; rw [if_neg zd], rfl, hpl72_6, by omega, by rw [sd_up_ne (by omega), sd_up_ne (by omega), sd_up_eq], by rw [sd_up_ne (by omega), sd_up_eq], by rw [sd_up_eq]⟩⟩
