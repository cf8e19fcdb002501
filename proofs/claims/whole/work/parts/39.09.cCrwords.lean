set_option maxRecDepth 100000 in
set_option maxHeartbeats 4000000 in
theorem cC_rwords (c : Nat) (hc : c < 40) (B : Nat → Int) (n p : Nat) (x m : sd_M) (hx : sd_ns x m) (hT : sd_TB x B n) (hp : m 5390 = (p : Int)) (hpn : p ≤ n) : sd_Ct sd_SC 6 sY7_readWords [.inr 118, .inr 36, .inl (c : Int)] m (sd_wdP B n p c x) := by
  refine sd_ct rfl (Nat.le_of_ble_eq_true rfl) (fun hok hm => ?_)
  have t1 := hT.1
  have t2 := hT.2.1
  show sd_Wp sd_SC 6 sY7_readWords 0 [some (.inr 118), some (.inr 36), some (.inl (c : Int)), none, none] [] m _
  refine sd_aload_n sD7_readWords_0 rfl ?_
  refine sd_ldcS (i := 0) sD7_readWords_1 rfl rfl ?_
  refine sd_ldcS (i := 1) sD7_readWords_3 rfl rfl ?_
  refine sd_ldcS (i := 2) sD7_readWords_5 rfl rfl ?_
  refine sd_ldcS (i := 2) sD7_readWords_7 rfl rfl ?_
  refine sd_callV (as := [.inr 910, .inr 911, .inr 912, .inr 912]) (st := []) sD7_readWords_9 sM7_51 rfl rfl sOC118 rfl (by decide) (Nat.le_of_ble_eq_true rfl) (cC_ro0 B n p _ m hx hT hp (by omega)) (fun r m hq ho9 hm => ?_)
  obtain ⟨hx, hq9_1⟩ := hq
  rcases hq9_1 with ⟨q9_1, hz9_1, rfl, hp9_1, hn9_1⟩ | ⟨j9_1, q9_1, hz9_1, rfl, hp9_1, hn9_1, hj9_1⟩
  ·
    show sd_Wp sd_SC 6 sY7_readWords 12 [some (.inr 118), some (.inr 36), some (.inl (c : Int)), none, none] [.inl (-1)] m _
    refine sd_istore_n (ls' := [some (.inr 118), some (.inr 36), some (.inl (c : Int)), some (.inl (-1)), none]) sD7_readWords_12 (by decide) rfl ?_
    refine sd_iload_n sD7_readWords_13 rfl ?_
    refine sd_iconst sD7_readWords_14 (by decide) ?_
    refine sd_icmp_eq (tgt := 27) sD7_readWords_15 (by decide) (fun zc15 => ?_) (fun zc15 => (by exfalso; omega))
    refine sd_iconst sD7_readWords_27 (by decide) ?_
    refine sd_zreturn sD7_readWords_28 rfl (by decide) (fun hm => ?_)
    exact ⟨x, hx, fun _ _ _ _ => rfl, Or.inl ⟨q9_1, by simp only [sd_wd, hz9_1], rfl, hp9_1, by omega⟩⟩
  ·
    show sd_Wp sd_SC 6 sY7_readWords 12 [some (.inr 118), some (.inr 36), some (.inl (c : Int)), none, none] [.inl (j9_1 : Int)] m _
    refine sd_istore_n (ls' := [some (.inr 118), some (.inr 36), some (.inl (c : Int)), some (.inl (j9_1 : Int)), none]) sD7_readWords_12 (by decide) rfl ?_
    refine sd_iload_n sD7_readWords_13 rfl ?_
    refine sd_iconst sD7_readWords_14 (by decide) ?_
    refine sd_icmp_eq (tgt := 27) sD7_readWords_15 (by decide) (fun zc15 => (by exfalso; omega)) (fun zc15 => ?_)
    refine sd_aload_n sD7_readWords_18 rfl ?_
    refine sd_bipush sD7_readWords_19 rfl (by decide) ?_
    refine sd_callV (as := [.inl 32]) (st := []) sD7_readWords_21 sM7_25 rfl rfl sOC118 rfl (by decide) (Nat.le_of_ble_eq_true rfl) (cC_sees 32 (by decide) B n q9_1 _ m hx hT hp9_1 (by omega)) (fun r m hq ho21 hm => ?_)
    obtain ⟨rfl, hx, hq21_2⟩ := hq
    rcases (Classical.em (B q9_1 = 32)) with hb21_2 | hb21_2
    ·
      rw [if_pos hb21_2] at hq21_2
      have hn21_2 := ((hT.byte q9_1 (c := 32) (by decide)).mp hb21_2).1
      rw [sd_b1 hb21_2]
      show sd_Wp sd_SC 6 sY7_readWords 24 [some (.inr 118), some (.inr 36), some (.inl (c : Int)), some (.inl (j9_1 : Int)), none] [.inl 1] m _
      refine sd_if_ne (tgt := 29) sD7_readWords_24 (by decide) (fun zc24 => ?_) (fun zc24 => (by exfalso; omega))
      refine sd_aload_n sD7_readWords_29 rfl ?_
      refine sd_ldcS (i := 3) sD7_readWords_30 rfl rfl ?_
      refine sd_ldcS (i := 4) sD7_readWords_32 rfl rfl ?_
      refine sd_ldcS (i := 5) sD7_readWords_34 rfl rfl ?_
      refine sd_ldcS (i := 6) sD7_readWords_36 rfl rfl ?_
      refine sd_callV (as := [.inr 913, .inr 914, .inr 915, .inr 916]) (st := []) sD7_readWords_38 sM7_51 rfl rfl sOC118 rfl (by decide) (Nat.le_of_ble_eq_true rfl) (cC_ro3 B n (q9_1 + 1) _ m hx hT hq21_2 (by omega)) (fun r m hq ho38 hm => ?_)
      obtain ⟨hx, hq38_3⟩ := hq
      rcases hq38_3 with ⟨q38_3, hz38_3, rfl, hp38_3, hn38_3⟩ | ⟨j38_3, q38_3, hz38_3, rfl, hp38_3, hn38_3, hj38_3⟩
      ·
        show sd_Wp sd_SC 6 sY7_readWords 41 [some (.inr 118), some (.inr 36), some (.inl (c : Int)), some (.inl (j9_1 : Int)), none] [.inl (-1)] m _
        refine sd_istore (ls' := [some (.inr 118), some (.inr 36), some (.inl (c : Int)), some (.inl (j9_1 : Int)), some (.inl (-1))]) sD7_readWords_41 (by decide) rfl ?_
        refine sd_aload_n sD7_readWords_43 rfl ?_
        refine sd_getfr sD7_readWords_44 sF7_63 sGC36_6 ?_
        refine sd_iload_n sD7_readWords_47 rfl ?_
        refine sd_iload_n sD7_readWords_48 rfl ?_
        refine sd_iastx (a := (6020 + c)) sd_sokC hx sD7_readWords_49 sAC29 (by omega) (fun m hx em49 => ?_)
        have hpl49_4 : m 5390 = ((q38_3 : Nat) : Int) := by rw [em49, sd_up_ne (by omega)]; exact hp38_3
        refine sd_aload_n sD7_readWords_50 rfl ?_
        refine sd_getfr sD7_readWords_51 sF7_66 sGC36_7 ?_
        refine sd_iload_n sD7_readWords_54 rfl ?_
        refine sd_iload sD7_readWords_55 rfl ?_
        refine sd_iastx (a := (6060 + c)) sd_sokC hx sD7_readWords_57 sAC30 (by omega) (fun m hx em57 => ?_)
        have hpl57_5 : m 5390 = ((q38_3 : Nat) : Int) := by rw [em57, sd_up_ne (by omega)]; exact hpl49_4
        refine sd_aload_n sD7_readWords_58 rfl ?_
        refine sd_getfr sD7_readWords_59 sF7_69 sGC36_8 ?_
        refine sd_iload_n sD7_readWords_62 rfl ?_
        refine sd_iconst sD7_readWords_63 (by decide) ?_
        refine sd_iastx (a := (6100 + c)) sd_sokC hx sD7_readWords_64 sAC31 (by omega) (fun m hx em64 => ?_)
        have hpl64_6 : m 5390 = ((q38_3 : Nat) : Int) := by rw [em64, sd_up_ne (by omega)]; exact hpl57_5
        refine sd_iload sD7_readWords_65 rfl ?_
        refine sd_iconst sD7_readWords_67 (by decide) ?_
        refine sd_icmp_eq (tgt := 75) sD7_readWords_68 (by decide) (fun zc68 => ?_) (fun zc68 => (by exfalso; omega))
        refine sd_iconst sD7_readWords_75 (by decide) ?_
        refine sd_zreturn sD7_readWords_76 rfl (by decide) (fun hm => ?_)
        exact ⟨(sd_up (sd_up (sd_up x (6020 + c) (j9_1 : Int)) (6060 + c) (-1)) (6100 + c) 0), hx, fun j a1 a2 a3 => by rw [sd_up_ne a3, sd_up_ne a2, sd_up_ne a1], Or.inl ⟨q38_3, by simp only [sd_wd, hz9_1, hz38_3]; rw [if_pos hb21_2], rfl, hpl64_6, by omega⟩⟩
      ·
        show sd_Wp sd_SC 6 sY7_readWords 41 [some (.inr 118), some (.inr 36), some (.inl (c : Int)), some (.inl (j9_1 : Int)), none] [.inl (j38_3 : Int)] m _
        refine sd_istore (ls' := [some (.inr 118), some (.inr 36), some (.inl (c : Int)), some (.inl (j9_1 : Int)), some (.inl (j38_3 : Int))]) sD7_readWords_41 (by decide) rfl ?_
        refine sd_aload_n sD7_readWords_43 rfl ?_
        refine sd_getfr sD7_readWords_44 sF7_63 sGC36_6 ?_
        refine sd_iload_n sD7_readWords_47 rfl ?_
        refine sd_iload_n sD7_readWords_48 rfl ?_
        refine sd_iastx (a := (6020 + c)) sd_sokC hx sD7_readWords_49 sAC29 (by omega) (fun m hx em49 => ?_)
        have hpl49_7 : m 5390 = ((q38_3 : Nat) : Int) := by rw [em49, sd_up_ne (by omega)]; exact hp38_3
        refine sd_aload_n sD7_readWords_50 rfl ?_
        refine sd_getfr sD7_readWords_51 sF7_66 sGC36_7 ?_
        refine sd_iload_n sD7_readWords_54 rfl ?_
        refine sd_iload sD7_readWords_55 rfl ?_
        refine sd_iastx (a := (6060 + c)) sd_sokC hx sD7_readWords_57 sAC30 (by omega) (fun m hx em57 => ?_)
        have hpl57_8 : m 5390 = ((q38_3 : Nat) : Int) := by rw [em57, sd_up_ne (by omega)]; exact hpl49_7
        refine sd_aload_n sD7_readWords_58 rfl ?_
        refine sd_getfr sD7_readWords_59 sF7_69 sGC36_8 ?_
        refine sd_iload_n sD7_readWords_62 rfl ?_
        refine sd_iconst sD7_readWords_63 (by decide) ?_
        refine sd_iastx (a := (6100 + c)) sd_sokC hx sD7_readWords_64 sAC31 (by omega) (fun m hx em64 => ?_)
        have hpl64_9 : m 5390 = ((q38_3 : Nat) : Int) := by rw [em64, sd_up_ne (by omega)]; exact hpl57_8
        refine sd_iload sD7_readWords_65 rfl ?_
        refine sd_iconst sD7_readWords_67 (by decide) ?_
        refine sd_icmp_eq (tgt := 75) sD7_readWords_68 (by decide) (fun zc68 => (by exfalso; omega)) (fun zc68 => ?_)
        refine sd_iconst sD7_readWords_71 (by decide) ?_
        refine sd_goto (tgt := 76) sD7_readWords_72 (by decide) ?_
        refine sd_zreturn sD7_readWords_76 rfl (by decide) (fun hm => ?_)
        exact ⟨(sd_up (sd_up (sd_up x (6020 + c) (j9_1 : Int)) (6060 + c) (j38_3 : Int)) (6100 + c) 0), hx, fun j a1 a2 a3 => by rw [sd_up_ne a3, sd_up_ne a2, sd_up_ne a1], Or.inr ⟨(j9_1, j38_3), q38_3, by simp only [sd_wd, hz9_1, hz38_3]; rw [if_pos hb21_2], rfl, hpl64_9, by omega, by rw [sd_up_ne (by omega), sd_up_ne (by omega), sd_up_eq], by rw [sd_up_ne (by omega), sd_up_eq], by rw [sd_up_eq]⟩⟩
    ·
      rw [if_neg hb21_2] at hq21_2
      rw [sd_b0 hb21_2]
      show sd_Wp sd_SC 6 sY7_readWords 24 [some (.inr 118), some (.inr 36), some (.inl (c : Int)), some (.inl (j9_1 : Int)), none] [.inl 0] m _
      refine sd_if_ne (tgt := 29) sD7_readWords_24 (by decide) (fun zc24 => (by exfalso; omega)) (fun zc24 => ?_)
      refine sd_iconst sD7_readWords_27 (by decide) ?_
      refine sd_zreturn sD7_readWords_28 rfl (by decide) (fun hm => ?_)
      exact ⟨x, hx, fun _ _ _ _ => rfl, Or.inl ⟨q9_1, by simp only [sd_wd, hz9_1]; rw [if_neg hb21_2], rfl, hq21_2, by omega⟩⟩
