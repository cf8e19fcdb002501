set_option maxRecDepth 100000 in
set_option maxHeartbeats 4000000 in
theorem cC_playFreely (w v : Int) (n : Nat) (x m : sd_M) (hx : sd_ns x m) (h9 : sd_L9 x) (hw : 1 ≤ w ∧ w ≤ 99) (hv : 1 ≤ v ∧ v ≤ 99) (hn : 1 ≤ n ∧ n ≤ 5) : sd_Ct sd_SC 16 sY0_playFreely [.inr 49, .inl w, .inl v, .inl (n : Int)] m (fun r m' => r = some (.inl (sd_gv x (2 * n) false w v)) ∧ sd_ns x m' ∧ m' 5110 = (n : Int) ∧ ∀ q, q < 5 → m' (5100 + q) = -1) := by
  refine sd_ct rfl (Nat.le_of_ble_eq_true rfl) (fun hok hm => ?_)
  show sd_Wp sd_SC 16 sY0_playFreely 0 [some (.inr 49), some (.inl w), some (.inl v), some (.inl (n : Int))] [] m _
  refine sd_aload_n sD0_playFreely_0 rfl ?_
  refine sd_getfr sD0_playFreely_1 sF0_18 sGC49_2 ?_
  refine sd_iconst sD0_playFreely_4 (by decide) ?_
  refine sd_callN (as := [.inr 48, .inl (-1)]) (st := []) sD0_playFreely_5 sM0_29 rfl rfl (by decide) (Nat.le_of_ble_eq_true rfl) (cC_fill sAC48 (by decide) (-1) m) (fun r m hq ho5 hm => ?_)
  obtain ⟨rfl, hfil5⟩ := hq
  have hx : sd_ns x m := by rw [hfil5]; exact hx.filc (by decide) _
  show sd_Wp sd_SC 16 sY0_playFreely 8 [some (.inr 49), some (.inl w), some (.inl v), some (.inl (n : Int))] [] m _
  refine sd_aload_n sD0_playFreely_8 rfl ?_
  refine sd_iload_n sD0_playFreely_9 rfl ?_
  refine sd_putfc sd_sokC sd_oneC hx sD0_playFreely_10 sF0_21 sGC49_3 (by decide) (Or.inl rfl) (fun m hx em10 => ?_)
  refine sd_aload_n sD0_playFreely_13 rfl ?_
  refine sd_iconst sD0_playFreely_14 (by decide) ?_
  refine sd_iload_n sD0_playFreely_15 rfl ?_
  refine sd_iload_n sD0_playFreely_16 rfl ?_
  refine sd_iconst sD0_playFreely_17 (by decide) ?_
  refine sd_iconst sD0_playFreely_18 (by decide) ?_
  refine sd_callVp (as := [.inl 0, .inl w, .inl v, .inl (-1), .inl 1]) (st := []) (v := .inl (sd_gv x (2 * n) false w v)) sD0_playFreely_19 sM0_33 sOC49 rfl rfl rfl (by decide) (Nat.le_of_ble_eq_true rfl) (cC_gFree x m hx h9 n (by omega) (by rw [em10]; unfold sd_up; rw [if_pos rfl]) (fun q hq => by rw [em10, hfil5]; unfold sd_up sd_fil; rw [if_neg (by omega), if_pos (by omega)]) w v hw hv) (fun ho19 => ?_)
  refine sd_ireturn sD0_playFreely_22 rfl (fun hr hm => ?_)
  exact ⟨rfl, hx, by rw [em10]; unfold sd_up; rw [if_pos rfl], fun q hq => by rw [em10, hfil5]; unfold sd_up sd_fil; rw [if_neg (by omega), if_pos (by omega)]⟩
