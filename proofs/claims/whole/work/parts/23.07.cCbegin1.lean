set_option maxRecDepth 100000 in
set_option maxHeartbeats 4000000 in
theorem cC_begin1 (b n : Int) (x m : sd_M) (hx : sd_ns x m) : sd_Ct sd_SC 1 sY5_begin [.inr 111, .inl b, .inl n] m (fun r m' => r = some (.inl (if b = 0 then 0 else n)) ∧ sd_ns (sd_fil (sd_up (sd_up x 4251 b) 8101 (if b = 0 then 0 else n)) 8212 12 0) m') := by
  refine sd_ct rfl (Nat.le_of_ble_eq_true rfl) (fun hok hm => ?_)
  show sd_Wp sd_SC 1 sY5_begin 0 [some (.inr 111), some (.inl b), some (.inl n)] [] m _
  refine sd_aload_n sD5_begin_0 rfl ?_
  refine sd_iload_n sD5_begin_1 rfl ?_
  refine sd_putfx sd_sokC sd_oneC hx sD5_begin_2 sF5_9 sGC111_0 (Or.inl rfl) (fun m hx em2 => ?_)
  refine sd_aload_n sD5_begin_5 rfl ?_
  refine sd_iload_n sD5_begin_6 rfl ?_
  refine sd_cut (J := 15) (ls := [some (.inr 111), some (.inl b), some (.inl n)]) (st := [.inr 111]) (fun zv => zv = (if b = 0 then 0 else n)) (fun zv hzv => ?_) (fun K7 => ?_)
  ·
    subst hzv
    refine sd_putfx sd_sokC sd_oneC hx sD5_begin_15 sF5_15 sGC111_1 (Or.inl rfl) (fun m hx em15 => ?_)
    refine sd_aload_n sD5_begin_18 rfl ?_
    refine sd_getfr sD5_begin_19 sF5_18 sGC111_2 ?_
    refine sd_iconst sD5_begin_22 (by decide) ?_
    refine sd_callN (as := [.inr 110, .inl 0]) (st := []) sD5_begin_23 sM5_22 rfl rfl (by decide) (Nat.le_of_ble_eq_true rfl) (cC_fill sAC110 (by decide) 0 m) (fun r m hq ho23 hm => ?_)
    obtain ⟨rfl, hfil23⟩ := hq
    have hx : sd_ns (sd_fil (sd_up (sd_up x 4251 b) 8101 (if b = 0 then 0 else n)) 8212 12 0) m := by rw [hfil23]; exact hx.fil _ _ _
    show sd_Wp sd_SC 1 sY5_begin 26 [some (.inr 111), some (.inl b), some (.inl n)] [] m _
    refine sd_aload_n sD5_begin_26 rfl ?_
    refine sd_getfx (v := (sd_fil (sd_up (sd_up x 4251 b) 8101 (if b = 0 then 0 else n)) 8212 12 0) 8101) hx sD5_begin_27 sF5_15 sGC111_1 (by decide) rfl ?_
    refine sd_ireturn sD5_begin_30 rfl (fun hr hm => ?_)
    exact ⟨rfl, hx⟩
  ·
    refine sd_if_ne (tgt := 14) sD5_begin_7 (by decide) (fun zc7 => ?_) (fun zc7 => ?_)
    ·
      refine sd_iload_n sD5_begin_14 rfl ?_
      exact K7 _ (by first | (rw [if_pos (by omega)]; done) | (rw [if_neg (by omega)]; done))
    ·
      refine sd_iconst sD5_begin_10 (by decide) ?_
      refine sd_goto (tgt := 15) sD5_begin_11 (by decide) ?_
      exact K7 _ (by first | (rw [if_pos (by omega)]; done) | (rw [if_neg (by omega)]; done))
