set_option maxRecDepth 100000 in
set_option maxHeartbeats 4000000 in
theorem pC_feed (v : Int) (n : Int) (x m : sd_M) (hx : sd_ns x m)  (hF : ∀ k : Nat, k < 7 → 0 ≤ x (4101 + k) ∧ x (4101 + k) ≤ 1000000) (ht : 0 ≤ x 4100 ∧ x 4100 ≤ 100) : sd_Ct sd_SC 2 sY10_feed [.inr 120, .inl v, .inl n] m (sd_Qp (sp_feed x v n)) := by
  refine sd_ct rfl (Nat.le_of_ble_eq_true rfl) (fun hok hm => ?_)
  have r_v : sd_R v := hok (.inl v) (by simp)
  have r_n : sd_R n := hok (.inl n) (by simp)
  show sd_Wp sd_SC 2 sY10_feed 0 [some (.inr 120), some (.inl v), some (.inl n)] [] m _
  refine sd_iload_n sD10_feed_0 rfl ?_
  refine sd_iconst sD10_feed_1 (by decide) ?_
  refine sd_iconst sD10_feed_2 (by decide) ?_
  refine sd_callSp (as := [.inl n, .inl 1, .inl 4]) (st := []) (v := .inl (sd_b (1 ≤ n ∧ n ≤ 4))) sD10_feed_3 sM10_65 rfl rfl (by decide) (Nat.le_of_ble_eq_true rfl) (cC_isWithin n 1 4 m) (fun ho3 => ?_)
  refine sd_bif_ne (tgt := 16) sD10_feed_6 (by decide) (fun zc6 => ?_) (fun zc6 => ?_)
  ·
    refine sd_aload_n sD10_feed_16 rfl ?_
    refine sd_getfr sD10_feed_17 sF10_28 sGC120_3 ?_
    refine sd_getfx (v := x 4100) hx sD10_feed_20 sF10_229 sGC118_0 (by decide) rfl ?_
    refine sd_iload_n sD10_feed_23 rfl ?_
    refine sd_iadd (z := (x 4100 + n)) sD10_feed_24 (by omega) (by omega) ?_
    refine sd_bipush sD10_feed_25 rfl (by decide) ?_
    refine sd_icmp_le (tgt := 39) sD10_feed_27 (by decide) (fun zc27 => ?_) (fun zc27 => ?_)
    ·
      refine sd_aload_n sD10_feed_39 rfl ?_
      refine sd_getfr sD10_feed_40 sF10_28 sGC120_3 ?_
      refine sd_iload_n sD10_feed_43 rfl ?_
      refine sd_iload_n sD10_feed_44 rfl ?_
      refine sd_callV (as := [.inl v, .inl n]) (st := []) sD10_feed_45 sM10_230 rfl rfl sOC118 rfl (by decide) (Nat.le_of_ble_eq_true rfl) (cC_tapeadd v n _ m hx (by omega) (by omega)) (fun r m hq ho45 hm => ?_)
      obtain ⟨rfl, hx⟩ := hq
      show sd_Wp sd_SC 2 sY10_feed 48 [some (.inr 120), some (.inl v), some (.inl n)] [.inl (x 4100 + n)] m _
      refine sd_ireturn sD10_feed_48 rfl (fun hr hm => ?_)
      exact sd_done (by unfold sp_feed; ((repeat (first | rw [if_pos (by first | assumption | omega)] | rw [if_neg (by first | assumption | omega)])); try rfl)) hx
    ·
      refine sd_aload_n sD10_feed_30 rfl ?_
      refine sd_ldc (z := -1000002) sD10_feed_31 sK10_60 (by decide) ?_
      refine sd_callV (as := [.inl (-1000002)]) (st := []) sD10_feed_33 sM10_52 rfl rfl sOC120 rfl (by decide) (Nat.le_of_ble_eq_true rfl) (cC_found (-1000002) 1 (by decide) (by decide) _ m hx (hF 1 (by decide))) (fun r m hq ho33 hm => ?_)
      obtain ⟨rfl, hx⟩ := hq
      show sd_Wp sd_SC 2 sY10_feed 36 [some (.inr 120), some (.inl v), some (.inl n)] [.inl (-1000002)] m _
      refine sd_goto (tgt := 48) sD10_feed_36 (by decide) ?_
      refine sd_ireturn sD10_feed_48 rfl (fun hr hm => ?_)
      exact sd_done (by unfold sp_feed; ((repeat (first | rw [if_pos (by first | assumption | omega)] | rw [if_neg (by first | assumption | omega)])); try rfl)) hx
  ·
    refine sd_aload_n sD10_feed_9 rfl ?_
    refine sd_ldc (z := -1000001) sD10_feed_10 sK10_51 (by decide) ?_
    refine sd_callV (as := [.inl (-1000001)]) (st := []) sD10_feed_12 sM10_52 rfl rfl sOC120 rfl (by decide) (Nat.le_of_ble_eq_true rfl) (cC_found (-1000001) 0 (by decide) (by decide) _ m hx (hF 0 (by decide))) (fun r m hq ho12 hm => ?_)
    obtain ⟨rfl, hx⟩ := hq
    show sd_Wp sd_SC 2 sY10_feed 15 [some (.inr 120), some (.inl v), some (.inl n)] [.inl (-1000001)] m _
    refine sd_ireturn sD10_feed_15 rfl (fun hr hm => ?_)
    exact sd_done (by unfold sp_feed; ((repeat (first | rw [if_pos (by first | assumption | omega)] | rw [if_neg (by first | assumption | omega)])); try rfl)) hx
