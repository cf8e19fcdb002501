set_option maxRecDepth 100000 in
set_option maxHeartbeats 4000000 in
theorem cC_wclose (k : Nat → Int) (x m : sd_M) (hx : sd_ns x m) (h1 : sd_I1 x) (h5 : sd_I5 x) (hk : sd_kr k) (hmd : ∀ p, p < 6 → m (5010 + p) = k p) : sd_Ct sd_SC 2 sY9_closeHour [.inr 23, .inr 52] m (fun q m' => q = some (.inl (sd_set (sd_stW x k (sd_stx x)) (x 4).toNat)) ∧ sd_ns (sd_rc x (sd_hr x k (sd_stx x)) (x 8 + (x 4 - sd_cnt (sd_stW x k (sd_stx x)) (x 4).toNat))) m') := by
  refine sd_ct rfl (Nat.le_of_ble_eq_true rfl) (fun hok hm => ?_)
  obtain ⟨⟨i0, j0⟩, ⟨i1, j1⟩, ⟨i2, j2⟩, ⟨i3, j3⟩, ⟨i4, j4⟩, ⟨i5, j5⟩, ⟨i6, j6⟩, ⟨i7, j7⟩, ⟨i8, j8⟩⟩ := id h1
  show sd_Wp sd_SC 2 sY9_closeHour 0 [some (.inr 23), some (.inr 52), none] [] m _
  refine sd_aload_n sD9_closeHour_0 rfl ?_
  refine sd_aload_n sD9_closeHour_1 rfl ?_
  refine sd_getfr sD9_closeHour_2 sF9_18 sGC23_2 ?_
  refine sd_aload_n sD9_closeHour_5 rfl ?_
  refine sd_callV (as := [.inr 19, .inr 52]) (st := []) sD9_closeHour_6 sM9_35 rfl rfl sOC23 rfl (by decide) (Nat.le_of_ble_eq_true rfl) (cC_hourS k (sd_stx x) x m (sd_nseq (sd_rc_0 x) hx) h1 h5 hk (fun p hp => h5.1 p hp) hmd) (fun r m hq ho6 hm => ?_)
  obtain ⟨rfl, hx⟩ := hq
  show sd_Wp sd_SC 2 sY9_closeHour 9 [some (.inr 23), some (.inr 52), none] [.inl (sd_set (sd_stW x k (sd_stx x)) (x 4).toNat)] m _
  refine sd_istore_n (ls' := [some (.inr 23), some (.inr 52), some (.inl (sd_set (sd_stW x k (sd_stx x)) (x 4).toNat))]) sD9_closeHour_9 (by decide) rfl ?_
  have ew := sd_set_rng (sd_stW x k (sd_stx x)) (x 4).toNat (by omega)
  have eo := sd_ones_rng (sd_set (sd_stW x k (sd_stx x)) (x 4).toNat)
  refine sd_aload_n sD9_closeHour_10 rfl ?_
  refine sd_dup sD9_closeHour_11 ?_
  refine sd_getfx (v := x 8) hx sD9_closeHour_12 sF9_15 sGC23_1 (by decide) (by unfold sd_rc; rw [if_pos rfl]) ?_
  refine sd_aload_n sD9_closeHour_15 rfl ?_
  refine sd_getfx (v := x 4) hx sD9_closeHour_16 sF9_9 sGC23_0 (by decide) (sd_rc_o (by omega) (by omega)) ?_
  refine sd_iload_n sD9_closeHour_19 rfl ?_
  refine sd_callSp (as := [.inl (sd_set (sd_stW x k (sd_stx x)) (x 4).toNat)]) (st := [.inl (x 4), .inl (x 8), .inr 23]) (v := .inl (sd_ones (sd_set (sd_stW x k (sd_stx x)) (x 4).toNat))) sD9_closeHour_20 sM9_39 rfl rfl (by decide) (Nat.le_of_ble_eq_true rfl) (cC_bitCount (sd_set (sd_stW x k (sd_stx x)) (x 4).toNat) m (by first | omega | assumption)) (fun ho20 => ?_)
  refine sd_isub (z := (x 4 - (sd_ones (sd_set (sd_stW x k (sd_stx x)) (x 4).toNat)))) sD9_closeHour_23 (by omega) (by omega) ?_
  refine sd_iadd (z := (x 8 + (x 4 - (sd_ones (sd_set (sd_stW x k (sd_stx x)) (x 4).toNat))))) sD9_closeHour_24 (by omega) (by omega) ?_
  refine sd_putfx sd_sokC sd_oneC hx sD9_closeHour_25 sF9_15 sGC23_1 (Or.inl rfl) (fun m hx em25 => ?_)
  refine sd_iload_n sD9_closeHour_28 rfl ?_
  refine sd_ireturn sD9_closeHour_29 rfl (fun hr hm => ?_)
  exact ⟨rfl, sd_nseq (fun j => by rw [sd_ones_set _ _ (by omega)]; exact sd_rc_8 j) hx⟩
