set_option maxRecDepth 100000 in
set_option maxHeartbeats 4000000 in
theorem cC_would (W : Int) (k : Nat → Int) (x m : sd_M) (hx : sd_ns x m) (h1 : sd_I1 x) (h5 : sd_I5 x) (hk : sd_kr k) (hmd : ∀ p, p < 6 → m (5010 + p) = k p) (hW : 0 ≤ W ∧ W < ((2 ^ (x 4).toNat : Nat) : Int)) : sd_Ct sd_SC 2 sY9_wouldAllStand [.inr 23, .inl W, .inr 52] m (fun q m' => q = some (.inl (sd_b (sd_all x k W))) ∧ sd_ns x m') := by
  refine sd_ct rfl (Nat.le_of_ble_eq_true rfl) (fun hok hm => ?_)
  obtain ⟨⟨i0, j0⟩, ⟨i1, j1⟩, ⟨i2, j2⟩, ⟨i3, j3⟩, ⟨i4, j4⟩, ⟨i5, j5⟩, ⟨i6, j6⟩, ⟨i7, j7⟩, ⟨i8, j8⟩⟩ := id h1
  show sd_Wp sd_SC 2 sY9_wouldAllStand 0 [some (.inr 23), some (.inl W), some (.inr 52), none, none] [] m _
  refine sd_aload_n sD9_wouldAllStand_0 rfl ?_
  refine sd_getfr sD9_wouldAllStand_1 sF9_18 sGC23_2 ?_
  refine sd_aload_n sD9_wouldAllStand_4 rfl ?_
  refine sd_getfr sD9_wouldAllStand_5 sF9_28 sGC23_5 ?_
  refine sd_callN (as := [.inr 19, .inr 22]) (st := []) sD9_wouldAllStand_8 sM9_31 rfl rfl (by decide) (Nat.le_of_ble_eq_true rfl) (cC_copyRow sAC19 sAC22 (by decide) m) (fun r m hq ho8 hm => ?_)
  have hx0 := hx
  obtain ⟨rfl, hcp⟩ := hq
  have hmd : ∀ p, p < 6 → m (5010 + p) = k p := fun p hp => by rw [hcp]; unfold sd_cpm; rw [if_neg (by omega)]; exact hmd p hp
  have hr0 : ∀ p, p < 6 → m (5030 + p) = x (386 + p) := fun p hp => by rw [hcp]; unfold sd_cpm; rw [if_pos (by omega), hx0 _ (by omega)]; congr 1; omega
  replace hx : sd_ns x m := by rw [hcp]; exact hx.cpmc (by decide)
  show sd_Wp sd_SC 2 sY9_wouldAllStand 11 [some (.inr 23), some (.inl W), some (.inr 52), none, none] [] m _
  refine sd_iload_n sD9_wouldAllStand_11 rfl ?_
  refine sd_istore_n (ls' := [some (.inr 23), some (.inl W), some (.inr 52), some (.inl W), none]) sD9_wouldAllStand_12 (by decide) rfl ?_
  refine sd_iconst sD9_wouldAllStand_13 (by decide) ?_
  refine sd_istore (ls' := [some (.inr 23), some (.inl W), some (.inr 52), some (.inl W), some (.inl 0)]) sD9_wouldAllStand_14 (by decide) rfl ?_
  refine sd_forX (48) (fun zi16 : Nat => [some (.inr 23), some (.inl W), some (.inr 52), some (.inl (sd_lft x k W zi16)), some (.inl (zi16 : Int))]) (fun zi16 : Nat => x) (fun (zi16 : Nat) (m : sd_M) => (∀ p, p < 6 → m (5030 + p) = sd_hrk x k zi16 p) ∧ (∀ p, p < 6 → m (5010 + p) = k p)) (by rfl) (fun zi16 hizi16 m hx hpzi16 ihzi16 => ?_) (fun m hx hpzi16 => ?_) (by exact hx) (by exact ⟨hr0, hmd⟩)
  ·
    refine sd_iload sD9_wouldAllStand_16 rfl ?_
    refine sd_bipush sD9_wouldAllStand_18 rfl (by decide) ?_
    refine sd_icmp_ge (tgt := 47) sD9_wouldAllStand_20 (by decide) (fun zc20 => (by exfalso; omega)) (fun zc20 => ?_)
    refine sd_iload_n sD9_wouldAllStand_23 rfl ?_
    refine sd_if_eq (tgt := 47) sD9_wouldAllStand_24 (by decide) (fun zc24 => ?_) (fun zc24 => ?_)
    ·
      refine sd_iload_n sD9_wouldAllStand_47 rfl ?_
      refine sd_if_ne (tgt := 55) sD9_wouldAllStand_48 (by decide) (fun zc48 => ?_) (fun zc48 => ?_)
      ·
        refine sd_iconst sD9_wouldAllStand_55 (by decide) ?_
        refine sd_zreturn sD9_wouldAllStand_56 rfl (by decide) (fun hm => ?_)
        first | (exfalso; contradiction) | exact ⟨by rw [sd_b1 ((sd_lft_all h1 k hW).mp (sd_lft_0 (i := zi16) (by assumption) 48 (by omega)))], hx⟩ | exact ⟨by rw [sd_b1 ((sd_lft_all h1 k hW).mp (by assumption))], hx⟩ | exact ⟨by rw [sd_b0 (fun q => by have q2 := (sd_lft_all h1 k hW).mpr q; contradiction)], hx⟩ | (exfalso; contradiction)
      ·
        refine sd_iconst sD9_wouldAllStand_51 (by decide) ?_
        refine sd_goto (tgt := 56) sD9_wouldAllStand_52 (by decide) ?_
        refine sd_zreturn sD9_wouldAllStand_56 rfl (by decide) (fun hm => ?_)
        first | (exfalso; contradiction) | exact ⟨by rw [sd_b1 ((sd_lft_all h1 k hW).mp (sd_lft_0 (i := zi16) (by assumption) 48 (by omega)))], hx⟩ | exact ⟨by rw [sd_b1 ((sd_lft_all h1 k hW).mp (by assumption))], hx⟩ | exact ⟨by rw [sd_b0 (fun q => by have q2 := (sd_lft_all h1 k hW).mpr q; contradiction)], hx⟩ | (exfalso; contradiction)
    ·
      refine sd_iload_n sD9_wouldAllStand_27 rfl ?_
      refine sd_aload_n sD9_wouldAllStand_28 rfl ?_
      refine sd_aload_n sD9_wouldAllStand_29 rfl ?_
      refine sd_getfr sD9_wouldAllStand_30 sF9_28 sGC23_5 ?_
      refine sd_aload_n sD9_wouldAllStand_33 rfl ?_
      refine sd_callV (as := [.inr 22, .inr 52]) (st := [.inl (sd_lft x k W zi16)]) sD9_wouldAllStand_34 sM9_35 rfl rfl sOC23 rfl (by decide) (Nat.le_of_ble_eq_true rfl) (cC_hourF k (sd_hrk x k zi16) _ m m rfl hx h1 h5 hk (sd_hrk_rr h1 h5 hk zi16) hpzi16.2 hpzi16.1) (fun r m hq ho34 hm => ?_)
      obtain ⟨rfl, hkf, hrw, hlw⟩ := hq
      replace hx := hkf.ns (by decide) hx
      show sd_Wp sd_SC 2 sY9_wouldAllStand 37 [some (.inr 23), some (.inl W), some (.inr 52), some (.inl (sd_lft x k W zi16)), some (.inl (zi16 : Int))] [.inl (sd_set (sd_stW x k (sd_hrk x k zi16)) (x 4).toNat), .inl (sd_lft x k W zi16)] m _
      refine sd_iconst sD9_wouldAllStand_37 (by decide) ?_
      refine sd_ixor sD9_wouldAllStand_38 ?_
      refine sd_iand sD9_wouldAllStand_39 ?_
      refine sd_istore_n (ls' := [some (.inr 23), some (.inl W), some (.inr 52), some (.inl (sd_and (sd_lft x k W zi16) (sd_xor (sd_set (sd_stW x k (sd_hrk x k zi16)) (x 4).toNat) (-1)))), some (.inl (zi16 : Int))]) sD9_wouldAllStand_40 (by decide) rfl ?_
      refine sd_iinc (y := ((zi16 : Int) + 1)) (ls' := [some (.inr 23), some (.inl W), some (.inr 52), some (.inl (sd_and (sd_lft x k W zi16) (sd_xor (sd_set (sd_stW x k (sd_hrk x k zi16)) (x 4).toNat) (-1)))), some (.inl ((zi16 : Int) + 1))]) sD9_wouldAllStand_41 rfl (by omega) (by omega) (by decide) rfl ?_
      refine sd_goto (tgt := 16) sD9_wouldAllStand_44 (by decide) ?_
      exact sd_eqw (ls' := [some (.inr 23), some (.inl W), some (.inr 52), some (.inl (sd_lft x k W (zi16 + 1))), some (.inl ((zi16 + 1 : Nat) : Int))]) (ihzi16 m (by exact hx) (by exact ⟨hrw, fun p hp => (hkf _ (by omega)).trans (hpzi16.2 p hp)⟩)) (sd_cg rfl (sd_cg rfl (sd_cg rfl (sd_cg (sd_ce (show (sd_and (sd_lft x k W zi16) (sd_xor (sd_set (sd_stW x k (sd_hrk x k zi16)) (x 4).toNat) (-1)) : Int) = sd_lft x k W (zi16 + 1) from by rfl)) (sd_cg (sd_ce (show (((zi16 : Int) + 1) : Int) = ((zi16 + 1 : Nat) : Int) from by omega)) rfl))))) rfl
  ·
    show sd_Wp sd_SC 2 sY9_wouldAllStand 16 [some (.inr 23), some (.inl W), some (.inr 52), some (.inl (sd_lft x k W 48)), some (.inl (48 : Int))] [] m _
    refine sd_iload sD9_wouldAllStand_16 rfl ?_
    refine sd_bipush sD9_wouldAllStand_18 rfl (by decide) ?_
    refine sd_icmp_ge (tgt := 47) sD9_wouldAllStand_20 (by decide) (fun zc20 => ?_) (fun zc20 => (by exfalso; omega))
    refine sd_iload_n sD9_wouldAllStand_47 rfl ?_
    refine sd_if_ne (tgt := 55) sD9_wouldAllStand_48 (by decide) (fun zc48 => ?_) (fun zc48 => ?_)
    ·
      refine sd_iconst sD9_wouldAllStand_55 (by decide) ?_
      refine sd_zreturn sD9_wouldAllStand_56 rfl (by decide) (fun hm => ?_)
      first | (exfalso; contradiction) | exact ⟨by rw [sd_b1 ((sd_lft_all h1 k hW).mp (sd_lft_0 (i := zi16) (by assumption) 48 (by omega)))], hx⟩ | exact ⟨by rw [sd_b1 ((sd_lft_all h1 k hW).mp (by assumption))], hx⟩ | exact ⟨by rw [sd_b0 (fun q => by have q2 := (sd_lft_all h1 k hW).mpr q; contradiction)], hx⟩ | (exfalso; contradiction)
    ·
      refine sd_iconst sD9_wouldAllStand_51 (by decide) ?_
      refine sd_goto (tgt := 56) sD9_wouldAllStand_52 (by decide) ?_
      refine sd_zreturn sD9_wouldAllStand_56 rfl (by decide) (fun hm => ?_)
      first | (exfalso; contradiction) | exact ⟨by rw [sd_b1 ((sd_lft_all h1 k hW).mp (sd_lft_0 (i := zi16) (by assumption) 48 (by omega)))], hx⟩ | exact ⟨by rw [sd_b1 ((sd_lft_all h1 k hW).mp (by assumption))], hx⟩ | exact ⟨by rw [sd_b0 (fun q => by have q2 := (sd_lft_all h1 k hW).mpr q; contradiction)], hx⟩ | (exfalso; contradiction)
