set_option maxRecDepth 100000 in
set_option maxHeartbeats 4000000 in
theorem cC_hours (w : Nat) (k : Nat → Int) (x m : sd_M) (hx : sd_ns x m) (h1 : sd_I1 x) (h5 : sd_I5 x) (hk : sd_kr k) (hmd : ∀ p, p < 6 → m (5010 + p) = k p) (hw : (w : Int) < x 4) : sd_Ct sd_SC 2 sY9_hoursTillItStands [.inr 23, .inl (w : Int), .inr 52] m (fun q m' => q = some (.inl (sd_fh x k w)) ∧ sd_ns x m' ∧ (¬ sd_fh x k w = -1 → m' (5020 + w) = sd_lkA x k w (sd_fh x k w).toNat)) := by
  refine sd_ct rfl (Nat.le_of_ble_eq_true rfl) (fun hok hm => ?_)
  obtain ⟨⟨i0, j0⟩, ⟨i1, j1⟩, ⟨i2, j2⟩, ⟨i3, j3⟩, ⟨i4, j4⟩, ⟨i5, j5⟩, ⟨i6, j6⟩, ⟨i7, j7⟩, ⟨i8, j8⟩⟩ := id h1
  show sd_Wp sd_SC 2 sY9_hoursTillItStands 0 [some (.inr 23), some (.inl (w : Int)), some (.inr 52), none] [] m _
  refine sd_aload_n sD9_hoursTillItStands_0 rfl ?_
  refine sd_getfr sD9_hoursTillItStands_1 sF9_18 sGC23_2 ?_
  refine sd_aload_n sD9_hoursTillItStands_4 rfl ?_
  refine sd_getfr sD9_hoursTillItStands_5 sF9_28 sGC23_5 ?_
  refine sd_callN (as := [.inr 19, .inr 22]) (st := []) sD9_hoursTillItStands_8 sM9_31 rfl rfl (by decide) (Nat.le_of_ble_eq_true rfl) (cC_copyRow sAC19 sAC22 (by decide) m) (fun r m hq ho8 hm => ?_)
  have hx0 := hx
  obtain ⟨rfl, hcp⟩ := hq
  have hmd : ∀ p, p < 6 → m (5010 + p) = k p := fun p hp => by rw [hcp]; unfold sd_cpm; rw [if_neg (by omega)]; exact hmd p hp
  have hr0 : ∀ p, p < 6 → m (5030 + p) = x (386 + p) := fun p hp => by rw [hcp]; unfold sd_cpm; rw [if_pos (by omega), hx0 _ (by omega)]; congr 1; omega
  replace hx : sd_ns x m := by rw [hcp]; exact hx.cpmc (by decide)
  show sd_Wp sd_SC 2 sY9_hoursTillItStands 11 [some (.inr 23), some (.inl (w : Int)), some (.inr 52), none] [] m _
  refine sd_iconst sD9_hoursTillItStands_11 (by decide) ?_
  refine sd_istore_n (ls' := [some (.inr 23), some (.inl (w : Int)), some (.inr 52), some (.inl 0)]) sD9_hoursTillItStands_12 (by decide) rfl ?_
  refine sd_forX (48) (fun zi13 : Nat => [some (.inr 23), some (.inl (w : Int)), some (.inr 52), some (.inl (zi13 : Int))]) (fun zi13 : Nat => x) (fun (zi13 : Nat) (m : sd_M) => (∀ p, p < 6 → m (5030 + p) = sd_hrk x k zi13 p) ∧ (∀ p, p < 6 → m (5010 + p) = k p) ∧ ∀ j, j < zi13 → ¬ sd_stA x k w j) (by rfl) (fun zi13 hizi13 m hx hpzi13 ihzi13 => ?_) (fun m hx hpzi13 => ?_) (by exact hx) (by exact ⟨hr0, hmd, fun j hj => absurd hj (by omega)⟩)
  ·
    refine sd_iload_n sD9_hoursTillItStands_13 rfl ?_
    refine sd_bipush sD9_hoursTillItStands_14 rfl (by decide) ?_
    refine sd_icmp_ge (tgt := 43) sD9_hoursTillItStands_16 (by decide) (fun zc16 => (by exfalso; omega)) (fun zc16 => ?_)
    refine sd_aload_n sD9_hoursTillItStands_19 rfl ?_
    refine sd_aload_n sD9_hoursTillItStands_20 rfl ?_
    refine sd_getfr sD9_hoursTillItStands_21 sF9_28 sGC23_5 ?_
    refine sd_aload_n sD9_hoursTillItStands_24 rfl ?_
    refine sd_callV (as := [.inr 22, .inr 52]) (st := []) sD9_hoursTillItStands_25 sM9_35 rfl rfl sOC23 rfl (by decide) (Nat.le_of_ble_eq_true rfl) (cC_hourF k (sd_hrk x k zi13) _ m m rfl hx h1 h5 hk (sd_hrk_rr h1 h5 hk zi13) hpzi13.2.1 hpzi13.1) (fun r m hq ho25 hm => ?_)
    obtain ⟨rfl, hkf, hrw, hlw⟩ := hq
    replace hx := hkf.ns (by decide) hx
    show sd_Wp sd_SC 2 sY9_hoursTillItStands 28 [some (.inr 23), some (.inl (w : Int)), some (.inr 52), some (.inl (zi13 : Int))] [.inl (sd_set (sd_stW x k (sd_hrk x k zi13)) (x 4).toNat)] m _
    refine sd_iload_n sD9_hoursTillItStands_28 rfl ?_
    refine sd_callNp (as := [.inl (sd_set (sd_stW x k (sd_hrk x k zi13)) (x 4).toNat), .inl (w : Int)]) (st := []) (v := .inl (sd_b (sd_bit (sd_set (sd_stW x k (sd_hrk x k zi13)) (x 4).toNat) (w : Int)))) sD9_hoursTillItStands_29 sM9_59 rfl rfl (by decide) (Nat.le_of_ble_eq_true rfl) (cC_isIn (sd_set (sd_stW x k (sd_hrk x k zi13)) (x 4).toNat) (w : Int) m) (fun ho29 => ?_)
    refine sd_bif_eq (tgt := 37) sD9_hoursTillItStands_32 (by decide) (fun zc32 => ?_) (fun zc32 => ?_)
    ·
      refine sd_iinc (y := ((zi13 : Int) + 1)) (ls' := [some (.inr 23), some (.inl (w : Int)), some (.inr 52), some (.inl ((zi13 : Int) + 1))]) sD9_hoursTillItStands_37 rfl (by omega) (by omega) (by decide) rfl ?_
      refine sd_goto (tgt := 13) sD9_hoursTillItStands_40 (by decide) ?_
      exact sd_eqw (ls' := [some (.inr 23), some (.inl (w : Int)), some (.inr 52), some (.inl ((zi13 + 1 : Nat) : Int))]) (ihzi13 m (by exact hx) (by exact ⟨hrw, fun p hp => (hkf _ (by omega)).trans (hpzi13.2.1 p hp), sd_all_succ hpzi13.2.2 (fun q => absurd ((sd_set_bit (sd_stW x k (sd_hrk x k zi13)) (n := (x 4).toNat) (w := w) (by omega) (by omega)).mpr ⟨by omega, q⟩) (by assumption))⟩)) (sd_cg rfl (sd_cg rfl (sd_cg rfl (sd_cg (sd_ce (show (((zi13 : Int) + 1) : Int) = ((zi13 + 1 : Nat) : Int) from by omega)) rfl)))) rfl
    ·
      refine sd_iload_n sD9_hoursTillItStands_35 rfl ?_
      refine sd_ireturn sD9_hoursTillItStands_36 rfl (fun hr hm => ?_)
      have zs : w < (x 4).toNat ∧ sd_stW x k (sd_hrk x k zi13) w := (sd_set_bit _ (by omega) (by omega)).mp (by assumption)
      have zf : sd_fh x k w = (zi13 : Int) := sd_fst_at (P := sd_stA x k w) hpzi13.2.2 zs.2 (by omega)
      exact ⟨by rw [zf], hx, fun _ => by rw [zf, Int.toNat_natCast, hlw w (by omega), if_pos zs]; rfl⟩
  ·
    show sd_Wp sd_SC 2 sY9_hoursTillItStands 13 [some (.inr 23), some (.inl (w : Int)), some (.inr 52), some (.inl (48 : Int))] [] m _
    refine sd_iload_n sD9_hoursTillItStands_13 rfl ?_
    refine sd_bipush sD9_hoursTillItStands_14 rfl (by decide) ?_
    refine sd_icmp_ge (tgt := 43) sD9_hoursTillItStands_16 (by decide) (fun zc16 => ?_) (fun zc16 => (by exfalso; omega))
    refine sd_iconst sD9_hoursTillItStands_43 (by decide) ?_
    refine sd_ireturn sD9_hoursTillItStands_44 rfl (fun hr hm => ?_)
    have zf : sd_fh x k w = -1 := sd_fst_none (P := sd_stA x k w) hpzi13.2.2
    exact ⟨by rw [zf], hx, fun q => absurd zf q⟩
