set_option maxRecDepth 100000 in
set_option maxHeartbeats 4000000 in
theorem cC_hasRoomFor (k : Int) (x m : sd_M) (hx : sd_ns x m) (h1 : sd_I1 x) : sd_Cp sd_SC 0 sY1_hasRoomFor [.inr 13, .inl k] m (.inl (sd_b (x 2 < 24 ∧ ((¬ (k = 1 ∨ k = 2)) ∨ x 6004 < 8)))) := by
  refine sd_ct rfl (Nat.le_of_ble_eq_true rfl) (fun hok hm => ?_)
  obtain ⟨⟨i0, j0⟩, ⟨i1, j1⟩, ⟨i2, j2⟩, ⟨i3, j3⟩, ⟨i4, j4⟩, ⟨i5, j5⟩, ⟨i6, j6⟩, ⟨i7, j7⟩, ⟨i8, j8⟩⟩ := id h1
  have r_k : sd_R k := hok (.inl k) (by simp)
  show sd_Wp sd_SC 0 sY1_hasRoomFor 0 [some (.inr 13), some (.inl k), none] [] m _
  refine sd_iload_n sD1_hasRoomFor_0 rfl ?_
  refine sd_iconst sD1_hasRoomFor_1 (by decide) ?_
  refine sd_cut (J := 15) (ls := [some (.inr 13), some (.inl k), none]) (st := []) (fun zv => zv = (sd_b ((k = 1) ∨ ((¬ k = 1) ∧ (k = 2))))) (fun zv hzv => ?_) (fun K2 => ?_)
  ·
    subst hzv
    refine sd_istore_n (ls' := [some (.inr 13), some (.inl k), some (.inl (sd_b ((k = 1) ∨ ((¬ k = 1) ∧ (k = 2)))))]) sD1_hasRoomFor_15 (by decide) rfl ?_
    refine sd_aload_n sD1_hasRoomFor_16 rfl ?_
    refine sd_getfx (v := x 2) hx sD1_hasRoomFor_17 sF1_9 sGC13_0 (by decide) rfl ?_
    refine sd_bipush sD1_hasRoomFor_20 rfl (by decide) ?_
    refine sd_icmp_ge (tgt := 42) sD1_hasRoomFor_22 (by decide) (fun zc22 => ?_) (fun zc22 => ?_)
    ·
      refine sd_iconst sD1_hasRoomFor_42 (by decide) ?_
      refine sd_zretp sD1_hasRoomFor_43 rfl (by decide) ?_
      exact (sd_b0 (by omega)).symm
    ·
      refine sd_iload_n sD1_hasRoomFor_25 rfl ?_
      refine sd_bif_eq (tgt := 38) sD1_hasRoomFor_26 (by decide) (fun zc26 => ?_) (fun zc26 => ?_)
      ·
        refine sd_iconst sD1_hasRoomFor_38 (by decide) ?_
        refine sd_goto (tgt := 43) sD1_hasRoomFor_39 (by decide) ?_
        refine sd_zretp sD1_hasRoomFor_43 rfl (by decide) ?_
        exact (sd_b1 (by omega)).symm
      ·
        refine sd_aload_n sD1_hasRoomFor_29 rfl ?_
        refine sd_getfx (v := x 6004) hx sD1_hasRoomFor_30 sF1_15 sGC13_1 (by decide) rfl ?_
        refine sd_bipush sD1_hasRoomFor_33 rfl (by decide) ?_
        refine sd_icmp_ge (tgt := 42) sD1_hasRoomFor_35 (by decide) (fun zc35 => ?_) (fun zc35 => ?_)
        ·
          refine sd_iconst sD1_hasRoomFor_42 (by decide) ?_
          refine sd_zretp sD1_hasRoomFor_43 rfl (by decide) ?_
          exact (sd_b0 (by omega)).symm
        ·
          refine sd_iconst sD1_hasRoomFor_38 (by decide) ?_
          refine sd_goto (tgt := 43) sD1_hasRoomFor_39 (by decide) ?_
          refine sd_zretp sD1_hasRoomFor_43 rfl (by decide) ?_
          exact (sd_b1 (by omega)).symm
  ·
    refine sd_icmp_eq (tgt := 10) sD1_hasRoomFor_2 (by decide) (fun zc2 => ?_) (fun zc2 => ?_)
    ·
      refine sd_iconst sD1_hasRoomFor_10 (by decide) ?_
      refine sd_goto (tgt := 15) sD1_hasRoomFor_11 (by decide) ?_
      exact K2 _ (by exact (sd_b1 (by omega)).symm)
    ·
      refine sd_iload_n sD1_hasRoomFor_5 rfl ?_
      refine sd_iconst sD1_hasRoomFor_6 (by decide) ?_
      refine sd_icmp_ne (tgt := 14) sD1_hasRoomFor_7 (by decide) (fun zc7 => ?_) (fun zc7 => ?_)
      ·
        refine sd_iconst sD1_hasRoomFor_14 (by decide) ?_
        exact K2 _ (by exact (sd_b0 (by omega)).symm)
      ·
        refine sd_iconst sD1_hasRoomFor_10 (by decide) ?_
        refine sd_goto (tgt := 15) sD1_hasRoomFor_11 (by decide) ?_
        exact K2 _ (by exact (sd_b1 (by omega)).symm)
