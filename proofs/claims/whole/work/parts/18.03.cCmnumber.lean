set_option maxRecDepth 100000 in
set_option maxHeartbeats 4000000 in
theorem cC_mnumber (i : Int) (w : Int) (x m : sd_M) (hx : sd_ns x m) (h1 : sd_I1 x) (hi : 0 ≤ i ∧ i < 16) : sd_Cp sd_SC 0 sY3_number [.inr 18, .inl i, .inl w] m (.inl (if w = 0 then x (322 + i.toNat) else if w = 1 then x (338 + i.toNat) else if w = 2 then x (354 + i.toNat) else x (370 + i.toNat))) := by
  refine sd_ct rfl (Nat.le_of_ble_eq_true rfl) (fun hok hm => ?_)
  obtain ⟨⟨i0, j0⟩, ⟨i1, j1⟩, ⟨i2, j2⟩, ⟨i3, j3⟩, ⟨i4, j4⟩, ⟨i5, j5⟩, ⟨i6, j6⟩, ⟨i7, j7⟩, ⟨i8, j8⟩⟩ := id h1
  have r_i : sd_R i := hok (.inl i) (by simp)
  have r_w : sd_R w := hok (.inl w) (by simp)
  show sd_Wp sd_SC 0 sY3_number 0 [some (.inr 18), some (.inl i), some (.inl w)] [] m _
  refine sd_iload_n sD3_number_0 rfl ?_
  rcases (show w = 0 ∨ w = 1 ∨ w = 2 ∨ (w < 0 ∨ 2 < w) by omega) with zc1 | zc1 | zc1 | zc1
  ·
    refine sd_tsw (off := 27) (tgt := 28) sD3_number_1 (by omega) (by rw [zc1]; rfl) (by decide) ?_
    subst zc1
    refine sd_aload_n sD3_number_28 rfl ?_
    refine sd_getfr sD3_number_29 sF3_15 sGC18_1 ?_
    refine sd_iload_n sD3_number_32 rfl ?_
    refine sd_ialdx (a := (322 + i.toNat)) (v := x (322 + i.toNat)) hx sD3_number_33 sAC14 (by omega) rfl ?_
    refine sd_iretp sD3_number_34 rfl ?_
    (repeat (first | rw [if_pos (by omega)] | rw [if_neg (by omega)]))
  ·
    refine sd_tsw (off := 34) (tgt := 35) sD3_number_1 (by omega) (by rw [zc1]; rfl) (by decide) ?_
    subst zc1
    refine sd_aload_n sD3_number_35 rfl ?_
    refine sd_getfr sD3_number_36 sF3_19 sGC18_2 ?_
    refine sd_iload_n sD3_number_39 rfl ?_
    refine sd_ialdx (a := (338 + i.toNat)) (v := x (338 + i.toNat)) hx sD3_number_40 sAC15 (by omega) rfl ?_
    refine sd_iretp sD3_number_41 rfl ?_
    (repeat (first | rw [if_pos (by omega)] | rw [if_neg (by omega)]))
  ·
    refine sd_tsw (off := 41) (tgt := 42) sD3_number_1 (by omega) (by rw [zc1]; rfl) (by decide) ?_
    subst zc1
    refine sd_aload_n sD3_number_42 rfl ?_
    refine sd_getfr sD3_number_43 sF3_22 sGC18_3 ?_
    refine sd_iload_n sD3_number_46 rfl ?_
    refine sd_ialdx (a := (354 + i.toNat)) (v := x (354 + i.toNat)) hx sD3_number_47 sAC16 (by omega) rfl ?_
    refine sd_iretp sD3_number_48 rfl ?_
    (repeat (first | rw [if_pos (by omega)] | rw [if_neg (by omega)]))
  ·
    refine sd_tswd (tgt := 49) sD3_number_1 zc1 (by decide) ?_
    refine sd_aload_n sD3_number_49 rfl ?_
    refine sd_getfr sD3_number_50 sF3_25 sGC18_4 ?_
    refine sd_iload_n sD3_number_53 rfl ?_
    refine sd_ialdx (a := (370 + i.toNat)) (v := x (370 + i.toNat)) hx sD3_number_54 sAC17 (by omega) rfl ?_
    refine sd_iretp sD3_number_55 rfl ?_
    (repeat (first | rw [if_pos (by omega)] | rw [if_neg (by omega)]))
