set_option maxRecDepth 100000 in
set_option maxHeartbeats 4000000 in
theorem cC_mealsIn (s : Int) (x m : sd_M) (hx : sd_ns x m) (h1 : sd_I1 x) (h2 : sd_I2 x) : sd_Cp sd_SC 1 sY1_mealsIn [.inr 13, .inl s] m (.inl (sd_mls x s)) := by
  refine sd_ct rfl (Nat.le_of_ble_eq_true rfl) (fun hok hm => ?_)
  obtain ⟨⟨i0, j0⟩, ⟨i1, j1⟩, ⟨i2, j2⟩, ⟨i3, j3⟩, ⟨i4, j4⟩, ⟨i5, j5⟩, ⟨i6, j6⟩, ⟨i7, j7⟩, ⟨i8, j8⟩⟩ := id h1
  have r_s : sd_R s := hok (.inl s) (by simp)
  show sd_Wp sd_SC 1 sY1_mealsIn 0 [some (.inr 13), some (.inl s), none, none] [] m _
  refine sd_iconst sD1_mealsIn_0 (by decide) ?_
  refine sd_istore_n (ls' := [some (.inr 13), some (.inl s), some (.inl 0), none]) sD1_mealsIn_1 (by decide) rfl ?_
  refine sd_iconst sD1_mealsIn_2 (by decide) ?_
  refine sd_istore_n (ls' := [some (.inr 13), some (.inl s), some (.inl 0), some (.inl 0)]) sD1_mealsIn_3 (by decide) rfl ?_
  refine sd_forE ((x 2).toNat) (fun zi4 : Nat => [some (.inr 13), some (.inl s), some (.inl (sd_sum (sd_fml x s) zi4)), some (.inl (zi4 : Int))]) (by rfl) (fun zi4 hizi4 ihzi4 => ?_) ?_
  ·
    have e2 := h2 zi4 (by omega)
    have e5 := sd_sum_le (f := sd_fml x s) (n := zi4) (B := 99) (fun i hi => sd_fml_le h2 s i (by omega))
    refine sd_iload_n sD1_mealsIn_4 rfl ?_
    refine sd_aload_n sD1_mealsIn_5 rfl ?_
    refine sd_getfx (v := x 2) hx sD1_mealsIn_6 sF1_9 sGC13_0 (by decide) rfl ?_
    refine sd_icmp_ge (tgt := 45) sD1_mealsIn_9 (by decide) (fun zc9 => (by exfalso; omega)) (fun zc9 => ?_)
    refine sd_iload_n sD1_mealsIn_12 rfl ?_
    refine sd_iload_n sD1_mealsIn_13 rfl ?_
    refine sd_callNp (as := [.inl s, .inl (zi4 : Int)]) (st := []) (v := .inl (sd_b (sd_bit s (zi4 : Int)))) sD1_mealsIn_14 sM1_96 rfl rfl (by decide) (Nat.le_of_ble_eq_true rfl) (cC_isIn s (zi4 : Int) m) (fun ho14 => ?_)
    refine sd_bif_eq (tgt := 39) sD1_mealsIn_17 (by decide) (fun zc17 => ?_) (fun zc17 => ?_)
    ·
      refine sd_iinc (y := ((zi4 : Int) + 1)) (ls' := [some (.inr 13), some (.inl s), some (.inl (sd_sum (sd_fml x s) zi4)), some (.inl ((zi4 : Int) + 1))]) sD1_mealsIn_39 rfl (by omega) (by omega) (by decide) rfl ?_
      refine sd_goto (tgt := 4) sD1_mealsIn_42 (by decide) ?_
      exact sd_eqw (ls' := [some (.inr 13), some (.inl s), some (.inl (sd_sum (sd_fml x s) (zi4 + 1))), some (.inl ((zi4 + 1 : Nat) : Int))]) ihzi4 (by rw [show (sd_sum (sd_fml x s) zi4 : Int) = sd_sum (sd_fml x s) (zi4 + 1) from by (simp only [sd_sum]; unfold sd_fml; first | (rw [if_pos ⟨by assumption, by assumption⟩]; done) | (rw [if_neg (fun hp => by have a1 := hp.1; have a2 := hp.2; first | omega | contradiction)]; omega)), show (((zi4 : Int) + 1) : Int) = ((zi4 + 1 : Nat) : Int) from by omega]) rfl
    ·
      refine sd_aload_n sD1_mealsIn_20 rfl ?_
      refine sd_getfr sD1_mealsIn_21 sF1_18 sGC13_2 ?_
      refine sd_iload_n sD1_mealsIn_24 rfl ?_
      refine sd_ialdx (a := (10 + zi4)) (v := x (10 + zi4)) hx sD1_mealsIn_25 sAC0 (by omega) rfl ?_
      refine sd_iconst sD1_mealsIn_26 (by decide) ?_
      refine sd_icmp_ne (tgt := 39) sD1_mealsIn_27 (by decide) (fun zc27 => ?_) (fun zc27 => ?_)
      ·
        refine sd_iinc (y := ((zi4 : Int) + 1)) (ls' := [some (.inr 13), some (.inl s), some (.inl (sd_sum (sd_fml x s) zi4)), some (.inl ((zi4 : Int) + 1))]) sD1_mealsIn_39 rfl (by omega) (by omega) (by decide) rfl ?_
        refine sd_goto (tgt := 4) sD1_mealsIn_42 (by decide) ?_
        exact sd_eqw (ls' := [some (.inr 13), some (.inl s), some (.inl (sd_sum (sd_fml x s) (zi4 + 1))), some (.inl ((zi4 + 1 : Nat) : Int))]) ihzi4 (by rw [show (sd_sum (sd_fml x s) zi4 : Int) = sd_sum (sd_fml x s) (zi4 + 1) from by (simp only [sd_sum]; unfold sd_fml; first | (rw [if_pos ⟨by assumption, by assumption⟩]; done) | (rw [if_neg (fun hp => by have a1 := hp.1; have a2 := hp.2; first | omega | contradiction)]; omega)), show (((zi4 : Int) + 1) : Int) = ((zi4 + 1 : Nat) : Int) from by omega]) rfl
      ·
        refine sd_iload_n sD1_mealsIn_30 rfl ?_
        refine sd_aload_n sD1_mealsIn_31 rfl ?_
        refine sd_getfr sD1_mealsIn_32 sF1_37 sGC13_8 ?_
        refine sd_iload_n sD1_mealsIn_35 rfl ?_
        refine sd_ialdx (a := (154 + zi4)) (v := x (154 + zi4)) hx sD1_mealsIn_36 sAC6 (by omega) rfl ?_
        refine sd_iadd (z := (sd_sum (sd_fml x s) zi4 + x (154 + zi4))) sD1_mealsIn_37 (by omega) (by omega) ?_
        refine sd_istore_n (ls' := [some (.inr 13), some (.inl s), some (.inl (sd_sum (sd_fml x s) zi4 + x (154 + zi4))), some (.inl (zi4 : Int))]) sD1_mealsIn_38 (by decide) rfl ?_
        refine sd_iinc (y := ((zi4 : Int) + 1)) (ls' := [some (.inr 13), some (.inl s), some (.inl (sd_sum (sd_fml x s) zi4 + x (154 + zi4))), some (.inl ((zi4 : Int) + 1))]) sD1_mealsIn_39 rfl (by omega) (by omega) (by decide) rfl ?_
        refine sd_goto (tgt := 4) sD1_mealsIn_42 (by decide) ?_
        exact sd_eqw (ls' := [some (.inr 13), some (.inl s), some (.inl (sd_sum (sd_fml x s) (zi4 + 1))), some (.inl ((zi4 + 1 : Nat) : Int))]) ihzi4 (by rw [show ((sd_sum (sd_fml x s) zi4 + x (154 + zi4)) : Int) = sd_sum (sd_fml x s) (zi4 + 1) from by (simp only [sd_sum]; unfold sd_fml; first | (rw [if_pos ⟨by assumption, by assumption⟩]; done) | (rw [if_neg (fun hp => by have a1 := hp.1; have a2 := hp.2; first | omega | contradiction)]; omega)), show (((zi4 : Int) + 1) : Int) = ((zi4 + 1 : Nat) : Int) from by omega]) rfl
  ·
    show sd_Wp sd_SC 1 sY1_mealsIn 4 [some (.inr 13), some (.inl s), some (.inl (sd_sum (sd_fml x s) ((x 2).toNat))), some (.inl ((((x 2).toNat) : Nat) : Int))] [] m _
    refine sd_iload_n sD1_mealsIn_4 rfl ?_
    refine sd_aload_n sD1_mealsIn_5 rfl ?_
    refine sd_getfx (v := x 2) hx sD1_mealsIn_6 sF1_9 sGC13_0 (by decide) rfl ?_
    refine sd_icmp_ge (tgt := 45) sD1_mealsIn_9 (by decide) (fun zc9 => ?_) (fun zc9 => (by exfalso; omega))
    refine sd_iload_n sD1_mealsIn_45 rfl ?_
    refine sd_iretp sD1_mealsIn_46 rfl ?_
    first | rfl | omega | (congr 1; omega)
