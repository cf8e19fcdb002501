set_option maxRecDepth 100000 in
set_option maxHeartbeats 4000000 in
theorem cC_countInForce (h : Int) (x m : sd_M) (hx : sd_ns x m) (h1 : sd_I1 x) (h6 : sd_I6 x) (hh : h = x 0) : sd_Cp sd_SC 1 sY8_countInForce [.inr 36, .inl h] m (.inl (sd_cF x)) := by
  refine sd_ct rfl (Nat.le_of_ble_eq_true rfl) (fun hok hm => ?_)
  obtain ⟨⟨i0, j0⟩, ⟨i1, j1⟩, ⟨i2, j2⟩, ⟨i3, j3⟩, ⟨i4, j4⟩, ⟨i5, j5⟩, ⟨i6, j6⟩, ⟨i7, j7⟩, ⟨i8, j8⟩⟩ := id h1
  have r_h : sd_R h := hok (.inl h) (by simp)
  show sd_Wp sd_SC 1 sY8_countInForce 0 [some (.inr 36), some (.inl h), none, none] [] m _
  refine sd_iconst sD8_countInForce_0 (by decide) ?_
  refine sd_istore_n (ls' := [some (.inr 36), some (.inl h), some (.inl 0), none]) sD8_countInForce_1 (by decide) rfl ?_
  refine sd_iconst sD8_countInForce_2 (by decide) ?_
  refine sd_istore_n (ls' := [some (.inr 36), some (.inl h), some (.inl 0), some (.inl 0)]) sD8_countInForce_3 (by decide) rfl ?_
  refine sd_forE ((x 5).toNat) (fun zi4 : Nat => [some (.inr 36), some (.inl h), some (.inl (sd_cnt (sd_Pf x) zi4)), some (.inl (zi4 : Int))]) (by rfl) (fun zi4 hizi4 ihzi4 => ?_) ?_
  ·
    have e5 := sd_cnt_le (sd_Pf x) zi4
    refine sd_iload_n sD8_countInForce_4 rfl ?_
    refine sd_aload_n sD8_countInForce_5 rfl ?_
    refine sd_getfx (v := x 5) hx sD8_countInForce_6 sF8_9 sGC36_0 (by decide) rfl ?_
    refine sd_icmp_ge (tgt := 30) sD8_countInForce_9 (by decide) (fun zc9 => (by exfalso; omega)) (fun zc9 => ?_)
    refine sd_iload_n sD8_countInForce_12 rfl ?_
    refine sd_aload_n sD8_countInForce_13 rfl ?_
    refine sd_iload_n sD8_countInForce_14 rfl ?_
    refine sd_iload_n sD8_countInForce_15 rfl ?_
    refine sd_callVp (as := [.inl (zi4 : Int), .inl h]) (st := [.inl (sd_cnt (sd_Pf x) zi4)]) (v := .inl (sd_b (sd_inF x zi4 h))) sD8_countInForce_16 sM8_56 sOC36 rfl rfl rfl (by decide) (Nat.le_of_ble_eq_true rfl) (cC_isInForce (zi4 : Int) h _ m hx h6 (by omega) (by first | rfl | assumption | omega | (simp only [sd_up]; rw [if_neg (by omega)]))) (fun ho16 => ?_)
    refine sd_callNp (as := [.inl (sd_b (sd_inF x zi4 h))]) (st := [.inl (sd_cnt (sd_Pf x) zi4)]) (v := .inl (sd_b (sd_inF x zi4 h))) sD8_countInForce_19 sM8_60 rfl rfl (by decide) (Nat.le_of_ble_eq_true rfl) (cC_asNumber (sd_inF x zi4 h) m) (fun ho19 => ?_)
    have zb22 := sd_b01 (sd_inF x zi4 h)
    refine sd_iadd (z := (sd_cnt (sd_Pf x) zi4 + sd_b (sd_inF x zi4 h))) sD8_countInForce_22 (by omega) (by omega) ?_
    refine sd_istore_n (ls' := [some (.inr 36), some (.inl h), some (.inl (sd_cnt (sd_Pf x) zi4 + sd_b (sd_inF x zi4 h))), some (.inl (zi4 : Int))]) sD8_countInForce_23 (by decide) rfl ?_
    refine sd_iinc (y := ((zi4 : Int) + 1)) (ls' := [some (.inr 36), some (.inl h), some (.inl (sd_cnt (sd_Pf x) zi4 + sd_b (sd_inF x zi4 h))), some (.inl ((zi4 : Int) + 1))]) sD8_countInForce_24 rfl (by omega) (by omega) (by decide) rfl ?_
    refine sd_goto (tgt := 4) sD8_countInForce_27 (by decide) ?_
    exact sd_eqw (ls' := [some (.inr 36), some (.inl h), some (.inl (sd_cnt (sd_Pf x) (zi4 + 1))), some (.inl ((zi4 + 1 : Nat) : Int))]) ihzi4 (by rw [show ((sd_cnt (sd_Pf x) zi4 + sd_b (sd_inF x zi4 h)) : Int) = sd_cnt (sd_Pf x) (zi4 + 1) from by (simp only [sd_cnt, sd_b, hh]), show (((zi4 : Int) + 1) : Int) = ((zi4 + 1 : Nat) : Int) from by omega]) rfl
  ·
    show sd_Wp sd_SC 1 sY8_countInForce 4 [some (.inr 36), some (.inl h), some (.inl (sd_cnt (sd_Pf x) ((x 5).toNat))), some (.inl ((((x 5).toNat) : Nat) : Int))] [] m _
    refine sd_iload_n sD8_countInForce_4 rfl ?_
    refine sd_aload_n sD8_countInForce_5 rfl ?_
    refine sd_getfx (v := x 5) hx sD8_countInForce_6 sF8_9 sGC36_0 (by decide) rfl ?_
    refine sd_icmp_ge (tgt := 30) sD8_countInForce_9 (by decide) (fun zc9 => ?_) (fun zc9 => (by exfalso; omega))
    refine sd_iload_n sD8_countInForce_30 rfl ?_
    refine sd_iretp sD8_countInForce_31 rfl ?_
    first | rfl | omega | (congr 1; omega)
