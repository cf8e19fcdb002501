set_option maxRecDepth 100000 in
set_option maxHeartbeats 4000000 in
theorem cC_warmthBehind (s : Int) (w : Int) (t : Int) (x m : sd_M) (hx : sd_ns x m) (h1 : sd_I1 x) (h2 : sd_I2 x) (hw : 0 ≤ w ∧ w ≤ 20) (ht : t = x 1) : sd_Cp sd_SC 1 sY1_warmthBehind [.inr 13, .inl s, .inl w, .inl t] m (.inl (sd_wth x s w)) := by
  refine sd_ct rfl (Nat.le_of_ble_eq_true rfl) (fun hok hm => ?_)
  obtain ⟨⟨i0, j0⟩, ⟨i1, j1⟩, ⟨i2, j2⟩, ⟨i3, j3⟩, ⟨i4, j4⟩, ⟨i5, j5⟩, ⟨i6, j6⟩, ⟨i7, j7⟩, ⟨i8, j8⟩⟩ := id h1
  have r_s : sd_R s := hok (.inl s) (by simp)
  have r_w : sd_R w := hok (.inl w) (by simp)
  have r_t : sd_R t := hok (.inl t) (by simp)
  show sd_Wp sd_SC 1 sY1_warmthBehind 0 [some (.inr 13), some (.inl s), some (.inl w), some (.inl t)] [] m _
  refine sd_aload_n sD1_warmthBehind_0 rfl ?_
  refine sd_iload_n sD1_warmthBehind_1 rfl ?_
  refine sd_iconst sD1_warmthBehind_2 (by decide) ?_
  refine sd_callVp (as := [.inl s, .inl 0]) (st := []) (v := .inl (sd_b (sd_pip x s 0))) sD1_warmthBehind_3 sM1_79 sOC13 rfl rfl rfl (by decide) (Nat.le_of_ble_eq_true rfl) (cC_hasOpenPipe s 0 _ m hx h1 h2 ) (fun ho3 => ?_)
  refine sd_bif_eq (tgt := 18) sD1_warmthBehind_6 (by decide) (fun zc6 => ?_) (fun zc6 => ?_)
  ·
    refine sd_iload_n sD1_warmthBehind_18 rfl ?_
    refine sd_iload_n sD1_warmthBehind_19 rfl ?_
    refine sd_icmp_ne (tgt := 25) sD1_warmthBehind_20 (by decide) (fun zc20 => ?_) (fun zc20 => ?_)
    ·
      refine sd_iload_n sD1_warmthBehind_25 rfl ?_
      refine sd_iload_n sD1_warmthBehind_26 rfl ?_
      refine sd_icmp_ge (tgt := 36) sD1_warmthBehind_27 (by decide) (fun zc27 => ?_) (fun zc27 => ?_)
      ·
        refine sd_iload_n sD1_warmthBehind_36 rfl ?_
        refine sd_iconst sD1_warmthBehind_37 (by decide) ?_
        refine sd_isub (z := (w - 1)) sD1_warmthBehind_38 (by omega) (by omega) ?_
        refine sd_iretp sD1_warmthBehind_39 rfl ?_
        (unfold sd_wth; repeat (first | rw [if_pos (by first | assumption | omega)] | rw [if_neg (by first | assumption | omega)]))
      ·
        refine sd_iload_n sD1_warmthBehind_30 rfl ?_
        refine sd_iconst sD1_warmthBehind_31 (by decide) ?_
        refine sd_iadd (z := (w + 1)) sD1_warmthBehind_32 (by omega) (by omega) ?_
        refine sd_goto (tgt := 39) sD1_warmthBehind_33 (by decide) ?_
        refine sd_iretp sD1_warmthBehind_39 rfl ?_
        (unfold sd_wth; repeat (first | rw [if_pos (by first | assumption | omega)] | rw [if_neg (by first | assumption | omega)]))
    ·
      refine sd_iload_n sD1_warmthBehind_23 rfl ?_
      refine sd_iretp sD1_warmthBehind_24 rfl ?_
      (unfold sd_wth; repeat (first | rw [if_pos (by first | assumption | omega)] | rw [if_neg (by first | assumption | omega)]))
  ·
    refine sd_bipush sD1_warmthBehind_9 rfl (by decide) ?_
    refine sd_iload_n sD1_warmthBehind_11 rfl ?_
    refine sd_iconst sD1_warmthBehind_12 (by decide) ?_
    refine sd_iadd (z := (w + 1)) sD1_warmthBehind_13 (by omega) (by omega) ?_
    refine sd_mmin sD1_warmthBehind_14 sM1_82 (by decide) (Nat.le_of_ble_eq_true rfl) ?_
    refine sd_iretp sD1_warmthBehind_17 rfl ?_
    (unfold sd_wth; repeat (first | rw [if_pos (by first | assumption | omega)] | rw [if_neg (by first | assumption | omega)]))
