set_option maxRecDepth 100000 in
set_option maxHeartbeats 4000000 in
theorem cC_tapeadd (v n : Int) (x m : sd_M) (hx : sd_ns x m) (hn : 1 ≤ n ∧ n ≤ 4) (ht : 0 ≤ x 4100 ∧ x 4100 + n ≤ 100) : sd_Ct sd_SC 0 sY7_add [.inr 118, .inl v, .inl n] m (fun r m' => r = some (.inl (x 4100 + n)) ∧ sd_ns (sd_fdm x v n) m') := by
  refine sd_ct rfl (Nat.le_of_ble_eq_true rfl) (fun hok hm => ?_)
  show sd_Wp sd_SC 0 sY7_add 0 [some (.inr 118), some (.inl v), some (.inl n), none] [] m _
  rcases (show n = 1 ∨ n = 2 ∨ n = 3 ∨ n = 4 by omega) with zs0 | zs0 | zs0 | zs0
  ·
    subst zs0
    refine sd_iload_n sD7_add_0 rfl ?_
    refine sd_iconst sD7_add_1 (by decide) ?_
    refine sd_isub (z := 0) sD7_add_2 (by omega) (by omega) ?_
    refine sd_istore_n (ls' := [some (.inr 118), some (.inl v), some (.inl 1), some (.inl 0)]) sD7_add_3 (by decide) rfl ?_
    refine sd_iload_n sD7_add_4 rfl ?_
    refine sd_if_lt (tgt := 43) sD7_add_5 (by decide) (fun zc5 => (by exfalso; omega)) (fun zc5 => ?_)
    refine sd_aload_n sD7_add_8 rfl ?_
    refine sd_getfr sD7_add_9 sF7_18 sGC118_2 ?_
    refine sd_aload_n sD7_add_12 rfl ?_
    refine sd_getfx (v := x 4100) hx sD7_add_13 sF7_9 sGC118_0 (by decide) rfl ?_
    refine sd_iload_n sD7_add_16 rfl ?_
    refine sd_bipush sD7_add_17 rfl (by decide) ?_
    refine sd_iload_n sD7_add_19 rfl ?_
    refine sd_imul (z := 0) sD7_add_20 (by omega) (by omega) ?_
    refine sd_ishr sD7_add_21 ?_
    refine sd_sipush sD7_add_22 rfl (by decide) ?_
    refine sd_iand sD7_add_25 ?_
    refine sd_iastx (a := (4000 + ((x 4100).toNat))) sd_sokC hx sD7_add_26 sAC117 (by omega) (fun m hx em26 => ?_)
    refine sd_aload_n sD7_add_27 rfl ?_
    refine sd_dup sD7_add_28 ?_
    refine sd_getfx (v := x 4100) hx sD7_add_29 sF7_9 sGC118_0 (by decide) (by simp only [sd_up]; repeat rw [if_neg (by omega)]) ?_
    refine sd_iconst sD7_add_32 (by decide) ?_
    refine sd_iadd (z := (x 4100 + 1)) sD7_add_33 (by omega) (by omega) ?_
    refine sd_putfx sd_sokC sd_oneC hx sD7_add_34 sF7_9 sGC118_0 (Or.inl rfl) (fun m hx em34 => ?_)
    refine sd_iinc (y := (-1)) (ls' := [some (.inr 118), some (.inl v), some (.inl 1), some (.inl (-1))]) sD7_add_37 rfl (by omega) (by omega) (by decide) rfl ?_
    refine sd_goto (tgt := 4) sD7_add_40 (by decide) ?_
    refine sd_iload_n sD7_add_4 rfl ?_
    refine sd_if_lt (tgt := 43) sD7_add_5 (by decide) (fun zc5 => ?_) (fun zc5 => (by exfalso; omega))
    refine sd_aload_n sD7_add_43 rfl ?_
    refine sd_getfx (v := (x 4100 + 1)) hx sD7_add_44 sF7_9 sGC118_0 (by decide) (by simp only [sd_up]; first | (simp; done) | (repeat (first | rw [if_pos (by first | trivial | omega)] | rw [if_neg (by omega)]))) ?_
    refine sd_ireturn sD7_add_47 rfl (fun hr hm => ?_)
    exact ⟨by first | rfl | (congr 2; omega), sd_nseq (by intro j; simp only [sd_up, sd_fdm]; (repeat' (first | rfl | split)); all_goals (first | omega | (congr 2; omega))) hx⟩
  ·
    subst zs0
    refine sd_iload_n sD7_add_0 rfl ?_
    refine sd_iconst sD7_add_1 (by decide) ?_
    refine sd_isub (z := 1) sD7_add_2 (by omega) (by omega) ?_
    refine sd_istore_n (ls' := [some (.inr 118), some (.inl v), some (.inl 2), some (.inl 1)]) sD7_add_3 (by decide) rfl ?_
    refine sd_iload_n sD7_add_4 rfl ?_
    refine sd_if_lt (tgt := 43) sD7_add_5 (by decide) (fun zc5 => (by exfalso; omega)) (fun zc5 => ?_)
    refine sd_aload_n sD7_add_8 rfl ?_
    refine sd_getfr sD7_add_9 sF7_18 sGC118_2 ?_
    refine sd_aload_n sD7_add_12 rfl ?_
    refine sd_getfx (v := x 4100) hx sD7_add_13 sF7_9 sGC118_0 (by decide) rfl ?_
    refine sd_iload_n sD7_add_16 rfl ?_
    refine sd_bipush sD7_add_17 rfl (by decide) ?_
    refine sd_iload_n sD7_add_19 rfl ?_
    refine sd_imul (z := 8) sD7_add_20 (by omega) (by omega) ?_
    refine sd_ishr sD7_add_21 ?_
    refine sd_sipush sD7_add_22 rfl (by decide) ?_
    refine sd_iand sD7_add_25 ?_
    refine sd_iastx (a := (4000 + ((x 4100).toNat))) sd_sokC hx sD7_add_26 sAC117 (by omega) (fun m hx em26 => ?_)
    refine sd_aload_n sD7_add_27 rfl ?_
    refine sd_dup sD7_add_28 ?_
    refine sd_getfx (v := x 4100) hx sD7_add_29 sF7_9 sGC118_0 (by decide) (by simp only [sd_up]; repeat rw [if_neg (by omega)]) ?_
    refine sd_iconst sD7_add_32 (by decide) ?_
    refine sd_iadd (z := (x 4100 + 1)) sD7_add_33 (by omega) (by omega) ?_
    refine sd_putfx sd_sokC sd_oneC hx sD7_add_34 sF7_9 sGC118_0 (Or.inl rfl) (fun m hx em34 => ?_)
    refine sd_iinc (y := 0) (ls' := [some (.inr 118), some (.inl v), some (.inl 2), some (.inl 0)]) sD7_add_37 rfl (by omega) (by omega) (by decide) rfl ?_
    refine sd_goto (tgt := 4) sD7_add_40 (by decide) ?_
    refine sd_iload_n sD7_add_4 rfl ?_
    refine sd_if_lt (tgt := 43) sD7_add_5 (by decide) (fun zc5 => (by exfalso; omega)) (fun zc5 => ?_)
    refine sd_aload_n sD7_add_8 rfl ?_
    refine sd_getfr sD7_add_9 sF7_18 sGC118_2 ?_
    refine sd_aload_n sD7_add_12 rfl ?_
    refine sd_getfx (v := (x 4100 + 1)) hx sD7_add_13 sF7_9 sGC118_0 (by decide) (by simp only [sd_up]; first | (simp; done) | (repeat (first | rw [if_pos (by first | trivial | omega)] | rw [if_neg (by omega)]))) ?_
    refine sd_iload_n sD7_add_16 rfl ?_
    refine sd_bipush sD7_add_17 rfl (by decide) ?_
    refine sd_iload_n sD7_add_19 rfl ?_
    refine sd_imul (z := 0) sD7_add_20 (by omega) (by omega) ?_
    refine sd_ishr sD7_add_21 ?_
    refine sd_sipush sD7_add_22 rfl (by decide) ?_
    refine sd_iand sD7_add_25 ?_
    refine sd_iastx (a := (4000 + ((x 4100).toNat + 1))) sd_sokC hx sD7_add_26 sAC117 (by omega) (fun m hx em26 => ?_)
    refine sd_aload_n sD7_add_27 rfl ?_
    refine sd_dup sD7_add_28 ?_
    refine sd_getfx (v := (x 4100 + 1)) hx sD7_add_29 sF7_9 sGC118_0 (by decide) (by simp only [sd_up]; first | (simp; done) | (repeat (first | rw [if_pos (by first | trivial | omega)] | rw [if_neg (by omega)]))) ?_
    refine sd_iconst sD7_add_32 (by decide) ?_
    refine sd_iadd (z := ((x 4100 + 1) + 1)) sD7_add_33 (by omega) (by omega) ?_
    refine sd_putfx sd_sokC sd_oneC hx sD7_add_34 sF7_9 sGC118_0 (Or.inl rfl) (fun m hx em34 => ?_)
    refine sd_iinc (y := (-1)) (ls' := [some (.inr 118), some (.inl v), some (.inl 2), some (.inl (-1))]) sD7_add_37 rfl (by omega) (by omega) (by decide) rfl ?_
    refine sd_goto (tgt := 4) sD7_add_40 (by decide) ?_
    refine sd_iload_n sD7_add_4 rfl ?_
    refine sd_if_lt (tgt := 43) sD7_add_5 (by decide) (fun zc5 => ?_) (fun zc5 => (by exfalso; omega))
    refine sd_aload_n sD7_add_43 rfl ?_
    refine sd_getfx (v := ((x 4100 + 1) + 1)) hx sD7_add_44 sF7_9 sGC118_0 (by decide) (by simp only [sd_up]; first | (simp; done) | (repeat (first | rw [if_pos (by first | trivial | omega)] | rw [if_neg (by omega)]))) ?_
    refine sd_ireturn sD7_add_47 rfl (fun hr hm => ?_)
    exact ⟨by first | rfl | (congr 2; omega), sd_nseq (by intro j; simp only [sd_up, sd_fdm]; (repeat' (first | rfl | split)); all_goals (first | omega | (congr 2; omega))) hx⟩
  ·
    subst zs0
    refine sd_iload_n sD7_add_0 rfl ?_
    refine sd_iconst sD7_add_1 (by decide) ?_
    refine sd_isub (z := 2) sD7_add_2 (by omega) (by omega) ?_
    refine sd_istore_n (ls' := [some (.inr 118), some (.inl v), some (.inl 3), some (.inl 2)]) sD7_add_3 (by decide) rfl ?_
    refine sd_iload_n sD7_add_4 rfl ?_
    refine sd_if_lt (tgt := 43) sD7_add_5 (by decide) (fun zc5 => (by exfalso; omega)) (fun zc5 => ?_)
    refine sd_aload_n sD7_add_8 rfl ?_
    refine sd_getfr sD7_add_9 sF7_18 sGC118_2 ?_
    refine sd_aload_n sD7_add_12 rfl ?_
    refine sd_getfx (v := x 4100) hx sD7_add_13 sF7_9 sGC118_0 (by decide) rfl ?_
    refine sd_iload_n sD7_add_16 rfl ?_
    refine sd_bipush sD7_add_17 rfl (by decide) ?_
    refine sd_iload_n sD7_add_19 rfl ?_
    refine sd_imul (z := 16) sD7_add_20 (by omega) (by omega) ?_
    refine sd_ishr sD7_add_21 ?_
    refine sd_sipush sD7_add_22 rfl (by decide) ?_
    refine sd_iand sD7_add_25 ?_
    refine sd_iastx (a := (4000 + ((x 4100).toNat))) sd_sokC hx sD7_add_26 sAC117 (by omega) (fun m hx em26 => ?_)
    refine sd_aload_n sD7_add_27 rfl ?_
    refine sd_dup sD7_add_28 ?_
    refine sd_getfx (v := x 4100) hx sD7_add_29 sF7_9 sGC118_0 (by decide) (by simp only [sd_up]; repeat rw [if_neg (by omega)]) ?_
    refine sd_iconst sD7_add_32 (by decide) ?_
    refine sd_iadd (z := (x 4100 + 1)) sD7_add_33 (by omega) (by omega) ?_
    refine sd_putfx sd_sokC sd_oneC hx sD7_add_34 sF7_9 sGC118_0 (Or.inl rfl) (fun m hx em34 => ?_)
    refine sd_iinc (y := 1) (ls' := [some (.inr 118), some (.inl v), some (.inl 3), some (.inl 1)]) sD7_add_37 rfl (by omega) (by omega) (by decide) rfl ?_
    refine sd_goto (tgt := 4) sD7_add_40 (by decide) ?_
    refine sd_iload_n sD7_add_4 rfl ?_
    refine sd_if_lt (tgt := 43) sD7_add_5 (by decide) (fun zc5 => (by exfalso; omega)) (fun zc5 => ?_)
    refine sd_aload_n sD7_add_8 rfl ?_
    refine sd_getfr sD7_add_9 sF7_18 sGC118_2 ?_
    refine sd_aload_n sD7_add_12 rfl ?_
    refine sd_getfx (v := (x 4100 + 1)) hx sD7_add_13 sF7_9 sGC118_0 (by decide) (by simp only [sd_up]; first | (simp; done) | (repeat (first | rw [if_pos (by first | trivial | omega)] | rw [if_neg (by omega)]))) ?_
    refine sd_iload_n sD7_add_16 rfl ?_
    refine sd_bipush sD7_add_17 rfl (by decide) ?_
    refine sd_iload_n sD7_add_19 rfl ?_
    refine sd_imul (z := 8) sD7_add_20 (by omega) (by omega) ?_
    refine sd_ishr sD7_add_21 ?_
    refine sd_sipush sD7_add_22 rfl (by decide) ?_
    refine sd_iand sD7_add_25 ?_
    refine sd_iastx (a := (4000 + ((x 4100).toNat + 1))) sd_sokC hx sD7_add_26 sAC117 (by omega) (fun m hx em26 => ?_)
    refine sd_aload_n sD7_add_27 rfl ?_
    refine sd_dup sD7_add_28 ?_
    refine sd_getfx (v := (x 4100 + 1)) hx sD7_add_29 sF7_9 sGC118_0 (by decide) (by simp only [sd_up]; first | (simp; done) | (repeat (first | rw [if_pos (by first | trivial | omega)] | rw [if_neg (by omega)]))) ?_
    refine sd_iconst sD7_add_32 (by decide) ?_
    refine sd_iadd (z := ((x 4100 + 1) + 1)) sD7_add_33 (by omega) (by omega) ?_
    refine sd_putfx sd_sokC sd_oneC hx sD7_add_34 sF7_9 sGC118_0 (Or.inl rfl) (fun m hx em34 => ?_)
    refine sd_iinc (y := 0) (ls' := [some (.inr 118), some (.inl v), some (.inl 3), some (.inl 0)]) sD7_add_37 rfl (by omega) (by omega) (by decide) rfl ?_
    refine sd_goto (tgt := 4) sD7_add_40 (by decide) ?_
    refine sd_iload_n sD7_add_4 rfl ?_
    refine sd_if_lt (tgt := 43) sD7_add_5 (by decide) (fun zc5 => (by exfalso; omega)) (fun zc5 => ?_)
    refine sd_aload_n sD7_add_8 rfl ?_
    refine sd_getfr sD7_add_9 sF7_18 sGC118_2 ?_
    refine sd_aload_n sD7_add_12 rfl ?_
    refine sd_getfx (v := ((x 4100 + 1) + 1)) hx sD7_add_13 sF7_9 sGC118_0 (by decide) (by simp only [sd_up]; first | (simp; done) | (repeat (first | rw [if_pos (by first | trivial | omega)] | rw [if_neg (by omega)]))) ?_
    refine sd_iload_n sD7_add_16 rfl ?_
    refine sd_bipush sD7_add_17 rfl (by decide) ?_
    refine sd_iload_n sD7_add_19 rfl ?_
    refine sd_imul (z := 0) sD7_add_20 (by omega) (by omega) ?_
    refine sd_ishr sD7_add_21 ?_
    refine sd_sipush sD7_add_22 rfl (by decide) ?_
    refine sd_iand sD7_add_25 ?_
    refine sd_iastx (a := (4000 + (((x 4100).toNat + 1) + 1))) sd_sokC hx sD7_add_26 sAC117 (by omega) (fun m hx em26 => ?_)
    refine sd_aload_n sD7_add_27 rfl ?_
    refine sd_dup sD7_add_28 ?_
    refine sd_getfx (v := ((x 4100 + 1) + 1)) hx sD7_add_29 sF7_9 sGC118_0 (by decide) (by simp only [sd_up]; first | (simp; done) | (repeat (first | rw [if_pos (by first | trivial | omega)] | rw [if_neg (by omega)]))) ?_
    refine sd_iconst sD7_add_32 (by decide) ?_
    refine sd_iadd (z := (((x 4100 + 1) + 1) + 1)) sD7_add_33 (by omega) (by omega) ?_
    refine sd_putfx sd_sokC sd_oneC hx sD7_add_34 sF7_9 sGC118_0 (Or.inl rfl) (fun m hx em34 => ?_)
    refine sd_iinc (y := (-1)) (ls' := [some (.inr 118), some (.inl v), some (.inl 3), some (.inl (-1))]) sD7_add_37 rfl (by omega) (by omega) (by decide) rfl ?_
    refine sd_goto (tgt := 4) sD7_add_40 (by decide) ?_
    refine sd_iload_n sD7_add_4 rfl ?_
    refine sd_if_lt (tgt := 43) sD7_add_5 (by decide) (fun zc5 => ?_) (fun zc5 => (by exfalso; omega))
    refine sd_aload_n sD7_add_43 rfl ?_
    refine sd_getfx (v := (((x 4100 + 1) + 1) + 1)) hx sD7_add_44 sF7_9 sGC118_0 (by decide) (by simp only [sd_up]; first | (simp; done) | (repeat (first | rw [if_pos (by first | trivial | omega)] | rw [if_neg (by omega)]))) ?_
    refine sd_ireturn sD7_add_47 rfl (fun hr hm => ?_)
    exact ⟨by first | rfl | (congr 2; omega), sd_nseq (by intro j; simp only [sd_up, sd_fdm]; (repeat' (first | rfl | split)); all_goals (first | omega | (congr 2; omega))) hx⟩
  ·
    subst zs0
    refine sd_iload_n sD7_add_0 rfl ?_
    refine sd_iconst sD7_add_1 (by decide) ?_
    refine sd_isub (z := 3) sD7_add_2 (by omega) (by omega) ?_
    refine sd_istore_n (ls' := [some (.inr 118), some (.inl v), some (.inl 4), some (.inl 3)]) sD7_add_3 (by decide) rfl ?_
    refine sd_iload_n sD7_add_4 rfl ?_
    refine sd_if_lt (tgt := 43) sD7_add_5 (by decide) (fun zc5 => (by exfalso; omega)) (fun zc5 => ?_)
    refine sd_aload_n sD7_add_8 rfl ?_
    refine sd_getfr sD7_add_9 sF7_18 sGC118_2 ?_
    refine sd_aload_n sD7_add_12 rfl ?_
    refine sd_getfx (v := x 4100) hx sD7_add_13 sF7_9 sGC118_0 (by decide) rfl ?_
    refine sd_iload_n sD7_add_16 rfl ?_
    refine sd_bipush sD7_add_17 rfl (by decide) ?_
    refine sd_iload_n sD7_add_19 rfl ?_
    refine sd_imul (z := 24) sD7_add_20 (by omega) (by omega) ?_
    refine sd_ishr sD7_add_21 ?_
    refine sd_sipush sD7_add_22 rfl (by decide) ?_
    refine sd_iand sD7_add_25 ?_
    refine sd_iastx (a := (4000 + ((x 4100).toNat))) sd_sokC hx sD7_add_26 sAC117 (by omega) (fun m hx em26 => ?_)
    refine sd_aload_n sD7_add_27 rfl ?_
    refine sd_dup sD7_add_28 ?_
    refine sd_getfx (v := x 4100) hx sD7_add_29 sF7_9 sGC118_0 (by decide) (by simp only [sd_up]; repeat rw [if_neg (by omega)]) ?_
    refine sd_iconst sD7_add_32 (by decide) ?_
    refine sd_iadd (z := (x 4100 + 1)) sD7_add_33 (by omega) (by omega) ?_
    refine sd_putfx sd_sokC sd_oneC hx sD7_add_34 sF7_9 sGC118_0 (Or.inl rfl) (fun m hx em34 => ?_)
    refine sd_iinc (y := 2) (ls' := [some (.inr 118), some (.inl v), some (.inl 4), some (.inl 2)]) sD7_add_37 rfl (by omega) (by omega) (by decide) rfl ?_
    refine sd_goto (tgt := 4) sD7_add_40 (by decide) ?_
    refine sd_iload_n sD7_add_4 rfl ?_
    refine sd_if_lt (tgt := 43) sD7_add_5 (by decide) (fun zc5 => (by exfalso; omega)) (fun zc5 => ?_)
    refine sd_aload_n sD7_add_8 rfl ?_
    refine sd_getfr sD7_add_9 sF7_18 sGC118_2 ?_
    refine sd_aload_n sD7_add_12 rfl ?_
    refine sd_getfx (v := (x 4100 + 1)) hx sD7_add_13 sF7_9 sGC118_0 (by decide) (by simp only [sd_up]; first | (simp; done) | (repeat (first | rw [if_pos (by first | trivial | omega)] | rw [if_neg (by omega)]))) ?_
    refine sd_iload_n sD7_add_16 rfl ?_
    refine sd_bipush sD7_add_17 rfl (by decide) ?_
    refine sd_iload_n sD7_add_19 rfl ?_
    refine sd_imul (z := 16) sD7_add_20 (by omega) (by omega) ?_
    refine sd_ishr sD7_add_21 ?_
    refine sd_sipush sD7_add_22 rfl (by decide) ?_
    refine sd_iand sD7_add_25 ?_
    refine sd_iastx (a := (4000 + ((x 4100).toNat + 1))) sd_sokC hx sD7_add_26 sAC117 (by omega) (fun m hx em26 => ?_)
    refine sd_aload_n sD7_add_27 rfl ?_
    refine sd_dup sD7_add_28 ?_
    refine sd_getfx (v := (x 4100 + 1)) hx sD7_add_29 sF7_9 sGC118_0 (by decide) (by simp only [sd_up]; first | (simp; done) | (repeat (first | rw [if_pos (by first | trivial | omega)] | rw [if_neg (by omega)]))) ?_
    refine sd_iconst sD7_add_32 (by decide) ?_
    refine sd_iadd (z := ((x 4100 + 1) + 1)) sD7_add_33 (by omega) (by omega) ?_
    refine sd_putfx sd_sokC sd_oneC hx sD7_add_34 sF7_9 sGC118_0 (Or.inl rfl) (fun m hx em34 => ?_)
    refine sd_iinc (y := 1) (ls' := [some (.inr 118), some (.inl v), some (.inl 4), some (.inl 1)]) sD7_add_37 rfl (by omega) (by omega) (by decide) rfl ?_
    refine sd_goto (tgt := 4) sD7_add_40 (by decide) ?_
    refine sd_iload_n sD7_add_4 rfl ?_
    refine sd_if_lt (tgt := 43) sD7_add_5 (by decide) (fun zc5 => (by exfalso; omega)) (fun zc5 => ?_)
    refine sd_aload_n sD7_add_8 rfl ?_
    refine sd_getfr sD7_add_9 sF7_18 sGC118_2 ?_
    refine sd_aload_n sD7_add_12 rfl ?_
    refine sd_getfx (v := ((x 4100 + 1) + 1)) hx sD7_add_13 sF7_9 sGC118_0 (by decide) (by simp only [sd_up]; first | (simp; done) | (repeat (first | rw [if_pos (by first | trivial | omega)] | rw [if_neg (by omega)]))) ?_
    refine sd_iload_n sD7_add_16 rfl ?_
    refine sd_bipush sD7_add_17 rfl (by decide) ?_
    refine sd_iload_n sD7_add_19 rfl ?_
    refine sd_imul (z := 8) sD7_add_20 (by omega) (by omega) ?_
    refine sd_ishr sD7_add_21 ?_
    refine sd_sipush sD7_add_22 rfl (by decide) ?_
    refine sd_iand sD7_add_25 ?_
    refine sd_iastx (a := (4000 + (((x 4100).toNat + 1) + 1))) sd_sokC hx sD7_add_26 sAC117 (by omega) (fun m hx em26 => ?_)
    refine sd_aload_n sD7_add_27 rfl ?_
    refine sd_dup sD7_add_28 ?_
    refine sd_getfx (v := ((x 4100 + 1) + 1)) hx sD7_add_29 sF7_9 sGC118_0 (by decide) (by simp only [sd_up]; first | (simp; done) | (repeat (first | rw [if_pos (by first | trivial | omega)] | rw [if_neg (by omega)]))) ?_
    refine sd_iconst sD7_add_32 (by decide) ?_
    refine sd_iadd (z := (((x 4100 + 1) + 1) + 1)) sD7_add_33 (by omega) (by omega) ?_
    refine sd_putfx sd_sokC sd_oneC hx sD7_add_34 sF7_9 sGC118_0 (Or.inl rfl) (fun m hx em34 => ?_)
    refine sd_iinc (y := 0) (ls' := [some (.inr 118), some (.inl v), some (.inl 4), some (.inl 0)]) sD7_add_37 rfl (by omega) (by omega) (by decide) rfl ?_
    refine sd_goto (tgt := 4) sD7_add_40 (by decide) ?_
    refine sd_iload_n sD7_add_4 rfl ?_
    refine sd_if_lt (tgt := 43) sD7_add_5 (by decide) (fun zc5 => (by exfalso; omega)) (fun zc5 => ?_)
    refine sd_aload_n sD7_add_8 rfl ?_
    refine sd_getfr sD7_add_9 sF7_18 sGC118_2 ?_
    refine sd_aload_n sD7_add_12 rfl ?_
    refine sd_getfx (v := (((x 4100 + 1) + 1) + 1)) hx sD7_add_13 sF7_9 sGC118_0 (by decide) (by simp only [sd_up]; first | (simp; done) | (repeat (first | rw [if_pos (by first | trivial | omega)] | rw [if_neg (by omega)]))) ?_
    refine sd_iload_n sD7_add_16 rfl ?_
    refine sd_bipush sD7_add_17 rfl (by decide) ?_
    refine sd_iload_n sD7_add_19 rfl ?_
    refine sd_imul (z := 0) sD7_add_20 (by omega) (by omega) ?_
    refine sd_ishr sD7_add_21 ?_
    refine sd_sipush sD7_add_22 rfl (by decide) ?_
    refine sd_iand sD7_add_25 ?_
    refine sd_iastx (a := (4000 + ((((x 4100).toNat + 1) + 1) + 1))) sd_sokC hx sD7_add_26 sAC117 (by omega) (fun m hx em26 => ?_)
    refine sd_aload_n sD7_add_27 rfl ?_
    refine sd_dup sD7_add_28 ?_
    refine sd_getfx (v := (((x 4100 + 1) + 1) + 1)) hx sD7_add_29 sF7_9 sGC118_0 (by decide) (by simp only [sd_up]; first | (simp; done) | (repeat (first | rw [if_pos (by first | trivial | omega)] | rw [if_neg (by omega)]))) ?_
    refine sd_iconst sD7_add_32 (by decide) ?_
    refine sd_iadd (z := ((((x 4100 + 1) + 1) + 1) + 1)) sD7_add_33 (by omega) (by omega) ?_
    refine sd_putfx sd_sokC sd_oneC hx sD7_add_34 sF7_9 sGC118_0 (Or.inl rfl) (fun m hx em34 => ?_)
    refine sd_iinc (y := (-1)) (ls' := [some (.inr 118), some (.inl v), some (.inl 4), some (.inl (-1))]) sD7_add_37 rfl (by omega) (by omega) (by decide) rfl ?_
    refine sd_goto (tgt := 4) sD7_add_40 (by decide) ?_
    refine sd_iload_n sD7_add_4 rfl ?_
    refine sd_if_lt (tgt := 43) sD7_add_5 (by decide) (fun zc5 => ?_) (fun zc5 => (by exfalso; omega))
    refine sd_aload_n sD7_add_43 rfl ?_
    refine sd_getfx (v := ((((x 4100 + 1) + 1) + 1) + 1)) hx sD7_add_44 sF7_9 sGC118_0 (by decide) (by simp only [sd_up]; first | (simp; done) | (repeat (first | rw [if_pos (by first | trivial | omega)] | rw [if_neg (by omega)]))) ?_
    refine sd_ireturn sD7_add_47 rfl (fun hr hm => ?_)
    exact ⟨by first | rfl | (congr 2; omega), sd_nseq (by intro j; simp only [sd_up, sd_fdm]; (repeat' (first | rfl | split)); all_goals (first | omega | (congr 2; omega))) hx⟩
