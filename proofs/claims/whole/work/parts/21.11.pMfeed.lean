set_option maxRecDepth 100000 in
set_option maxHeartbeats 4000000 in
theorem pM_feed (v : Int) (n : Int) (x m : sd_M) (hx : sd_ns x m)  (hF : ∀ k : Nat, k < 7 → 0 ≤ x (4101 + k) ∧ x (4101 + k) ≤ 1000000) (ht : 0 ≤ x 4100 ∧ x 4100 ≤ 100) : sd_Ct sd_SM 2 sY11_feed [.inr 15, .inl v, .inl n] m (sd_Qp (sp_feed x v n)) := by
  refine sd_ct rfl (Nat.le_of_ble_eq_true rfl) (fun hok hm => ?_)
  have r_v : sd_R v := hok (.inl v) (by simp)
  have r_n : sd_R n := hok (.inl n) (by simp)
  show sd_Wp sd_SM 2 sY11_feed 0 [some (.inr 15), some (.inl v), some (.inl n), none] [] m _
  refine sd_iload_n sD11_feed_0 rfl ?_
  refine sd_iconst sD11_feed_1 (by decide) ?_
  refine sd_iconst sD11_feed_2 (by decide) ?_
  refine sd_callSp (as := [.inl n, .inl 1, .inl 4]) (st := []) (v := .inl (sd_b (1 ≤ n ∧ n ≤ 4))) sD11_feed_3 sM11_56 rfl rfl (by decide) (Nat.le_of_ble_eq_true rfl) (cM_in n 1 4 m) (fun ho3 => ?_)
  refine sd_bif_ne (tgt := 15) sD11_feed_6 (by decide) (fun zc6 => ?_) (fun zc6 => ?_)
  ·
    refine sd_aload_n sD11_feed_15 rfl ?_
    refine sd_getfx (v := x 4100) hx sD11_feed_16 sF11_186 sGM15_4 (by decide) rfl ?_
    refine sd_iload_n sD11_feed_19 rfl ?_
    refine sd_iadd (z := (x 4100 + n)) sD11_feed_20 (by omega) (by omega) ?_
    refine sd_bipush sD11_feed_21 rfl (by decide) ?_
    refine sd_icmp_le (tgt := 32) sD11_feed_23 (by decide) (fun zc23 => ?_) (fun zc23 => ?_)
    ·
      rcases (show n = 1 ∨ n = 2 ∨ n = 3 ∨ n = 4 by omega) with zs32 | zs32 | zs32 | zs32
      ·
        subst zs32
        refine sd_iload_n sD11_feed_32 rfl ?_
        refine sd_iconst sD11_feed_33 (by decide) ?_
        refine sd_isub (z := 0) sD11_feed_34 (by omega) (by omega) ?_
        refine sd_istore_n (ls' := [some (.inr 15), some (.inl v), some (.inl 1), some (.inl 0)]) sD11_feed_35 (by decide) rfl ?_
        refine sd_iload_n sD11_feed_36 rfl ?_
        refine sd_if_lt (tgt := 75) sD11_feed_37 (by decide) (fun zc37 => (by exfalso; omega)) (fun zc37 => ?_)
        refine sd_aload_n sD11_feed_40 rfl ?_
        refine sd_getfr sD11_feed_41 sF11_16 sGM15_3 ?_
        refine sd_aload_n sD11_feed_44 rfl ?_
        refine sd_getfx (v := x 4100) hx sD11_feed_45 sF11_186 sGM15_4 (by decide) rfl ?_
        refine sd_iload_n sD11_feed_48 rfl ?_
        refine sd_bipush sD11_feed_49 rfl (by decide) ?_
        refine sd_iload_n sD11_feed_51 rfl ?_
        refine sd_imul (z := 0) sD11_feed_52 (by omega) (by omega) ?_
        refine sd_ishr sD11_feed_53 ?_
        refine sd_sipush sD11_feed_54 rfl (by decide) ?_
        refine sd_iand sD11_feed_57 ?_
        refine sd_iastx (a := (4000 + ((x 4100).toNat))) sd_sokM hx sD11_feed_58 sAM2 (by omega) (fun m hx em58 => ?_)
        refine sd_aload_n sD11_feed_59 rfl ?_
        refine sd_dup sD11_feed_60 ?_
        refine sd_getfx (v := x 4100) hx sD11_feed_61 sF11_186 sGM15_4 (by decide) (by simp only [sd_up]; repeat rw [if_neg (by omega)]) ?_
        refine sd_iconst sD11_feed_64 (by decide) ?_
        refine sd_iadd (z := (x 4100 + 1)) sD11_feed_65 (by omega) (by omega) ?_
        refine sd_putfx sd_sokM sd_oneM hx sD11_feed_66 sF11_186 sGM15_4 (Or.inl rfl) (fun m hx em66 => ?_)
        refine sd_iinc (y := (-1)) (ls' := [some (.inr 15), some (.inl v), some (.inl 1), some (.inl (-1))]) sD11_feed_69 rfl (by omega) (by omega) (by decide) rfl ?_
        refine sd_goto (tgt := 36) sD11_feed_72 (by decide) ?_
        refine sd_iload_n sD11_feed_36 rfl ?_
        refine sd_if_lt (tgt := 75) sD11_feed_37 (by decide) (fun zc37 => ?_) (fun zc37 => (by exfalso; omega))
        refine sd_aload_n sD11_feed_75 rfl ?_
        refine sd_getfx (v := (x 4100 + 1)) hx sD11_feed_76 sF11_186 sGM15_4 (by decide) (by simp only [sd_up]; first | (simp; done) | (repeat (first | rw [if_pos (by first | trivial | omega)] | rw [if_neg (by omega)]))) ?_
        refine sd_ireturn sD11_feed_79 rfl (fun hr hm => ?_)
        exact sd_done3 (by unfold sp_feed; ((repeat (first | rw [if_pos (by first | assumption | omega)] | rw [if_neg (by first | assumption | omega)]))); all_goals (first | rfl | (dsimp only; omega))) (by intro j; unfold sp_feed; ((repeat (first | rw [if_pos (by first | assumption | omega)] | rw [if_neg (by first | assumption | omega)]))); all_goals (first | rfl | (dsimp only; simp only [sd_up, sd_fdm]; (repeat' (first | rfl | split)); all_goals (first | omega | (congr 2; omega))))) hx
      ·
        subst zs32
        refine sd_iload_n sD11_feed_32 rfl ?_
        refine sd_iconst sD11_feed_33 (by decide) ?_
        refine sd_isub (z := 1) sD11_feed_34 (by omega) (by omega) ?_
        refine sd_istore_n (ls' := [some (.inr 15), some (.inl v), some (.inl 2), some (.inl 1)]) sD11_feed_35 (by decide) rfl ?_
        refine sd_iload_n sD11_feed_36 rfl ?_
        refine sd_if_lt (tgt := 75) sD11_feed_37 (by decide) (fun zc37 => (by exfalso; omega)) (fun zc37 => ?_)
        refine sd_aload_n sD11_feed_40 rfl ?_
        refine sd_getfr sD11_feed_41 sF11_16 sGM15_3 ?_
        refine sd_aload_n sD11_feed_44 rfl ?_
        refine sd_getfx (v := x 4100) hx sD11_feed_45 sF11_186 sGM15_4 (by decide) rfl ?_
        refine sd_iload_n sD11_feed_48 rfl ?_
        refine sd_bipush sD11_feed_49 rfl (by decide) ?_
        refine sd_iload_n sD11_feed_51 rfl ?_
        refine sd_imul (z := 8) sD11_feed_52 (by omega) (by omega) ?_
        refine sd_ishr sD11_feed_53 ?_
        refine sd_sipush sD11_feed_54 rfl (by decide) ?_
        refine sd_iand sD11_feed_57 ?_
        refine sd_iastx (a := (4000 + ((x 4100).toNat))) sd_sokM hx sD11_feed_58 sAM2 (by omega) (fun m hx em58 => ?_)
        refine sd_aload_n sD11_feed_59 rfl ?_
        refine sd_dup sD11_feed_60 ?_
        refine sd_getfx (v := x 4100) hx sD11_feed_61 sF11_186 sGM15_4 (by decide) (by simp only [sd_up]; repeat rw [if_neg (by omega)]) ?_
        refine sd_iconst sD11_feed_64 (by decide) ?_
        refine sd_iadd (z := (x 4100 + 1)) sD11_feed_65 (by omega) (by omega) ?_
        refine sd_putfx sd_sokM sd_oneM hx sD11_feed_66 sF11_186 sGM15_4 (Or.inl rfl) (fun m hx em66 => ?_)
        refine sd_iinc (y := 0) (ls' := [some (.inr 15), some (.inl v), some (.inl 2), some (.inl 0)]) sD11_feed_69 rfl (by omega) (by omega) (by decide) rfl ?_
        refine sd_goto (tgt := 36) sD11_feed_72 (by decide) ?_
        refine sd_iload_n sD11_feed_36 rfl ?_
        refine sd_if_lt (tgt := 75) sD11_feed_37 (by decide) (fun zc37 => (by exfalso; omega)) (fun zc37 => ?_)
        refine sd_aload_n sD11_feed_40 rfl ?_
        refine sd_getfr sD11_feed_41 sF11_16 sGM15_3 ?_
        refine sd_aload_n sD11_feed_44 rfl ?_
        refine sd_getfx (v := (x 4100 + 1)) hx sD11_feed_45 sF11_186 sGM15_4 (by decide) (by simp only [sd_up]; first | (simp; done) | (repeat (first | rw [if_pos (by first | trivial | omega)] | rw [if_neg (by omega)]))) ?_
        refine sd_iload_n sD11_feed_48 rfl ?_
        refine sd_bipush sD11_feed_49 rfl (by decide) ?_
        refine sd_iload_n sD11_feed_51 rfl ?_
        refine sd_imul (z := 0) sD11_feed_52 (by omega) (by omega) ?_
        refine sd_ishr sD11_feed_53 ?_
        refine sd_sipush sD11_feed_54 rfl (by decide) ?_
        refine sd_iand sD11_feed_57 ?_
        refine sd_iastx (a := (4000 + ((x 4100).toNat + 1))) sd_sokM hx sD11_feed_58 sAM2 (by omega) (fun m hx em58 => ?_)
        refine sd_aload_n sD11_feed_59 rfl ?_
        refine sd_dup sD11_feed_60 ?_
        refine sd_getfx (v := (x 4100 + 1)) hx sD11_feed_61 sF11_186 sGM15_4 (by decide) (by simp only [sd_up]; first | (simp; done) | (repeat (first | rw [if_pos (by first | trivial | omega)] | rw [if_neg (by omega)]))) ?_
        refine sd_iconst sD11_feed_64 (by decide) ?_
        refine sd_iadd (z := ((x 4100 + 1) + 1)) sD11_feed_65 (by omega) (by omega) ?_
        refine sd_putfx sd_sokM sd_oneM hx sD11_feed_66 sF11_186 sGM15_4 (Or.inl rfl) (fun m hx em66 => ?_)
        refine sd_iinc (y := (-1)) (ls' := [some (.inr 15), some (.inl v), some (.inl 2), some (.inl (-1))]) sD11_feed_69 rfl (by omega) (by omega) (by decide) rfl ?_
        refine sd_goto (tgt := 36) sD11_feed_72 (by decide) ?_
        refine sd_iload_n sD11_feed_36 rfl ?_
        refine sd_if_lt (tgt := 75) sD11_feed_37 (by decide) (fun zc37 => ?_) (fun zc37 => (by exfalso; omega))
        refine sd_aload_n sD11_feed_75 rfl ?_
        refine sd_getfx (v := ((x 4100 + 1) + 1)) hx sD11_feed_76 sF11_186 sGM15_4 (by decide) (by simp only [sd_up]; first | (simp; done) | (repeat (first | rw [if_pos (by first | trivial | omega)] | rw [if_neg (by omega)]))) ?_
        refine sd_ireturn sD11_feed_79 rfl (fun hr hm => ?_)
        exact sd_done3 (by unfold sp_feed; ((repeat (first | rw [if_pos (by first | assumption | omega)] | rw [if_neg (by first | assumption | omega)]))); all_goals (first | rfl | (dsimp only; omega))) (by intro j; unfold sp_feed; ((repeat (first | rw [if_pos (by first | assumption | omega)] | rw [if_neg (by first | assumption | omega)]))); all_goals (first | rfl | (dsimp only; simp only [sd_up, sd_fdm]; (repeat' (first | rfl | split)); all_goals (first | omega | (congr 2; omega))))) hx
      ·
        subst zs32
        refine sd_iload_n sD11_feed_32 rfl ?_
        refine sd_iconst sD11_feed_33 (by decide) ?_
        refine sd_isub (z := 2) sD11_feed_34 (by omega) (by omega) ?_
        refine sd_istore_n (ls' := [some (.inr 15), some (.inl v), some (.inl 3), some (.inl 2)]) sD11_feed_35 (by decide) rfl ?_
        refine sd_iload_n sD11_feed_36 rfl ?_
        refine sd_if_lt (tgt := 75) sD11_feed_37 (by decide) (fun zc37 => (by exfalso; omega)) (fun zc37 => ?_)
        refine sd_aload_n sD11_feed_40 rfl ?_
        refine sd_getfr sD11_feed_41 sF11_16 sGM15_3 ?_
        refine sd_aload_n sD11_feed_44 rfl ?_
        refine sd_getfx (v := x 4100) hx sD11_feed_45 sF11_186 sGM15_4 (by decide) rfl ?_
        refine sd_iload_n sD11_feed_48 rfl ?_
        refine sd_bipush sD11_feed_49 rfl (by decide) ?_
        refine sd_iload_n sD11_feed_51 rfl ?_
        refine sd_imul (z := 16) sD11_feed_52 (by omega) (by omega) ?_
        refine sd_ishr sD11_feed_53 ?_
        refine sd_sipush sD11_feed_54 rfl (by decide) ?_
        refine sd_iand sD11_feed_57 ?_
        refine sd_iastx (a := (4000 + ((x 4100).toNat))) sd_sokM hx sD11_feed_58 sAM2 (by omega) (fun m hx em58 => ?_)
        refine sd_aload_n sD11_feed_59 rfl ?_
        refine sd_dup sD11_feed_60 ?_
        refine sd_getfx (v := x 4100) hx sD11_feed_61 sF11_186 sGM15_4 (by decide) (by simp only [sd_up]; repeat rw [if_neg (by omega)]) ?_
        refine sd_iconst sD11_feed_64 (by decide) ?_
        refine sd_iadd (z := (x 4100 + 1)) sD11_feed_65 (by omega) (by omega) ?_
        refine sd_putfx sd_sokM sd_oneM hx sD11_feed_66 sF11_186 sGM15_4 (Or.inl rfl) (fun m hx em66 => ?_)
        refine sd_iinc (y := 1) (ls' := [some (.inr 15), some (.inl v), some (.inl 3), some (.inl 1)]) sD11_feed_69 rfl (by omega) (by omega) (by decide) rfl ?_
        refine sd_goto (tgt := 36) sD11_feed_72 (by decide) ?_
        refine sd_iload_n sD11_feed_36 rfl ?_
        refine sd_if_lt (tgt := 75) sD11_feed_37 (by decide) (fun zc37 => (by exfalso; omega)) (fun zc37 => ?_)
        refine sd_aload_n sD11_feed_40 rfl ?_
        refine sd_getfr sD11_feed_41 sF11_16 sGM15_3 ?_
        refine sd_aload_n sD11_feed_44 rfl ?_
        refine sd_getfx (v := (x 4100 + 1)) hx sD11_feed_45 sF11_186 sGM15_4 (by decide) (by simp only [sd_up]; first | (simp; done) | (repeat (first | rw [if_pos (by first | trivial | omega)] | rw [if_neg (by omega)]))) ?_
        refine sd_iload_n sD11_feed_48 rfl ?_
        refine sd_bipush sD11_feed_49 rfl (by decide) ?_
        refine sd_iload_n sD11_feed_51 rfl ?_
        refine sd_imul (z := 8) sD11_feed_52 (by omega) (by omega) ?_
        refine sd_ishr sD11_feed_53 ?_
        refine sd_sipush sD11_feed_54 rfl (by decide) ?_
        refine sd_iand sD11_feed_57 ?_
        refine sd_iastx (a := (4000 + ((x 4100).toNat + 1))) sd_sokM hx sD11_feed_58 sAM2 (by omega) (fun m hx em58 => ?_)
        refine sd_aload_n sD11_feed_59 rfl ?_
        refine sd_dup sD11_feed_60 ?_
        refine sd_getfx (v := (x 4100 + 1)) hx sD11_feed_61 sF11_186 sGM15_4 (by decide) (by simp only [sd_up]; first | (simp; done) | (repeat (first | rw [if_pos (by first | trivial | omega)] | rw [if_neg (by omega)]))) ?_
        refine sd_iconst sD11_feed_64 (by decide) ?_
        refine sd_iadd (z := ((x 4100 + 1) + 1)) sD11_feed_65 (by omega) (by omega) ?_
        refine sd_putfx sd_sokM sd_oneM hx sD11_feed_66 sF11_186 sGM15_4 (Or.inl rfl) (fun m hx em66 => ?_)
        refine sd_iinc (y := 0) (ls' := [some (.inr 15), some (.inl v), some (.inl 3), some (.inl 0)]) sD11_feed_69 rfl (by omega) (by omega) (by decide) rfl ?_
        refine sd_goto (tgt := 36) sD11_feed_72 (by decide) ?_
        refine sd_iload_n sD11_feed_36 rfl ?_
        refine sd_if_lt (tgt := 75) sD11_feed_37 (by decide) (fun zc37 => (by exfalso; omega)) (fun zc37 => ?_)
        refine sd_aload_n sD11_feed_40 rfl ?_
        refine sd_getfr sD11_feed_41 sF11_16 sGM15_3 ?_
        refine sd_aload_n sD11_feed_44 rfl ?_
        refine sd_getfx (v := ((x 4100 + 1) + 1)) hx sD11_feed_45 sF11_186 sGM15_4 (by decide) (by simp only [sd_up]; first | (simp; done) | (repeat (first | rw [if_pos (by first | trivial | omega)] | rw [if_neg (by omega)]))) ?_
        refine sd_iload_n sD11_feed_48 rfl ?_
        refine sd_bipush sD11_feed_49 rfl (by decide) ?_
        refine sd_iload_n sD11_feed_51 rfl ?_
        refine sd_imul (z := 0) sD11_feed_52 (by omega) (by omega) ?_
        refine sd_ishr sD11_feed_53 ?_
        refine sd_sipush sD11_feed_54 rfl (by decide) ?_
        refine sd_iand sD11_feed_57 ?_
        refine sd_iastx (a := (4000 + (((x 4100).toNat + 1) + 1))) sd_sokM hx sD11_feed_58 sAM2 (by omega) (fun m hx em58 => ?_)
        refine sd_aload_n sD11_feed_59 rfl ?_
        refine sd_dup sD11_feed_60 ?_
        refine sd_getfx (v := ((x 4100 + 1) + 1)) hx sD11_feed_61 sF11_186 sGM15_4 (by decide) (by simp only [sd_up]; first | (simp; done) | (repeat (first | rw [if_pos (by first | trivial | omega)] | rw [if_neg (by omega)]))) ?_
        refine sd_iconst sD11_feed_64 (by decide) ?_
        refine sd_iadd (z := (((x 4100 + 1) + 1) + 1)) sD11_feed_65 (by omega) (by omega) ?_
        refine sd_putfx sd_sokM sd_oneM hx sD11_feed_66 sF11_186 sGM15_4 (Or.inl rfl) (fun m hx em66 => ?_)
        refine sd_iinc (y := (-1)) (ls' := [some (.inr 15), some (.inl v), some (.inl 3), some (.inl (-1))]) sD11_feed_69 rfl (by omega) (by omega) (by decide) rfl ?_
        refine sd_goto (tgt := 36) sD11_feed_72 (by decide) ?_
        refine sd_iload_n sD11_feed_36 rfl ?_
        refine sd_if_lt (tgt := 75) sD11_feed_37 (by decide) (fun zc37 => ?_) (fun zc37 => (by exfalso; omega))
        refine sd_aload_n sD11_feed_75 rfl ?_
        refine sd_getfx (v := (((x 4100 + 1) + 1) + 1)) hx sD11_feed_76 sF11_186 sGM15_4 (by decide) (by simp only [sd_up]; first | (simp; done) | (repeat (first | rw [if_pos (by first | trivial | omega)] | rw [if_neg (by omega)]))) ?_
        refine sd_ireturn sD11_feed_79 rfl (fun hr hm => ?_)
        exact sd_done3 (by unfold sp_feed; ((repeat (first | rw [if_pos (by first | assumption | omega)] | rw [if_neg (by first | assumption | omega)]))); all_goals (first | rfl | (dsimp only; omega))) (by intro j; unfold sp_feed; ((repeat (first | rw [if_pos (by first | assumption | omega)] | rw [if_neg (by first | assumption | omega)]))); all_goals (first | rfl | (dsimp only; simp only [sd_up, sd_fdm]; (repeat' (first | rfl | split)); all_goals (first | omega | (congr 2; omega))))) hx
      ·
        subst zs32
        refine sd_iload_n sD11_feed_32 rfl ?_
        refine sd_iconst sD11_feed_33 (by decide) ?_
        refine sd_isub (z := 3) sD11_feed_34 (by omega) (by omega) ?_
        refine sd_istore_n (ls' := [some (.inr 15), some (.inl v), some (.inl 4), some (.inl 3)]) sD11_feed_35 (by decide) rfl ?_
        refine sd_iload_n sD11_feed_36 rfl ?_
        refine sd_if_lt (tgt := 75) sD11_feed_37 (by decide) (fun zc37 => (by exfalso; omega)) (fun zc37 => ?_)
        refine sd_aload_n sD11_feed_40 rfl ?_
        refine sd_getfr sD11_feed_41 sF11_16 sGM15_3 ?_
        refine sd_aload_n sD11_feed_44 rfl ?_
        refine sd_getfx (v := x 4100) hx sD11_feed_45 sF11_186 sGM15_4 (by decide) rfl ?_
        refine sd_iload_n sD11_feed_48 rfl ?_
        refine sd_bipush sD11_feed_49 rfl (by decide) ?_
        refine sd_iload_n sD11_feed_51 rfl ?_
        refine sd_imul (z := 24) sD11_feed_52 (by omega) (by omega) ?_
        refine sd_ishr sD11_feed_53 ?_
        refine sd_sipush sD11_feed_54 rfl (by decide) ?_
        refine sd_iand sD11_feed_57 ?_
        refine sd_iastx (a := (4000 + ((x 4100).toNat))) sd_sokM hx sD11_feed_58 sAM2 (by omega) (fun m hx em58 => ?_)
        refine sd_aload_n sD11_feed_59 rfl ?_
        refine sd_dup sD11_feed_60 ?_
        refine sd_getfx (v := x 4100) hx sD11_feed_61 sF11_186 sGM15_4 (by decide) (by simp only [sd_up]; repeat rw [if_neg (by omega)]) ?_
        refine sd_iconst sD11_feed_64 (by decide) ?_
        refine sd_iadd (z := (x 4100 + 1)) sD11_feed_65 (by omega) (by omega) ?_
        refine sd_putfx sd_sokM sd_oneM hx sD11_feed_66 sF11_186 sGM15_4 (Or.inl rfl) (fun m hx em66 => ?_)
        refine sd_iinc (y := 2) (ls' := [some (.inr 15), some (.inl v), some (.inl 4), some (.inl 2)]) sD11_feed_69 rfl (by omega) (by omega) (by decide) rfl ?_
        refine sd_goto (tgt := 36) sD11_feed_72 (by decide) ?_
        refine sd_iload_n sD11_feed_36 rfl ?_
        refine sd_if_lt (tgt := 75) sD11_feed_37 (by decide) (fun zc37 => (by exfalso; omega)) (fun zc37 => ?_)
        refine sd_aload_n sD11_feed_40 rfl ?_
        refine sd_getfr sD11_feed_41 sF11_16 sGM15_3 ?_
        refine sd_aload_n sD11_feed_44 rfl ?_
        refine sd_getfx (v := (x 4100 + 1)) hx sD11_feed_45 sF11_186 sGM15_4 (by decide) (by simp only [sd_up]; first | (simp; done) | (repeat (first | rw [if_pos (by first | trivial | omega)] | rw [if_neg (by omega)]))) ?_
        refine sd_iload_n sD11_feed_48 rfl ?_
        refine sd_bipush sD11_feed_49 rfl (by decide) ?_
        refine sd_iload_n sD11_feed_51 rfl ?_
        refine sd_imul (z := 16) sD11_feed_52 (by omega) (by omega) ?_
        refine sd_ishr sD11_feed_53 ?_
        refine sd_sipush sD11_feed_54 rfl (by decide) ?_
        refine sd_iand sD11_feed_57 ?_
        refine sd_iastx (a := (4000 + ((x 4100).toNat + 1))) sd_sokM hx sD11_feed_58 sAM2 (by omega) (fun m hx em58 => ?_)
        refine sd_aload_n sD11_feed_59 rfl ?_
        refine sd_dup sD11_feed_60 ?_
        refine sd_getfx (v := (x 4100 + 1)) hx sD11_feed_61 sF11_186 sGM15_4 (by decide) (by simp only [sd_up]; first | (simp; done) | (repeat (first | rw [if_pos (by first | trivial | omega)] | rw [if_neg (by omega)]))) ?_
        refine sd_iconst sD11_feed_64 (by decide) ?_
        refine sd_iadd (z := ((x 4100 + 1) + 1)) sD11_feed_65 (by omega) (by omega) ?_
        refine sd_putfx sd_sokM sd_oneM hx sD11_feed_66 sF11_186 sGM15_4 (Or.inl rfl) (fun m hx em66 => ?_)
        refine sd_iinc (y := 1) (ls' := [some (.inr 15), some (.inl v), some (.inl 4), some (.inl 1)]) sD11_feed_69 rfl (by omega) (by omega) (by decide) rfl ?_
        refine sd_goto (tgt := 36) sD11_feed_72 (by decide) ?_
        refine sd_iload_n sD11_feed_36 rfl ?_
        refine sd_if_lt (tgt := 75) sD11_feed_37 (by decide) (fun zc37 => (by exfalso; omega)) (fun zc37 => ?_)
        refine sd_aload_n sD11_feed_40 rfl ?_
        refine sd_getfr sD11_feed_41 sF11_16 sGM15_3 ?_
        refine sd_aload_n sD11_feed_44 rfl ?_
        refine sd_getfx (v := ((x 4100 + 1) + 1)) hx sD11_feed_45 sF11_186 sGM15_4 (by decide) (by simp only [sd_up]; first | (simp; done) | (repeat (first | rw [if_pos (by first | trivial | omega)] | rw [if_neg (by omega)]))) ?_
        refine sd_iload_n sD11_feed_48 rfl ?_
        refine sd_bipush sD11_feed_49 rfl (by decide) ?_
        refine sd_iload_n sD11_feed_51 rfl ?_
        refine sd_imul (z := 8) sD11_feed_52 (by omega) (by omega) ?_
        refine sd_ishr sD11_feed_53 ?_
        refine sd_sipush sD11_feed_54 rfl (by decide) ?_
        refine sd_iand sD11_feed_57 ?_
        refine sd_iastx (a := (4000 + (((x 4100).toNat + 1) + 1))) sd_sokM hx sD11_feed_58 sAM2 (by omega) (fun m hx em58 => ?_)
        refine sd_aload_n sD11_feed_59 rfl ?_
        refine sd_dup sD11_feed_60 ?_
        refine sd_getfx (v := ((x 4100 + 1) + 1)) hx sD11_feed_61 sF11_186 sGM15_4 (by decide) (by simp only [sd_up]; first | (simp; done) | (repeat (first | rw [if_pos (by first | trivial | omega)] | rw [if_neg (by omega)]))) ?_
        refine sd_iconst sD11_feed_64 (by decide) ?_
        refine sd_iadd (z := (((x 4100 + 1) + 1) + 1)) sD11_feed_65 (by omega) (by omega) ?_
        refine sd_putfx sd_sokM sd_oneM hx sD11_feed_66 sF11_186 sGM15_4 (Or.inl rfl) (fun m hx em66 => ?_)
        refine sd_iinc (y := 0) (ls' := [some (.inr 15), some (.inl v), some (.inl 4), some (.inl 0)]) sD11_feed_69 rfl (by omega) (by omega) (by decide) rfl ?_
        refine sd_goto (tgt := 36) sD11_feed_72 (by decide) ?_
        refine sd_iload_n sD11_feed_36 rfl ?_
        refine sd_if_lt (tgt := 75) sD11_feed_37 (by decide) (fun zc37 => (by exfalso; omega)) (fun zc37 => ?_)
        refine sd_aload_n sD11_feed_40 rfl ?_
        refine sd_getfr sD11_feed_41 sF11_16 sGM15_3 ?_
        refine sd_aload_n sD11_feed_44 rfl ?_
        refine sd_getfx (v := (((x 4100 + 1) + 1) + 1)) hx sD11_feed_45 sF11_186 sGM15_4 (by decide) (by simp only [sd_up]; first | (simp; done) | (repeat (first | rw [if_pos (by first | trivial | omega)] | rw [if_neg (by omega)]))) ?_
        refine sd_iload_n sD11_feed_48 rfl ?_
        refine sd_bipush sD11_feed_49 rfl (by decide) ?_
        refine sd_iload_n sD11_feed_51 rfl ?_
        refine sd_imul (z := 0) sD11_feed_52 (by omega) (by omega) ?_
        refine sd_ishr sD11_feed_53 ?_
        refine sd_sipush sD11_feed_54 rfl (by decide) ?_
        refine sd_iand sD11_feed_57 ?_
        refine sd_iastx (a := (4000 + ((((x 4100).toNat + 1) + 1) + 1))) sd_sokM hx sD11_feed_58 sAM2 (by omega) (fun m hx em58 => ?_)
        refine sd_aload_n sD11_feed_59 rfl ?_
        refine sd_dup sD11_feed_60 ?_
        refine sd_getfx (v := (((x 4100 + 1) + 1) + 1)) hx sD11_feed_61 sF11_186 sGM15_4 (by decide) (by simp only [sd_up]; first | (simp; done) | (repeat (first | rw [if_pos (by first | trivial | omega)] | rw [if_neg (by omega)]))) ?_
        refine sd_iconst sD11_feed_64 (by decide) ?_
        refine sd_iadd (z := ((((x 4100 + 1) + 1) + 1) + 1)) sD11_feed_65 (by omega) (by omega) ?_
        refine sd_putfx sd_sokM sd_oneM hx sD11_feed_66 sF11_186 sGM15_4 (Or.inl rfl) (fun m hx em66 => ?_)
        refine sd_iinc (y := (-1)) (ls' := [some (.inr 15), some (.inl v), some (.inl 4), some (.inl (-1))]) sD11_feed_69 rfl (by omega) (by omega) (by decide) rfl ?_
        refine sd_goto (tgt := 36) sD11_feed_72 (by decide) ?_
        refine sd_iload_n sD11_feed_36 rfl ?_
        refine sd_if_lt (tgt := 75) sD11_feed_37 (by decide) (fun zc37 => ?_) (fun zc37 => (by exfalso; omega))
        refine sd_aload_n sD11_feed_75 rfl ?_
        refine sd_getfx (v := ((((x 4100 + 1) + 1) + 1) + 1)) hx sD11_feed_76 sF11_186 sGM15_4 (by decide) (by simp only [sd_up]; first | (simp; done) | (repeat (first | rw [if_pos (by first | trivial | omega)] | rw [if_neg (by omega)]))) ?_
        refine sd_ireturn sD11_feed_79 rfl (fun hr hm => ?_)
        exact sd_done3 (by unfold sp_feed; ((repeat (first | rw [if_pos (by first | assumption | omega)] | rw [if_neg (by first | assumption | omega)]))); all_goals (first | rfl | (dsimp only; omega))) (by intro j; unfold sp_feed; ((repeat (first | rw [if_pos (by first | assumption | omega)] | rw [if_neg (by first | assumption | omega)]))); all_goals (first | rfl | (dsimp only; simp only [sd_up, sd_fdm]; (repeat' (first | rfl | split)); all_goals (first | omega | (congr 2; omega))))) hx
    ·
      refine sd_aload_n sD11_feed_26 rfl ?_
      refine sd_iconst sD11_feed_27 (by decide) ?_
      refine sd_callV (as := [.inl 1]) (st := []) sD11_feed_28 sM11_78 rfl rfl sOM15 rfl (by decide) (Nat.le_of_ble_eq_true rfl) (cM_finding 1 (by decide) _ m hx (hF 1 (by decide))) (fun r m hq ho28 hm => ?_)
      obtain ⟨rfl, hx⟩ := hq
      show sd_Wp sd_SM 2 sY11_feed 31 [some (.inr 15), some (.inl v), some (.inl n), none] [.inl (-1000002)] m _
      refine sd_ireturn sD11_feed_31 rfl (fun hr hm => ?_)
      exact sd_done3 (by unfold sp_feed; ((repeat (first | rw [if_pos (by first | assumption | omega)] | rw [if_neg (by first | assumption | omega)]))); all_goals (first | rfl | (dsimp only; omega))) (by intro j; unfold sp_feed; ((repeat (first | rw [if_pos (by first | assumption | omega)] | rw [if_neg (by first | assumption | omega)]))); all_goals (first | rfl | (dsimp only; simp only [sd_up, sd_fdm]; (repeat' (first | rfl | split)); all_goals (first | omega | (congr 2; omega))))) hx
  ·
    refine sd_aload_n sD11_feed_9 rfl ?_
    refine sd_iconst sD11_feed_10 (by decide) ?_
    refine sd_callV (as := [.inl 0]) (st := []) sD11_feed_11 sM11_78 rfl rfl sOM15 rfl (by decide) (Nat.le_of_ble_eq_true rfl) (cM_finding 0 (by decide) _ m hx (hF 0 (by decide))) (fun r m hq ho11 hm => ?_)
    obtain ⟨rfl, hx⟩ := hq
    show sd_Wp sd_SM 2 sY11_feed 14 [some (.inr 15), some (.inl v), some (.inl n), none] [.inl (-1000001)] m _
    refine sd_ireturn sD11_feed_14 rfl (fun hr hm => ?_)
    exact sd_done3 (by unfold sp_feed; ((repeat (first | rw [if_pos (by first | assumption | omega)] | rw [if_neg (by first | assumption | omega)]))); all_goals (first | rfl | (dsimp only; omega))) (by intro j; unfold sp_feed; ((repeat (first | rw [if_pos (by first | assumption | omega)] | rw [if_neg (by first | assumption | omega)]))); all_goals (first | rfl | (dsimp only; simp only [sd_up, sd_fdm]; (repeat' (first | rfl | split)); all_goals (first | omega | (congr 2; omega))))) hx
