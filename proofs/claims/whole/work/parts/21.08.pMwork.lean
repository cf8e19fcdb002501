set_option maxRecDepth 100000 in
set_option maxHeartbeats 4000000 in
theorem pM_work (n : Int) (x m : sd_M) (hx : sd_ns x m) (h1 : sd_I1 x) (hF : ∀ k : Nat, k < 7 → 0 ≤ x (4101 + k) ∧ x (4101 + k) ≤ 1000000) : sd_Ct sd_SM 2 sY11_work [.inr 15, .inl n] m (sd_Qp (sp_work x n)) := by
  refine sd_ct rfl (Nat.le_of_ble_eq_true rfl) (fun hok hm => ?_)
  obtain ⟨⟨i0, j0⟩, ⟨i1, j1⟩, ⟨i2, j2⟩, ⟨i3, j3⟩, ⟨i4, j4⟩, ⟨i5, j5⟩, ⟨i6, j6⟩, ⟨i7, j7⟩, ⟨i8, j8⟩⟩ := id h1
  have r_n : sd_R n := hok (.inl n) (by simp)
  show sd_Wp sd_SM 2 sY11_work 0 [some (.inr 15), some (.inl n), none, none] [] m _
  refine sd_iload_n sD11_work_0 rfl ?_
  refine sd_iconst sD11_work_1 (by decide) ?_
  refine sd_ldc (z := 999999) sD11_work_2 sK11_125 (by decide) ?_
  refine sd_callSp (as := [.inl n, .inl 0, .inl 999999]) (st := []) (v := .inl (sd_b (0 ≤ n ∧ n ≤ 999999))) sD11_work_4 sM11_56 rfl rfl (by decide) (Nat.le_of_ble_eq_true rfl) (cM_in n 0 999999 m) (fun ho4 => ?_)
  refine sd_bif_ne (tgt := 16) sD11_work_7 (by decide) (fun zc7 => ?_) (fun zc7 => ?_)
  ·
    refine sd_aload_n sD11_work_16 rfl ?_
    refine sd_getfr sD11_work_17 sF11_7 sGM15_0 ?_
    refine sd_iconst sD11_work_20 (by decide) ?_
    refine sd_ialdx (a := 4) (v := x 4) hx sD11_work_21 sAM0 (by omega) rfl ?_
    refine sd_bipush sD11_work_22 rfl (by decide) ?_
    refine sd_icmp_ne (tgt := 33) sD11_work_24 (by decide) (fun zc24 => ?_) (fun zc24 => ?_)
    ·
      refine sd_iload_n sD11_work_33 rfl ?_
      refine sd_istore_n (ls' := [some (.inr 15), some (.inl n), some (.inl n), none]) sD11_work_34 (by decide) rfl ?_
      refine sd_iconst sD11_work_35 (by decide) ?_
      refine sd_istore_n (ls' := [some (.inr 15), some (.inl n), some (.inl n), some (.inl 5)]) sD11_work_36 (by decide) rfl ?_
      refine sd_iload_n sD11_work_37 rfl ?_
      refine sd_if_lt (tgt := 76) sD11_work_38 (by decide) (fun zc38 => (by exfalso; omega)) (fun zc38 => ?_)
      refine sd_aload_n sD11_work_41 rfl ?_
      refine sd_getfr sD11_work_42 sF11_7 sGM15_0 ?_
      refine sd_sipush sD11_work_45 rfl (by decide) ?_
      refine sd_bipush sD11_work_48 rfl (by decide) ?_
      refine sd_aload_n sD11_work_50 rfl ?_
      refine sd_getfr sD11_work_51 sF11_7 sGM15_0 ?_
      refine sd_iconst sD11_work_54 (by decide) ?_
      refine sd_ialdx (a := 4) (v := x 4) hx sD11_work_55 sAM0 (by omega) rfl ?_
      refine sd_imul (z := (6 * (x 4))) sD11_work_56 (by omega) (by omega) ?_
      refine sd_iadd (z := (392 + (6 * (x 4)))) sD11_work_57 (by omega) (by omega) ?_
      refine sd_iload_n sD11_work_58 rfl ?_
      refine sd_iadd (z := ((392 + (6 * (x 4))) + 5)) sD11_work_59 (by omega) (by omega) ?_
      refine sd_iload_n sD11_work_60 rfl ?_
      refine sd_bipush sD11_work_61 rfl (by decide) ?_
      refine sd_irem (z := (n % 10)) sD11_work_63 (by decide) (by exact Int.tmod_eq_emod_of_nonneg (by omega)) (by omega) ?_
      refine sd_iastx (a := ((392 + (6 * (x 4).toNat)) + 5)) sd_sokM hx sD11_work_64 sAM0 (by omega) (fun m hx em64 => ?_)
      refine sd_iload_n sD11_work_65 rfl ?_
      refine sd_bipush sD11_work_66 rfl (by decide) ?_
      refine sd_idiv (z := (n / 10)) sD11_work_68 (by decide) (by exact Int.tdiv_eq_ediv_of_nonneg (by omega)) (by omega) ?_
      refine sd_istore_n (ls' := [some (.inr 15), some (.inl n), some (.inl (n / 10)), some (.inl 5)]) sD11_work_69 (by decide) rfl ?_
      refine sd_iinc (y := 4) (ls' := [some (.inr 15), some (.inl n), some (.inl (n / 10)), some (.inl 4)]) sD11_work_70 rfl (by omega) (by omega) (by decide) rfl ?_
      refine sd_goto (tgt := 37) sD11_work_73 (by decide) ?_
      refine sd_iload_n sD11_work_37 rfl ?_
      refine sd_if_lt (tgt := 76) sD11_work_38 (by decide) (fun zc38 => (by exfalso; omega)) (fun zc38 => ?_)
      refine sd_aload_n sD11_work_41 rfl ?_
      refine sd_getfr sD11_work_42 sF11_7 sGM15_0 ?_
      refine sd_sipush sD11_work_45 rfl (by decide) ?_
      refine sd_bipush sD11_work_48 rfl (by decide) ?_
      refine sd_aload_n sD11_work_50 rfl ?_
      refine sd_getfr sD11_work_51 sF11_7 sGM15_0 ?_
      refine sd_iconst sD11_work_54 (by decide) ?_
      refine sd_ialdx (a := 4) (v := x 4) hx sD11_work_55 sAM0 (by omega) (by simp only [sd_up]; repeat rw [if_neg (by omega)]) ?_
      refine sd_imul (z := (6 * (x 4))) sD11_work_56 (by omega) (by omega) ?_
      refine sd_iadd (z := (392 + (6 * (x 4)))) sD11_work_57 (by omega) (by omega) ?_
      refine sd_iload_n sD11_work_58 rfl ?_
      refine sd_iadd (z := ((392 + (6 * (x 4))) + 4)) sD11_work_59 (by omega) (by omega) ?_
      refine sd_iload_n sD11_work_60 rfl ?_
      refine sd_bipush sD11_work_61 rfl (by decide) ?_
      refine sd_irem (z := ((n / 10) % 10)) sD11_work_63 (by decide) (by exact Int.tmod_eq_emod_of_nonneg (by omega)) (by omega) ?_
      refine sd_iastx (a := ((392 + (6 * (x 4).toNat)) + 4)) sd_sokM hx sD11_work_64 sAM0 (by omega) (fun m hx em64 => ?_)
      refine sd_iload_n sD11_work_65 rfl ?_
      refine sd_bipush sD11_work_66 rfl (by decide) ?_
      refine sd_idiv (z := ((n / 10) / 10)) sD11_work_68 (by decide) (by exact Int.tdiv_eq_ediv_of_nonneg (by omega)) (by omega) ?_
      refine sd_istore_n (ls' := [some (.inr 15), some (.inl n), some (.inl ((n / 10) / 10)), some (.inl 4)]) sD11_work_69 (by decide) rfl ?_
      refine sd_iinc (y := 3) (ls' := [some (.inr 15), some (.inl n), some (.inl ((n / 10) / 10)), some (.inl 3)]) sD11_work_70 rfl (by omega) (by omega) (by decide) rfl ?_
      refine sd_goto (tgt := 37) sD11_work_73 (by decide) ?_
      refine sd_iload_n sD11_work_37 rfl ?_
      refine sd_if_lt (tgt := 76) sD11_work_38 (by decide) (fun zc38 => (by exfalso; omega)) (fun zc38 => ?_)
      refine sd_aload_n sD11_work_41 rfl ?_
      refine sd_getfr sD11_work_42 sF11_7 sGM15_0 ?_
      refine sd_sipush sD11_work_45 rfl (by decide) ?_
      refine sd_bipush sD11_work_48 rfl (by decide) ?_
      refine sd_aload_n sD11_work_50 rfl ?_
      refine sd_getfr sD11_work_51 sF11_7 sGM15_0 ?_
      refine sd_iconst sD11_work_54 (by decide) ?_
      refine sd_ialdx (a := 4) (v := x 4) hx sD11_work_55 sAM0 (by omega) (by simp only [sd_up]; repeat rw [if_neg (by omega)]) ?_
      refine sd_imul (z := (6 * (x 4))) sD11_work_56 (by omega) (by omega) ?_
      refine sd_iadd (z := (392 + (6 * (x 4)))) sD11_work_57 (by omega) (by omega) ?_
      refine sd_iload_n sD11_work_58 rfl ?_
      refine sd_iadd (z := ((392 + (6 * (x 4))) + 3)) sD11_work_59 (by omega) (by omega) ?_
      refine sd_iload_n sD11_work_60 rfl ?_
      refine sd_bipush sD11_work_61 rfl (by decide) ?_
      refine sd_irem (z := (((n / 10) / 10) % 10)) sD11_work_63 (by decide) (by exact Int.tmod_eq_emod_of_nonneg (by omega)) (by omega) ?_
      refine sd_iastx (a := ((392 + (6 * (x 4).toNat)) + 3)) sd_sokM hx sD11_work_64 sAM0 (by omega) (fun m hx em64 => ?_)
      refine sd_iload_n sD11_work_65 rfl ?_
      refine sd_bipush sD11_work_66 rfl (by decide) ?_
      refine sd_idiv (z := (((n / 10) / 10) / 10)) sD11_work_68 (by decide) (by exact Int.tdiv_eq_ediv_of_nonneg (by omega)) (by omega) ?_
      refine sd_istore_n (ls' := [some (.inr 15), some (.inl n), some (.inl (((n / 10) / 10) / 10)), some (.inl 3)]) sD11_work_69 (by decide) rfl ?_
      refine sd_iinc (y := 2) (ls' := [some (.inr 15), some (.inl n), some (.inl (((n / 10) / 10) / 10)), some (.inl 2)]) sD11_work_70 rfl (by omega) (by omega) (by decide) rfl ?_
      refine sd_goto (tgt := 37) sD11_work_73 (by decide) ?_
      refine sd_iload_n sD11_work_37 rfl ?_
      refine sd_if_lt (tgt := 76) sD11_work_38 (by decide) (fun zc38 => (by exfalso; omega)) (fun zc38 => ?_)
      refine sd_aload_n sD11_work_41 rfl ?_
      refine sd_getfr sD11_work_42 sF11_7 sGM15_0 ?_
      refine sd_sipush sD11_work_45 rfl (by decide) ?_
      refine sd_bipush sD11_work_48 rfl (by decide) ?_
      refine sd_aload_n sD11_work_50 rfl ?_
      refine sd_getfr sD11_work_51 sF11_7 sGM15_0 ?_
      refine sd_iconst sD11_work_54 (by decide) ?_
      refine sd_ialdx (a := 4) (v := x 4) hx sD11_work_55 sAM0 (by omega) (by simp only [sd_up]; repeat rw [if_neg (by omega)]) ?_
      refine sd_imul (z := (6 * (x 4))) sD11_work_56 (by omega) (by omega) ?_
      refine sd_iadd (z := (392 + (6 * (x 4)))) sD11_work_57 (by omega) (by omega) ?_
      refine sd_iload_n sD11_work_58 rfl ?_
      refine sd_iadd (z := ((392 + (6 * (x 4))) + 2)) sD11_work_59 (by omega) (by omega) ?_
      refine sd_iload_n sD11_work_60 rfl ?_
      refine sd_bipush sD11_work_61 rfl (by decide) ?_
      refine sd_irem (z := ((((n / 10) / 10) / 10) % 10)) sD11_work_63 (by decide) (by exact Int.tmod_eq_emod_of_nonneg (by omega)) (by omega) ?_
      refine sd_iastx (a := ((392 + (6 * (x 4).toNat)) + 2)) sd_sokM hx sD11_work_64 sAM0 (by omega) (fun m hx em64 => ?_)
      refine sd_iload_n sD11_work_65 rfl ?_
      refine sd_bipush sD11_work_66 rfl (by decide) ?_
      refine sd_idiv (z := ((((n / 10) / 10) / 10) / 10)) sD11_work_68 (by decide) (by exact Int.tdiv_eq_ediv_of_nonneg (by omega)) (by omega) ?_
      refine sd_istore_n (ls' := [some (.inr 15), some (.inl n), some (.inl ((((n / 10) / 10) / 10) / 10)), some (.inl 2)]) sD11_work_69 (by decide) rfl ?_
      refine sd_iinc (y := 1) (ls' := [some (.inr 15), some (.inl n), some (.inl ((((n / 10) / 10) / 10) / 10)), some (.inl 1)]) sD11_work_70 rfl (by omega) (by omega) (by decide) rfl ?_
      refine sd_goto (tgt := 37) sD11_work_73 (by decide) ?_
      refine sd_iload_n sD11_work_37 rfl ?_
      refine sd_if_lt (tgt := 76) sD11_work_38 (by decide) (fun zc38 => (by exfalso; omega)) (fun zc38 => ?_)
      refine sd_aload_n sD11_work_41 rfl ?_
      refine sd_getfr sD11_work_42 sF11_7 sGM15_0 ?_
      refine sd_sipush sD11_work_45 rfl (by decide) ?_
      refine sd_bipush sD11_work_48 rfl (by decide) ?_
      refine sd_aload_n sD11_work_50 rfl ?_
      refine sd_getfr sD11_work_51 sF11_7 sGM15_0 ?_
      refine sd_iconst sD11_work_54 (by decide) ?_
      refine sd_ialdx (a := 4) (v := x 4) hx sD11_work_55 sAM0 (by omega) (by simp only [sd_up]; repeat rw [if_neg (by omega)]) ?_
      refine sd_imul (z := (6 * (x 4))) sD11_work_56 (by omega) (by omega) ?_
      refine sd_iadd (z := (392 + (6 * (x 4)))) sD11_work_57 (by omega) (by omega) ?_
      refine sd_iload_n sD11_work_58 rfl ?_
      refine sd_iadd (z := ((392 + (6 * (x 4))) + 1)) sD11_work_59 (by omega) (by omega) ?_
      refine sd_iload_n sD11_work_60 rfl ?_
      refine sd_bipush sD11_work_61 rfl (by decide) ?_
      refine sd_irem (z := (((((n / 10) / 10) / 10) / 10) % 10)) sD11_work_63 (by decide) (by exact Int.tmod_eq_emod_of_nonneg (by omega)) (by omega) ?_
      refine sd_iastx (a := ((392 + (6 * (x 4).toNat)) + 1)) sd_sokM hx sD11_work_64 sAM0 (by omega) (fun m hx em64 => ?_)
      refine sd_iload_n sD11_work_65 rfl ?_
      refine sd_bipush sD11_work_66 rfl (by decide) ?_
      refine sd_idiv (z := (((((n / 10) / 10) / 10) / 10) / 10)) sD11_work_68 (by decide) (by exact Int.tdiv_eq_ediv_of_nonneg (by omega)) (by omega) ?_
      refine sd_istore_n (ls' := [some (.inr 15), some (.inl n), some (.inl (((((n / 10) / 10) / 10) / 10) / 10)), some (.inl 1)]) sD11_work_69 (by decide) rfl ?_
      refine sd_iinc (y := 0) (ls' := [some (.inr 15), some (.inl n), some (.inl (((((n / 10) / 10) / 10) / 10) / 10)), some (.inl 0)]) sD11_work_70 rfl (by omega) (by omega) (by decide) rfl ?_
      refine sd_goto (tgt := 37) sD11_work_73 (by decide) ?_
      refine sd_iload_n sD11_work_37 rfl ?_
      refine sd_if_lt (tgt := 76) sD11_work_38 (by decide) (fun zc38 => (by exfalso; omega)) (fun zc38 => ?_)
      refine sd_aload_n sD11_work_41 rfl ?_
      refine sd_getfr sD11_work_42 sF11_7 sGM15_0 ?_
      refine sd_sipush sD11_work_45 rfl (by decide) ?_
      refine sd_bipush sD11_work_48 rfl (by decide) ?_
      refine sd_aload_n sD11_work_50 rfl ?_
      refine sd_getfr sD11_work_51 sF11_7 sGM15_0 ?_
      refine sd_iconst sD11_work_54 (by decide) ?_
      refine sd_ialdx (a := 4) (v := x 4) hx sD11_work_55 sAM0 (by omega) (by simp only [sd_up]; repeat rw [if_neg (by omega)]) ?_
      refine sd_imul (z := (6 * (x 4))) sD11_work_56 (by omega) (by omega) ?_
      refine sd_iadd (z := (392 + (6 * (x 4)))) sD11_work_57 (by omega) (by omega) ?_
      refine sd_iload_n sD11_work_58 rfl ?_
      refine sd_iadd (z := (392 + (6 * (x 4)))) sD11_work_59 (by omega) (by omega) ?_
      refine sd_iload_n sD11_work_60 rfl ?_
      refine sd_bipush sD11_work_61 rfl (by decide) ?_
      refine sd_irem (z := ((((((n / 10) / 10) / 10) / 10) / 10) % 10)) sD11_work_63 (by decide) (by exact Int.tmod_eq_emod_of_nonneg (by omega)) (by omega) ?_
      refine sd_iastx (a := (392 + (6 * (x 4).toNat))) sd_sokM hx sD11_work_64 sAM0 (by omega) (fun m hx em64 => ?_)
      refine sd_iload_n sD11_work_65 rfl ?_
      refine sd_bipush sD11_work_66 rfl (by decide) ?_
      refine sd_idiv (z := ((((((n / 10) / 10) / 10) / 10) / 10) / 10)) sD11_work_68 (by decide) (by exact Int.tdiv_eq_ediv_of_nonneg (by omega)) (by omega) ?_
      refine sd_istore_n (ls' := [some (.inr 15), some (.inl n), some (.inl ((((((n / 10) / 10) / 10) / 10) / 10) / 10)), some (.inl 0)]) sD11_work_69 (by decide) rfl ?_
      refine sd_iinc (y := (-1)) (ls' := [some (.inr 15), some (.inl n), some (.inl ((((((n / 10) / 10) / 10) / 10) / 10) / 10)), some (.inl (-1))]) sD11_work_70 rfl (by omega) (by omega) (by decide) rfl ?_
      refine sd_goto (tgt := 37) sD11_work_73 (by decide) ?_
      refine sd_iload_n sD11_work_37 rfl ?_
      refine sd_if_lt (tgt := 76) sD11_work_38 (by decide) (fun zc38 => ?_) (fun zc38 => (by exfalso; omega))
      refine sd_aload_n sD11_work_76 rfl ?_
      refine sd_getfr sD11_work_77 sF11_7 sGM15_0 ?_
      refine sd_iconst sD11_work_80 (by decide) ?_
      refine sd_dup2 sD11_work_81 ?_
      refine sd_ialdx (a := 4) (v := x 4) hx sD11_work_82 sAM0 (by omega) (by simp only [sd_up]; repeat rw [if_neg (by omega)]) ?_
      refine sd_iconst sD11_work_83 (by decide) ?_
      refine sd_iadd (z := (x 4 + 1)) sD11_work_84 (by omega) (by omega) ?_
      refine sd_iastx (a := 4) sd_sokM hx sD11_work_85 sAM0 (by omega) (fun m hx em85 => ?_)
      refine sd_aload_n sD11_work_86 rfl ?_
      refine sd_getfr sD11_work_87 sF11_7 sGM15_0 ?_
      refine sd_iconst sD11_work_90 (by decide) ?_
      refine sd_ialdx (a := 4) (v := (x 4 + 1)) hx sD11_work_91 sAM0 (by omega) (by simp only [sd_up]; first | (simp; done) | (repeat (first | rw [if_pos (by first | trivial | omega)] | rw [if_neg (by omega)]))) ?_
      refine sd_iconst sD11_work_92 (by decide) ?_
      refine sd_isub (z := ((x 4 + 1) - 1)) sD11_work_93 (by omega) (by omega) ?_
      refine sd_ireturn sD11_work_94 rfl (fun hr hm => ?_)
      exact sd_done3 (by unfold sp_work; ((repeat (first | rw [if_pos (by first | assumption | omega)] | rw [if_neg (by first | assumption | omega)]))); all_goals (first | rfl | (dsimp only; omega))) (by intro j; unfold sp_work; ((repeat (first | rw [if_pos (by first | assumption | omega)] | rw [if_neg (by first | assumption | omega)]))); all_goals (first | rfl | (dsimp only; simp only [sd_up]; (repeat' (first | rfl | split)); all_goals omega))) hx
    ·
      refine sd_aload_n sD11_work_27 rfl ?_
      refine sd_iconst sD11_work_28 (by decide) ?_
      refine sd_callV (as := [.inl 1]) (st := []) sD11_work_29 sM11_78 rfl rfl sOM15 rfl (by decide) (Nat.le_of_ble_eq_true rfl) (cM_finding 1 (by decide) _ m hx (hF 1 (by decide))) (fun r m hq ho29 hm => ?_)
      obtain ⟨rfl, hx⟩ := hq
      show sd_Wp sd_SM 2 sY11_work 32 [some (.inr 15), some (.inl n), none, none] [.inl (-1000002)] m _
      refine sd_ireturn sD11_work_32 rfl (fun hr hm => ?_)
      exact sd_done3 (by unfold sp_work; ((repeat (first | rw [if_pos (by first | assumption | omega)] | rw [if_neg (by first | assumption | omega)]))); all_goals (first | rfl | (dsimp only; omega))) (by intro j; unfold sp_work; ((repeat (first | rw [if_pos (by first | assumption | omega)] | rw [if_neg (by first | assumption | omega)]))); all_goals (first | rfl | (dsimp only; simp only [sd_up]; (repeat' (first | rfl | split)); all_goals omega))) hx
  ·
    refine sd_aload_n sD11_work_10 rfl ?_
    refine sd_iconst sD11_work_11 (by decide) ?_
    refine sd_callV (as := [.inl 0]) (st := []) sD11_work_12 sM11_78 rfl rfl sOM15 rfl (by decide) (Nat.le_of_ble_eq_true rfl) (cM_finding 0 (by decide) _ m hx (hF 0 (by decide))) (fun r m hq ho12 hm => ?_)
    obtain ⟨rfl, hx⟩ := hq
    show sd_Wp sd_SM 2 sY11_work 15 [some (.inr 15), some (.inl n), none, none] [.inl (-1000001)] m _
    refine sd_ireturn sD11_work_15 rfl (fun hr hm => ?_)
    exact sd_done3 (by unfold sp_work; ((repeat (first | rw [if_pos (by first | assumption | omega)] | rw [if_neg (by first | assumption | omega)]))); all_goals (first | rfl | (dsimp only; omega))) (by intro j; unfold sp_work; ((repeat (first | rw [if_pos (by first | assumption | omega)] | rw [if_neg (by first | assumption | omega)]))); all_goals (first | rfl | (dsimp only; simp only [sd_up]; (repeat' (first | rfl | split)); all_goals omega))) hx
