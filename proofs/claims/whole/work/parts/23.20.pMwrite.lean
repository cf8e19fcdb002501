set_option maxRecDepth 100000 in
set_option maxHeartbeats 4000000 in
theorem pM_write (s : Int) (i : Int) (v : Int) (x m : sd_M) (hx : sd_ns x m)  (hF : ∀ k : Nat, k < 7 → 0 ≤ x (4101 + k) ∧ x (4101 + k) ≤ 1000000) (hB : sd_IB x) : sd_Ct sd_SM 2 sY11_write [.inr 15, .inl s, .inl i, .inl v] m (sd_Qp (spM_write x s i v)) := by
  refine sd_ct rfl (Nat.le_of_ble_eq_true rfl) (fun hok hm => ?_)
  have r_s : sd_R s := hok (.inl s) (by simp)
  have r_i : sd_R i := hok (.inl i) (by simp)
  have r_v : sd_R v := hok (.inl v) (by simp)
  show sd_Wp sd_SM 2 sY11_write 0 [some (.inr 15), some (.inl s), some (.inl i), some (.inl v), none] [] m _
  refine sd_iload_n sD11_write_0 rfl ?_
  refine sd_callSp (as := [.inl s]) (st := []) (v := .inl (sd_b (0 ≤ s ∧ s ≤ 3))) sD11_write_1 sM11_126 rfl rfl (by decide) (Nat.le_of_ble_eq_true rfl) (cM_isSheet s _ m hx  ) (fun ho1 => ?_)
  refine sd_bif_ne (tgt := 13) sD11_write_4 (by decide) (fun zc4 => ?_) (fun zc4 => ?_)
  ·
    have e0 := hB s.toNat (by omega)
    refine sd_aload_n sD11_write_13 rfl ?_
    refine sd_getfr sD11_write_14 sF11_43 sGM15_20 ?_
    refine sd_iload_n sD11_write_17 rfl ?_
    refine sd_ialdx (a := (4250 + s.toNat)) (v := x (4250 + s.toNat)) hx sD11_write_18 sAM11 (by omega) rfl ?_
    refine sd_if_ne (tgt := 28) sD11_write_19 (by decide) (fun zc19 => ?_) (fun zc19 => ?_)
    ·
      have e1 := e0.2.2.2 zc19
      have e2 := e0.1
      have e3 := e0.2.1
      have e4 := e1.1
      have e6 := e1.2
      clear e0 e1
      refine sd_iload_n sD11_write_28 rfl ?_
      refine sd_iconst sD11_write_29 (by decide) ?_
      refine sd_aload_n sD11_write_30 rfl ?_
      refine sd_getfr sD11_write_31 sF11_46 sGM15_21 ?_
      refine sd_iload_n sD11_write_34 rfl ?_
      refine sd_ialdx (a := (4254 + s.toNat)) (v := x (4254 + s.toNat)) hx sD11_write_35 sAM12 (by omega) rfl ?_
      refine sd_iconst sD11_write_36 (by decide) ?_
      refine sd_isub (z := (x (4254 + s.toNat) - 1)) sD11_write_37 (by omega) (by omega) ?_
      refine sd_callSp (as := [.inl i, .inl 0, .inl (x (4254 + s.toNat) - 1)]) (st := []) (v := .inl (sd_b (0 ≤ i ∧ i ≤ (x (4254 + s.toNat) - 1)))) sD11_write_38 sM11_56 rfl rfl (by decide) (Nat.le_of_ble_eq_true rfl) (cM_in i 0 (x (4254 + s.toNat) - 1) m) (fun ho38 => ?_)
      refine sd_bif_ne (tgt := 50) sD11_write_41 (by decide) (fun zc41 => ?_) (fun zc41 => ?_)
      ·
        have e5 := e6 i.toNat (by omega)
        clear e6
        refine sd_aload_n sD11_write_50 rfl ?_
        refine sd_getfr sD11_write_51 sF11_49 sGM15_22 ?_
        refine sd_bipush sD11_write_54 rfl (by decide) ?_
        refine sd_iload_n sD11_write_56 rfl ?_
        refine sd_imul (z := (12 * s)) sD11_write_57 (by omega) (by omega) ?_
        refine sd_iload_n sD11_write_58 rfl ?_
        refine sd_iadd (z := ((12 * s) + i)) sD11_write_59 (by omega) (by omega) ?_
        refine sd_ialdx (a := (4200 + ((12 * s.toNat) + i.toNat))) (v := x (4200 + ((12 * s.toNat) + i.toNat))) hx sD11_write_60 sAM13 (by omega) rfl ?_
        refine sd_istore (ls' := [some (.inr 15), some (.inl s), some (.inl i), some (.inl v), some (.inl (x (4200 + ((12 * s.toNat) + i.toNat))))]) sD11_write_61 (by decide) rfl ?_
        refine sd_aload_n sD11_write_63 rfl ?_
        refine sd_getfr sD11_write_64 sF11_49 sGM15_22 ?_
        refine sd_bipush sD11_write_67 rfl (by decide) ?_
        refine sd_iload_n sD11_write_69 rfl ?_
        refine sd_imul (z := (12 * s)) sD11_write_70 (by omega) (by omega) ?_
        refine sd_iload_n sD11_write_71 rfl ?_
        refine sd_iadd (z := ((12 * s) + i)) sD11_write_72 (by omega) (by omega) ?_
        refine sd_aload_n sD11_write_73 rfl ?_
        refine sd_getfr sD11_write_74 sF11_43 sGM15_20 ?_
        refine sd_iload_n sD11_write_77 rfl ?_
        refine sd_ialdx (a := (4250 + s.toNat)) (v := x (4250 + s.toNat)) hx sD11_write_78 sAM11 (by omega) rfl ?_
        refine sd_bipush sD11_write_79 rfl (by decide) ?_
        refine sd_cut (J := 106) (ls := [some (.inr 15), some (.inl s), some (.inl i), some (.inl v), some (.inl (x (4200 + ((12 * s.toNat) + i.toNat))))]) (st := [.inl ((12 * s) + i), .inr 13]) (fun zv => zv = (sd_cnv (x (4250 + s.toNat)) v)) (fun zv hzv => ?_) (fun K81 => ?_)
        ·
          subst hzv
          refine sd_iastx (a := (4200 + ((12 * s.toNat) + i.toNat))) sd_sokM hx sD11_write_106 sAM13 (by omega) (fun m hx em106 => ?_)
          refine sd_iload sD11_write_107 rfl ?_
          refine sd_ireturn sD11_write_109 rfl (fun hr hm => ?_)
          exact sd_done3 (by unfold spM_write; ((repeat (first | rw [if_pos (by first | assumption | omega)] | rw [if_neg (by first | assumption | omega)]))); all_goals (first | rfl | (dsimp only; omega))) (by intro j; unfold spM_write; ((repeat (first | rw [if_pos (by first | assumption | omega)] | rw [if_neg (by first | assumption | omega)]))); all_goals (first | rfl | (dsimp only; simp only [sd_up]; (repeat' (first | rfl | split)); all_goals omega))) hx
        ·
          refine sd_icmp_ne (tgt := 89) sD11_write_81 (by decide) (fun zc81 => ?_) (fun zc81 => ?_)
          ·
            refine sd_aload_n sD11_write_89 rfl ?_
            refine sd_getfr sD11_write_90 sF11_43 sGM15_20 ?_
            refine sd_iload_n sD11_write_93 rfl ?_
            refine sd_ialdx (a := (4250 + s.toNat)) (v := x (4250 + s.toNat)) hx sD11_write_94 sAM11 (by omega) rfl ?_
            refine sd_bipush sD11_write_95 rfl (by decide) ?_
            refine sd_icmp_ne (tgt := 105) sD11_write_97 (by decide) (fun zc97 => ?_) (fun zc97 => ?_)
            ·
              refine sd_iload_n sD11_write_105 rfl ?_
              exact K81 _ (by unfold sd_cnv; first | (rw [if_pos (by omega)]; done) | (rw [if_neg (by omega), if_pos (by omega)]; done) | (rw [if_neg (by omega), if_neg (by omega)]; done))
            ·
              refine sd_iload_n sD11_write_100 rfl ?_
              refine sd_i2s sD11_write_101 ?_
              refine sd_goto (tgt := 106) sD11_write_102 (by decide) ?_
              exact K81 _ (by unfold sd_cnv; first | (rw [if_pos (by omega)]; done) | (rw [if_neg (by omega), if_pos (by omega)]; done) | (rw [if_neg (by omega), if_neg (by omega)]; done))
          ·
            refine sd_iload_n sD11_write_84 rfl ?_
            refine sd_i2b sD11_write_85 ?_
            refine sd_goto (tgt := 106) sD11_write_86 (by decide) ?_
            exact K81 _ (by unfold sd_cnv; first | (rw [if_pos (by omega)]; done) | (rw [if_neg (by omega), if_pos (by omega)]; done) | (rw [if_neg (by omega), if_neg (by omega)]; done))
      ·
        refine sd_aload_n sD11_write_44 rfl ?_
        refine sd_iconst sD11_write_45 (by decide) ?_
        refine sd_callV (as := [.inl 0]) (st := []) sD11_write_46 sM11_78 rfl rfl sOM15 rfl (by decide) (Nat.le_of_ble_eq_true rfl) (cM_finding 0 (by decide) _ m hx (hF 0 (by decide))) (fun r m hq ho46 hm => ?_)
        obtain ⟨rfl, hx⟩ := hq
        show sd_Wp sd_SM 2 sY11_write 49 [some (.inr 15), some (.inl s), some (.inl i), some (.inl v), none] [.inl (-1000001)] m _
        refine sd_ireturn sD11_write_49 rfl (fun hr hm => ?_)
        exact sd_done3 (by unfold spM_write; ((repeat (first | rw [if_pos (by first | assumption | omega)] | rw [if_neg (by first | assumption | omega)]))); all_goals (first | rfl | (dsimp only; omega))) (by intro j; unfold spM_write; ((repeat (first | rw [if_pos (by first | assumption | omega)] | rw [if_neg (by first | assumption | omega)]))); all_goals (first | rfl | (dsimp only; simp only [sd_up]; (repeat' (first | rfl | split)); all_goals omega))) hx
    ·
      refine sd_aload_n sD11_write_22 rfl ?_
      refine sd_iconst sD11_write_23 (by decide) ?_
      refine sd_callV (as := [.inl 5]) (st := []) sD11_write_24 sM11_78 rfl rfl sOM15 rfl (by decide) (Nat.le_of_ble_eq_true rfl) (cM_finding 5 (by decide) _ m hx (hF 5 (by decide))) (fun r m hq ho24 hm => ?_)
      obtain ⟨rfl, hx⟩ := hq
      show sd_Wp sd_SM 2 sY11_write 27 [some (.inr 15), some (.inl s), some (.inl i), some (.inl v), none] [.inl (-1000006)] m _
      refine sd_ireturn sD11_write_27 rfl (fun hr hm => ?_)
      exact sd_done3 (by unfold spM_write; ((repeat (first | rw [if_pos (by first | assumption | omega)] | rw [if_neg (by first | assumption | omega)]))); all_goals (first | rfl | (dsimp only; omega))) (by intro j; unfold spM_write; ((repeat (first | rw [if_pos (by first | assumption | omega)] | rw [if_neg (by first | assumption | omega)]))); all_goals (first | rfl | (dsimp only; simp only [sd_up]; (repeat' (first | rfl | split)); all_goals omega))) hx
  ·
    refine sd_aload_n sD11_write_7 rfl ?_
    refine sd_iconst sD11_write_8 (by decide) ?_
    refine sd_callV (as := [.inl 0]) (st := []) sD11_write_9 sM11_78 rfl rfl sOM15 rfl (by decide) (Nat.le_of_ble_eq_true rfl) (cM_finding 0 (by decide) _ m hx (hF 0 (by decide))) (fun r m hq ho9 hm => ?_)
    obtain ⟨rfl, hx⟩ := hq
    show sd_Wp sd_SM 2 sY11_write 12 [some (.inr 15), some (.inl s), some (.inl i), some (.inl v), none] [.inl (-1000001)] m _
    refine sd_ireturn sD11_write_12 rfl (fun hr hm => ?_)
    exact sd_done3 (by unfold spM_write; ((repeat (first | rw [if_pos (by first | assumption | omega)] | rw [if_neg (by first | assumption | omega)]))); all_goals (first | rfl | (dsimp only; omega))) (by intro j; unfold spM_write; ((repeat (first | rw [if_pos (by first | assumption | omega)] | rw [if_neg (by first | assumption | omega)]))); all_goals (first | rfl | (dsimp only; simp only [sd_up]; (repeat' (first | rfl | split)); all_goals omega))) hx
