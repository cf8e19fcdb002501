set_option maxRecDepth 100000 in
set_option maxHeartbeats 4000000 in
theorem cM_behind1 (k : Nat) (hk : k < 3) (l : Nat) (w o : Int) (x m : sd_M) (hx : sd_ns x m) (h9 : sd_L9 x) (hw : -1000 + 9 * (l : Int) + 9 ≤ w ∧ w ≤ 1000 - 9 * (l : Int) - 9) (ho : -1000 + 9 * (l : Int) + 9 ≤ o ∧ o ≤ 1000 - 9 * (l : Int) - 9) (hl : l ≤ 10) (hg : ¬ (l : Int) = 0 → ∀ w o : Int, (-1000 + 9 * (l : Int) ≤ w ∧ w ≤ 1000 - 9 * (l : Int)) → (-1000 + 9 * (l : Int) ≤ o ∧ o ≤ 1000 - 9 * (l : Int)) → sd_Cp sd_SM (2 * l) sY11_game [.inr 15, .inl 0, .inl w, .inl o, .inl (l : Int)] m (.inl (sd_gv x l false w o))) : sd_Cp sd_SM (2 * l + 1) sY11_behind [.inr 15, .inl 1, .inl (k : Int), .inl w, .inl o, .inl (l : Int)] m (.inl (sd_bh x (sd_gv x l false) (3 + k) w o)) := by
  refine sd_ct rfl (Nat.le_of_ble_eq_true rfl) (fun hok hm => ?_)
  have e8 := h9 (3 + k) (by omega)
  rw [show 1302 + 2 * (3 + k) = 1308 + 2 * k from by omega] at e8
  have e7 := sd_std_rng (w + x (6520 + (3 + k))) (o + x (6526 + (3 + k)))
  show sd_Wp sd_SM (2 * l + 1) sY11_behind 0 [some (.inr 15), some (.inl 1), some (.inl (k : Int)), some (.inl w), some (.inl o), some (.inl (l : Int)), none, none, none] [] m _
  refine sd_iload_n sD11_behind_0 rfl ?_
  refine sd_aload_n sD11_behind_1 rfl ?_
  refine sd_getfr sD11_behind_2 sF11_7 sGM15_0 ?_
  refine sd_sipush sD11_behind_5 rfl (by decide) ?_
  refine sd_bipush sD11_behind_8 rfl (by decide) ?_
  refine sd_iload_n sD11_behind_10 rfl ?_
  refine sd_imul (z := 6) sD11_behind_11 (by omega) (by omega) ?_
  refine sd_iadd (z := 1308) sD11_behind_12 (by omega) (by omega) ?_
  refine sd_iconst sD11_behind_13 (by decide) ?_
  refine sd_iload_n sD11_behind_14 rfl ?_
  refine sd_imul (z := (2 * (k : Int))) sD11_behind_15 (by omega) (by omega) ?_
  refine sd_iadd (z := (1308 + (2 * (k : Int)))) sD11_behind_16 (by omega) (by omega) ?_
  refine sd_ialdx (a := (1308 + (2 * k))) (v := x (1308 + (2 * k))) hx sD11_behind_17 sAM0 (by omega) rfl ?_
  refine sd_iadd (z := (w + x (1308 + (2 * k)))) sD11_behind_18 (by omega) (by omega) ?_
  refine sd_istore (ls' := [some (.inr 15), some (.inl 1), some (.inl (k : Int)), some (.inl w), some (.inl o), some (.inl (l : Int)), some (.inl (w + x (1308 + (2 * k)))), none, none]) sD11_behind_19 (by decide) rfl ?_
  refine sd_iload sD11_behind_21 rfl ?_
  refine sd_aload_n sD11_behind_23 rfl ?_
  refine sd_getfr sD11_behind_24 sF11_7 sGM15_0 ?_
  refine sd_sipush sD11_behind_27 rfl (by decide) ?_
  refine sd_bipush sD11_behind_30 rfl (by decide) ?_
  refine sd_iload_n sD11_behind_32 rfl ?_
  refine sd_imul (z := 6) sD11_behind_33 (by omega) (by omega) ?_
  refine sd_iadd (z := 1308) sD11_behind_34 (by omega) (by omega) ?_
  refine sd_iconst sD11_behind_35 (by decide) ?_
  refine sd_iload_n sD11_behind_36 rfl ?_
  refine sd_imul (z := (2 * (k : Int))) sD11_behind_37 (by omega) (by omega) ?_
  refine sd_iadd (z := (1308 + (2 * (k : Int)))) sD11_behind_38 (by omega) (by omega) ?_
  refine sd_iconst sD11_behind_39 (by decide) ?_
  refine sd_iadd (z := ((1308 + (2 * (k : Int))) + 1)) sD11_behind_40 (by omega) (by omega) ?_
  refine sd_ialdx (a := ((1308 + (2 * k)) + 1)) (v := x ((1308 + (2 * k)) + 1)) hx sD11_behind_41 sAM0 (by omega) rfl ?_
  refine sd_iadd (z := (o + x ((1308 + (2 * k)) + 1))) sD11_behind_42 (by omega) (by omega) ?_
  refine sd_istore (ls' := [some (.inr 15), some (.inl 1), some (.inl (k : Int)), some (.inl w), some (.inl o), some (.inl (l : Int)), some (.inl (w + x (1308 + (2 * k)))), some (.inl (o + x ((1308 + (2 * k)) + 1))), none]) sD11_behind_43 (by decide) rfl ?_
  refine sd_iload sD11_behind_45 rfl ?_
  refine sd_iload sD11_behind_47 rfl ?_
  refine sd_callSp (as := [.inl (w + x (1308 + (2 * k))), .inl (o + x ((1308 + (2 * k)) + 1))]) (st := []) (v := .inl (sd_std (w + x (1308 + (2 * k))) (o + x ((1308 + (2 * k)) + 1)))) sD11_behind_49 sM11_211 rfl rfl (by omega) (Nat.le_of_ble_eq_true rfl) (cM_stands (w + x (1308 + (2 * k))) (o + x ((1308 + (2 * k)) + 1)) _ m hx  ) (fun ho49 => ?_)
  refine sd_istore (ls' := [some (.inr 15), some (.inl 1), some (.inl (k : Int)), some (.inl w), some (.inl o), some (.inl (l : Int)), some (.inl (w + x (1308 + (2 * k)))), some (.inl (o + x ((1308 + (2 * k)) + 1))), some (.inl (sd_std (w + x (1308 + (2 * k))) (o + x ((1308 + (2 * k)) + 1))))]) sD11_behind_52 (by decide) rfl ?_
  refine sd_iload sD11_behind_54 rfl ?_
  refine sd_if_ne (tgt := 64) sD11_behind_56 (by decide) (fun zc56 => ?_) (fun zc56 => ?_)
  ·
    refine sd_iload sD11_behind_64 rfl ?_
    refine sd_goto (tgt := 82) sD11_behind_66 (by decide) ?_
    refine sd_iretp sD11_behind_82 rfl ?_
    (unfold sd_bh; rw [← e8.2.2.1, ← e8.2.2.2]; first | (rw [if_neg (by assumption)]; done) | (rw [if_pos (by assumption)]; done) | (rw [if_pos (by omega)]; have hl0 : l = 0 := (by omega); rw [zc56, hl0]; rfl))
  ·
    refine sd_iload sD11_behind_59 rfl ?_
    refine sd_if_ne (tgt := 69) sD11_behind_61 (by decide) (fun zc61 => ?_) (fun zc61 => ?_)
    ·
      refine sd_aload_n sD11_behind_69 rfl ?_
      refine sd_iconst sD11_behind_70 (by decide) ?_
      refine sd_iload_n sD11_behind_71 rfl ?_
      refine sd_isub (z := 0) sD11_behind_72 (by omega) (by omega) ?_
      refine sd_iload sD11_behind_73 rfl ?_
      refine sd_iload sD11_behind_75 rfl ?_
      refine sd_iload sD11_behind_77 rfl ?_
      refine sd_callVp (as := [.inl 0, .inl (w + x (1308 + (2 * k))), .inl (o + x ((1308 + (2 * k)) + 1)), .inl (l : Int)]) (st := []) (v := .inl (sd_gv x l false (w + x (1308 + (2 * k))) (o + x ((1308 + (2 * k)) + 1)))) sD11_behind_79 sM11_214 sOM15 rfl rfl rfl (by omega) (Nat.le_of_ble_eq_true rfl) (hg (by omega) (w + x (1308 + (2 * k))) (o + x ((1308 + (2 * k)) + 1)) (by omega) (by omega)) (fun ho79 => ?_)
      refine sd_iretp sD11_behind_82 rfl ?_
      (unfold sd_bh; rw [← e8.2.2.1, ← e8.2.2.2]; first | (rw [if_neg (by assumption)]; done) | (rw [if_pos (by assumption)]; done) | (rw [if_pos (by omega)]; have hl0 : l = 0 := (by omega); rw [zc56, hl0]; rfl))
    ·
      refine sd_iload sD11_behind_64 rfl ?_
      refine sd_goto (tgt := 82) sD11_behind_66 (by decide) ?_
      refine sd_iretp sD11_behind_82 rfl ?_
      (unfold sd_bh; rw [← e8.2.2.1, ← e8.2.2.2]; first | (rw [if_neg (by assumption)]; done) | (rw [if_pos (by assumption)]; done) | (rw [if_pos (by omega)]; have hl0 : l = 0 := (by omega); rw [zc56, hl0]; rfl))
