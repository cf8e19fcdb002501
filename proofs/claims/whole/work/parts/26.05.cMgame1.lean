set_option maxRecDepth 100000 in
set_option maxHeartbeats 4000000 in
theorem cM_game1 (l : Nat) (w o : Int) (x m : sd_M) (hl : l ≤ 10) (hb : ∀ k : Nat, k < 3 → sd_Cp sd_SM (2 * l + 1) sY11_behind [.inr 15, .inl 1, .inl (k : Int), .inl w, .inl o, .inl (l : Int)] m (.inl (sd_bh x (sd_gv x l false) (3 + k) w o))) : sd_Cp sd_SM (2 * l + 2) sY11_game [.inr 15, .inl 1, .inl w, .inl o, .inl ((l + 1 : Nat) : Int)] m (.inl (sd_gv x (l + 1) true w o)) := by
  refine sd_ct rfl (Nat.le_of_ble_eq_true rfl) (fun hok hm => ?_)
  have a0 := sd_bh_rng (x := x) (sd_gv_rng x l false) 3 w o
  have a1 := sd_bh_rng (x := x) (sd_gv_rng x l false) 4 w o
  have a2 := sd_bh_rng (x := x) (sd_gv_rng x l false) 5 w o
  show sd_Wp sd_SM (2 * l + 2) sY11_game 0 [some (.inr 15), some (.inl 1), some (.inl w), some (.inl o), some (.inl ((l + 1 : Nat) : Int)), none, none, none] [] m _
  refine sd_iload_n sD11_game_0 rfl ?_
  refine sd_if_ne (tgt := 8) sD11_game_1 (by decide) (fun zc1 => ?_) (fun zc1 => (by exfalso; omega))
  refine sd_iconst sD11_game_8 (by decide) ?_
  refine sd_istore (ls' := [some (.inr 15), some (.inl 1), some (.inl w), some (.inl o), some (.inl ((l + 1 : Nat) : Int)), some (.inl 1), none, none]) sD11_game_9 (by decide) rfl ?_
  refine sd_iconst sD11_game_11 (by decide) ?_
  refine sd_istore (ls' := [some (.inr 15), some (.inl 1), some (.inl w), some (.inl o), some (.inl ((l + 1 : Nat) : Int)), some (.inl 1), some (.inl 0), none]) sD11_game_12 (by decide) rfl ?_
  refine sd_iload sD11_game_14 rfl ?_
  refine sd_iconst sD11_game_16 (by decide) ?_
  refine sd_icmp_ge (tgt := 87) sD11_game_17 (by decide) (fun zc17 => (by exfalso; omega)) (fun zc17 => ?_)
  refine sd_iload sD11_game_20 rfl ?_
  refine sd_iload_n sD11_game_22 rfl ?_
  refine sd_if_ne (tgt := 30) sD11_game_23 (by decide) (fun zc23 => ?_) (fun zc23 => (by exfalso; omega))
  refine sd_iconst sD11_game_30 (by decide) ?_
  refine sd_icmp_eq (tgt := 87) sD11_game_31 (by decide) (fun zc31 => (by exfalso; omega)) (fun zc31 => ?_)
  refine sd_aload_n sD11_game_34 rfl ?_
  refine sd_iload_n sD11_game_35 rfl ?_
  refine sd_iload sD11_game_36 rfl ?_
  refine sd_iload_n sD11_game_38 rfl ?_
  refine sd_iload_n sD11_game_39 rfl ?_
  refine sd_iload sD11_game_40 rfl ?_
  refine sd_iconst sD11_game_42 (by decide) ?_
  refine sd_isub (z := (l : Int)) sD11_game_43 (by omega) (by omega) ?_
  refine sd_callVp (as := [.inl 1, .inl 0, .inl w, .inl o, .inl (l : Int)]) (st := []) (v := .inl (sd_bh x (sd_gv x l false) 3 w o)) sD11_game_44 sM11_218 sOM15 rfl rfl rfl (by omega) (Nat.le_of_ble_eq_true rfl) (hb 0 (by decide)) (fun ho44 => ?_)
  refine sd_istore (ls' := [some (.inr 15), some (.inl 1), some (.inl w), some (.inl o), some (.inl ((l + 1 : Nat) : Int)), some (.inl 1), some (.inl 0), some (.inl (sd_bh x (sd_gv x l false) 3 w o))]) sD11_game_47 (by decide) rfl ?_
  refine sd_iload_n sD11_game_49 rfl ?_
  refine sd_cut (J := 79) (ls := [some (.inr 15), some (.inl 1), some (.inl w), some (.inl o), some (.inl ((l + 1 : Nat) : Int)), some (.inl 1), some (.inl 0), some (.inl (sd_bh x (sd_gv x l false) 3 w o))]) (st := []) (fun zv => zv = (min 1 (sd_bh x (sd_gv x l false) 3 w o))) (fun zv hzv => ?_) (fun K50 => ?_)
  ·
    subst hzv
    refine sd_istore (ls' := [some (.inr 15), some (.inl 1), some (.inl w), some (.inl o), some (.inl ((l + 1 : Nat) : Int)), some (.inl (min 1 (sd_bh x (sd_gv x l false) 3 w o))), some (.inl 0), some (.inl (sd_bh x (sd_gv x l false) 3 w o))]) sD11_game_79 (by decide) rfl ?_
    refine sd_iinc (y := 1) (ls' := [some (.inr 15), some (.inl 1), some (.inl w), some (.inl o), some (.inl ((l + 1 : Nat) : Int)), some (.inl (min 1 (sd_bh x (sd_gv x l false) 3 w o))), some (.inl 1), some (.inl (sd_bh x (sd_gv x l false) 3 w o))]) sD11_game_81 rfl (by omega) (by omega) (by decide) rfl ?_
    refine sd_goto (tgt := 14) sD11_game_84 (by decide) ?_
    refine sd_iload sD11_game_14 rfl ?_
    refine sd_iconst sD11_game_16 (by decide) ?_
    refine sd_icmp_ge (tgt := 87) sD11_game_17 (by decide) (fun zc17 => (by exfalso; omega)) (fun zc17 => ?_)
    refine sd_iload sD11_game_20 rfl ?_
    refine sd_iload_n sD11_game_22 rfl ?_
    refine sd_if_ne (tgt := 30) sD11_game_23 (by decide) (fun zc23 => ?_) (fun zc23 => (by exfalso; omega))
    refine sd_iconst sD11_game_30 (by decide) ?_
    refine sd_icmp_eq (tgt := 87) sD11_game_31 (by decide) (fun zc31 => ?_) (fun zc31 => ?_)
    ·
      refine sd_iload sD11_game_87 rfl ?_
      refine sd_iretp sD11_game_89 rfl ?_
      (simp only [sd_gv]; rw [if_pos trivial]; omega)
    ·
      refine sd_aload_n sD11_game_34 rfl ?_
      refine sd_iload_n sD11_game_35 rfl ?_
      refine sd_iload sD11_game_36 rfl ?_
      refine sd_iload_n sD11_game_38 rfl ?_
      refine sd_iload_n sD11_game_39 rfl ?_
      refine sd_iload sD11_game_40 rfl ?_
      refine sd_iconst sD11_game_42 (by decide) ?_
      refine sd_isub (z := (l : Int)) sD11_game_43 (by omega) (by omega) ?_
      refine sd_callVp (as := [.inl 1, .inl 1, .inl w, .inl o, .inl (l : Int)]) (st := []) (v := .inl (sd_bh x (sd_gv x l false) 4 w o)) sD11_game_44 sM11_218 sOM15 rfl rfl rfl (by omega) (Nat.le_of_ble_eq_true rfl) (hb 1 (by decide)) (fun ho44 => ?_)
      refine sd_istore (ls' := [some (.inr 15), some (.inl 1), some (.inl w), some (.inl o), some (.inl ((l + 1 : Nat) : Int)), some (.inl (min 1 (sd_bh x (sd_gv x l false) 3 w o))), some (.inl 1), some (.inl (sd_bh x (sd_gv x l false) 4 w o))]) sD11_game_47 (by decide) rfl ?_
      refine sd_iload_n sD11_game_49 rfl ?_
      refine sd_cut (J := 79) (ls := [some (.inr 15), some (.inl 1), some (.inl w), some (.inl o), some (.inl ((l + 1 : Nat) : Int)), some (.inl (min 1 (sd_bh x (sd_gv x l false) 3 w o))), some (.inl 1), some (.inl (sd_bh x (sd_gv x l false) 4 w o))]) (st := []) (fun zv => zv = (min (min 1 (sd_bh x (sd_gv x l false) 3 w o)) (sd_bh x (sd_gv x l false) 4 w o))) (fun zv hzv => ?_) (fun K50 => ?_)
      ·
        subst hzv
        refine sd_istore (ls' := [some (.inr 15), some (.inl 1), some (.inl w), some (.inl o), some (.inl ((l + 1 : Nat) : Int)), some (.inl (min (min 1 (sd_bh x (sd_gv x l false) 3 w o)) (sd_bh x (sd_gv x l false) 4 w o))), some (.inl 1), some (.inl (sd_bh x (sd_gv x l false) 4 w o))]) sD11_game_79 (by decide) rfl ?_
        refine sd_iinc (y := 2) (ls' := [some (.inr 15), some (.inl 1), some (.inl w), some (.inl o), some (.inl ((l + 1 : Nat) : Int)), some (.inl (min (min 1 (sd_bh x (sd_gv x l false) 3 w o)) (sd_bh x (sd_gv x l false) 4 w o))), some (.inl 2), some (.inl (sd_bh x (sd_gv x l false) 4 w o))]) sD11_game_81 rfl (by omega) (by omega) (by decide) rfl ?_
        refine sd_goto (tgt := 14) sD11_game_84 (by decide) ?_
        refine sd_iload sD11_game_14 rfl ?_
        refine sd_iconst sD11_game_16 (by decide) ?_
        refine sd_icmp_ge (tgt := 87) sD11_game_17 (by decide) (fun zc17 => (by exfalso; omega)) (fun zc17 => ?_)
        refine sd_iload sD11_game_20 rfl ?_
        refine sd_iload_n sD11_game_22 rfl ?_
        refine sd_if_ne (tgt := 30) sD11_game_23 (by decide) (fun zc23 => ?_) (fun zc23 => (by exfalso; omega))
        refine sd_iconst sD11_game_30 (by decide) ?_
        refine sd_icmp_eq (tgt := 87) sD11_game_31 (by decide) (fun zc31 => ?_) (fun zc31 => ?_)
        ·
          refine sd_iload sD11_game_87 rfl ?_
          refine sd_iretp sD11_game_89 rfl ?_
          (simp only [sd_gv]; rw [if_pos trivial]; omega)
        ·
          refine sd_aload_n sD11_game_34 rfl ?_
          refine sd_iload_n sD11_game_35 rfl ?_
          refine sd_iload sD11_game_36 rfl ?_
          refine sd_iload_n sD11_game_38 rfl ?_
          refine sd_iload_n sD11_game_39 rfl ?_
          refine sd_iload sD11_game_40 rfl ?_
          refine sd_iconst sD11_game_42 (by decide) ?_
          refine sd_isub (z := (l : Int)) sD11_game_43 (by omega) (by omega) ?_
          refine sd_callVp (as := [.inl 1, .inl 2, .inl w, .inl o, .inl (l : Int)]) (st := []) (v := .inl (sd_bh x (sd_gv x l false) 5 w o)) sD11_game_44 sM11_218 sOM15 rfl rfl rfl (by omega) (Nat.le_of_ble_eq_true rfl) (hb 2 (by decide)) (fun ho44 => ?_)
          refine sd_istore (ls' := [some (.inr 15), some (.inl 1), some (.inl w), some (.inl o), some (.inl ((l + 1 : Nat) : Int)), some (.inl (min (min 1 (sd_bh x (sd_gv x l false) 3 w o)) (sd_bh x (sd_gv x l false) 4 w o))), some (.inl 2), some (.inl (sd_bh x (sd_gv x l false) 5 w o))]) sD11_game_47 (by decide) rfl ?_
          refine sd_iload_n sD11_game_49 rfl ?_
          refine sd_cut (J := 79) (ls := [some (.inr 15), some (.inl 1), some (.inl w), some (.inl o), some (.inl ((l + 1 : Nat) : Int)), some (.inl (min (min 1 (sd_bh x (sd_gv x l false) 3 w o)) (sd_bh x (sd_gv x l false) 4 w o))), some (.inl 2), some (.inl (sd_bh x (sd_gv x l false) 5 w o))]) (st := []) (fun zv => zv = (min (min (min 1 (sd_bh x (sd_gv x l false) 3 w o)) (sd_bh x (sd_gv x l false) 4 w o)) (sd_bh x (sd_gv x l false) 5 w o))) (fun zv hzv => ?_) (fun K50 => ?_)
          ·
            subst hzv
            refine sd_istore (ls' := [some (.inr 15), some (.inl 1), some (.inl w), some (.inl o), some (.inl ((l + 1 : Nat) : Int)), some (.inl (min (min (min 1 (sd_bh x (sd_gv x l false) 3 w o)) (sd_bh x (sd_gv x l false) 4 w o)) (sd_bh x (sd_gv x l false) 5 w o))), some (.inl 2), some (.inl (sd_bh x (sd_gv x l false) 5 w o))]) sD11_game_79 (by decide) rfl ?_
            refine sd_iinc (y := 3) (ls' := [some (.inr 15), some (.inl 1), some (.inl w), some (.inl o), some (.inl ((l + 1 : Nat) : Int)), some (.inl (min (min (min 1 (sd_bh x (sd_gv x l false) 3 w o)) (sd_bh x (sd_gv x l false) 4 w o)) (sd_bh x (sd_gv x l false) 5 w o))), some (.inl 3), some (.inl (sd_bh x (sd_gv x l false) 5 w o))]) sD11_game_81 rfl (by omega) (by omega) (by decide) rfl ?_
            refine sd_goto (tgt := 14) sD11_game_84 (by decide) ?_
            refine sd_iload sD11_game_14 rfl ?_
            refine sd_iconst sD11_game_16 (by decide) ?_
            refine sd_icmp_ge (tgt := 87) sD11_game_17 (by decide) (fun zc17 => ?_) (fun zc17 => (by exfalso; omega))
            refine sd_iload sD11_game_87 rfl ?_
            refine sd_iretp sD11_game_89 rfl ?_
            (simp only [sd_gv]; rw [if_pos trivial]; omega)
          ·
            refine sd_if_ne (tgt := 60) sD11_game_50 (by decide) (fun zc50 => ?_) (fun zc50 => (by exfalso; omega))
            refine sd_iload_n sD11_game_60 rfl ?_
            refine sd_iconst sD11_game_61 (by decide) ?_
            refine sd_icmp_ne (tgt := 77) sD11_game_62 (by decide) (fun zc62 => (by exfalso; omega)) (fun zc62 => ?_)
            refine sd_iload sD11_game_65 rfl ?_
            refine sd_iload sD11_game_67 rfl ?_
            refine sd_icmp_ge (tgt := 77) sD11_game_69 (by decide) (fun zc69 => ?_) (fun zc69 => ?_)
            ·
              refine sd_iload sD11_game_77 rfl ?_
              exact K50 _ (by omega)
            ·
              refine sd_iload sD11_game_72 rfl ?_
              refine sd_goto (tgt := 79) sD11_game_74 (by decide) ?_
              exact K50 _ (by omega)
      ·
        refine sd_if_ne (tgt := 60) sD11_game_50 (by decide) (fun zc50 => ?_) (fun zc50 => (by exfalso; omega))
        refine sd_iload_n sD11_game_60 rfl ?_
        refine sd_iconst sD11_game_61 (by decide) ?_
        refine sd_icmp_ne (tgt := 77) sD11_game_62 (by decide) (fun zc62 => (by exfalso; omega)) (fun zc62 => ?_)
        refine sd_iload sD11_game_65 rfl ?_
        refine sd_iload sD11_game_67 rfl ?_
        refine sd_icmp_ge (tgt := 77) sD11_game_69 (by decide) (fun zc69 => ?_) (fun zc69 => ?_)
        ·
          refine sd_iload sD11_game_77 rfl ?_
          exact K50 _ (by omega)
        ·
          refine sd_iload sD11_game_72 rfl ?_
          refine sd_goto (tgt := 79) sD11_game_74 (by decide) ?_
          exact K50 _ (by omega)
  ·
    refine sd_if_ne (tgt := 60) sD11_game_50 (by decide) (fun zc50 => ?_) (fun zc50 => (by exfalso; omega))
    refine sd_iload_n sD11_game_60 rfl ?_
    refine sd_iconst sD11_game_61 (by decide) ?_
    refine sd_icmp_ne (tgt := 77) sD11_game_62 (by decide) (fun zc62 => (by exfalso; omega)) (fun zc62 => ?_)
    refine sd_iload sD11_game_65 rfl ?_
    refine sd_iload sD11_game_67 rfl ?_
    refine sd_icmp_ge (tgt := 77) sD11_game_69 (by decide) (fun zc69 => ?_) (fun zc69 => ?_)
    ·
      refine sd_iload sD11_game_77 rfl ?_
      exact K50 _ (by omega)
    ·
      refine sd_iload sD11_game_72 rfl ?_
      refine sd_goto (tgt := 79) sD11_game_74 (by decide) ?_
      exact K50 _ (by omega)
