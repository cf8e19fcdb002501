set_option maxRecDepth 100000 in
set_option maxHeartbeats 4000000 in
theorem cC_restock3 (x m : sd_M) (hx : sd_ns x m) : sd_Ct sd_SC 0 sY9_restock [.inr 23, .inr 114] m (fun r m' => r = some (.inl (sd_cnt (sd_Psk x 8236) 6)) ∧ sd_ns (sd_stk x 8236 6) m') := by
  refine sd_ct rfl (Nat.le_of_ble_eq_true rfl) (fun hok hm => ?_)
  show sd_Wp sd_SC 0 sY9_restock 0 [some (.inr 23), some (.inr 114), none, none] [] m _
  refine sd_iconst sD9_restock_0 (by decide) ?_
  refine sd_istore_n (ls' := [some (.inr 23), some (.inr 114), some (.inl 0), none]) sD9_restock_1 (by decide) rfl ?_
  refine sd_iconst sD9_restock_2 (by decide) ?_
  refine sd_istore_n (ls' := [some (.inr 23), some (.inr 114), some (.inl 0), some (.inl 0)]) sD9_restock_3 (by decide) rfl ?_
  refine sd_forX (6) (fun zi4 : Nat => [some (.inr 23), some (.inr 114), some (.inl (sd_cnt (sd_Psk x 8236) zi4)), some (.inl (zi4 : Int))]) (fun zi4 : Nat => sd_stk x 8236 zi4) (fun (zi4 : Nat) (m : sd_M) => True) (by rfl) (fun zi4 hizi4 m hx hpzi4 ihzi4 => ?_) (fun m hx hpzi4 => ?_) (by rw [sd_stk_0]; exact hx) (by trivial)
  ·
    have e1 : sd_stk x 8236 zi4 (8236 + zi4) = x (8236 + zi4) := sd_stk_o (by omega)
    have e2 : sd_stk x 8236 zi4 (386 + zi4) = x (386 + zi4) := sd_stk_o (by omega)
    have e3 := sd_cnt_le (sd_Psk x 8236) zi4
    refine sd_iload_n sD9_restock_4 rfl ?_
    refine sd_bipush sD9_restock_5 rfl (by decide) ?_
    refine sd_icmp_ge (tgt := 49) sD9_restock_7 (by decide) (fun zc7 => (by exfalso; omega)) (fun zc7 => ?_)
    refine sd_aload_n sD9_restock_10 rfl ?_
    refine sd_iload_n sD9_restock_11 rfl ?_
    refine sd_ialdx (a := (8236 + zi4)) (v := (sd_stk x 8236 zi4) (8236 + zi4)) hx sD9_restock_12 sAC114 (by omega) rfl ?_
    refine sd_sipush sD9_restock_13 rfl (by decide) ?_
    refine sd_icmp_eq (tgt := 43) sD9_restock_16 (by decide) (fun zc16 => ?_) (fun zc16 => ?_)
    ·
      refine sd_iinc (y := ((zi4 : Int) + 1)) (ls' := [some (.inr 23), some (.inr 114), some (.inl (sd_cnt (sd_Psk x 8236) zi4)), some (.inl ((zi4 : Int) + 1))]) sD9_restock_43 rfl (by omega) (by omega) (by decide) rfl ?_
      refine sd_goto (tgt := 4) sD9_restock_46 (by decide) ?_
      exact sd_eqw (ls' := [some (.inr 23), some (.inr 114), some (.inl (sd_cnt (sd_Psk x 8236) (zi4 + 1))), some (.inl ((zi4 + 1 : Nat) : Int))]) (ihzi4 m (by first | exact sd_nseq (sd_stk_s1 (by omega) (by omega)) hx | exact sd_nseq (sd_stk_s0 (by omega)) hx) (by trivial)) (sd_cg rfl (sd_cg rfl (sd_cg (sd_ce (show (sd_cnt (sd_Psk x 8236) zi4 : Int) = sd_cnt (sd_Psk x 8236) (zi4 + 1) from by simp only [sd_cnt]; first | (rw [if_pos (by omega)]; done) | (rw [if_neg (by omega)]; omega))) (sd_cg (sd_ce (show (((zi4 : Int) + 1) : Int) = ((zi4 + 1 : Nat) : Int) from by omega)) rfl)))) rfl
    ·
      refine sd_aload_n sD9_restock_19 rfl ?_
      refine sd_iload_n sD9_restock_20 rfl ?_
      refine sd_ialdx (a := (8236 + zi4)) (v := (sd_stk x 8236 zi4) (8236 + zi4)) hx sD9_restock_21 sAC114 (by omega) rfl ?_
      refine sd_aload_n sD9_restock_22 rfl ?_
      refine sd_getfr sD9_restock_23 sF9_18 sGC23_2 ?_
      refine sd_iload_n sD9_restock_26 rfl ?_
      refine sd_ialdx (a := (386 + zi4)) (v := (sd_stk x 8236 zi4) (386 + zi4)) hx sD9_restock_27 sAC19 (by omega) rfl ?_
      refine sd_icmp_eq (tgt := 43) sD9_restock_28 (by decide) (fun zc28 => ?_) (fun zc28 => ?_)
      ·
        refine sd_iinc (y := ((zi4 : Int) + 1)) (ls' := [some (.inr 23), some (.inr 114), some (.inl (sd_cnt (sd_Psk x 8236) zi4)), some (.inl ((zi4 : Int) + 1))]) sD9_restock_43 rfl (by omega) (by omega) (by decide) rfl ?_
        refine sd_goto (tgt := 4) sD9_restock_46 (by decide) ?_
        exact sd_eqw (ls' := [some (.inr 23), some (.inr 114), some (.inl (sd_cnt (sd_Psk x 8236) (zi4 + 1))), some (.inl ((zi4 + 1 : Nat) : Int))]) (ihzi4 m (by first | exact sd_nseq (sd_stk_s1 (by omega) (by omega)) hx | exact sd_nseq (sd_stk_s0 (by omega)) hx) (by trivial)) (sd_cg rfl (sd_cg rfl (sd_cg (sd_ce (show (sd_cnt (sd_Psk x 8236) zi4 : Int) = sd_cnt (sd_Psk x 8236) (zi4 + 1) from by simp only [sd_cnt]; first | (rw [if_pos (by omega)]; done) | (rw [if_neg (by omega)]; omega))) (sd_cg (sd_ce (show (((zi4 : Int) + 1) : Int) = ((zi4 + 1 : Nat) : Int) from by omega)) rfl)))) rfl
      ·
        refine sd_aload_n sD9_restock_31 rfl ?_
        refine sd_getfr sD9_restock_32 sF9_18 sGC23_2 ?_
        refine sd_iload_n sD9_restock_35 rfl ?_
        refine sd_aload_n sD9_restock_36 rfl ?_
        refine sd_iload_n sD9_restock_37 rfl ?_
        refine sd_ialdx (a := (8236 + zi4)) (v := (sd_stk x 8236 zi4) (8236 + zi4)) hx sD9_restock_38 sAC114 (by omega) rfl ?_
        refine sd_iastx (a := (386 + zi4)) sd_sokC hx sD9_restock_39 sAC19 (by omega) (fun m hx em39 => ?_)
        refine sd_iinc (y := (sd_cnt (sd_Psk x 8236) zi4 + 1)) (ls' := [some (.inr 23), some (.inr 114), some (.inl (sd_cnt (sd_Psk x 8236) zi4 + 1)), some (.inl (zi4 : Int))]) sD9_restock_40 rfl (by omega) (by omega) (by decide) rfl ?_
        refine sd_iinc (y := ((zi4 : Int) + 1)) (ls' := [some (.inr 23), some (.inr 114), some (.inl (sd_cnt (sd_Psk x 8236) zi4 + 1)), some (.inl ((zi4 : Int) + 1))]) sD9_restock_43 rfl (by omega) (by omega) (by decide) rfl ?_
        refine sd_goto (tgt := 4) sD9_restock_46 (by decide) ?_
        exact sd_eqw (ls' := [some (.inr 23), some (.inr 114), some (.inl (sd_cnt (sd_Psk x 8236) (zi4 + 1))), some (.inl ((zi4 + 1 : Nat) : Int))]) (ihzi4 m (by first | exact sd_nseq (sd_stk_s1 (by omega) (by omega)) hx | exact sd_nseq (sd_stk_s0 (by omega)) hx) (by trivial)) (sd_cg rfl (sd_cg rfl (sd_cg (sd_ce (show ((sd_cnt (sd_Psk x 8236) zi4 + 1) : Int) = sd_cnt (sd_Psk x 8236) (zi4 + 1) from by simp only [sd_cnt]; first | (rw [if_pos (by omega)]; done) | (rw [if_neg (by omega)]; omega))) (sd_cg (sd_ce (show (((zi4 : Int) + 1) : Int) = ((zi4 + 1 : Nat) : Int) from by omega)) rfl)))) rfl
  ·
    show sd_Wp sd_SC 0 sY9_restock 4 [some (.inr 23), some (.inr 114), some (.inl (sd_cnt (sd_Psk x 8236) 6)), some (.inl (6 : Int))] [] m _
    refine sd_iload_n sD9_restock_4 rfl ?_
    refine sd_bipush sD9_restock_5 rfl (by decide) ?_
    refine sd_icmp_ge (tgt := 49) sD9_restock_7 (by decide) (fun zc7 => ?_) (fun zc7 => (by exfalso; omega))
    refine sd_iload_n sD9_restock_49 rfl ?_
    refine sd_ireturn sD9_restock_50 rfl (fun hr hm => ?_)
    exact ⟨rfl, hx⟩
