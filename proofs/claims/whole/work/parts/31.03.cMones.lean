set_option maxRecDepth 100000 in
set_option maxHeartbeats 4000000 in
theorem cM_ones (s : Int) (x m : sd_M) (hx : sd_ns x m)  : sd_Cp sd_SM 0 sY11_ones [.inl s] m (.inl (sd_ones s)) := by
  refine sd_ct rfl (Nat.le_of_ble_eq_true rfl) (fun hok hm => ?_)
  have r_s : sd_R s := hok (.inl s) (by simp)
  show sd_Wp sd_SM 0 sY11_ones 0 [some (.inl s), none, none] [] m _
  refine sd_iconst sD11_ones_0 (by decide) ?_
  refine sd_istore_n (ls' := [some (.inl s), some (.inl 0), none]) sD11_ones_1 (by decide) rfl ?_
  refine sd_iconst sD11_ones_2 (by decide) ?_
  refine sd_istore_n (ls' := [some (.inl s), some (.inl 0), some (.inl 0)]) sD11_ones_3 (by decide) rfl ?_
  refine sd_forE (30) (fun zi4 : Nat => [some (.inl s), some (.inl (sd_cnt (sd_Pbt s) zi4)), some (.inl (zi4 : Int))]) (by rfl) (fun zi4 hizi4 ihzi4 => ?_) ?_
  ·
    have e5 := sd_cnt_le (sd_Pbt s) zi4
    have e6 := sd_and1 (sd_shr s (zi4 : Int))
    refine sd_iload_n sD11_ones_4 rfl ?_
    refine sd_bipush sD11_ones_5 rfl (by decide) ?_
    refine sd_icmp_ge (tgt := 24) sD11_ones_7 (by decide) (fun zc7 => (by exfalso; omega)) (fun zc7 => ?_)
    refine sd_iload_n sD11_ones_10 rfl ?_
    refine sd_iload_n sD11_ones_11 rfl ?_
    refine sd_iload_n sD11_ones_12 rfl ?_
    refine sd_ishr sD11_ones_13 ?_
    refine sd_iconst sD11_ones_14 (by decide) ?_
    refine sd_iand sD11_ones_15 ?_
    refine sd_iadd (z := (sd_cnt (sd_Pbt s) zi4 + sd_and (sd_shr s (zi4 : Int)) 1)) sD11_ones_16 (by omega) (by omega) ?_
    refine sd_istore_n (ls' := [some (.inl s), some (.inl (sd_cnt (sd_Pbt s) zi4 + sd_and (sd_shr s (zi4 : Int)) 1)), some (.inl (zi4 : Int))]) sD11_ones_17 (by decide) rfl ?_
    refine sd_iinc (y := ((zi4 : Int) + 1)) (ls' := [some (.inl s), some (.inl (sd_cnt (sd_Pbt s) zi4 + sd_and (sd_shr s (zi4 : Int)) 1)), some (.inl ((zi4 : Int) + 1))]) sD11_ones_18 rfl (by omega) (by omega) (by decide) rfl ?_
    refine sd_goto (tgt := 4) sD11_ones_21 (by decide) ?_
    exact sd_eqw (ls' := [some (.inl s), some (.inl (sd_cnt (sd_Pbt s) (zi4 + 1))), some (.inl ((zi4 + 1 : Nat) : Int))]) ihzi4 (sd_cg rfl (sd_cg (sd_ce (show ((sd_cnt (sd_Pbt s) zi4 + sd_and (sd_shr s (zi4 : Int)) 1) : Int) = sd_cnt (sd_Pbt s) (zi4 + 1) from by (simp only [sd_cnt]; rcases sd_and1 (sd_shr s (zi4 : Int)) with e | e; (rw [if_neg (fun (q : sd_and (sd_shr s (zi4 : Int)) 1 = 1) => by omega), e]); (rw [if_pos e, e])))) (sd_cg (sd_ce (show (((zi4 : Int) + 1) : Int) = ((zi4 + 1 : Nat) : Int) from by omega)) rfl))) rfl
  ·
    show sd_Wp sd_SM 0 sY11_ones 4 [some (.inl s), some (.inl (sd_cnt (sd_Pbt s) 30)), some (.inl (30 : Int))] [] m _
    refine sd_iload_n sD11_ones_4 rfl ?_
    refine sd_bipush sD11_ones_5 rfl (by decide) ?_
    refine sd_icmp_ge (tgt := 24) sD11_ones_7 (by decide) (fun zc7 => ?_) (fun zc7 => (by exfalso; omega))
    refine sd_iload_n sD11_ones_24 rfl ?_
    refine sd_iretp sD11_ones_25 rfl ?_
    rfl
