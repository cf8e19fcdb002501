set_option maxRecDepth 100000 in
set_option maxHeartbeats 4000000 in
theorem pM_status (w : Int) (x m : sd_M) (hx : sd_ns x m)  (hF : ∀ k : Nat, k < 7 → 0 ≤ x (4101 + k) ∧ x (4101 + k) ≤ 1000000) : sd_Ct sd_SM 1 sY11_status [.inr 15, .inl w] m (sd_Qp (sp_status x w)) := by
  refine sd_ct rfl (Nat.le_of_ble_eq_true rfl) (fun hok hm => ?_)
  have r_w : sd_R w := hok (.inl w) (by simp)
  show sd_Wp sd_SM 1 sY11_status 0 [some (.inr 15), some (.inl w), none, none] [] m _
  refine sd_iload_n sD11_status_0 rfl ?_
  refine sd_iconst sD11_status_1 (by decide) ?_
  refine sd_bipush sD11_status_2 rfl (by decide) ?_
  refine sd_callSp (as := [.inl w, .inl (-1), .inl 6]) (st := []) (v := .inl (sd_b ((-1) ≤ w ∧ w ≤ 6))) sD11_status_4 sM11_56 rfl rfl (by decide) (Nat.le_of_ble_eq_true rfl) (cM_in w (-1) 6 m) (fun ho4 => ?_)
  refine sd_bif_ne (tgt := 13) sD11_status_7 (by decide) (fun zc7 => ?_) (fun zc7 => ?_)
  ·
    refine sd_iconst sD11_status_13 (by decide) ?_
    refine sd_istore_n (ls' := [some (.inr 15), some (.inl w), some (.inl 0), none]) sD11_status_14 (by decide) rfl ?_
    refine sd_iconst sD11_status_15 (by decide) ?_
    refine sd_istore_n (ls' := [some (.inr 15), some (.inl w), some (.inl 0), some (.inl 0)]) sD11_status_16 (by decide) rfl ?_
    refine sd_forE (7) (fun zi17 : Nat => [some (.inr 15), some (.inl w), some (.inl (sd_sum (sd_gs x w) zi17)), some (.inl (zi17 : Int))]) (by rfl) (fun zi17 hizi17 ihzi17 => ?_) ?_
    ·
      have e5 := sd_sum_le (f := sd_gs x w) (n := zi17) (B := 1000000) (fun i hi => sd_gs_le hF w i (by omega))
      have e6 := hF zi17 (by omega)
      refine sd_iload_n sD11_status_17 rfl ?_
      refine sd_bipush sD11_status_18 rfl (by decide) ?_
      refine sd_icmp_ge (tgt := 51) sD11_status_20 (by decide) (fun zc20 => (by exfalso; omega)) (fun zc20 => ?_)
      refine sd_iload_n sD11_status_23 rfl ?_
      refine sd_iload_n sD11_status_24 rfl ?_
      refine sd_if_lt (tgt := 33) sD11_status_25 (by decide) (fun zc25 => ?_) (fun zc25 => ?_)
      ·
        refine sd_aload_n sD11_status_33 rfl ?_
        refine sd_getfr sD11_status_34 sF11_19 sGM15_5 ?_
        refine sd_iload_n sD11_status_37 rfl ?_
        refine sd_ialdx (a := (4101 + zi17)) (v := x (4101 + zi17)) hx sD11_status_38 sAM3 (by omega) rfl ?_
        refine sd_goto (tgt := 43) sD11_status_39 (by decide) ?_
        refine sd_iadd (z := (sd_sum (sd_gs x w) zi17 + x (4101 + zi17))) sD11_status_43 (by omega) (by omega) ?_
        refine sd_istore_n (ls' := [some (.inr 15), some (.inl w), some (.inl (sd_sum (sd_gs x w) zi17 + x (4101 + zi17))), some (.inl (zi17 : Int))]) sD11_status_44 (by decide) rfl ?_
        refine sd_iinc (y := ((zi17 : Int) + 1)) (ls' := [some (.inr 15), some (.inl w), some (.inl (sd_sum (sd_gs x w) zi17 + x (4101 + zi17))), some (.inl ((zi17 : Int) + 1))]) sD11_status_45 rfl (by omega) (by omega) (by decide) rfl ?_
        refine sd_goto (tgt := 17) sD11_status_48 (by decide) ?_
        exact sd_eqw (ls' := [some (.inr 15), some (.inl w), some (.inl (sd_sum (sd_gs x w) (zi17 + 1))), some (.inl ((zi17 + 1 : Nat) : Int))]) ihzi17 (by rw [show ((sd_sum (sd_gs x w) zi17 + x (4101 + zi17)) : Int) = sd_sum (sd_gs x w) (zi17 + 1) from by (simp only [sd_sum]; unfold sd_gs; first | (rw [if_pos (by omega)]; done) | (rw [if_neg (by omega)]; omega)), show (((zi17 : Int) + 1) : Int) = ((zi17 + 1 : Nat) : Int) from by omega]) rfl
      ·
        refine sd_iload_n sD11_status_28 rfl ?_
        refine sd_iload_n sD11_status_29 rfl ?_
        refine sd_icmp_ne (tgt := 42) sD11_status_30 (by decide) (fun zc30 => ?_) (fun zc30 => ?_)
        ·
          refine sd_iconst sD11_status_42 (by decide) ?_
          refine sd_iadd (z := sd_sum (sd_gs x w) zi17) sD11_status_43 (by omega) (by omega) ?_
          refine sd_istore_n (ls' := [some (.inr 15), some (.inl w), some (.inl (sd_sum (sd_gs x w) zi17)), some (.inl (zi17 : Int))]) sD11_status_44 (by decide) rfl ?_
          refine sd_iinc (y := ((zi17 : Int) + 1)) (ls' := [some (.inr 15), some (.inl w), some (.inl (sd_sum (sd_gs x w) zi17)), some (.inl ((zi17 : Int) + 1))]) sD11_status_45 rfl (by omega) (by omega) (by decide) rfl ?_
          refine sd_goto (tgt := 17) sD11_status_48 (by decide) ?_
          exact sd_eqw (ls' := [some (.inr 15), some (.inl w), some (.inl (sd_sum (sd_gs x w) (zi17 + 1))), some (.inl ((zi17 + 1 : Nat) : Int))]) ihzi17 (by rw [show (sd_sum (sd_gs x w) zi17 : Int) = sd_sum (sd_gs x w) (zi17 + 1) from by (simp only [sd_sum]; unfold sd_gs; first | (rw [if_pos (by omega)]; done) | (rw [if_neg (by omega)]; omega)), show (((zi17 : Int) + 1) : Int) = ((zi17 + 1 : Nat) : Int) from by omega]) rfl
        ·
          refine sd_aload_n sD11_status_33 rfl ?_
          refine sd_getfr sD11_status_34 sF11_19 sGM15_5 ?_
          refine sd_iload_n sD11_status_37 rfl ?_
          refine sd_ialdx (a := (4101 + zi17)) (v := x (4101 + zi17)) hx sD11_status_38 sAM3 (by omega) rfl ?_
          refine sd_goto (tgt := 43) sD11_status_39 (by decide) ?_
          refine sd_iadd (z := (sd_sum (sd_gs x w) zi17 + x (4101 + zi17))) sD11_status_43 (by omega) (by omega) ?_
          refine sd_istore_n (ls' := [some (.inr 15), some (.inl w), some (.inl (sd_sum (sd_gs x w) zi17 + x (4101 + zi17))), some (.inl (zi17 : Int))]) sD11_status_44 (by decide) rfl ?_
          refine sd_iinc (y := ((zi17 : Int) + 1)) (ls' := [some (.inr 15), some (.inl w), some (.inl (sd_sum (sd_gs x w) zi17 + x (4101 + zi17))), some (.inl ((zi17 : Int) + 1))]) sD11_status_45 rfl (by omega) (by omega) (by decide) rfl ?_
          refine sd_goto (tgt := 17) sD11_status_48 (by decide) ?_
          exact sd_eqw (ls' := [some (.inr 15), some (.inl w), some (.inl (sd_sum (sd_gs x w) (zi17 + 1))), some (.inl ((zi17 + 1 : Nat) : Int))]) ihzi17 (by rw [show ((sd_sum (sd_gs x w) zi17 + x (4101 + zi17)) : Int) = sd_sum (sd_gs x w) (zi17 + 1) from by (simp only [sd_sum]; unfold sd_gs; first | (rw [if_pos (by omega)]; done) | (rw [if_neg (by omega)]; omega)), show (((zi17 : Int) + 1) : Int) = ((zi17 + 1 : Nat) : Int) from by omega]) rfl
    ·
      show sd_Wp sd_SM 1 sY11_status 17 [some (.inr 15), some (.inl w), some (.inl (sd_sum (sd_gs x w) 7)), some (.inl (7 : Int))] [] m _
      refine sd_iload_n sD11_status_17 rfl ?_
      refine sd_bipush sD11_status_18 rfl (by decide) ?_
      refine sd_icmp_ge (tgt := 51) sD11_status_20 (by decide) (fun zc20 => ?_) (fun zc20 => (by exfalso; omega))
      refine sd_iload_n sD11_status_51 rfl ?_
      refine sd_ireturn sD11_status_52 rfl (fun hr hm => ?_)
      exact sd_done (by unfold sp_status; first | (rw [if_neg (by omega), if_neg (by omega)]; done) | (rcases (show (0 ≤ w ∧ w ≤ 6) ∨ w = -1 by omega) with hw | hw <;> first | (rw [if_pos hw, sd_gs_one x hw]; done) | (rw [if_neg (by omega), if_pos hw, sd_gs_all x (by omega)]; done))) hx
  ·
    refine sd_ldc (z := -1000001) sD11_status_10 sK11_55 (by decide) ?_
    refine sd_ireturn sD11_status_12 rfl (fun hr hm => ?_)
    exact sd_done (by unfold sp_status; first | (rw [if_neg (by omega), if_neg (by omega)]; done) | (rcases (show (0 ≤ w ∧ w ≤ 6) ∨ w = -1 by omega) with hw | hw <;> first | (rw [if_pos hw, sd_gs_one x hw]; done) | (rw [if_neg (by omega), if_pos hw, sd_gs_all x (by omega)]; done))) hx
