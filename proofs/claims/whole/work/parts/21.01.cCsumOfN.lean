set_option maxRecDepth 100000 in
set_option maxHeartbeats 4000000 in
theorem cC_sumOfN (x m : sd_M) (hx : sd_ns x m) (h8 : sd_L8 x) : sd_Cp sd_SC 0 sY10_sumOf [.inr 43] m (.inl (sd_sum (fun i => x (6500 + i)) 6)) := by
  refine sd_ct rfl (Nat.le_of_ble_eq_true rfl) (fun hok hm => ?_)
  show sd_Wp sd_SC 0 sY10_sumOf 0 [some (.inr 43), none, none, none, none, none] [] m _
  refine sd_iconst sD10_sumOf_0 (by decide) ?_
  refine sd_istore_n (ls' := [some (.inr 43), some (.inl 0), none, none, none, none]) sD10_sumOf_1 (by decide) rfl ?_
  refine sd_aload_n sD10_sumOf_2 rfl ?_
  refine sd_astore_n (ls' := [some (.inr 43), some (.inl 0), some (.inr 43), none, none, none]) sD10_sumOf_3 (by decide) rfl ?_
  refine sd_aload_n sD10_sumOf_4 rfl ?_
  refine sd_alen sD10_sumOf_5 sAC43 (by decide) ?_
  refine sd_istore_n (ls' := [some (.inr 43), some (.inl 0), some (.inr 43), some (.inl ((6 : Nat) : Int)), none, none]) sD10_sumOf_6 (by decide) rfl ?_
  refine sd_iconst sD10_sumOf_7 (by decide) ?_
  refine sd_istore (ls' := [some (.inr 43), some (.inl 0), some (.inr 43), some (.inl ((6 : Nat) : Int)), some (.inl 0), none]) sD10_sumOf_8 (by decide) rfl ?_
  refine sd_forE (6) (fun zi10 : Nat => [some (.inr 43), some (.inl (sd_sum (fun i => x (6500 + i)) zi10)), some (.inr 43), some (.inl ((6 : Nat) : Int)), some (.inl (zi10 : Int)), none]) (by rfl) (fun zi10 hizi10 ihzi10 => ?_) ?_
  ·
    have e5 := sd_sum_le (f := fun i => x (6500 + i)) (n := zi10) (B := 999) (fun i hi => (h8 i (by omega)).1)
    have e6 := (h8 zi10 (by omega)).1
    refine sd_iload sD10_sumOf_10 rfl ?_
    refine sd_iload_n sD10_sumOf_12 rfl ?_
    refine sd_icmp_ge (tgt := 33) sD10_sumOf_13 (by decide) (fun zc13 => (by exfalso; omega)) (fun zc13 => ?_)
    refine sd_aload_n sD10_sumOf_16 rfl ?_
    refine sd_iload sD10_sumOf_17 rfl ?_
    refine sd_ialdx (a := (6500 + zi10)) (v := x (6500 + zi10)) hx sD10_sumOf_19 sAC43 (by omega) rfl ?_
    refine sd_istore (ls' := [some (.inr 43), some (.inl (sd_sum (fun i => x (6500 + i)) zi10)), some (.inr 43), some (.inl ((6 : Nat) : Int)), some (.inl (zi10 : Int)), some (.inl (x (6500 + zi10)))]) sD10_sumOf_20 (by decide) rfl ?_
    refine sd_iload_n sD10_sumOf_22 rfl ?_
    refine sd_iload sD10_sumOf_23 rfl ?_
    refine sd_iadd (z := (sd_sum (fun i => x (6500 + i)) zi10 + x (6500 + zi10))) sD10_sumOf_25 (by omega) (by omega) ?_
    refine sd_istore_n (ls' := [some (.inr 43), some (.inl (sd_sum (fun i => x (6500 + i)) zi10 + x (6500 + zi10))), some (.inr 43), some (.inl ((6 : Nat) : Int)), some (.inl (zi10 : Int)), some (.inl (x (6500 + zi10)))]) sD10_sumOf_26 (by decide) rfl ?_
    refine sd_iinc (y := ((zi10 : Int) + 1)) (ls' := [some (.inr 43), some (.inl (sd_sum (fun i => x (6500 + i)) zi10 + x (6500 + zi10))), some (.inr 43), some (.inl ((6 : Nat) : Int)), some (.inl ((zi10 : Int) + 1)), some (.inl (x (6500 + zi10)))]) sD10_sumOf_27 rfl (by omega) (by omega) (by decide) rfl ?_
    refine sd_goto (tgt := 10) sD10_sumOf_30 (by decide) ?_
    refine sd_less (ls' := [some (.inr 43), some (.inl (sd_sum (fun i => x (6500 + i)) zi10 + x (6500 + zi10))), some (.inr 43), some (.inl ((6 : Nat) : Int)), some (.inl ((zi10 : Int) + 1)), none]) ?_ rfl (by intro zi zv zh; rcases zi with _ | _ | _ | _ | _ | _ | zi <;> first | exact zh | cases zh)
    exact sd_eqw (ls' := [some (.inr 43), some (.inl (sd_sum (fun i => x (6500 + i)) (zi10 + 1))), some (.inr 43), some (.inl ((6 : Nat) : Int)), some (.inl ((zi10 + 1 : Nat) : Int)), none]) ihzi10 (by rw [show ((sd_sum (fun i => x (6500 + i)) zi10 + x (6500 + zi10)) : Int) = sd_sum (fun i => x (6500 + i)) (zi10 + 1) from by rfl, show (((zi10 : Int) + 1) : Int) = ((zi10 + 1 : Nat) : Int) from by omega]) rfl
  ·
    show sd_Wp sd_SC 0 sY10_sumOf 10 [some (.inr 43), some (.inl (sd_sum (fun i => x (6500 + i)) 6)), some (.inr 43), some (.inl ((6 : Nat) : Int)), some (.inl (6 : Int)), none] [] m _
    refine sd_iload sD10_sumOf_10 rfl ?_
    refine sd_iload_n sD10_sumOf_12 rfl ?_
    refine sd_icmp_ge (tgt := 33) sD10_sumOf_13 (by decide) (fun zc13 => ?_) (fun zc13 => (by exfalso; omega))
    refine sd_iload_n sD10_sumOf_33 rfl ?_
    refine sd_iretp sD10_sumOf_34 rfl ?_
    rfl
