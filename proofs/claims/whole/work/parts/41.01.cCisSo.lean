set_option maxRecDepth 100000 in
set_option maxHeartbeats 4000000 in
theorem cC_isSo (c : Nat) (hc : c < 40) (f : Nat → Int) (x m : sd_M) (hx : sd_ns x m) (hf : ∀ i, i < 4 → m (5000 + i) = f i) (hfr : ∀ i, 0 ≤ f i ∧ f i ≤ 40) (hr : (0 ≤ x (6100 + c) ∧ x (6100 + c) ≤ 3) ∧ ∀ k : Nat, (k : Int) < x (6100 + c) → (0 ≤ x (6140 + (3 * c + k)) ∧ x (6140 + (3 * c + k)) ≤ 3) ∧ (-1 ≤ x (6260 + (3 * c + k)) ∧ x (6260 + (3 * c + k)) ≤ 2) ∧ (0 ≤ x (6380 + (3 * c + k)) ∧ x (6380 + (3 * c + k)) ≤ 999)) : sd_Cp sd_SC 0 sY8_isSo [.inr 36, .inl (c : Int), .inr 51] m (.inl (sd_b (sd_so x f c))) := by
  refine sd_ct rfl (Nat.le_of_ble_eq_true rfl) (fun hok hm => ?_)
  have hr1 := hr.1
  show sd_Wp sd_SC 0 sY8_isSo 0 [some (.inr 36), some (.inl (c : Int)), some (.inr 51), none, none, none, none] [] m _
  refine sd_iconst sD8_isSo_0 (by decide) ?_
  refine sd_istore_n (ls' := [some (.inr 36), some (.inl (c : Int)), some (.inr 51), some (.inl 0), none, none, none]) sD8_isSo_1 (by decide) rfl ?_
  refine sd_forH ((x (6100 + c)).toNat) (fun zi2 : Nat => [some (.inr 36), some (.inl (c : Int)), some (.inr 51), some (.inl (zi2 : Int)), none, none, none]) (fun zi2 : Nat => ∀ k, k < zi2 → sd_Pso x f c k) (by rfl) (fun zi2 hizi2 hhzi2 ihzi2 => ?_) (fun hhzi2 => ?_) (by intro k hk; omega)
  ·
    have e2 := hr.2 zi2 (by omega)
    have e3 := hfr (x (6140 + (3 * c + zi2))).toNat
    refine sd_iload_n sD8_isSo_2 rfl ?_
    refine sd_aload_n sD8_isSo_3 rfl ?_
    refine sd_getfr sD8_isSo_4 sF8_37 sGC36_8 ?_
    refine sd_iload_n sD8_isSo_7 rfl ?_
    refine sd_ialdx (a := (6100 + c)) (v := x (6100 + c)) hx sD8_isSo_8 sAC31 (by omega) rfl ?_
    refine sd_icmp_ge (tgt := 79) sD8_isSo_9 (by decide) (fun zc9 => (by exfalso; omega)) (fun zc9 => ?_)
    refine sd_iload_n sD8_isSo_12 rfl ?_
    refine sd_iconst sD8_isSo_13 (by decide) ?_
    refine sd_imul (z := ((c : Int) * 3)) sD8_isSo_14 (by omega) (by omega) ?_
    refine sd_iload_n sD8_isSo_15 rfl ?_
    refine sd_iadd (z := ((3 * c + zi2 : Nat) : Int)) sD8_isSo_16 (by omega) (by omega) ?_
    refine sd_istore (ls' := [some (.inr 36), some (.inl (c : Int)), some (.inr 51), some (.inl (zi2 : Int)), some (.inl ((3 * c + zi2 : Nat) : Int)), none, none]) sD8_isSo_17 (by decide) rfl ?_
    refine sd_aload_n sD8_isSo_19 rfl ?_
    refine sd_aload_n sD8_isSo_20 rfl ?_
    refine sd_getfr sD8_isSo_21 sF8_40 sGC36_9 ?_
    refine sd_iload sD8_isSo_24 rfl ?_
    refine sd_ialdx (a := (6140 + (3 * c + zi2))) (v := x (6140 + (3 * c + zi2))) hx sD8_isSo_26 sAC32 (by omega) rfl ?_
    refine sd_iald (a := (5000 + ((x (6140 + (3 * c + zi2))).toNat))) sD8_isSo_27 sAC51 (by omega) ?_
    rw [show m (5000 + ((x (6140 + (3 * c + zi2))).toNat)) = f ((x (6140 + (3 * c + zi2))).toNat) from hf ((x (6140 + (3 * c + zi2))).toNat) (by omega)]
    refine sd_aload_n sD8_isSo_28 rfl ?_
    refine sd_getfr sD8_isSo_29 sF8_46 sGC36_11 ?_
    refine sd_iload sD8_isSo_32 rfl ?_
    refine sd_ialdx (a := (6380 + (3 * c + zi2))) (v := x (6380 + (3 * c + zi2))) hx sD8_isSo_34 sAC34 (by omega) rfl ?_
    refine sd_isub (z := (f ((x (6140 + (3 * c + zi2))).toNat) - (x (6380 + (3 * c + zi2))))) sD8_isSo_35 (by omega) (by omega) ?_
    refine sd_istore (ls' := [some (.inr 36), some (.inl (c : Int)), some (.inr 51), some (.inl (zi2 : Int)), some (.inl ((3 * c + zi2 : Nat) : Int)), some (.inl (f ((x (6140 + (3 * c + zi2))).toNat) - (x (6380 + (3 * c + zi2))))), none]) sD8_isSo_36 (by decide) rfl ?_
    refine sd_iload sD8_isSo_38 rfl ?_
    refine sd_cut (J := 57) (ls := [some (.inr 36), some (.inl (c : Int)), some (.inr 51), some (.inl (zi2 : Int)), some (.inl ((3 * c + zi2 : Nat) : Int)), some (.inl (f ((x (6140 + (3 * c + zi2))).toNat) - (x (6380 + (3 * c + zi2))))), none]) (st := []) (fun zv => zv = (sd_sg (f ((x (6140 + (3 * c + zi2))).toNat) - (x (6380 + (3 * c + zi2)))))) (fun zv hzv => ?_) (fun K40 => ?_)
    ·
      subst hzv
      refine sd_istore (ls' := [some (.inr 36), some (.inl (c : Int)), some (.inr 51), some (.inl (zi2 : Int)), some (.inl ((3 * c + zi2 : Nat) : Int)), some (.inl (f ((x (6140 + (3 * c + zi2))).toNat) - (x (6380 + (3 * c + zi2))))), some (.inl (sd_sg (f ((x (6140 + (3 * c + zi2))).toNat) - (x (6380 + (3 * c + zi2))))))]) sD8_isSo_57 (by decide) rfl ?_
      refine sd_iload sD8_isSo_59 rfl ?_
      refine sd_aload_n sD8_isSo_61 rfl ?_
      refine sd_getfr sD8_isSo_62 sF8_43 sGC36_10 ?_
      refine sd_iload sD8_isSo_65 rfl ?_
      refine sd_ialdx (a := (6260 + (3 * c + zi2))) (v := x (6260 + (3 * c + zi2))) hx sD8_isSo_67 sAC33 (by omega) rfl ?_
      refine sd_icmp_eq (tgt := 73) sD8_isSo_68 (by decide) (fun zc68 => ?_) (fun zc68 => ?_)
      ·
        refine sd_iinc (y := ((zi2 : Int) + 1)) (ls' := [some (.inr 36), some (.inl (c : Int)), some (.inr 51), some (.inl ((zi2 : Int) + 1)), some (.inl ((3 * c + zi2 : Nat) : Int)), some (.inl (f ((x (6140 + (3 * c + zi2))).toNat) - (x (6380 + (3 * c + zi2))))), some (.inl (sd_sg (f ((x (6140 + (3 * c + zi2))).toNat) - (x (6380 + (3 * c + zi2))))))]) sD8_isSo_73 rfl (by omega) (by omega) (by decide) rfl ?_
        refine sd_goto (tgt := 2) sD8_isSo_76 (by decide) ?_
        refine sd_less (ls' := [some (.inr 36), some (.inl (c : Int)), some (.inr 51), some (.inl ((zi2 : Int) + 1)), none, none, none]) ?_ rfl (by intro zi zv zh; rcases zi with _ | _ | _ | _ | _ | _ | _ | zi <;> first | exact zh | cases zh)
        exact sd_eqw (ls' := [some (.inr 36), some (.inl (c : Int)), some (.inr 51), some (.inl ((zi2 + 1 : Nat) : Int)), none, none, none]) (ihzi2 (by intro k hk; by_cases he : k = zi2; (subst he; assumption); exact hhzi2 k (by omega))) (sd_cg rfl (sd_cg rfl (sd_cg rfl (sd_cg (sd_ce (show (((zi2 : Int) + 1) : Int) = ((zi2 + 1 : Nat) : Int) from by omega)) (sd_cg rfl (sd_cg rfl (sd_cg rfl rfl))))))) rfl
      ·
        refine sd_iconst sD8_isSo_71 (by decide) ?_
        refine sd_zretp sD8_isSo_72 rfl (by decide) ?_
        first | exact (sd_b1 hhzi2).symm | exact (sd_b0 (fun q => by have q1 := q zi2 (by omega); omega)).symm
    ·
      refine sd_if_ne (tgt := 47) sD8_isSo_40 (by decide) (fun zc40 => ?_) (fun zc40 => ?_)
      ·
        refine sd_iload sD8_isSo_47 rfl ?_
        refine sd_if_ge (tgt := 56) sD8_isSo_49 (by decide) (fun zc49 => ?_) (fun zc49 => ?_)
        ·
          refine sd_iconst sD8_isSo_56 (by decide) ?_
          exact K40 _ (by unfold sd_sg; first | (rw [if_pos (by omega)]; done) | (rw [if_neg (by omega), if_pos (by omega)]; done) | (rw [if_neg (by omega), if_neg (by omega)]; done))
        ·
          refine sd_iconst sD8_isSo_52 (by decide) ?_
          refine sd_goto (tgt := 57) sD8_isSo_53 (by decide) ?_
          exact K40 _ (by unfold sd_sg; first | (rw [if_pos (by omega)]; done) | (rw [if_neg (by omega), if_pos (by omega)]; done) | (rw [if_neg (by omega), if_neg (by omega)]; done))
      ·
        refine sd_iconst sD8_isSo_43 (by decide) ?_
        refine sd_goto (tgt := 57) sD8_isSo_44 (by decide) ?_
        exact K40 _ (by unfold sd_sg; first | (rw [if_pos (by omega)]; done) | (rw [if_neg (by omega), if_pos (by omega)]; done) | (rw [if_neg (by omega), if_neg (by omega)]; done))
  ·
    show sd_Wp sd_SC 0 sY8_isSo 2 [some (.inr 36), some (.inl (c : Int)), some (.inr 51), some (.inl ((((x (6100 + c)).toNat) : Nat) : Int)), none, none, none] [] m _
    refine sd_iload_n sD8_isSo_2 rfl ?_
    refine sd_aload_n sD8_isSo_3 rfl ?_
    refine sd_getfr sD8_isSo_4 sF8_37 sGC36_8 ?_
    refine sd_iload_n sD8_isSo_7 rfl ?_
    refine sd_ialdx (a := (6100 + c)) (v := x (6100 + c)) hx sD8_isSo_8 sAC31 (by omega) rfl ?_
    refine sd_icmp_ge (tgt := 79) sD8_isSo_9 (by decide) (fun zc9 => ?_) (fun zc9 => (by exfalso; omega))
    refine sd_iconst sD8_isSo_79 (by decide) ?_
    refine sd_zretp sD8_isSo_80 rfl (by decide) ?_
    first | exact (sd_b1 hhzi2).symm | exact (sd_b0 (fun q => by have q1 := q zi2 (by omega); omega)).symm
