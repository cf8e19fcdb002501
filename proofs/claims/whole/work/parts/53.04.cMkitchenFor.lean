set_option maxRecDepth 100000 in
set_option maxHeartbeats 4000000 in
theorem cM_kitchenFor (s : Int) (x m : sd_M) (hx : sd_ns x m) (h1 : sd_I1 x) (h2 : sd_I2 x) (h3 : sd_I3 x) : sd_Cp sd_SM 3 sY11_kitchenFor [.inr 15, .inl s] m (.inl (sd_fst (sd_Pm x (sd_rch x (sd_shl 1 s) 8)) (x 2).toNat)) := by
  refine sd_ct rfl (Nat.le_of_ble_eq_true rfl) (fun hok hm => ?_)
  obtain ⟨⟨i0, j0⟩, ⟨i1, j1⟩, ⟨i2, j2⟩, ⟨i3, j3⟩, ⟨i4, j4⟩, ⟨i5, j5⟩, ⟨i6, j6⟩, ⟨i7, j7⟩, ⟨i8, j8⟩⟩ := id h1
  have r_s : sd_R s := hok (.inl s) (by simp)
  show sd_Wp sd_SM 3 sY11_kitchenFor 0 [some (.inr 15), some (.inl s), none, none] [] m _
  refine sd_aload_n sD11_kitchenFor_0 rfl ?_
  refine sd_iload_n sD11_kitchenFor_1 rfl ?_
  refine sd_callVp (as := [.inl s]) (st := []) (v := .inl (sd_rch x (sd_shl 1 s) 8)) sD11_kitchenFor_2 sM11_109 sOM15 rfl rfl rfl (by decide) (Nat.le_of_ble_eq_true rfl) (cM_reachOf s _ m hx h1 h2 h3 ) (fun ho2 => ?_)
  refine sd_istore_n (ls' := [some (.inr 15), some (.inl s), some (.inl (sd_rch x (sd_shl 1 s) 8)), none]) sD11_kitchenFor_5 (by decide) rfl ?_
  refine sd_iconst sD11_kitchenFor_6 (by decide) ?_
  refine sd_istore_n (ls' := [some (.inr 15), some (.inl s), some (.inl (sd_rch x (sd_shl 1 s) 8)), some (.inl 0)]) sD11_kitchenFor_7 (by decide) rfl ?_
  refine sd_forH ((x 2).toNat) (fun zi8 : Nat => [some (.inr 15), some (.inl s), some (.inl (sd_rch x (sd_shl 1 s) 8)), some (.inl (zi8 : Int))]) (fun zi8 : Nat => ∀ j, j < zi8 → ¬ sd_Pm x (sd_rch x (sd_shl 1 s) 8) j) (by rfl) (fun zi8 hizi8 hhzi8 ihzi8 => ?_) (fun hhzi8 => ?_) (by intro j hj; omega)
  ·
    have e2 := h2 zi8 (by omega)
    refine sd_iload_n sD11_kitchenFor_8 rfl ?_
    refine sd_aload_n sD11_kitchenFor_9 rfl ?_
    refine sd_getfr sD11_kitchenFor_10 sF11_7 sGM15_0 ?_
    refine sd_iconst sD11_kitchenFor_13 (by decide) ?_
    refine sd_ialdx (a := 2) (v := x 2) hx sD11_kitchenFor_14 sAM0 (by omega) rfl ?_
    refine sd_icmp_ge (tgt := 57) sD11_kitchenFor_15 (by decide) (fun zc15 => (by exfalso; omega)) (fun zc15 => ?_)
    refine sd_aload_n sD11_kitchenFor_18 rfl ?_
    refine sd_iload_n sD11_kitchenFor_19 rfl ?_
    refine sd_callVp (as := [.inl (zi8 : Int)]) (st := []) (v := .inl (x (10 + zi8))) sD11_kitchenFor_20 sM11_64 sOM15 rfl rfl rfl (by decide) (Nat.le_of_ble_eq_true rfl) (cM_kindOf (zi8 : Int) _ m hx  (by omega)) (fun ho20 => ?_)
    refine sd_iconst sD11_kitchenFor_23 (by decide) ?_
    refine sd_icmp_ne (tgt := 51) sD11_kitchenFor_24 (by decide) (fun zc24 => ?_) (fun zc24 => ?_)
    ·
      refine sd_iinc (y := ((zi8 : Int) + 1)) (ls' := [some (.inr 15), some (.inl s), some (.inl (sd_rch x (sd_shl 1 s) 8)), some (.inl ((zi8 : Int) + 1))]) sD11_kitchenFor_51 rfl (by omega) (by omega) (by decide) rfl ?_
      refine sd_goto (tgt := 8) sD11_kitchenFor_54 (by decide) ?_
      exact sd_eqw (ls' := [some (.inr 15), some (.inl s), some (.inl (sd_rch x (sd_shl 1 s) 8)), some (.inl ((zi8 + 1 : Nat) : Int))]) (ihzi8 (by exact sd_all_succ hhzi8 (fun hp => by have a1 := hp.1; have a2 := hp.2.1; have a3 := hp.2.2; first | omega | contradiction))) (sd_cg rfl (sd_cg rfl (sd_cg rfl (sd_cg (sd_ce (show (((zi8 : Int) + 1) : Int) = ((zi8 + 1 : Nat) : Int) from by omega)) rfl)))) rfl
    ·
      refine sd_iload_n sD11_kitchenFor_27 rfl ?_
      refine sd_iload_n sD11_kitchenFor_28 rfl ?_
      refine sd_ishr sD11_kitchenFor_29 ?_
      refine sd_iconst sD11_kitchenFor_30 (by decide) ?_
      refine sd_iand sD11_kitchenFor_31 ?_
      refine sd_iconst sD11_kitchenFor_32 (by decide) ?_
      refine sd_icmp_ne (tgt := 51) sD11_kitchenFor_33 (by decide) (fun zc33 => ?_) (fun zc33 => ?_)
      ·
        refine sd_iinc (y := ((zi8 : Int) + 1)) (ls' := [some (.inr 15), some (.inl s), some (.inl (sd_rch x (sd_shl 1 s) 8)), some (.inl ((zi8 : Int) + 1))]) sD11_kitchenFor_51 rfl (by omega) (by omega) (by decide) rfl ?_
        refine sd_goto (tgt := 8) sD11_kitchenFor_54 (by decide) ?_
        exact sd_eqw (ls' := [some (.inr 15), some (.inl s), some (.inl (sd_rch x (sd_shl 1 s) 8)), some (.inl ((zi8 + 1 : Nat) : Int))]) (ihzi8 (by exact sd_all_succ hhzi8 (fun hp => by have a1 := hp.1; have a2 := hp.2.1; have a3 := hp.2.2; first | omega | contradiction))) (sd_cg rfl (sd_cg rfl (sd_cg rfl (sd_cg (sd_ce (show (((zi8 : Int) + 1) : Int) = ((zi8 + 1 : Nat) : Int) from by omega)) rfl)))) rfl
      ·
        refine sd_aload_n sD11_kitchenFor_36 rfl ?_
        refine sd_getfr sD11_kitchenFor_37 sF11_7 sGM15_0 ?_
        refine sd_sipush sD11_kitchenFor_40 rfl (by decide) ?_
        refine sd_iload_n sD11_kitchenFor_43 rfl ?_
        refine sd_iadd (z := (154 + (zi8 : Int))) sD11_kitchenFor_44 (by omega) (by omega) ?_
        refine sd_ialdx (a := (154 + zi8)) (v := x (154 + zi8)) hx sD11_kitchenFor_45 sAM0 (by omega) rfl ?_
        refine sd_if_le (tgt := 51) sD11_kitchenFor_46 (by decide) (fun zc46 => ?_) (fun zc46 => ?_)
        ·
          refine sd_iinc (y := ((zi8 : Int) + 1)) (ls' := [some (.inr 15), some (.inl s), some (.inl (sd_rch x (sd_shl 1 s) 8)), some (.inl ((zi8 : Int) + 1))]) sD11_kitchenFor_51 rfl (by omega) (by omega) (by decide) rfl ?_
          refine sd_goto (tgt := 8) sD11_kitchenFor_54 (by decide) ?_
          exact sd_eqw (ls' := [some (.inr 15), some (.inl s), some (.inl (sd_rch x (sd_shl 1 s) 8)), some (.inl ((zi8 + 1 : Nat) : Int))]) (ihzi8 (by exact sd_all_succ hhzi8 (fun hp => by have a1 := hp.1; have a2 := hp.2.1; have a3 := hp.2.2; first | omega | contradiction))) (sd_cg rfl (sd_cg rfl (sd_cg rfl (sd_cg (sd_ce (show (((zi8 : Int) + 1) : Int) = ((zi8 + 1 : Nat) : Int) from by omega)) rfl)))) rfl
        ·
          refine sd_iload_n sD11_kitchenFor_49 rfl ?_
          refine sd_iretp sD11_kitchenFor_50 rfl ?_
          first | exact (sd_fst_at (P := sd_Pm x (sd_rch x (sd_shl 1 s) 8)) hhzi8 ⟨by assumption, by omega, by omega⟩ (by omega)).symm | exact (sd_fst_none (P := sd_Pm x (sd_rch x (sd_shl 1 s) 8)) hhzi8).symm
  ·
    show sd_Wp sd_SM 3 sY11_kitchenFor 8 [some (.inr 15), some (.inl s), some (.inl (sd_rch x (sd_shl 1 s) 8)), some (.inl ((((x 2).toNat) : Nat) : Int))] [] m _
    refine sd_iload_n sD11_kitchenFor_8 rfl ?_
    refine sd_aload_n sD11_kitchenFor_9 rfl ?_
    refine sd_getfr sD11_kitchenFor_10 sF11_7 sGM15_0 ?_
    refine sd_iconst sD11_kitchenFor_13 (by decide) ?_
    refine sd_ialdx (a := 2) (v := x 2) hx sD11_kitchenFor_14 sAM0 (by omega) rfl ?_
    refine sd_icmp_ge (tgt := 57) sD11_kitchenFor_15 (by decide) (fun zc15 => ?_) (fun zc15 => (by exfalso; omega))
    refine sd_iconst sD11_kitchenFor_57 (by decide) ?_
    refine sd_iretp sD11_kitchenFor_58 rfl ?_
    first | exact (sd_fst_at (P := sd_Pm x (sd_rch x (sd_shl 1 s) 8)) hhzi8 ⟨by assumption, by omega, by omega⟩ (by omega)).symm | exact (sd_fst_none (P := sd_Pm x (sd_rch x (sd_shl 1 s) 8)) hhzi8).symm
