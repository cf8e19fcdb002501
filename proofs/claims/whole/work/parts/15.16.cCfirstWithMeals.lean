set_option maxRecDepth 100000 in
set_option maxHeartbeats 4000000 in
theorem cC_firstWithMeals (s : Int) (x m : sd_M) (hx : sd_ns x m) (h1 : sd_I1 x) (h2 : sd_I2 x) : sd_Cp sd_SC 1 sY1_firstWithMeals [.inr 13, .inl s] m (.inl (sd_fst (sd_Pm x s) (x 2).toNat)) := by
  refine sd_ct rfl (Nat.le_of_ble_eq_true rfl) (fun hok hm => ?_)
  obtain ⟨⟨i0, j0⟩, ⟨i1, j1⟩, ⟨i2, j2⟩, ⟨i3, j3⟩, ⟨i4, j4⟩, ⟨i5, j5⟩, ⟨i6, j6⟩, ⟨i7, j7⟩, ⟨i8, j8⟩⟩ := id h1
  have r_s : sd_R s := hok (.inl s) (by simp)
  show sd_Wp sd_SC 1 sY1_firstWithMeals 0 [some (.inr 13), some (.inl s), none] [] m _
  refine sd_iconst sD1_firstWithMeals_0 (by decide) ?_
  refine sd_istore_n (ls' := [some (.inr 13), some (.inl s), some (.inl 0)]) sD1_firstWithMeals_1 (by decide) rfl ?_
  refine sd_forH ((x 2).toNat) (fun zi2 : Nat => [some (.inr 13), some (.inl s), some (.inl (zi2 : Int))]) (fun zi2 : Nat => ∀ j, j < zi2 → ¬ sd_Pm x s j) (by rfl) (fun zi2 hizi2 hhzi2 ihzi2 => ?_) (fun hhzi2 => ?_) (by intro j hj; omega)
  ·
    have e2 := h2 zi2 (by omega)
    refine sd_iload_n sD1_firstWithMeals_2 rfl ?_
    refine sd_aload_n sD1_firstWithMeals_3 rfl ?_
    refine sd_getfx (v := x 2) hx sD1_firstWithMeals_4 sF1_9 sGC13_0 (by decide) rfl ?_
    refine sd_icmp_ge (tgt := 45) sD1_firstWithMeals_7 (by decide) (fun zc7 => (by exfalso; omega)) (fun zc7 => ?_)
    refine sd_iload_n sD1_firstWithMeals_10 rfl ?_
    refine sd_iload_n sD1_firstWithMeals_11 rfl ?_
    refine sd_callNp (as := [.inl s, .inl (zi2 : Int)]) (st := []) (v := .inl (sd_b (sd_bit s (zi2 : Int)))) sD1_firstWithMeals_12 sM1_96 rfl rfl (by decide) (Nat.le_of_ble_eq_true rfl) (cC_isIn s (zi2 : Int) m) (fun ho12 => ?_)
    refine sd_bif_eq (tgt := 39) sD1_firstWithMeals_15 (by decide) (fun zc15 => ?_) (fun zc15 => ?_)
    ·
      refine sd_iinc (y := ((zi2 : Int) + 1)) (ls' := [some (.inr 13), some (.inl s), some (.inl ((zi2 : Int) + 1))]) sD1_firstWithMeals_39 rfl (by omega) (by omega) (by decide) rfl ?_
      refine sd_goto (tgt := 2) sD1_firstWithMeals_42 (by decide) ?_
      exact sd_eqw (ls' := [some (.inr 13), some (.inl s), some (.inl ((zi2 + 1 : Nat) : Int))]) (ihzi2 (by exact sd_all_succ hhzi2 (fun hp => by have a1 := hp.1; have a2 := hp.2.1; have a3 := hp.2.2; first | omega | contradiction))) (by rw [show (((zi2 : Int) + 1) : Int) = ((zi2 + 1 : Nat) : Int) from by omega]) rfl
    ·
      refine sd_aload_n sD1_firstWithMeals_18 rfl ?_
      refine sd_getfr sD1_firstWithMeals_19 sF1_18 sGC13_2 ?_
      refine sd_iload_n sD1_firstWithMeals_22 rfl ?_
      refine sd_ialdx (a := (10 + zi2)) (v := x (10 + zi2)) hx sD1_firstWithMeals_23 sAC0 (by omega) rfl ?_
      refine sd_iconst sD1_firstWithMeals_24 (by decide) ?_
      refine sd_icmp_ne (tgt := 39) sD1_firstWithMeals_25 (by decide) (fun zc25 => ?_) (fun zc25 => ?_)
      ·
        refine sd_iinc (y := ((zi2 : Int) + 1)) (ls' := [some (.inr 13), some (.inl s), some (.inl ((zi2 : Int) + 1))]) sD1_firstWithMeals_39 rfl (by omega) (by omega) (by decide) rfl ?_
        refine sd_goto (tgt := 2) sD1_firstWithMeals_42 (by decide) ?_
        exact sd_eqw (ls' := [some (.inr 13), some (.inl s), some (.inl ((zi2 + 1 : Nat) : Int))]) (ihzi2 (by exact sd_all_succ hhzi2 (fun hp => by have a1 := hp.1; have a2 := hp.2.1; have a3 := hp.2.2; first | omega | contradiction))) (by rw [show (((zi2 : Int) + 1) : Int) = ((zi2 + 1 : Nat) : Int) from by omega]) rfl
      ·
        refine sd_aload_n sD1_firstWithMeals_28 rfl ?_
        refine sd_getfr sD1_firstWithMeals_29 sF1_37 sGC13_8 ?_
        refine sd_iload_n sD1_firstWithMeals_32 rfl ?_
        refine sd_ialdx (a := (154 + zi2)) (v := x (154 + zi2)) hx sD1_firstWithMeals_33 sAC6 (by omega) rfl ?_
        refine sd_if_le (tgt := 39) sD1_firstWithMeals_34 (by decide) (fun zc34 => ?_) (fun zc34 => ?_)
        ·
          refine sd_iinc (y := ((zi2 : Int) + 1)) (ls' := [some (.inr 13), some (.inl s), some (.inl ((zi2 : Int) + 1))]) sD1_firstWithMeals_39 rfl (by omega) (by omega) (by decide) rfl ?_
          refine sd_goto (tgt := 2) sD1_firstWithMeals_42 (by decide) ?_
          exact sd_eqw (ls' := [some (.inr 13), some (.inl s), some (.inl ((zi2 + 1 : Nat) : Int))]) (ihzi2 (by exact sd_all_succ hhzi2 (fun hp => by have a1 := hp.1; have a2 := hp.2.1; have a3 := hp.2.2; first | omega | contradiction))) (by rw [show (((zi2 : Int) + 1) : Int) = ((zi2 + 1 : Nat) : Int) from by omega]) rfl
        ·
          refine sd_iload_n sD1_firstWithMeals_37 rfl ?_
          refine sd_iretp sD1_firstWithMeals_38 rfl ?_
          first | exact (sd_fst_at (P := sd_Pm x s) hhzi2 ⟨by assumption, by omega, by omega⟩ (by omega)).symm | exact (sd_fst_none (P := sd_Pm x s) hhzi2).symm
  ·
    show sd_Wp sd_SC 1 sY1_firstWithMeals 2 [some (.inr 13), some (.inl s), some (.inl ((((x 2).toNat) : Nat) : Int))] [] m _
    refine sd_iload_n sD1_firstWithMeals_2 rfl ?_
    refine sd_aload_n sD1_firstWithMeals_3 rfl ?_
    refine sd_getfx (v := x 2) hx sD1_firstWithMeals_4 sF1_9 sGC13_0 (by decide) rfl ?_
    refine sd_icmp_ge (tgt := 45) sD1_firstWithMeals_7 (by decide) (fun zc7 => ?_) (fun zc7 => (by exfalso; omega))
    refine sd_iconst sD1_firstWithMeals_45 (by decide) ?_
    refine sd_iretp sD1_firstWithMeals_46 rfl ?_
    first | exact (sd_fst_at (P := sd_Pm x s) hhzi2 ⟨by assumption, by omega, by omega⟩ (by omega)).symm | exact (sd_fst_none (P := sd_Pm x s) hhzi2).symm
