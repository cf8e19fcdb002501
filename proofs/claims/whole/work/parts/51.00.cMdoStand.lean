set_option maxRecDepth 100000 in
set_option maxHeartbeats 4000000 in
theorem cM_doStand (W : Int) (k : Nat → Int) (x m : sd_M) (hx : sd_ns x m) (h1 : sd_I1 x) (hsl : ∀ w, w < (x 4).toNat → sd_SL x k m w 48) : sd_Cp sd_SM 0 sY11_doStand [.inr 15, .inl W] m (.inl (sd_b (sd_all x k W))) := by
  refine sd_ct rfl (Nat.le_of_ble_eq_true rfl) (fun hok hm => ?_)
  obtain ⟨⟨i0, j0⟩, ⟨i1, j1⟩, ⟨i2, j2⟩, ⟨i3, j3⟩, ⟨i4, j4⟩, ⟨i5, j5⟩, ⟨i6, j6⟩, ⟨i7, j7⟩, ⟨i8, j8⟩⟩ := id h1
  show sd_Wp sd_SM 0 sY11_doStand 0 [some (.inr 15), some (.inl W), none, none] [] m _
  refine sd_iconst sD11_doStand_0 (by decide) ?_
  refine sd_istore_n (ls' := [some (.inr 15), some (.inl W), some (.inl 1), none]) sD11_doStand_1 (by decide) rfl ?_
  refine sd_iconst sD11_doStand_2 (by decide) ?_
  refine sd_istore_n (ls' := [some (.inr 15), some (.inl W), some (.inl 1), some (.inl 0)]) sD11_doStand_3 (by decide) rfl ?_
  refine sd_forE ((x 4).toNat) (fun zi4 : Nat => [some (.inr 15), some (.inl W), some (.inl (sd_b (∀ w, w < zi4 → (sd_and (sd_shr W w) 1 = 0 ∨ ¬ sd_fh x k w = -1)))), some (.inl (zi4 : Int))]) (by rw [sd_b1 (fun w hw => absurd hw (by omega))]; rfl) (fun zi4 hizi4 ihzi4 => ?_) ?_
  ·
    have e5 := sd_fh_rng x k zi4
    refine sd_iload_n sD11_doStand_4 rfl ?_
    refine sd_aload_n sD11_doStand_5 rfl ?_
    refine sd_getfr sD11_doStand_6 sF11_7 sGM15_0 ?_
    refine sd_iconst sD11_doStand_9 (by decide) ?_
    refine sd_ialdx (a := 4) (v := x 4) hx sD11_doStand_10 sAM0 (by omega) rfl ?_
    refine sd_icmp_ge (tgt := 45) sD11_doStand_11 (by decide) (fun zc11 => (by exfalso; omega)) (fun zc11 => ?_)
    refine sd_iload_n sD11_doStand_14 rfl ?_
    refine sd_iload_n sD11_doStand_15 rfl ?_
    refine sd_iload_n sD11_doStand_16 rfl ?_
    refine sd_ishr sD11_doStand_17 ?_
    refine sd_iconst sD11_doStand_18 (by decide) ?_
    refine sd_iand sD11_doStand_19 ?_
    refine sd_cut (J := 37) (ls := [some (.inr 15), some (.inl W), some (.inl (sd_b (∀ w, w < zi4 → (sd_and (sd_shr W w) 1 = 0 ∨ ¬ sd_fh x k w = -1)))), some (.inl (zi4 : Int))]) (st := [.inl (sd_b (∀ w, w < zi4 → (sd_and (sd_shr W w) 1 = 0 ∨ ¬ sd_fh x k w = -1)))]) (fun zv => zv = (sd_b ((sd_and (sd_shr W (zi4 : Int)) 1 = 0) ∨ ((¬ sd_and (sd_shr W (zi4 : Int)) 1 = 0) ∧ (0 ≤ sd_fh x k zi4))))) (fun zv hzv => ?_) (fun K20 => ?_)
    ·
      subst hzv
      refine sd_iand sD11_doStand_37 ?_
      rw [sd_and_b]
      refine sd_istore_n (ls' := [some (.inr 15), some (.inl W), some (.inl (sd_b ((∀ w, w < zi4 → (sd_and (sd_shr W w) 1 = 0 ∨ ¬ sd_fh x k w = -1)) ∧ ((sd_and (sd_shr W (zi4 : Int)) 1 = 0) ∨ ((¬ sd_and (sd_shr W (zi4 : Int)) 1 = 0) ∧ (0 ≤ sd_fh x k zi4)))))), some (.inl (zi4 : Int))]) sD11_doStand_38 (by decide) rfl ?_
      refine sd_iinc (y := ((zi4 : Int) + 1)) (ls' := [some (.inr 15), some (.inl W), some (.inl (sd_b ((∀ w, w < zi4 → (sd_and (sd_shr W w) 1 = 0 ∨ ¬ sd_fh x k w = -1)) ∧ ((sd_and (sd_shr W (zi4 : Int)) 1 = 0) ∨ ((¬ sd_and (sd_shr W (zi4 : Int)) 1 = 0) ∧ (0 ≤ sd_fh x k zi4)))))), some (.inl ((zi4 : Int) + 1))]) sD11_doStand_39 rfl (by omega) (by omega) (by decide) rfl ?_
      refine sd_goto (tgt := 4) sD11_doStand_42 (by decide) ?_
      exact sd_eqw (ls' := [some (.inr 15), some (.inl W), some (.inl (sd_b (∀ w, w < zi4 + 1 → (sd_and (sd_shr W w) 1 = 0 ∨ ¬ sd_fh x k w = -1)))), some (.inl ((zi4 + 1 : Nat) : Int))]) ihzi4 (sd_cg rfl (sd_cg rfl (sd_cg (sd_ce (show (sd_b ((∀ w, w < zi4 → (sd_and (sd_shr W w) 1 = 0 ∨ ¬ sd_fh x k w = -1)) ∧ ((sd_and (sd_shr W (zi4 : Int)) 1 = 0) ∨ ((¬ sd_and (sd_shr W (zi4 : Int)) 1 = 0) ∧ (0 ≤ sd_fh x k zi4)))) : Int) = sd_b (∀ w, w < zi4 + 1 → (sd_and (sd_shr W w) 1 = 0 ∨ ¬ sd_fh x k w = -1)) from by exact sd_bc (sd_ball_succ (by omega)))) (sd_cg (sd_ce (show (((zi4 : Int) + 1) : Int) = ((zi4 + 1 : Nat) : Int) from by omega)) rfl)))) rfl
    ·
      refine sd_if_eq (tgt := 32) sD11_doStand_20 (by decide) (fun zc20 => ?_) (fun zc20 => ?_)
      ·
        refine sd_iconst sD11_doStand_32 (by decide) ?_
        refine sd_goto (tgt := 37) sD11_doStand_33 (by decide) ?_
        exact K20 _ (by exact (sd_b1 (by omega)).symm)
      ·
        refine sd_aload_n sD11_doStand_23 rfl ?_
        refine sd_getfr sD11_doStand_24 sF11_25 sGM15_7 ?_
        refine sd_iload_n sD11_doStand_27 rfl ?_
        refine sd_iald (a := (5410 + zi4)) sD11_doStand_28 sAM5 (by omega) ?_
        rw [show m (5410 + zi4) = sd_fh x k zi4 from (hsl zi4 (by omega)).1]
        refine sd_if_lt (tgt := 36) sD11_doStand_29 (by decide) (fun zc29 => ?_) (fun zc29 => ?_)
        ·
          refine sd_iconst sD11_doStand_36 (by decide) ?_
          exact K20 _ (by exact (sd_b0 (by omega)).symm)
        ·
          refine sd_iconst sD11_doStand_32 (by decide) ?_
          refine sd_goto (tgt := 37) sD11_doStand_33 (by decide) ?_
          exact K20 _ (by exact (sd_b1 (by omega)).symm)
  ·
    show sd_Wp sd_SM 0 sY11_doStand 4 [some (.inr 15), some (.inl W), some (.inl (sd_b (∀ w, w < ((x 4).toNat) → (sd_and (sd_shr W w) 1 = 0 ∨ ¬ sd_fh x k w = -1)))), some (.inl ((((x 4).toNat) : Nat) : Int))] [] m _
    refine sd_iload_n sD11_doStand_4 rfl ?_
    refine sd_aload_n sD11_doStand_5 rfl ?_
    refine sd_getfr sD11_doStand_6 sF11_7 sGM15_0 ?_
    refine sd_iconst sD11_doStand_9 (by decide) ?_
    refine sd_ialdx (a := 4) (v := x 4) hx sD11_doStand_10 sAM0 (by omega) rfl ?_
    refine sd_icmp_ge (tgt := 45) sD11_doStand_11 (by decide) (fun zc11 => ?_) (fun zc11 => (by exfalso; omega))
    refine sd_iload_n sD11_doStand_45 rfl ?_
    refine sd_zretp sD11_doStand_46 rfl (sd_b01 _) ?_
    first | rfl | exact sd_bc Iff.rfl
