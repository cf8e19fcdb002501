set_option maxRecDepth 100000 in
set_option maxHeartbeats 4000000 in
theorem pM_unlike (x m : sd_M) (hx : sd_ns x m) (h1 : sd_I1 x) (hF : ∀ k : Nat, k < 7 → 0 ≤ x (4101 + k) ∧ x (4101 + k) ≤ 1000000) : sd_Ct sd_SM 2 sY11_unlike [.inr 15] m (sd_Qp (sp_unlike x)) := by
  refine sd_ct rfl (Nat.le_of_ble_eq_true rfl) (fun hok hm => ?_)
  obtain ⟨⟨i0, j0⟩, ⟨i1, j1⟩, ⟨i2, j2⟩, ⟨i3, j3⟩, ⟨i4, j4⟩, ⟨i5, j5⟩, ⟨i6, j6⟩, ⟨i7, j7⟩, ⟨i8, j8⟩⟩ := id h1
  show sd_Wp sd_SM 2 sY11_unlike 0 [some (.inr 15), none, none] [] m _
  refine sd_iconst sD11_unlike_0 (by decide) ?_
  refine sd_istore_n (ls' := [some (.inr 15), some (.inl 0), none]) sD11_unlike_1 (by decide) rfl ?_
  refine sd_iconst sD11_unlike_2 (by decide) ?_
  refine sd_istore_n (ls' := [some (.inr 15), some (.inl 0), some (.inl 0)]) sD11_unlike_3 (by decide) rfl ?_
  refine sd_forE ((x 2).toNat) (fun zi4 : Nat => [some (.inr 15), some (.inl (sd_set (sd_Pu x) zi4)), some (.inl (zi4 : Int))]) (by rfl) (fun zi4 hizi4 ihzi4 => ?_) ?_
  ·
    refine sd_iload_n sD11_unlike_4 rfl ?_
    refine sd_aload_n sD11_unlike_5 rfl ?_
    refine sd_getfr sD11_unlike_6 sF11_7 sGM15_0 ?_
    refine sd_iconst sD11_unlike_9 (by decide) ?_
    refine sd_ialdx (a := 2) (v := x 2) hx sD11_unlike_10 sAM0 (by omega) rfl ?_
    refine sd_icmp_ge (tgt := 48) sD11_unlike_11 (by decide) (fun zc11 => (by exfalso; omega)) (fun zc11 => ?_)
    refine sd_iload_n sD11_unlike_14 rfl ?_
    refine sd_aload_n sD11_unlike_15 rfl ?_
    refine sd_iload_n sD11_unlike_16 rfl ?_
    refine sd_callVp (as := [.inl (zi4 : Int)]) (st := [.inl (sd_set (sd_Pu x) zi4)]) (v := .inl (x (10 + zi4))) sD11_unlike_17 sM11_64 sOM15 rfl rfl rfl (by decide) (Nat.le_of_ble_eq_true rfl) (cM_kindOf (zi4 : Int) _ m hx  (by omega)) (fun ho17 => ?_)
    refine sd_bipush sD11_unlike_20 rfl (by decide) ?_
    refine sd_icmp_ne (tgt := 39) sD11_unlike_22 (by decide) (fun zc22 => ?_) (fun zc22 => ?_)
    ·
      refine sd_iconst sD11_unlike_39 (by decide) ?_
      refine sd_ior sD11_unlike_40 ?_
      refine sd_istore_n (ls' := [some (.inr 15), some (.inl (sd_or (sd_set (sd_Pu x) zi4) 0)), some (.inl (zi4 : Int))]) sD11_unlike_41 (by decide) rfl ?_
      refine sd_iinc (y := ((zi4 : Int) + 1)) (ls' := [some (.inr 15), some (.inl (sd_or (sd_set (sd_Pu x) zi4) 0)), some (.inl ((zi4 : Int) + 1))]) sD11_unlike_42 rfl (by omega) (by omega) (by decide) rfl ?_
      refine sd_goto (tgt := 4) sD11_unlike_45 (by decide) ?_
      exact sd_eqw (ls' := [some (.inr 15), some (.inl (sd_set (sd_Pu x) (zi4 + 1))), some (.inl ((zi4 + 1 : Nat) : Int))]) ihzi4 (by rw [show (sd_or (sd_set (sd_Pu x) zi4) 0 : Int) = sd_set (sd_Pu x) (zi4 + 1) from by (simp only [sd_set]; first | (rw [if_pos (by omega)]; done) | (rw [if_neg (by omega)]; exact sd_or_0 (sd_setR _ _))), show (((zi4 : Int) + 1) : Int) = ((zi4 + 1 : Nat) : Int) from by omega]) rfl
    ·
      refine sd_aload_n sD11_unlike_25 rfl ?_
      refine sd_iload_n sD11_unlike_26 rfl ?_
      refine sd_callVp (as := [.inl (zi4 : Int)]) (st := [.inl (sd_set (sd_Pu x) zi4)]) (v := .inl (sd_b ((¬ x (274 + zi4) = x (34 + zi4)) ∨ ¬ x (298 + zi4) = x (58 + zi4)))) sD11_unlike_27 sM11_205 sOM15 rfl rfl rfl (by decide) (Nat.le_of_ble_eq_true rfl) (cM_isUnlike (zi4 : Int) _ m hx  (by omega)) (fun ho27 => ?_)
      refine sd_bif_eq (tgt := 39) sD11_unlike_30 (by decide) (fun zc30 => ?_) (fun zc30 => ?_)
      ·
        refine sd_iconst sD11_unlike_39 (by decide) ?_
        refine sd_ior sD11_unlike_40 ?_
        refine sd_istore_n (ls' := [some (.inr 15), some (.inl (sd_or (sd_set (sd_Pu x) zi4) 0)), some (.inl (zi4 : Int))]) sD11_unlike_41 (by decide) rfl ?_
        refine sd_iinc (y := ((zi4 : Int) + 1)) (ls' := [some (.inr 15), some (.inl (sd_or (sd_set (sd_Pu x) zi4) 0)), some (.inl ((zi4 : Int) + 1))]) sD11_unlike_42 rfl (by omega) (by omega) (by decide) rfl ?_
        refine sd_goto (tgt := 4) sD11_unlike_45 (by decide) ?_
        exact sd_eqw (ls' := [some (.inr 15), some (.inl (sd_set (sd_Pu x) (zi4 + 1))), some (.inl ((zi4 + 1 : Nat) : Int))]) ihzi4 (by rw [show (sd_or (sd_set (sd_Pu x) zi4) 0 : Int) = sd_set (sd_Pu x) (zi4 + 1) from by (simp only [sd_set]; first | (rw [if_pos (by omega)]; done) | (rw [if_neg (by omega)]; exact sd_or_0 (sd_setR _ _))), show (((zi4 : Int) + 1) : Int) = ((zi4 + 1 : Nat) : Int) from by omega]) rfl
      ·
        refine sd_iconst sD11_unlike_33 (by decide) ?_
        refine sd_iload_n sD11_unlike_34 rfl ?_
        refine sd_ishl sD11_unlike_35 ?_
        refine sd_goto (tgt := 40) sD11_unlike_36 (by decide) ?_
        refine sd_ior sD11_unlike_40 ?_
        refine sd_istore_n (ls' := [some (.inr 15), some (.inl (sd_or (sd_set (sd_Pu x) zi4) (sd_shl 1 (zi4 : Int)))), some (.inl (zi4 : Int))]) sD11_unlike_41 (by decide) rfl ?_
        refine sd_iinc (y := ((zi4 : Int) + 1)) (ls' := [some (.inr 15), some (.inl (sd_or (sd_set (sd_Pu x) zi4) (sd_shl 1 (zi4 : Int)))), some (.inl ((zi4 : Int) + 1))]) sD11_unlike_42 rfl (by omega) (by omega) (by decide) rfl ?_
        refine sd_goto (tgt := 4) sD11_unlike_45 (by decide) ?_
        exact sd_eqw (ls' := [some (.inr 15), some (.inl (sd_set (sd_Pu x) (zi4 + 1))), some (.inl ((zi4 + 1 : Nat) : Int))]) ihzi4 (by rw [show (sd_or (sd_set (sd_Pu x) zi4) (sd_shl 1 (zi4 : Int)) : Int) = sd_set (sd_Pu x) (zi4 + 1) from by (simp only [sd_set]; first | (rw [if_pos (by omega)]; done) | (rw [if_neg (by omega)]; exact sd_or_0 (sd_setR _ _))), show (((zi4 : Int) + 1) : Int) = ((zi4 + 1 : Nat) : Int) from by omega]) rfl
  ·
    show sd_Wp sd_SM 2 sY11_unlike 4 [some (.inr 15), some (.inl (sd_set (sd_Pu x) ((x 2).toNat))), some (.inl ((((x 2).toNat) : Nat) : Int))] [] m _
    refine sd_iload_n sD11_unlike_4 rfl ?_
    refine sd_aload_n sD11_unlike_5 rfl ?_
    refine sd_getfr sD11_unlike_6 sF11_7 sGM15_0 ?_
    refine sd_iconst sD11_unlike_9 (by decide) ?_
    refine sd_ialdx (a := 2) (v := x 2) hx sD11_unlike_10 sAM0 (by omega) rfl ?_
    refine sd_icmp_ge (tgt := 48) sD11_unlike_11 (by decide) (fun zc11 => ?_) (fun zc11 => (by exfalso; omega))
    refine sd_iload_n sD11_unlike_48 rfl ?_
    refine sd_ireturn sD11_unlike_49 rfl (fun hr hm => ?_)
    exact sd_done (by unfold sp_unlike; ((repeat (first | rw [if_pos (by first | assumption | omega)] | rw [if_neg (by first | assumption | omega)])); try rfl)) hx
