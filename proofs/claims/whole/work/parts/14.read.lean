set_option maxRecDepth 100000 in
set_option maxHeartbeats 4000000 in
theorem cC_isA (h k : Int) (x m : sd_M) (hx : sd_ns x m) (h1 : sd_I1 x) (h2 : sd_I2 x) : sd_Cp sd_SC 1 sY1_isA [.inr 13, .inl h, .inl k] m (.inl (sd_b (sd_isA x h k))) := by
  refine sd_ct rfl (Nat.le_of_ble_eq_true rfl) (fun hok hm => ?_)
  obtain ⟨⟨i0, j0⟩, ⟨i1, j1⟩, ⟨i2, j2⟩, ⟨i3, j3⟩, ⟨i4, j4⟩, ⟨i5, j5⟩, ⟨i6, j6⟩, ⟨i7, j7⟩, ⟨i8, j8⟩⟩ := id h1
  show sd_Wp sd_SC 1 sY1_isA 0 [some (.inr 13), some (.inl h), some (.inl k), none, none] [] m _
  refine sd_iload_n sD1_isA_0 rfl ?_
  refine sd_iconst sD1_isA_1 (by decide) ?_
  refine sd_aload_n sD1_isA_2 rfl ?_
  refine sd_getfx (v := x 2) hx sD1_isA_3 sF1_9 sGC13_0 (by decide) rfl ?_
  refine sd_iconst sD1_isA_6 (by decide) ?_
  refine sd_isub (z := (x 2 - 1)) sD1_isA_7 (by omega) (by omega) ?_
  refine sd_callNp (as := [.inl h, .inl 0, .inl (x 2 - 1)]) (st := []) (v := .inl (sd_b (0 ≤ h ∧ h ≤ (x 2 - 1)))) sD1_isA_8 sM1_62 rfl rfl (by decide) (Nat.le_of_ble_eq_true rfl) (cC_isWithin h 0 (x 2 - 1) m) (fun ho8 => ?_)
  refine sd_bif_eq (tgt := 23) sD1_isA_11 (by decide) (fun zc11 => ?_) (fun zc11 => ?_)
  ·
    refine sd_iconst sD1_isA_23 (by decide) ?_
    refine sd_istore_n (ls' := [some (.inr 13), some (.inl h), some (.inl k), some (.inl (-1)), none]) sD1_isA_24 (by decide) rfl ?_
    refine sd_iconst sD1_isA_25 (by decide) ?_
    refine sd_istore (ls' := [some (.inr 13), some (.inl h), some (.inl k), some (.inl (-1)), some (.inl 0)]) sD1_isA_26 (by decide) rfl ?_
    refine sd_iload sD1_isA_28 rfl ?_
    refine sd_bipush sD1_isA_30 rfl (by decide) ?_
    refine sd_icmp_ge (tgt := 59) sD1_isA_32 (by decide) (fun zc32 => (by exfalso; omega)) (fun zc32 => ?_)
    refine sd_iload_n sD1_isA_35 rfl ?_
    refine sd_iconst sD1_isA_36 (by decide) ?_
    refine sd_icmp_eq (tgt := 59) sD1_isA_37 (by decide) (fun zc37 => ?_) (fun zc37 => (by exfalso; omega))
    refine sd_iconst sD1_isA_59 (by decide) ?_
    refine sd_zretp sD1_isA_60 rfl (by decide) ?_
    first | exact (sd_b1 (by omega)).symm | exact (sd_b0 (by omega)).symm
  ·
    have e2 := (h2 h.toNat (by omega)).1
    refine sd_aload_n sD1_isA_14 rfl ?_
    refine sd_getfr sD1_isA_15 sF1_18 sGC13_2 ?_
    refine sd_iload_n sD1_isA_18 rfl ?_
    refine sd_ialdx (a := (10 + h.toNat)) (v := x (10 + h.toNat)) hx sD1_isA_19 sAC0 (by omega) rfl ?_
    refine sd_goto (tgt := 24) sD1_isA_20 (by decide) ?_
    rcases (show x (10 + h.toNat) = 0 ∨ x (10 + h.toNat) = 1 ∨ x (10 + h.toNat) = 2 ∨ x (10 + h.toNat) = 3 ∨ x (10 + h.toNat) = 4 ∨ x (10 + h.toNat) = 5 ∨ x (10 + h.toNat) = 6 by omega) with zs24 | zs24 | zs24 | zs24 | zs24 | zs24 | zs24
    ·
      refine sd_eqs (ls' := [some (.inr 13), some (.inl h), some (.inl k), none, none]) (st' := [.inl 0]) ?_ rfl (by rw [zs24])
      refine sd_istore_n (ls' := [some (.inr 13), some (.inl h), some (.inl k), some (.inl 0), none]) sD1_isA_24 (by decide) rfl ?_
      refine sd_iconst sD1_isA_25 (by decide) ?_
      refine sd_istore (ls' := [some (.inr 13), some (.inl h), some (.inl k), some (.inl 0), some (.inl 0)]) sD1_isA_26 (by decide) rfl ?_
      refine sd_iload sD1_isA_28 rfl ?_
      refine sd_bipush sD1_isA_30 rfl (by decide) ?_
      refine sd_icmp_ge (tgt := 59) sD1_isA_32 (by decide) (fun zc32 => (by exfalso; omega)) (fun zc32 => ?_)
      refine sd_iload_n sD1_isA_35 rfl ?_
      refine sd_iconst sD1_isA_36 (by decide) ?_
      refine sd_icmp_eq (tgt := 59) sD1_isA_37 (by decide) (fun zc37 => (by exfalso; omega)) (fun zc37 => ?_)
      refine sd_iload_n sD1_isA_40 rfl ?_
      refine sd_iload_n sD1_isA_41 rfl ?_
      refine sd_icmp_ne (tgt := 47) sD1_isA_42 (by decide) (fun zc42 => ?_) (fun zc42 => ?_)
      ·
        refine sd_gets901 sD1_isA_47 sF1_66 ?_
        refine sd_iload_n sD1_isA_50 rfl ?_
        refine sd_ro901 (v := (-1)) sD1_isA_51 (by decide) (by decide) ?_
        refine sd_istore_n (ls' := [some (.inr 13), some (.inl h), some (.inl k), some (.inl (-1)), some (.inl 0)]) sD1_isA_52 (by decide) rfl ?_
        refine sd_iinc (y := 1) (ls' := [some (.inr 13), some (.inl h), some (.inl k), some (.inl (-1)), some (.inl 1)]) sD1_isA_53 rfl (by omega) (by omega) (by decide) rfl ?_
        refine sd_goto (tgt := 28) sD1_isA_56 (by decide) ?_
        refine sd_iload sD1_isA_28 rfl ?_
        refine sd_bipush sD1_isA_30 rfl (by decide) ?_
        refine sd_icmp_ge (tgt := 59) sD1_isA_32 (by decide) (fun zc32 => (by exfalso; omega)) (fun zc32 => ?_)
        refine sd_iload_n sD1_isA_35 rfl ?_
        refine sd_iconst sD1_isA_36 (by decide) ?_
        refine sd_icmp_eq (tgt := 59) sD1_isA_37 (by decide) (fun zc37 => ?_) (fun zc37 => (by exfalso; omega))
        refine sd_iconst sD1_isA_59 (by decide) ?_
        refine sd_zretp sD1_isA_60 rfl (by decide) ?_
        first | exact (sd_b1 (by omega)).symm | exact (sd_b0 (by omega)).symm
      ·
        refine sd_iconst sD1_isA_45 (by decide) ?_
        refine sd_zretp sD1_isA_46 rfl (by decide) ?_
        first | exact (sd_b1 (by omega)).symm | exact (sd_b0 (by omega)).symm
    ·
      refine sd_eqs (ls' := [some (.inr 13), some (.inl h), some (.inl k), none, none]) (st' := [.inl 1]) ?_ rfl (by rw [zs24])
      refine sd_istore_n (ls' := [some (.inr 13), some (.inl h), some (.inl k), some (.inl 1), none]) sD1_isA_24 (by decide) rfl ?_
      refine sd_iconst sD1_isA_25 (by decide) ?_
      refine sd_istore (ls' := [some (.inr 13), some (.inl h), some (.inl k), some (.inl 1), some (.inl 0)]) sD1_isA_26 (by decide) rfl ?_
      refine sd_iload sD1_isA_28 rfl ?_
      refine sd_bipush sD1_isA_30 rfl (by decide) ?_
      refine sd_icmp_ge (tgt := 59) sD1_isA_32 (by decide) (fun zc32 => (by exfalso; omega)) (fun zc32 => ?_)
      refine sd_iload_n sD1_isA_35 rfl ?_
      refine sd_iconst sD1_isA_36 (by decide) ?_
      refine sd_icmp_eq (tgt := 59) sD1_isA_37 (by decide) (fun zc37 => (by exfalso; omega)) (fun zc37 => ?_)
      refine sd_iload_n sD1_isA_40 rfl ?_
      refine sd_iload_n sD1_isA_41 rfl ?_
      refine sd_icmp_ne (tgt := 47) sD1_isA_42 (by decide) (fun zc42 => ?_) (fun zc42 => ?_)
      ·
        refine sd_gets901 sD1_isA_47 sF1_66 ?_
        refine sd_iload_n sD1_isA_50 rfl ?_
        refine sd_ro901 (v := 0) sD1_isA_51 (by decide) (by decide) ?_
        refine sd_istore_n (ls' := [some (.inr 13), some (.inl h), some (.inl k), some (.inl 0), some (.inl 0)]) sD1_isA_52 (by decide) rfl ?_
        refine sd_iinc (y := 1) (ls' := [some (.inr 13), some (.inl h), some (.inl k), some (.inl 0), some (.inl 1)]) sD1_isA_53 rfl (by omega) (by omega) (by decide) rfl ?_
        refine sd_goto (tgt := 28) sD1_isA_56 (by decide) ?_
        refine sd_iload sD1_isA_28 rfl ?_
        refine sd_bipush sD1_isA_30 rfl (by decide) ?_
        refine sd_icmp_ge (tgt := 59) sD1_isA_32 (by decide) (fun zc32 => (by exfalso; omega)) (fun zc32 => ?_)
        refine sd_iload_n sD1_isA_35 rfl ?_
        refine sd_iconst sD1_isA_36 (by decide) ?_
        refine sd_icmp_eq (tgt := 59) sD1_isA_37 (by decide) (fun zc37 => (by exfalso; omega)) (fun zc37 => ?_)
        refine sd_iload_n sD1_isA_40 rfl ?_
        refine sd_iload_n sD1_isA_41 rfl ?_
        refine sd_icmp_ne (tgt := 47) sD1_isA_42 (by decide) (fun zc42 => ?_) (fun zc42 => ?_)
        ·
          refine sd_gets901 sD1_isA_47 sF1_66 ?_
          refine sd_iload_n sD1_isA_50 rfl ?_
          refine sd_ro901 (v := (-1)) sD1_isA_51 (by decide) (by decide) ?_
          refine sd_istore_n (ls' := [some (.inr 13), some (.inl h), some (.inl k), some (.inl (-1)), some (.inl 1)]) sD1_isA_52 (by decide) rfl ?_
          refine sd_iinc (y := 2) (ls' := [some (.inr 13), some (.inl h), some (.inl k), some (.inl (-1)), some (.inl 2)]) sD1_isA_53 rfl (by omega) (by omega) (by decide) rfl ?_
          refine sd_goto (tgt := 28) sD1_isA_56 (by decide) ?_
          refine sd_iload sD1_isA_28 rfl ?_
          refine sd_bipush sD1_isA_30 rfl (by decide) ?_
          refine sd_icmp_ge (tgt := 59) sD1_isA_32 (by decide) (fun zc32 => (by exfalso; omega)) (fun zc32 => ?_)
          refine sd_iload_n sD1_isA_35 rfl ?_
          refine sd_iconst sD1_isA_36 (by decide) ?_
          refine sd_icmp_eq (tgt := 59) sD1_isA_37 (by decide) (fun zc37 => ?_) (fun zc37 => (by exfalso; omega))
          refine sd_iconst sD1_isA_59 (by decide) ?_
          refine sd_zretp sD1_isA_60 rfl (by decide) ?_
          first | exact (sd_b1 (by omega)).symm | exact (sd_b0 (by omega)).symm
        ·
          refine sd_iconst sD1_isA_45 (by decide) ?_
          refine sd_zretp sD1_isA_46 rfl (by decide) ?_
          first | exact (sd_b1 (by omega)).symm | exact (sd_b0 (by omega)).symm
      ·
        refine sd_iconst sD1_isA_45 (by decide) ?_
        refine sd_zretp sD1_isA_46 rfl (by decide) ?_
        first | exact (sd_b1 (by omega)).symm | exact (sd_b0 (by omega)).symm
    ·
      refine sd_eqs (ls' := [some (.inr 13), some (.inl h), some (.inl k), none, none]) (st' := [.inl 2]) ?_ rfl (by rw [zs24])
      refine sd_istore_n (ls' := [some (.inr 13), some (.inl h), some (.inl k), some (.inl 2), none]) sD1_isA_24 (by decide) rfl ?_
      refine sd_iconst sD1_isA_25 (by decide) ?_
      refine sd_istore (ls' := [some (.inr 13), some (.inl h), some (.inl k), some (.inl 2), some (.inl 0)]) sD1_isA_26 (by decide) rfl ?_
      refine sd_iload sD1_isA_28 rfl ?_
      refine sd_bipush sD1_isA_30 rfl (by decide) ?_
      refine sd_icmp_ge (tgt := 59) sD1_isA_32 (by decide) (fun zc32 => (by exfalso; omega)) (fun zc32 => ?_)
      refine sd_iload_n sD1_isA_35 rfl ?_
      refine sd_iconst sD1_isA_36 (by decide) ?_
      refine sd_icmp_eq (tgt := 59) sD1_isA_37 (by decide) (fun zc37 => (by exfalso; omega)) (fun zc37 => ?_)
      refine sd_iload_n sD1_isA_40 rfl ?_
      refine sd_iload_n sD1_isA_41 rfl ?_
      refine sd_icmp_ne (tgt := 47) sD1_isA_42 (by decide) (fun zc42 => ?_) (fun zc42 => ?_)
      ·
        refine sd_gets901 sD1_isA_47 sF1_66 ?_
        refine sd_iload_n sD1_isA_50 rfl ?_
        refine sd_ro901 (v := 1) sD1_isA_51 (by decide) (by decide) ?_
        refine sd_istore_n (ls' := [some (.inr 13), some (.inl h), some (.inl k), some (.inl 1), some (.inl 0)]) sD1_isA_52 (by decide) rfl ?_
        refine sd_iinc (y := 1) (ls' := [some (.inr 13), some (.inl h), some (.inl k), some (.inl 1), some (.inl 1)]) sD1_isA_53 rfl (by omega) (by omega) (by decide) rfl ?_
        refine sd_goto (tgt := 28) sD1_isA_56 (by decide) ?_
        refine sd_iload sD1_isA_28 rfl ?_
        refine sd_bipush sD1_isA_30 rfl (by decide) ?_
        refine sd_icmp_ge (tgt := 59) sD1_isA_32 (by decide) (fun zc32 => (by exfalso; omega)) (fun zc32 => ?_)
        refine sd_iload_n sD1_isA_35 rfl ?_
        refine sd_iconst sD1_isA_36 (by decide) ?_
        refine sd_icmp_eq (tgt := 59) sD1_isA_37 (by decide) (fun zc37 => (by exfalso; omega)) (fun zc37 => ?_)
        refine sd_iload_n sD1_isA_40 rfl ?_
        refine sd_iload_n sD1_isA_41 rfl ?_
        refine sd_icmp_ne (tgt := 47) sD1_isA_42 (by decide) (fun zc42 => ?_) (fun zc42 => ?_)
        ·
          refine sd_gets901 sD1_isA_47 sF1_66 ?_
          refine sd_iload_n sD1_isA_50 rfl ?_
          refine sd_ro901 (v := 0) sD1_isA_51 (by decide) (by decide) ?_
          refine sd_istore_n (ls' := [some (.inr 13), some (.inl h), some (.inl k), some (.inl 0), some (.inl 1)]) sD1_isA_52 (by decide) rfl ?_
          refine sd_iinc (y := 2) (ls' := [some (.inr 13), some (.inl h), some (.inl k), some (.inl 0), some (.inl 2)]) sD1_isA_53 rfl (by omega) (by omega) (by decide) rfl ?_
          refine sd_goto (tgt := 28) sD1_isA_56 (by decide) ?_
          refine sd_iload sD1_isA_28 rfl ?_
          refine sd_bipush sD1_isA_30 rfl (by decide) ?_
          refine sd_icmp_ge (tgt := 59) sD1_isA_32 (by decide) (fun zc32 => (by exfalso; omega)) (fun zc32 => ?_)
          refine sd_iload_n sD1_isA_35 rfl ?_
          refine sd_iconst sD1_isA_36 (by decide) ?_
          refine sd_icmp_eq (tgt := 59) sD1_isA_37 (by decide) (fun zc37 => (by exfalso; omega)) (fun zc37 => ?_)
          refine sd_iload_n sD1_isA_40 rfl ?_
          refine sd_iload_n sD1_isA_41 rfl ?_
          refine sd_icmp_ne (tgt := 47) sD1_isA_42 (by decide) (fun zc42 => ?_) (fun zc42 => ?_)
          ·
            refine sd_gets901 sD1_isA_47 sF1_66 ?_
            refine sd_iload_n sD1_isA_50 rfl ?_
            refine sd_ro901 (v := (-1)) sD1_isA_51 (by decide) (by decide) ?_
            refine sd_istore_n (ls' := [some (.inr 13), some (.inl h), some (.inl k), some (.inl (-1)), some (.inl 2)]) sD1_isA_52 (by decide) rfl ?_
            refine sd_iinc (y := 3) (ls' := [some (.inr 13), some (.inl h), some (.inl k), some (.inl (-1)), some (.inl 3)]) sD1_isA_53 rfl (by omega) (by omega) (by decide) rfl ?_
            refine sd_goto (tgt := 28) sD1_isA_56 (by decide) ?_
            refine sd_iload sD1_isA_28 rfl ?_
            refine sd_bipush sD1_isA_30 rfl (by decide) ?_
            refine sd_icmp_ge (tgt := 59) sD1_isA_32 (by decide) (fun zc32 => (by exfalso; omega)) (fun zc32 => ?_)
            refine sd_iload_n sD1_isA_35 rfl ?_
            refine sd_iconst sD1_isA_36 (by decide) ?_
            refine sd_icmp_eq (tgt := 59) sD1_isA_37 (by decide) (fun zc37 => ?_) (fun zc37 => (by exfalso; omega))
            refine sd_iconst sD1_isA_59 (by decide) ?_
            refine sd_zretp sD1_isA_60 rfl (by decide) ?_
            first | exact (sd_b1 (by omega)).symm | exact (sd_b0 (by omega)).symm
          ·
            refine sd_iconst sD1_isA_45 (by decide) ?_
            refine sd_zretp sD1_isA_46 rfl (by decide) ?_
            first | exact (sd_b1 (by omega)).symm | exact (sd_b0 (by omega)).symm
        ·
          refine sd_iconst sD1_isA_45 (by decide) ?_
          refine sd_zretp sD1_isA_46 rfl (by decide) ?_
          first | exact (sd_b1 (by omega)).symm | exact (sd_b0 (by omega)).symm
      ·
        refine sd_iconst sD1_isA_45 (by decide) ?_
        refine sd_zretp sD1_isA_46 rfl (by decide) ?_
        first | exact (sd_b1 (by omega)).symm | exact (sd_b0 (by omega)).symm
    ·
      refine sd_eqs (ls' := [some (.inr 13), some (.inl h), some (.inl k), none, none]) (st' := [.inl 3]) ?_ rfl (by rw [zs24])
      refine sd_istore_n (ls' := [some (.inr 13), some (.inl h), some (.inl k), some (.inl 3), none]) sD1_isA_24 (by decide) rfl ?_
      refine sd_iconst sD1_isA_25 (by decide) ?_
      refine sd_istore (ls' := [some (.inr 13), some (.inl h), some (.inl k), some (.inl 3), some (.inl 0)]) sD1_isA_26 (by decide) rfl ?_
      refine sd_iload sD1_isA_28 rfl ?_
      refine sd_bipush sD1_isA_30 rfl (by decide) ?_
      refine sd_icmp_ge (tgt := 59) sD1_isA_32 (by decide) (fun zc32 => (by exfalso; omega)) (fun zc32 => ?_)
      refine sd_iload_n sD1_isA_35 rfl ?_
      refine sd_iconst sD1_isA_36 (by decide) ?_
      refine sd_icmp_eq (tgt := 59) sD1_isA_37 (by decide) (fun zc37 => (by exfalso; omega)) (fun zc37 => ?_)
      refine sd_iload_n sD1_isA_40 rfl ?_
      refine sd_iload_n sD1_isA_41 rfl ?_
      refine sd_icmp_ne (tgt := 47) sD1_isA_42 (by decide) (fun zc42 => ?_) (fun zc42 => ?_)
      ·
        refine sd_gets901 sD1_isA_47 sF1_66 ?_
        refine sd_iload_n sD1_isA_50 rfl ?_
        refine sd_ro901 (v := 0) sD1_isA_51 (by decide) (by decide) ?_
        refine sd_istore_n (ls' := [some (.inr 13), some (.inl h), some (.inl k), some (.inl 0), some (.inl 0)]) sD1_isA_52 (by decide) rfl ?_
        refine sd_iinc (y := 1) (ls' := [some (.inr 13), some (.inl h), some (.inl k), some (.inl 0), some (.inl 1)]) sD1_isA_53 rfl (by omega) (by omega) (by decide) rfl ?_
        refine sd_goto (tgt := 28) sD1_isA_56 (by decide) ?_
        refine sd_iload sD1_isA_28 rfl ?_
        refine sd_bipush sD1_isA_30 rfl (by decide) ?_
        refine sd_icmp_ge (tgt := 59) sD1_isA_32 (by decide) (fun zc32 => (by exfalso; omega)) (fun zc32 => ?_)
        refine sd_iload_n sD1_isA_35 rfl ?_
        refine sd_iconst sD1_isA_36 (by decide) ?_
        refine sd_icmp_eq (tgt := 59) sD1_isA_37 (by decide) (fun zc37 => (by exfalso; omega)) (fun zc37 => ?_)
        refine sd_iload_n sD1_isA_40 rfl ?_
        refine sd_iload_n sD1_isA_41 rfl ?_
        refine sd_icmp_ne (tgt := 47) sD1_isA_42 (by decide) (fun zc42 => ?_) (fun zc42 => ?_)
        ·
          refine sd_gets901 sD1_isA_47 sF1_66 ?_
          refine sd_iload_n sD1_isA_50 rfl ?_
          refine sd_ro901 (v := (-1)) sD1_isA_51 (by decide) (by decide) ?_
          refine sd_istore_n (ls' := [some (.inr 13), some (.inl h), some (.inl k), some (.inl (-1)), some (.inl 1)]) sD1_isA_52 (by decide) rfl ?_
          refine sd_iinc (y := 2) (ls' := [some (.inr 13), some (.inl h), some (.inl k), some (.inl (-1)), some (.inl 2)]) sD1_isA_53 rfl (by omega) (by omega) (by decide) rfl ?_
          refine sd_goto (tgt := 28) sD1_isA_56 (by decide) ?_
          refine sd_iload sD1_isA_28 rfl ?_
          refine sd_bipush sD1_isA_30 rfl (by decide) ?_
          refine sd_icmp_ge (tgt := 59) sD1_isA_32 (by decide) (fun zc32 => (by exfalso; omega)) (fun zc32 => ?_)
          refine sd_iload_n sD1_isA_35 rfl ?_
          refine sd_iconst sD1_isA_36 (by decide) ?_
          refine sd_icmp_eq (tgt := 59) sD1_isA_37 (by decide) (fun zc37 => ?_) (fun zc37 => (by exfalso; omega))
          refine sd_iconst sD1_isA_59 (by decide) ?_
          refine sd_zretp sD1_isA_60 rfl (by decide) ?_
          first | exact (sd_b1 (by omega)).symm | exact (sd_b0 (by omega)).symm
        ·
          refine sd_iconst sD1_isA_45 (by decide) ?_
          refine sd_zretp sD1_isA_46 rfl (by decide) ?_
          first | exact (sd_b1 (by omega)).symm | exact (sd_b0 (by omega)).symm
      ·
        refine sd_iconst sD1_isA_45 (by decide) ?_
        refine sd_zretp sD1_isA_46 rfl (by decide) ?_
        first | exact (sd_b1 (by omega)).symm | exact (sd_b0 (by omega)).symm
    ·
      refine sd_eqs (ls' := [some (.inr 13), some (.inl h), some (.inl k), none, none]) (st' := [.inl 4]) ?_ rfl (by rw [zs24])
      refine sd_istore_n (ls' := [some (.inr 13), some (.inl h), some (.inl k), some (.inl 4), none]) sD1_isA_24 (by decide) rfl ?_
      refine sd_iconst sD1_isA_25 (by decide) ?_
      refine sd_istore (ls' := [some (.inr 13), some (.inl h), some (.inl k), some (.inl 4), some (.inl 0)]) sD1_isA_26 (by decide) rfl ?_
      refine sd_iload sD1_isA_28 rfl ?_
      refine sd_bipush sD1_isA_30 rfl (by decide) ?_
      refine sd_icmp_ge (tgt := 59) sD1_isA_32 (by decide) (fun zc32 => (by exfalso; omega)) (fun zc32 => ?_)
      refine sd_iload_n sD1_isA_35 rfl ?_
      refine sd_iconst sD1_isA_36 (by decide) ?_
      refine sd_icmp_eq (tgt := 59) sD1_isA_37 (by decide) (fun zc37 => (by exfalso; omega)) (fun zc37 => ?_)
      refine sd_iload_n sD1_isA_40 rfl ?_
      refine sd_iload_n sD1_isA_41 rfl ?_
      refine sd_icmp_ne (tgt := 47) sD1_isA_42 (by decide) (fun zc42 => ?_) (fun zc42 => ?_)
      ·
        refine sd_gets901 sD1_isA_47 sF1_66 ?_
        refine sd_iload_n sD1_isA_50 rfl ?_
        refine sd_ro901 (v := 0) sD1_isA_51 (by decide) (by decide) ?_
        refine sd_istore_n (ls' := [some (.inr 13), some (.inl h), some (.inl k), some (.inl 0), some (.inl 0)]) sD1_isA_52 (by decide) rfl ?_
        refine sd_iinc (y := 1) (ls' := [some (.inr 13), some (.inl h), some (.inl k), some (.inl 0), some (.inl 1)]) sD1_isA_53 rfl (by omega) (by omega) (by decide) rfl ?_
        refine sd_goto (tgt := 28) sD1_isA_56 (by decide) ?_
        refine sd_iload sD1_isA_28 rfl ?_
        refine sd_bipush sD1_isA_30 rfl (by decide) ?_
        refine sd_icmp_ge (tgt := 59) sD1_isA_32 (by decide) (fun zc32 => (by exfalso; omega)) (fun zc32 => ?_)
        refine sd_iload_n sD1_isA_35 rfl ?_
        refine sd_iconst sD1_isA_36 (by decide) ?_
        refine sd_icmp_eq (tgt := 59) sD1_isA_37 (by decide) (fun zc37 => (by exfalso; omega)) (fun zc37 => ?_)
        refine sd_iload_n sD1_isA_40 rfl ?_
        refine sd_iload_n sD1_isA_41 rfl ?_
        refine sd_icmp_ne (tgt := 47) sD1_isA_42 (by decide) (fun zc42 => ?_) (fun zc42 => ?_)
        ·
          refine sd_gets901 sD1_isA_47 sF1_66 ?_
          refine sd_iload_n sD1_isA_50 rfl ?_
          refine sd_ro901 (v := (-1)) sD1_isA_51 (by decide) (by decide) ?_
          refine sd_istore_n (ls' := [some (.inr 13), some (.inl h), some (.inl k), some (.inl (-1)), some (.inl 1)]) sD1_isA_52 (by decide) rfl ?_
          refine sd_iinc (y := 2) (ls' := [some (.inr 13), some (.inl h), some (.inl k), some (.inl (-1)), some (.inl 2)]) sD1_isA_53 rfl (by omega) (by omega) (by decide) rfl ?_
          refine sd_goto (tgt := 28) sD1_isA_56 (by decide) ?_
          refine sd_iload sD1_isA_28 rfl ?_
          refine sd_bipush sD1_isA_30 rfl (by decide) ?_
          refine sd_icmp_ge (tgt := 59) sD1_isA_32 (by decide) (fun zc32 => (by exfalso; omega)) (fun zc32 => ?_)
          refine sd_iload_n sD1_isA_35 rfl ?_
          refine sd_iconst sD1_isA_36 (by decide) ?_
          refine sd_icmp_eq (tgt := 59) sD1_isA_37 (by decide) (fun zc37 => ?_) (fun zc37 => (by exfalso; omega))
          refine sd_iconst sD1_isA_59 (by decide) ?_
          refine sd_zretp sD1_isA_60 rfl (by decide) ?_
          first | exact (sd_b1 (by omega)).symm | exact (sd_b0 (by omega)).symm
        ·
          refine sd_iconst sD1_isA_45 (by decide) ?_
          refine sd_zretp sD1_isA_46 rfl (by decide) ?_
          first | exact (sd_b1 (by omega)).symm | exact (sd_b0 (by omega)).symm
      ·
        refine sd_iconst sD1_isA_45 (by decide) ?_
        refine sd_zretp sD1_isA_46 rfl (by decide) ?_
        first | exact (sd_b1 (by omega)).symm | exact (sd_b0 (by omega)).symm
    ·
      refine sd_eqs (ls' := [some (.inr 13), some (.inl h), some (.inl k), none, none]) (st' := [.inl 5]) ?_ rfl (by rw [zs24])
      refine sd_istore_n (ls' := [some (.inr 13), some (.inl h), some (.inl k), some (.inl 5), none]) sD1_isA_24 (by decide) rfl ?_
      refine sd_iconst sD1_isA_25 (by decide) ?_
      refine sd_istore (ls' := [some (.inr 13), some (.inl h), some (.inl k), some (.inl 5), some (.inl 0)]) sD1_isA_26 (by decide) rfl ?_
      refine sd_iload sD1_isA_28 rfl ?_
      refine sd_bipush sD1_isA_30 rfl (by decide) ?_
      refine sd_icmp_ge (tgt := 59) sD1_isA_32 (by decide) (fun zc32 => (by exfalso; omega)) (fun zc32 => ?_)
      refine sd_iload_n sD1_isA_35 rfl ?_
      refine sd_iconst sD1_isA_36 (by decide) ?_
      refine sd_icmp_eq (tgt := 59) sD1_isA_37 (by decide) (fun zc37 => (by exfalso; omega)) (fun zc37 => ?_)
      refine sd_iload_n sD1_isA_40 rfl ?_
      refine sd_iload_n sD1_isA_41 rfl ?_
      refine sd_icmp_ne (tgt := 47) sD1_isA_42 (by decide) (fun zc42 => ?_) (fun zc42 => ?_)
      ·
        refine sd_gets901 sD1_isA_47 sF1_66 ?_
        refine sd_iload_n sD1_isA_50 rfl ?_
        refine sd_ro901 (v := 4) sD1_isA_51 (by decide) (by decide) ?_
        refine sd_istore_n (ls' := [some (.inr 13), some (.inl h), some (.inl k), some (.inl 4), some (.inl 0)]) sD1_isA_52 (by decide) rfl ?_
        refine sd_iinc (y := 1) (ls' := [some (.inr 13), some (.inl h), some (.inl k), some (.inl 4), some (.inl 1)]) sD1_isA_53 rfl (by omega) (by omega) (by decide) rfl ?_
        refine sd_goto (tgt := 28) sD1_isA_56 (by decide) ?_
        refine sd_iload sD1_isA_28 rfl ?_
        refine sd_bipush sD1_isA_30 rfl (by decide) ?_
        refine sd_icmp_ge (tgt := 59) sD1_isA_32 (by decide) (fun zc32 => (by exfalso; omega)) (fun zc32 => ?_)
        refine sd_iload_n sD1_isA_35 rfl ?_
        refine sd_iconst sD1_isA_36 (by decide) ?_
        refine sd_icmp_eq (tgt := 59) sD1_isA_37 (by decide) (fun zc37 => (by exfalso; omega)) (fun zc37 => ?_)
        refine sd_iload_n sD1_isA_40 rfl ?_
        refine sd_iload_n sD1_isA_41 rfl ?_
        refine sd_icmp_ne (tgt := 47) sD1_isA_42 (by decide) (fun zc42 => ?_) (fun zc42 => ?_)
        ·
          refine sd_gets901 sD1_isA_47 sF1_66 ?_
          refine sd_iload_n sD1_isA_50 rfl ?_
          refine sd_ro901 (v := 0) sD1_isA_51 (by decide) (by decide) ?_
          refine sd_istore_n (ls' := [some (.inr 13), some (.inl h), some (.inl k), some (.inl 0), some (.inl 1)]) sD1_isA_52 (by decide) rfl ?_
          refine sd_iinc (y := 2) (ls' := [some (.inr 13), some (.inl h), some (.inl k), some (.inl 0), some (.inl 2)]) sD1_isA_53 rfl (by omega) (by omega) (by decide) rfl ?_
          refine sd_goto (tgt := 28) sD1_isA_56 (by decide) ?_
          refine sd_iload sD1_isA_28 rfl ?_
          refine sd_bipush sD1_isA_30 rfl (by decide) ?_
          refine sd_icmp_ge (tgt := 59) sD1_isA_32 (by decide) (fun zc32 => (by exfalso; omega)) (fun zc32 => ?_)
          refine sd_iload_n sD1_isA_35 rfl ?_
          refine sd_iconst sD1_isA_36 (by decide) ?_
          refine sd_icmp_eq (tgt := 59) sD1_isA_37 (by decide) (fun zc37 => (by exfalso; omega)) (fun zc37 => ?_)
          refine sd_iload_n sD1_isA_40 rfl ?_
          refine sd_iload_n sD1_isA_41 rfl ?_
          refine sd_icmp_ne (tgt := 47) sD1_isA_42 (by decide) (fun zc42 => ?_) (fun zc42 => ?_)
          ·
            refine sd_gets901 sD1_isA_47 sF1_66 ?_
            refine sd_iload_n sD1_isA_50 rfl ?_
            refine sd_ro901 (v := (-1)) sD1_isA_51 (by decide) (by decide) ?_
            refine sd_istore_n (ls' := [some (.inr 13), some (.inl h), some (.inl k), some (.inl (-1)), some (.inl 2)]) sD1_isA_52 (by decide) rfl ?_
            refine sd_iinc (y := 3) (ls' := [some (.inr 13), some (.inl h), some (.inl k), some (.inl (-1)), some (.inl 3)]) sD1_isA_53 rfl (by omega) (by omega) (by decide) rfl ?_
            refine sd_goto (tgt := 28) sD1_isA_56 (by decide) ?_
            refine sd_iload sD1_isA_28 rfl ?_
            refine sd_bipush sD1_isA_30 rfl (by decide) ?_
            refine sd_icmp_ge (tgt := 59) sD1_isA_32 (by decide) (fun zc32 => (by exfalso; omega)) (fun zc32 => ?_)
            refine sd_iload_n sD1_isA_35 rfl ?_
            refine sd_iconst sD1_isA_36 (by decide) ?_
            refine sd_icmp_eq (tgt := 59) sD1_isA_37 (by decide) (fun zc37 => ?_) (fun zc37 => (by exfalso; omega))
            refine sd_iconst sD1_isA_59 (by decide) ?_
            refine sd_zretp sD1_isA_60 rfl (by decide) ?_
            first | exact (sd_b1 (by omega)).symm | exact (sd_b0 (by omega)).symm
          ·
            refine sd_iconst sD1_isA_45 (by decide) ?_
            refine sd_zretp sD1_isA_46 rfl (by decide) ?_
            first | exact (sd_b1 (by omega)).symm | exact (sd_b0 (by omega)).symm
        ·
          refine sd_iconst sD1_isA_45 (by decide) ?_
          refine sd_zretp sD1_isA_46 rfl (by decide) ?_
          first | exact (sd_b1 (by omega)).symm | exact (sd_b0 (by omega)).symm
      ·
        refine sd_iconst sD1_isA_45 (by decide) ?_
        refine sd_zretp sD1_isA_46 rfl (by decide) ?_
        first | exact (sd_b1 (by omega)).symm | exact (sd_b0 (by omega)).symm
    ·
      refine sd_eqs (ls' := [some (.inr 13), some (.inl h), some (.inl k), none, none]) (st' := [.inl 6]) ?_ rfl (by rw [zs24])
      refine sd_istore_n (ls' := [some (.inr 13), some (.inl h), some (.inl k), some (.inl 6), none]) sD1_isA_24 (by decide) rfl ?_
      refine sd_iconst sD1_isA_25 (by decide) ?_
      refine sd_istore (ls' := [some (.inr 13), some (.inl h), some (.inl k), some (.inl 6), some (.inl 0)]) sD1_isA_26 (by decide) rfl ?_
      refine sd_iload sD1_isA_28 rfl ?_
      refine sd_bipush sD1_isA_30 rfl (by decide) ?_
      refine sd_icmp_ge (tgt := 59) sD1_isA_32 (by decide) (fun zc32 => (by exfalso; omega)) (fun zc32 => ?_)
      refine sd_iload_n sD1_isA_35 rfl ?_
      refine sd_iconst sD1_isA_36 (by decide) ?_
      refine sd_icmp_eq (tgt := 59) sD1_isA_37 (by decide) (fun zc37 => (by exfalso; omega)) (fun zc37 => ?_)
      refine sd_iload_n sD1_isA_40 rfl ?_
      refine sd_iload_n sD1_isA_41 rfl ?_
      refine sd_icmp_ne (tgt := 47) sD1_isA_42 (by decide) (fun zc42 => ?_) (fun zc42 => ?_)
      ·
        refine sd_gets901 sD1_isA_47 sF1_66 ?_
        refine sd_iload_n sD1_isA_50 rfl ?_
        refine sd_ro901 (v := 0) sD1_isA_51 (by decide) (by decide) ?_
        refine sd_istore_n (ls' := [some (.inr 13), some (.inl h), some (.inl k), some (.inl 0), some (.inl 0)]) sD1_isA_52 (by decide) rfl ?_
        refine sd_iinc (y := 1) (ls' := [some (.inr 13), some (.inl h), some (.inl k), some (.inl 0), some (.inl 1)]) sD1_isA_53 rfl (by omega) (by omega) (by decide) rfl ?_
        refine sd_goto (tgt := 28) sD1_isA_56 (by decide) ?_
        refine sd_iload sD1_isA_28 rfl ?_
        refine sd_bipush sD1_isA_30 rfl (by decide) ?_
        refine sd_icmp_ge (tgt := 59) sD1_isA_32 (by decide) (fun zc32 => (by exfalso; omega)) (fun zc32 => ?_)
        refine sd_iload_n sD1_isA_35 rfl ?_
        refine sd_iconst sD1_isA_36 (by decide) ?_
        refine sd_icmp_eq (tgt := 59) sD1_isA_37 (by decide) (fun zc37 => (by exfalso; omega)) (fun zc37 => ?_)
        refine sd_iload_n sD1_isA_40 rfl ?_
        refine sd_iload_n sD1_isA_41 rfl ?_
        refine sd_icmp_ne (tgt := 47) sD1_isA_42 (by decide) (fun zc42 => ?_) (fun zc42 => ?_)
        ·
          refine sd_gets901 sD1_isA_47 sF1_66 ?_
          refine sd_iload_n sD1_isA_50 rfl ?_
          refine sd_ro901 (v := (-1)) sD1_isA_51 (by decide) (by decide) ?_
          refine sd_istore_n (ls' := [some (.inr 13), some (.inl h), some (.inl k), some (.inl (-1)), some (.inl 1)]) sD1_isA_52 (by decide) rfl ?_
          refine sd_iinc (y := 2) (ls' := [some (.inr 13), some (.inl h), some (.inl k), some (.inl (-1)), some (.inl 2)]) sD1_isA_53 rfl (by omega) (by omega) (by decide) rfl ?_
          refine sd_goto (tgt := 28) sD1_isA_56 (by decide) ?_
          refine sd_iload sD1_isA_28 rfl ?_
          refine sd_bipush sD1_isA_30 rfl (by decide) ?_
          refine sd_icmp_ge (tgt := 59) sD1_isA_32 (by decide) (fun zc32 => (by exfalso; omega)) (fun zc32 => ?_)
          refine sd_iload_n sD1_isA_35 rfl ?_
          refine sd_iconst sD1_isA_36 (by decide) ?_
          refine sd_icmp_eq (tgt := 59) sD1_isA_37 (by decide) (fun zc37 => ?_) (fun zc37 => (by exfalso; omega))
          refine sd_iconst sD1_isA_59 (by decide) ?_
          refine sd_zretp sD1_isA_60 rfl (by decide) ?_
          first | exact (sd_b1 (by omega)).symm | exact (sd_b0 (by omega)).symm
        ·
          refine sd_iconst sD1_isA_45 (by decide) ?_
          refine sd_zretp sD1_isA_46 rfl (by decide) ?_
          first | exact (sd_b1 (by omega)).symm | exact (sd_b0 (by omega)).symm
      ·
        refine sd_iconst sD1_isA_45 (by decide) ?_
        refine sd_zretp sD1_isA_46 rfl (by decide) ?_
        first | exact (sd_b1 (by omega)).symm | exact (sd_b0 (by omega)).symm

def sd_fo (x : sd_M) (h k : Int) : Int := if sd_isH x h then (if sd_isA x h k then 0 else -1000003) else -1000001

set_option maxRecDepth 100000 in
set_option maxHeartbeats 4000000 in
theorem cC_findingOf (h k : Int) (x m : sd_M) (hx : sd_ns x m) (h1 : sd_I1 x) (h2 : sd_I2 x) : sd_Cp sd_SC 2 sY1_findingOf [.inr 13, .inl h, .inl k] m (.inl (sd_fo x h k)) := by
  refine sd_ct rfl (Nat.le_of_ble_eq_true rfl) (fun hok hm => ?_)
  obtain ⟨⟨i0, j0⟩, ⟨i1, j1⟩, ⟨i2, j2⟩, ⟨i3, j3⟩, ⟨i4, j4⟩, ⟨i5, j5⟩, ⟨i6, j6⟩, ⟨i7, j7⟩, ⟨i8, j8⟩⟩ := id h1
  show sd_Wp sd_SC 2 sY1_findingOf 0 [some (.inr 13), some (.inl h), some (.inl k)] [] m _
  refine sd_iload_n sD1_findingOf_0 rfl ?_
  refine sd_iconst sD1_findingOf_1 (by decide) ?_
  refine sd_aload_n sD1_findingOf_2 rfl ?_
  refine sd_getfx (v := x 2) hx sD1_findingOf_3 sF1_9 sGC13_0 (by decide) rfl ?_
  refine sd_iconst sD1_findingOf_6 (by decide) ?_
  refine sd_isub (z := (x 2 - 1)) sD1_findingOf_7 (by omega) (by omega) ?_
  refine sd_callNp (as := [.inl h, .inl 0, .inl (x 2 - 1)]) (st := []) (v := .inl (sd_b (0 ≤ h ∧ h ≤ (x 2 - 1)))) sD1_findingOf_8 sM1_62 rfl rfl (by decide) (Nat.le_of_ble_eq_true rfl) (cC_isWithin h 0 (x 2 - 1) m) (fun ho8 => ?_)
  refine sd_bif_ne (tgt := 17) sD1_findingOf_11 (by decide) (fun zc11 => ?_) (fun zc11 => ?_)
  ·
    refine sd_aload_n sD1_findingOf_17 rfl ?_
    refine sd_iload_n sD1_findingOf_18 rfl ?_
    refine sd_iload_n sD1_findingOf_19 rfl ?_
    refine sd_callVp (as := [.inl h, .inl k]) (st := []) (v := .inl (sd_b (sd_isA x h k))) sD1_findingOf_20 sM1_70 sOC13 rfl rfl rfl (by decide) (Nat.le_of_ble_eq_true rfl) (cC_isA h k _ m hx h1 h2) (fun ho20 => ?_)
    refine sd_bif_eq (tgt := 30) sD1_findingOf_23 (by decide) (fun zc23 => ?_) (fun zc23 => ?_)
    ·
      refine sd_ldc (z := -1000003) sD1_findingOf_30 sK1_74 (by decide) ?_
      refine sd_iretp sD1_findingOf_32 rfl ?_
      (unfold sd_fo; repeat (first | rw [if_pos (by omega)] | rw [if_neg (by omega)]))
    ·
      refine sd_iconst sD1_findingOf_26 (by decide) ?_
      refine sd_goto (tgt := 32) sD1_findingOf_27 (by decide) ?_
      refine sd_iretp sD1_findingOf_32 rfl ?_
      (unfold sd_fo; repeat (first | rw [if_pos (by omega)] | rw [if_neg (by omega)]))
  ·
    refine sd_ldc (z := -1000001) sD1_findingOf_14 sK1_69 (by decide) ?_
    refine sd_iretp sD1_findingOf_16 rfl ?_
    (unfold sd_fo; repeat (first | rw [if_pos (by omega)] | rw [if_neg (by omega)]))

abbrev sd_Pin (x : sd_M) (s : Int) (i : Nat) : Prop := (¬ x (322 + i) = -1) ∧ sd_bit s (x (322 + i))
def sd_inS (x : sd_M) (s : Int) : Int := sd_cnt (sd_Pin x s) (x 3).toNat
abbrev sd_Psh (x : sd_M) (k : Int) (i : Nat) : Prop := x (322 + i) = k
def sd_mIn (x : sd_M) (k : Int) : Int := sd_cnt (sd_Psh x k) (x 3).toNat
abbrev sd_Pg (x : sd_M) (set : Int) (i : Nat) : Prop := x (10 + i) = 3 ∧ x (202 + i) = 1 ∧ (¬ x (58 + i) = 99) ∧ (sd_bit set (x (34 + i)) ∨ sd_bit set (x (58 + i)))
def sd_ends (x : sd_M) (i : Nat) : Int := sd_or (sd_shl 1 (x (34 + i))) (sd_shl 1 (x (58 + i)))
def sd_stp (x : sd_M) (set : Int) : Nat → Int
  | 0 => set
  | i + 1 => if sd_Pg x set i then sd_or (sd_stp x set i) (sd_ends x i) else sd_stp x set i
def sd_rch (x : sd_M) (set : Int) : Nat → Int
  | 0 => set
  | k + 1 => sd_stp x (sd_rch x set k) (x 2).toNat
theorem sd_stpR {x : sd_M} {set : Int} (h : sd_R set) (n : Nat) : sd_R (sd_stp x set n) := by
  induction n with
  | zero => exact h
  | succ n ih =>
    simp only [sd_stp]
    split
    · exact sd_R_or _ _
    · exact ih
theorem sd_rchR {x : sd_M} {set : Int} (h : sd_R set) (k : Nat) : sd_R (sd_rch x set k) := by
  induction k with
  | zero => exact h
  | succ k ih => exact sd_stpR ih _

set_option maxRecDepth 100000 in
set_option maxHeartbeats 4000000 in
theorem cC_inShops (s : Int) (x m : sd_M) (hx : sd_ns x m) (h1 : sd_I1 x) (h4 : sd_I4 x) : sd_Cp sd_SC 1 sY3_inShops [.inr 18, .inl s] m (.inl (sd_inS x s)) := by
  refine sd_ct rfl (Nat.le_of_ble_eq_true rfl) (fun hok hm => ?_)
  obtain ⟨⟨i0, j0⟩, ⟨i1, j1⟩, ⟨i2, j2⟩, ⟨i3, j3⟩, ⟨i4, j4⟩, ⟨i5, j5⟩, ⟨i6, j6⟩, ⟨i7, j7⟩, ⟨i8, j8⟩⟩ := id h1
  show sd_Wp sd_SC 1 sY3_inShops 0 [some (.inr 18), some (.inl s), none, none] [] m _
  refine sd_iconst sD3_inShops_0 (by decide) ?_
  refine sd_istore_n (ls' := [some (.inr 18), some (.inl s), some (.inl 0), none]) sD3_inShops_1 (by decide) rfl ?_
  refine sd_iconst sD3_inShops_2 (by decide) ?_
  refine sd_istore_n (ls' := [some (.inr 18), some (.inl s), some (.inl 0), some (.inl 0)]) sD3_inShops_3 (by decide) rfl ?_
  refine sd_forE ((x 3).toNat) (fun zi4 : Nat => [some (.inr 18), some (.inl s), some (.inl (sd_cnt (sd_Pin x s) zi4)), some (.inl (zi4 : Int))]) (by rfl) (fun zi4 hizi4 ihzi4 => ?_) ?_
  ·
    have e4 := h4 zi4 (by omega)
    have e5 := sd_cnt_le (sd_Pin x s) zi4
    refine sd_iload_n sD3_inShops_4 rfl ?_
    refine sd_aload_n sD3_inShops_5 rfl ?_
    refine sd_getfx (v := x 3) hx sD3_inShops_6 sF3_9 sGC18_0 (by decide) rfl ?_
    refine sd_icmp_ge (tgt := 52) sD3_inShops_9 (by decide) (fun zc9 => (by exfalso; omega)) (fun zc9 => ?_)
    refine sd_iload_n sD3_inShops_12 rfl ?_
    refine sd_aload_n sD3_inShops_13 rfl ?_
    refine sd_getfr sD3_inShops_14 sF3_15 sGC18_1 ?_
    refine sd_iload_n sD3_inShops_17 rfl ?_
    refine sd_ialdx (a := (322 + zi4)) (v := x (322 + zi4)) hx sD3_inShops_18 sAC14 (by omega) rfl ?_
    refine sd_iconst sD3_inShops_19 (by decide) ?_
    refine sd_cut (J := 41) (ls := [some (.inr 18), some (.inl s), some (.inl (sd_cnt (sd_Pin x s) zi4)), some (.inl (zi4 : Int))]) (st := [.inl (sd_cnt (sd_Pin x s) zi4)]) (fun zv => zv = (sd_b ((¬ x (322 + zi4) = (-1)) ∧ (sd_bit s (x (322 + zi4)))))) (fun zv hzv => ?_) (fun K20 => ?_)
    ·
      subst hzv
      refine sd_callNp (as := [.inl (sd_b ((¬ x (322 + zi4) = (-1)) ∧ (sd_bit s (x (322 + zi4)))))]) (st := [.inl (sd_cnt (sd_Pin x s) zi4)]) (v := .inl (sd_b ((¬ x (322 + zi4) = (-1)) ∧ (sd_bit s (x (322 + zi4)))))) sD3_inShops_41 sM3_40 rfl rfl (by decide) (Nat.le_of_ble_eq_true rfl) (cC_asNumber ((¬ x (322 + zi4) = (-1)) ∧ (sd_bit s (x (322 + zi4)))) m) (fun ho41 => ?_)
      have zb44 := sd_b01 ((¬ x (322 + zi4) = (-1)) ∧ (sd_bit s (x (322 + zi4))))
      refine sd_iadd (z := (sd_cnt (sd_Pin x s) zi4 + sd_b ((¬ x (322 + zi4) = (-1)) ∧ (sd_bit s (x (322 + zi4)))))) sD3_inShops_44 (by omega) (by omega) ?_
      refine sd_istore_n (ls' := [some (.inr 18), some (.inl s), some (.inl (sd_cnt (sd_Pin x s) zi4 + sd_b ((¬ x (322 + zi4) = (-1)) ∧ (sd_bit s (x (322 + zi4)))))), some (.inl (zi4 : Int))]) sD3_inShops_45 (by decide) rfl ?_
      refine sd_iinc (y := ((zi4 : Int) + 1)) (ls' := [some (.inr 18), some (.inl s), some (.inl (sd_cnt (sd_Pin x s) zi4 + sd_b ((¬ x (322 + zi4) = (-1)) ∧ (sd_bit s (x (322 + zi4)))))), some (.inl ((zi4 : Int) + 1))]) sD3_inShops_46 rfl (by omega) (by omega) (by decide) rfl ?_
      refine sd_goto (tgt := 4) sD3_inShops_49 (by decide) ?_
      exact sd_eqw (ls' := [some (.inr 18), some (.inl s), some (.inl (sd_cnt (sd_Pin x s) (zi4 + 1))), some (.inl ((zi4 + 1 : Nat) : Int))]) ihzi4 (by rw [show ((sd_cnt (sd_Pin x s) zi4 + sd_b ((¬ x (322 + zi4) = (-1)) ∧ (sd_bit s (x (322 + zi4))))) : Int) = sd_cnt (sd_Pin x s) (zi4 + 1) from by (simp only [sd_cnt, sd_b]), show (((zi4 : Int) + 1) : Int) = ((zi4 + 1 : Nat) : Int) from by omega]) rfl
    ·
      refine sd_icmp_eq (tgt := 40) sD3_inShops_20 (by decide) (fun zc20 => ?_) (fun zc20 => ?_)
      ·
        refine sd_iconst sD3_inShops_40 (by decide) ?_
        exact K20 _ (by exact (sd_b0 (by omega)).symm)
      ·
        refine sd_iload_n sD3_inShops_23 rfl ?_
        refine sd_aload_n sD3_inShops_24 rfl ?_
        refine sd_getfr sD3_inShops_25 sF3_15 sGC18_1 ?_
        refine sd_iload_n sD3_inShops_28 rfl ?_
        refine sd_ialdx (a := (322 + zi4)) (v := x (322 + zi4)) hx sD3_inShops_29 sAC14 (by omega) rfl ?_
        refine sd_callNp (as := [.inl s, .inl (x (322 + zi4))]) (st := [.inl (sd_cnt (sd_Pin x s) zi4)]) (v := .inl (sd_b (sd_bit s (x (322 + zi4))))) sD3_inShops_30 sM3_36 rfl rfl (by decide) (Nat.le_of_ble_eq_true rfl) (cC_isIn s (x (322 + zi4)) m) (fun ho30 => ?_)
        refine sd_bif_eq (tgt := 40) sD3_inShops_33 (by decide) (fun zc33 => ?_) (fun zc33 => ?_)
        ·
          refine sd_iconst sD3_inShops_40 (by decide) ?_
          exact K20 _ (by exact (sd_b0 (by omega)).symm)
        ·
          refine sd_iconst sD3_inShops_36 (by decide) ?_
          refine sd_goto (tgt := 41) sD3_inShops_37 (by decide) ?_
          exact K20 _ (by exact (sd_b1 (by omega)).symm)
  ·
    show sd_Wp sd_SC 1 sY3_inShops 4 [some (.inr 18), some (.inl s), some (.inl (sd_cnt (sd_Pin x s) ((x 3).toNat))), some (.inl ((((x 3).toNat) : Nat) : Int))] [] m _
    refine sd_iload_n sD3_inShops_4 rfl ?_
    refine sd_aload_n sD3_inShops_5 rfl ?_
    refine sd_getfx (v := x 3) hx sD3_inShops_6 sF3_9 sGC18_0 (by decide) rfl ?_
    refine sd_icmp_ge (tgt := 52) sD3_inShops_9 (by decide) (fun zc9 => ?_) (fun zc9 => (by exfalso; omega))
    refine sd_iload_n sD3_inShops_52 rfl ?_
    refine sd_iretp sD3_inShops_53 rfl ?_
    rfl

set_option maxRecDepth 100000 in
set_option maxHeartbeats 4000000 in
theorem cM_menInAll (s : Int) (x m : sd_M) (hx : sd_ns x m) (h1 : sd_I1 x) (h4 : sd_I4 x) : sd_Cp sd_SM 0 sY11_menInAll [.inr 15, .inl s] m (.inl (sd_inS x s)) := by
  refine sd_ct rfl (Nat.le_of_ble_eq_true rfl) (fun hok hm => ?_)
  obtain ⟨⟨i0, j0⟩, ⟨i1, j1⟩, ⟨i2, j2⟩, ⟨i3, j3⟩, ⟨i4, j4⟩, ⟨i5, j5⟩, ⟨i6, j6⟩, ⟨i7, j7⟩, ⟨i8, j8⟩⟩ := id h1
  show sd_Wp sd_SM 0 sY11_menInAll 0 [some (.inr 15), some (.inl s), none, none] [] m _
  refine sd_iconst sD11_menInAll_0 (by decide) ?_
  refine sd_istore_n (ls' := [some (.inr 15), some (.inl s), some (.inl 0), none]) sD11_menInAll_1 (by decide) rfl ?_
  refine sd_iconst sD11_menInAll_2 (by decide) ?_
  refine sd_istore_n (ls' := [some (.inr 15), some (.inl s), some (.inl 0), some (.inl 0)]) sD11_menInAll_3 (by decide) rfl ?_
  refine sd_forE ((x 3).toNat) (fun zi4 : Nat => [some (.inr 15), some (.inl s), some (.inl (sd_cnt (sd_Pin x s) zi4)), some (.inl (zi4 : Int))]) (by rfl) (fun zi4 hizi4 ihzi4 => ?_) ?_
  ·
    have e4 := h4 zi4 (by omega)
    have e5 := sd_cnt_le (sd_Pin x s) zi4
    refine sd_iload_n sD11_menInAll_4 rfl ?_
    refine sd_aload_n sD11_menInAll_5 rfl ?_
    refine sd_getfr sD11_menInAll_6 sF11_7 sGM15_0 ?_
    refine sd_iconst sD11_menInAll_9 (by decide) ?_
    refine sd_ialdx (a := 3) (v := x 3) hx sD11_menInAll_10 sAM0 (by omega) rfl ?_
    refine sd_icmp_ge (tgt := 59) sD11_menInAll_11 (by decide) (fun zc11 => (by exfalso; omega)) (fun zc11 => ?_)
    refine sd_iload_n sD11_menInAll_14 rfl ?_
    refine sd_aload_n sD11_menInAll_15 rfl ?_
    refine sd_getfr sD11_menInAll_16 sF11_7 sGM15_0 ?_
    refine sd_sipush sD11_menInAll_19 rfl (by decide) ?_
    refine sd_iload_n sD11_menInAll_22 rfl ?_
    refine sd_iadd (z := (322 + (zi4 : Int))) sD11_menInAll_23 (by omega) (by omega) ?_
    refine sd_ialdx (a := (322 + zi4)) (v := x (322 + zi4)) hx sD11_menInAll_24 sAM0 (by omega) rfl ?_
    refine sd_cut (J := 51) (ls := [some (.inr 15), some (.inl s), some (.inl (sd_cnt (sd_Pin x s) zi4)), some (.inl (zi4 : Int))]) (st := [.inl (sd_cnt (sd_Pin x s) zi4)]) (fun zv => zv = (sd_b ((0 ≤ x (322 + zi4)) ∧ (sd_and (sd_shr s (x (322 + zi4))) 1 = 1)))) (fun zv hzv => ?_) (fun K25 => ?_)
    ·
      subst hzv
      have zb51 := sd_b01 ((0 ≤ x (322 + zi4)) ∧ (sd_and (sd_shr s (x (322 + zi4))) 1 = 1))
      refine sd_iadd (z := (sd_cnt (sd_Pin x s) zi4 + sd_b ((0 ≤ x (322 + zi4)) ∧ (sd_and (sd_shr s (x (322 + zi4))) 1 = 1)))) sD11_menInAll_51 (by omega) (by omega) ?_
      refine sd_istore_n (ls' := [some (.inr 15), some (.inl s), some (.inl (sd_cnt (sd_Pin x s) zi4 + sd_b ((0 ≤ x (322 + zi4)) ∧ (sd_and (sd_shr s (x (322 + zi4))) 1 = 1)))), some (.inl (zi4 : Int))]) sD11_menInAll_52 (by decide) rfl ?_
      refine sd_iinc (y := ((zi4 : Int) + 1)) (ls' := [some (.inr 15), some (.inl s), some (.inl (sd_cnt (sd_Pin x s) zi4 + sd_b ((0 ≤ x (322 + zi4)) ∧ (sd_and (sd_shr s (x (322 + zi4))) 1 = 1)))), some (.inl ((zi4 : Int) + 1))]) sD11_menInAll_53 rfl (by omega) (by omega) (by decide) rfl ?_
      refine sd_goto (tgt := 4) sD11_menInAll_56 (by decide) ?_
      exact sd_eqw (ls' := [some (.inr 15), some (.inl s), some (.inl (sd_cnt (sd_Pin x s) (zi4 + 1))), some (.inl ((zi4 + 1 : Nat) : Int))]) ihzi4 (by rw [show ((sd_cnt (sd_Pin x s) zi4 + sd_b ((0 ≤ x (322 + zi4)) ∧ (sd_and (sd_shr s (x (322 + zi4))) 1 = 1))) : Int) = sd_cnt (sd_Pin x s) (zi4 + 1) from by (simp only [sd_cnt, sd_b]; congr 1; apply sd_itec; omega), show (((zi4 : Int) + 1) : Int) = ((zi4 + 1 : Nat) : Int) from by omega]) rfl
    ·
      refine sd_if_lt (tgt := 50) sD11_menInAll_25 (by decide) (fun zc25 => ?_) (fun zc25 => ?_)
      ·
        refine sd_iconst sD11_menInAll_50 (by decide) ?_
        exact K25 _ (by exact (sd_b0 (by omega)).symm)
      ·
        refine sd_iload_n sD11_menInAll_28 rfl ?_
        refine sd_aload_n sD11_menInAll_29 rfl ?_
        refine sd_getfr sD11_menInAll_30 sF11_7 sGM15_0 ?_
        refine sd_sipush sD11_menInAll_33 rfl (by decide) ?_
        refine sd_iload_n sD11_menInAll_36 rfl ?_
        refine sd_iadd (z := (322 + (zi4 : Int))) sD11_menInAll_37 (by omega) (by omega) ?_
        refine sd_ialdx (a := (322 + zi4)) (v := x (322 + zi4)) hx sD11_menInAll_38 sAM0 (by omega) rfl ?_
        refine sd_ishr sD11_menInAll_39 ?_
        refine sd_iconst sD11_menInAll_40 (by decide) ?_
        refine sd_iand sD11_menInAll_41 ?_
        refine sd_iconst sD11_menInAll_42 (by decide) ?_
        refine sd_icmp_ne (tgt := 50) sD11_menInAll_43 (by decide) (fun zc43 => ?_) (fun zc43 => ?_)
        ·
          refine sd_iconst sD11_menInAll_50 (by decide) ?_
          exact K25 _ (by exact (sd_b0 (by omega)).symm)
        ·
          refine sd_iconst sD11_menInAll_46 (by decide) ?_
          refine sd_goto (tgt := 51) sD11_menInAll_47 (by decide) ?_
          exact K25 _ (by exact (sd_b1 (by omega)).symm)
  ·
    show sd_Wp sd_SM 0 sY11_menInAll 4 [some (.inr 15), some (.inl s), some (.inl (sd_cnt (sd_Pin x s) ((x 3).toNat))), some (.inl ((((x 3).toNat) : Nat) : Int))] [] m _
    refine sd_iload_n sD11_menInAll_4 rfl ?_
    refine sd_aload_n sD11_menInAll_5 rfl ?_
    refine sd_getfr sD11_menInAll_6 sF11_7 sGM15_0 ?_
    refine sd_iconst sD11_menInAll_9 (by decide) ?_
    refine sd_ialdx (a := 3) (v := x 3) hx sD11_menInAll_10 sAM0 (by omega) rfl ?_
    refine sd_icmp_ge (tgt := 59) sD11_menInAll_11 (by decide) (fun zc11 => ?_) (fun zc11 => (by exfalso; omega))
    refine sd_iload_n sD11_menInAll_59 rfl ?_
    refine sd_iretp sD11_menInAll_60 rfl ?_
    rfl

set_option maxRecDepth 100000 in
set_option maxHeartbeats 4000000 in
theorem cM_menIn (s : Int) (x m : sd_M) (hx : sd_ns x m) (h1 : sd_I1 x) (h4 : sd_I4 x) : sd_Cp sd_SM 0 sY11_menIn [.inr 15, .inl s] m (.inl (sd_mIn x s)) := by
  refine sd_ct rfl (Nat.le_of_ble_eq_true rfl) (fun hok hm => ?_)
  obtain ⟨⟨i0, j0⟩, ⟨i1, j1⟩, ⟨i2, j2⟩, ⟨i3, j3⟩, ⟨i4, j4⟩, ⟨i5, j5⟩, ⟨i6, j6⟩, ⟨i7, j7⟩, ⟨i8, j8⟩⟩ := id h1
  show sd_Wp sd_SM 0 sY11_menIn 0 [some (.inr 15), some (.inl s), none, none] [] m _
  refine sd_iconst sD11_menIn_0 (by decide) ?_
  refine sd_istore_n (ls' := [some (.inr 15), some (.inl s), some (.inl 0), none]) sD11_menIn_1 (by decide) rfl ?_
  refine sd_iconst sD11_menIn_2 (by decide) ?_
  refine sd_istore_n (ls' := [some (.inr 15), some (.inl s), some (.inl 0), some (.inl 0)]) sD11_menIn_3 (by decide) rfl ?_
  refine sd_forE ((x 3).toNat) (fun zi4 : Nat => [some (.inr 15), some (.inl s), some (.inl (sd_cnt (sd_Psh x s) zi4)), some (.inl (zi4 : Int))]) (by rfl) (fun zi4 hizi4 ihzi4 => ?_) ?_
  ·
    have e4 := h4 zi4 (by omega)
    have e5 := sd_cnt_le (sd_Psh x s) zi4
    refine sd_iload_n sD11_menIn_4 rfl ?_
    refine sd_aload_n sD11_menIn_5 rfl ?_
    refine sd_getfr sD11_menIn_6 sF11_7 sGM15_0 ?_
    refine sd_iconst sD11_menIn_9 (by decide) ?_
    refine sd_ialdx (a := 3) (v := x 3) hx sD11_menIn_10 sAM0 (by omega) rfl ?_
    refine sd_icmp_ge (tgt := 42) sD11_menIn_11 (by decide) (fun zc11 => (by exfalso; omega)) (fun zc11 => ?_)
    refine sd_iload_n sD11_menIn_14 rfl ?_
    refine sd_aload_n sD11_menIn_15 rfl ?_
    refine sd_getfr sD11_menIn_16 sF11_7 sGM15_0 ?_
    refine sd_sipush sD11_menIn_19 rfl (by decide) ?_
    refine sd_iload_n sD11_menIn_22 rfl ?_
    refine sd_iadd (z := (322 + (zi4 : Int))) sD11_menIn_23 (by omega) (by omega) ?_
    refine sd_ialdx (a := (322 + zi4)) (v := x (322 + zi4)) hx sD11_menIn_24 sAM0 (by omega) rfl ?_
    refine sd_iload_n sD11_menIn_25 rfl ?_
    refine sd_cut (J := 34) (ls := [some (.inr 15), some (.inl s), some (.inl (sd_cnt (sd_Psh x s) zi4)), some (.inl (zi4 : Int))]) (st := [.inl (sd_cnt (sd_Psh x s) zi4)]) (fun zv => zv = (sd_b (x (322 + zi4) = s))) (fun zv hzv => ?_) (fun K26 => ?_)
    ·
      subst hzv
      have zb34 := sd_b01 (x (322 + zi4) = s)
      refine sd_iadd (z := (sd_cnt (sd_Psh x s) zi4 + sd_b (x (322 + zi4) = s))) sD11_menIn_34 (by omega) (by omega) ?_
      refine sd_istore_n (ls' := [some (.inr 15), some (.inl s), some (.inl (sd_cnt (sd_Psh x s) zi4 + sd_b (x (322 + zi4) = s))), some (.inl (zi4 : Int))]) sD11_menIn_35 (by decide) rfl ?_
      refine sd_iinc (y := ((zi4 : Int) + 1)) (ls' := [some (.inr 15), some (.inl s), some (.inl (sd_cnt (sd_Psh x s) zi4 + sd_b (x (322 + zi4) = s))), some (.inl ((zi4 : Int) + 1))]) sD11_menIn_36 rfl (by omega) (by omega) (by decide) rfl ?_
      refine sd_goto (tgt := 4) sD11_menIn_39 (by decide) ?_
      exact sd_eqw (ls' := [some (.inr 15), some (.inl s), some (.inl (sd_cnt (sd_Psh x s) (zi4 + 1))), some (.inl ((zi4 + 1 : Nat) : Int))]) ihzi4 (by rw [show ((sd_cnt (sd_Psh x s) zi4 + sd_b (x (322 + zi4) = s)) : Int) = sd_cnt (sd_Psh x s) (zi4 + 1) from by (simp only [sd_cnt, sd_b]), show (((zi4 : Int) + 1) : Int) = ((zi4 + 1 : Nat) : Int) from by omega]) rfl
    ·
      refine sd_icmp_ne (tgt := 33) sD11_menIn_26 (by decide) (fun zc26 => ?_) (fun zc26 => ?_)
      ·
        refine sd_iconst sD11_menIn_33 (by decide) ?_
        exact K26 _ (by exact (sd_b0 (by omega)).symm)
      ·
        refine sd_iconst sD11_menIn_29 (by decide) ?_
        refine sd_goto (tgt := 34) sD11_menIn_30 (by decide) ?_
        exact K26 _ (by exact (sd_b1 (by omega)).symm)
  ·
    show sd_Wp sd_SM 0 sY11_menIn 4 [some (.inr 15), some (.inl s), some (.inl (sd_cnt (sd_Psh x s) ((x 3).toNat))), some (.inl ((((x 3).toNat) : Nat) : Int))] [] m _
    refine sd_iload_n sD11_menIn_4 rfl ?_
    refine sd_aload_n sD11_menIn_5 rfl ?_
    refine sd_getfr sD11_menIn_6 sF11_7 sGM15_0 ?_
    refine sd_iconst sD11_menIn_9 (by decide) ?_
    refine sd_ialdx (a := 3) (v := x 3) hx sD11_menIn_10 sAM0 (by omega) rfl ?_
    refine sd_icmp_ge (tgt := 42) sD11_menIn_11 (by decide) (fun zc11 => ?_) (fun zc11 => (by exfalso; omega))
    refine sd_iload_n sD11_menIn_42 rfl ?_
    refine sd_iretp sD11_menIn_43 rfl ?_
    rfl

set_option maxRecDepth 100000 in
set_option maxHeartbeats 4000000 in
theorem cC_oneGateFurther (s : Int) (x m : sd_M) (hx : sd_ns x m) (h1 : sd_I1 x) (h2 : sd_I2 x) (h3 : sd_I3 x) : sd_Cp sd_SC 0 sY1_oneGateFurther [.inr 13, .inl s] m (.inl (sd_stp x s (x 2).toNat)) := by
  refine sd_ct rfl (Nat.le_of_ble_eq_true rfl) (fun hok hm => ?_)
  obtain ⟨⟨i0, j0⟩, ⟨i1, j1⟩, ⟨i2, j2⟩, ⟨i3, j3⟩, ⟨i4, j4⟩, ⟨i5, j5⟩, ⟨i6, j6⟩, ⟨i7, j7⟩, ⟨i8, j8⟩⟩ := id h1
  show sd_Wp sd_SC 0 sY1_oneGateFurther 0 [some (.inr 13), some (.inl s), none, none, none] [] m _
  refine sd_iload_n sD1_oneGateFurther_0 rfl ?_
  refine sd_istore_n (ls' := [some (.inr 13), some (.inl s), some (.inl s), none, none]) sD1_oneGateFurther_1 (by decide) rfl ?_
  refine sd_iconst sD1_oneGateFurther_2 (by decide) ?_
  refine sd_istore_n (ls' := [some (.inr 13), some (.inl s), some (.inl s), some (.inl 0), none]) sD1_oneGateFurther_3 (by decide) rfl ?_
  refine sd_forE ((x 2).toNat) (fun zi4 : Nat => [some (.inr 13), some (.inl s), some (.inl (sd_stp x s zi4)), some (.inl (zi4 : Int)), none]) (by rfl) (fun zi4 hizi4 ihzi4 => ?_) ?_
  ·
    have e2 := (h2 zi4 (by omega)).1
    refine sd_iload_n sD1_oneGateFurther_4 rfl ?_
    refine sd_aload_n sD1_oneGateFurther_5 rfl ?_
    refine sd_getfx (v := x 2) hx sD1_oneGateFurther_6 sF1_9 sGC13_0 (by decide) rfl ?_
    refine sd_icmp_ge (tgt := 80) sD1_oneGateFurther_9 (by decide) (fun zc9 => (by exfalso; omega)) (fun zc9 => ?_)
    refine sd_aload_n sD1_oneGateFurther_12 rfl ?_
    refine sd_getfr sD1_oneGateFurther_13 sF1_18 sGC13_2 ?_
    refine sd_iload_n sD1_oneGateFurther_16 rfl ?_
    refine sd_ialdx (a := (10 + zi4)) (v := x (10 + zi4)) hx sD1_oneGateFurther_17 sAC0 (by omega) rfl ?_
    refine sd_iconst sD1_oneGateFurther_18 (by decide) ?_
    refine sd_icmp_ne (tgt := 74) sD1_oneGateFurther_19 (by decide) (fun zc19 => ?_) (fun zc19 => ?_)
    ·
      refine sd_iinc (y := ((zi4 : Int) + 1)) (ls' := [some (.inr 13), some (.inl s), some (.inl (sd_stp x s zi4)), some (.inl ((zi4 : Int) + 1)), none]) sD1_oneGateFurther_74 rfl (by omega) (by omega) (by decide) rfl ?_
      refine sd_goto (tgt := 4) sD1_oneGateFurther_77 (by decide) ?_
      exact sd_eqw (ls' := [some (.inr 13), some (.inl s), some (.inl (sd_stp x s (zi4 + 1))), some (.inl ((zi4 + 1 : Nat) : Int)), none]) ihzi4 (by rw [show (sd_stp x s zi4 : Int) = sd_stp x s (zi4 + 1) from by (simp only [sd_stp]; first | (rw [if_neg (by first | omega | (intro hh; have hh2 := (sd_and_two s (a := x (34 + zi4)) (b := x (58 + zi4)) (by omega) (by omega) (by omega) (by omega)); simp_all))]; done) | (rw [if_pos ⟨by assumption, by assumption, by assumption, (sd_and_two s (a := x (34 + zi4)) (b := x (58 + zi4)) (by omega) (by omega) (by omega) (by omega)).mp (by assumption)⟩]; rfl)), show (((zi4 : Int) + 1) : Int) = ((zi4 + 1 : Nat) : Int) from by omega]) rfl
    ·
      refine sd_aload_n sD1_oneGateFurther_22 rfl ?_
      refine sd_getfr sD1_oneGateFurther_23 sF1_43 sGC13_10 ?_
      refine sd_iload_n sD1_oneGateFurther_26 rfl ?_
      refine sd_ialdx (a := (202 + zi4)) (v := x (202 + zi4)) hx sD1_oneGateFurther_27 sAC8 (by omega) rfl ?_
      refine sd_iconst sD1_oneGateFurther_28 (by decide) ?_
      refine sd_icmp_ne (tgt := 74) sD1_oneGateFurther_29 (by decide) (fun zc29 => ?_) (fun zc29 => ?_)
      ·
        refine sd_iinc (y := ((zi4 : Int) + 1)) (ls' := [some (.inr 13), some (.inl s), some (.inl (sd_stp x s zi4)), some (.inl ((zi4 : Int) + 1)), none]) sD1_oneGateFurther_74 rfl (by omega) (by omega) (by decide) rfl ?_
        refine sd_goto (tgt := 4) sD1_oneGateFurther_77 (by decide) ?_
        exact sd_eqw (ls' := [some (.inr 13), some (.inl s), some (.inl (sd_stp x s (zi4 + 1))), some (.inl ((zi4 + 1 : Nat) : Int)), none]) ihzi4 (by rw [show (sd_stp x s zi4 : Int) = sd_stp x s (zi4 + 1) from by (simp only [sd_stp]; first | (rw [if_neg (by first | omega | (intro hh; have hh2 := (sd_and_two s (a := x (34 + zi4)) (b := x (58 + zi4)) (by omega) (by omega) (by omega) (by omega)); simp_all))]; done) | (rw [if_pos ⟨by assumption, by assumption, by assumption, (sd_and_two s (a := x (34 + zi4)) (b := x (58 + zi4)) (by omega) (by omega) (by omega) (by omega)).mp (by assumption)⟩]; rfl)), show (((zi4 : Int) + 1) : Int) = ((zi4 + 1 : Nat) : Int) from by omega]) rfl
      ·
        refine sd_aload_n sD1_oneGateFurther_32 rfl ?_
        refine sd_getfr sD1_oneGateFurther_33 sF1_25 sGC13_4 ?_
        refine sd_iload_n sD1_oneGateFurther_36 rfl ?_
        refine sd_ialdx (a := (58 + zi4)) (v := x (58 + zi4)) hx sD1_oneGateFurther_37 sAC2 (by omega) rfl ?_
        refine sd_bipush sD1_oneGateFurther_38 rfl (by decide) ?_
        refine sd_icmp_eq (tgt := 74) sD1_oneGateFurther_40 (by decide) (fun zc40 => ?_) (fun zc40 => ?_)
        ·
          refine sd_iinc (y := ((zi4 : Int) + 1)) (ls' := [some (.inr 13), some (.inl s), some (.inl (sd_stp x s zi4)), some (.inl ((zi4 : Int) + 1)), none]) sD1_oneGateFurther_74 rfl (by omega) (by omega) (by decide) rfl ?_
          refine sd_goto (tgt := 4) sD1_oneGateFurther_77 (by decide) ?_
          exact sd_eqw (ls' := [some (.inr 13), some (.inl s), some (.inl (sd_stp x s (zi4 + 1))), some (.inl ((zi4 + 1 : Nat) : Int)), none]) ihzi4 (by rw [show (sd_stp x s zi4 : Int) = sd_stp x s (zi4 + 1) from by (simp only [sd_stp]; first | (rw [if_neg (by first | omega | (intro hh; have hh2 := (sd_and_two s (a := x (34 + zi4)) (b := x (58 + zi4)) (by omega) (by omega) (by omega) (by omega)); simp_all))]; done) | (rw [if_pos ⟨by assumption, by assumption, by assumption, (sd_and_two s (a := x (34 + zi4)) (b := x (58 + zi4)) (by omega) (by omega) (by omega) (by omega)).mp (by assumption)⟩]; rfl)), show (((zi4 : Int) + 1) : Int) = ((zi4 + 1 : Nat) : Int) from by omega]) rfl
        ·
          have e3 := ((h3 zi4 (by omega)).2.2.1 zc19)
          have e4 : 0 ≤ x (34 + zi4) ∧ x (34 + zi4) < 24 := ⟨e3.1.1, by have := e3.1.2.1; omega⟩
          have e5 : 0 ≤ x (58 + zi4) ∧ x (58 + zi4) < 24 := by rcases e3.2 with q | q <;> omega
          clear e3
          refine sd_iconst sD1_oneGateFurther_43 (by decide) ?_
          refine sd_aload_n sD1_oneGateFurther_44 rfl ?_
          refine sd_getfr sD1_oneGateFurther_45 sF1_22 sGC13_3 ?_
          refine sd_iload_n sD1_oneGateFurther_48 rfl ?_
          refine sd_ialdx (a := (34 + zi4)) (v := x (34 + zi4)) hx sD1_oneGateFurther_49 sAC1 (by omega) rfl ?_
          refine sd_ishl sD1_oneGateFurther_50 ?_
          refine sd_iconst sD1_oneGateFurther_51 (by decide) ?_
          refine sd_aload_n sD1_oneGateFurther_52 rfl ?_
          refine sd_getfr sD1_oneGateFurther_53 sF1_25 sGC13_4 ?_
          refine sd_iload_n sD1_oneGateFurther_56 rfl ?_
          refine sd_ialdx (a := (58 + zi4)) (v := x (58 + zi4)) hx sD1_oneGateFurther_57 sAC2 (by omega) rfl ?_
          refine sd_ishl sD1_oneGateFurther_58 ?_
          refine sd_ior sD1_oneGateFurther_59 ?_
          refine sd_istore (ls' := [some (.inr 13), some (.inl s), some (.inl (sd_stp x s zi4)), some (.inl (zi4 : Int)), some (.inl (sd_or (sd_shl 1 (x (34 + zi4))) (sd_shl 1 (x (58 + zi4)))))]) sD1_oneGateFurther_60 (by decide) rfl ?_
          refine sd_iload_n sD1_oneGateFurther_62 rfl ?_
          refine sd_iload sD1_oneGateFurther_63 rfl ?_
          refine sd_iand sD1_oneGateFurther_65 ?_
          refine sd_if_eq (tgt := 74) sD1_oneGateFurther_66 (by decide) (fun zc66 => ?_) (fun zc66 => ?_)
          ·
            refine sd_iinc (y := ((zi4 : Int) + 1)) (ls' := [some (.inr 13), some (.inl s), some (.inl (sd_stp x s zi4)), some (.inl ((zi4 : Int) + 1)), some (.inl (sd_or (sd_shl 1 (x (34 + zi4))) (sd_shl 1 (x (58 + zi4)))))]) sD1_oneGateFurther_74 rfl (by omega) (by omega) (by decide) rfl ?_
            refine sd_goto (tgt := 4) sD1_oneGateFurther_77 (by decide) ?_
            refine sd_less (ls' := [some (.inr 13), some (.inl s), some (.inl (sd_stp x s zi4)), some (.inl ((zi4 : Int) + 1)), none]) ?_ rfl (by intro zi zv zh; rcases zi with _ | _ | _ | _ | _ | zi <;> first | exact zh | cases zh)
            exact sd_eqw (ls' := [some (.inr 13), some (.inl s), some (.inl (sd_stp x s (zi4 + 1))), some (.inl ((zi4 + 1 : Nat) : Int)), none]) ihzi4 (by rw [show (sd_stp x s zi4 : Int) = sd_stp x s (zi4 + 1) from by (simp only [sd_stp]; first | (rw [if_neg (by first | omega | (intro hh; have hh2 := (sd_and_two s (a := x (34 + zi4)) (b := x (58 + zi4)) (by omega) (by omega) (by omega) (by omega)); simp_all))]; done) | (rw [if_pos ⟨by assumption, by assumption, by assumption, (sd_and_two s (a := x (34 + zi4)) (b := x (58 + zi4)) (by omega) (by omega) (by omega) (by omega)).mp (by assumption)⟩]; rfl)), show (((zi4 : Int) + 1) : Int) = ((zi4 + 1 : Nat) : Int) from by omega]) rfl
          ·
            refine sd_iload_n sD1_oneGateFurther_69 rfl ?_
            refine sd_iload sD1_oneGateFurther_70 rfl ?_
            refine sd_ior sD1_oneGateFurther_72 ?_
            refine sd_istore_n (ls' := [some (.inr 13), some (.inl s), some (.inl (sd_or (sd_stp x s zi4) (sd_or (sd_shl 1 (x (34 + zi4))) (sd_shl 1 (x (58 + zi4)))))), some (.inl (zi4 : Int)), some (.inl (sd_or (sd_shl 1 (x (34 + zi4))) (sd_shl 1 (x (58 + zi4)))))]) sD1_oneGateFurther_73 (by decide) rfl ?_
            refine sd_iinc (y := ((zi4 : Int) + 1)) (ls' := [some (.inr 13), some (.inl s), some (.inl (sd_or (sd_stp x s zi4) (sd_or (sd_shl 1 (x (34 + zi4))) (sd_shl 1 (x (58 + zi4)))))), some (.inl ((zi4 : Int) + 1)), some (.inl (sd_or (sd_shl 1 (x (34 + zi4))) (sd_shl 1 (x (58 + zi4)))))]) sD1_oneGateFurther_74 rfl (by omega) (by omega) (by decide) rfl ?_
            refine sd_goto (tgt := 4) sD1_oneGateFurther_77 (by decide) ?_
            refine sd_less (ls' := [some (.inr 13), some (.inl s), some (.inl (sd_or (sd_stp x s zi4) (sd_or (sd_shl 1 (x (34 + zi4))) (sd_shl 1 (x (58 + zi4)))))), some (.inl ((zi4 : Int) + 1)), none]) ?_ rfl (by intro zi zv zh; rcases zi with _ | _ | _ | _ | _ | zi <;> first | exact zh | cases zh)
            exact sd_eqw (ls' := [some (.inr 13), some (.inl s), some (.inl (sd_stp x s (zi4 + 1))), some (.inl ((zi4 + 1 : Nat) : Int)), none]) ihzi4 (by rw [show (sd_or (sd_stp x s zi4) (sd_or (sd_shl 1 (x (34 + zi4))) (sd_shl 1 (x (58 + zi4)))) : Int) = sd_stp x s (zi4 + 1) from by (simp only [sd_stp]; first | (rw [if_neg (by first | omega | (intro hh; have hh2 := (sd_and_two s (a := x (34 + zi4)) (b := x (58 + zi4)) (by omega) (by omega) (by omega) (by omega)); simp_all))]; done) | (rw [if_pos ⟨by assumption, by assumption, by assumption, (sd_and_two s (a := x (34 + zi4)) (b := x (58 + zi4)) (by omega) (by omega) (by omega) (by omega)).mp (by assumption)⟩]; rfl)), show (((zi4 : Int) + 1) : Int) = ((zi4 + 1 : Nat) : Int) from by omega]) rfl
  ·
    show sd_Wp sd_SC 0 sY1_oneGateFurther 4 [some (.inr 13), some (.inl s), some (.inl (sd_stp x s ((x 2).toNat))), some (.inl ((((x 2).toNat) : Nat) : Int)), none] [] m _
    refine sd_iload_n sD1_oneGateFurther_4 rfl ?_
    refine sd_aload_n sD1_oneGateFurther_5 rfl ?_
    refine sd_getfx (v := x 2) hx sD1_oneGateFurther_6 sF1_9 sGC13_0 (by decide) rfl ?_
    refine sd_icmp_ge (tgt := 80) sD1_oneGateFurther_9 (by decide) (fun zc9 => ?_) (fun zc9 => (by exfalso; omega))
    refine sd_iload_n sD1_oneGateFurther_80 rfl ?_
    refine sd_iretp sD1_oneGateFurther_81 rfl ?_
    rfl
