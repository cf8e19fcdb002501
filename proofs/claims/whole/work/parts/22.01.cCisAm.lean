set_option maxRecDepth 100000 in
set_option maxHeartbeats 4000000 in
theorem cC_isAm (h k : Int) (x m : sd_M) (hx : sd_ns x m) (hs : 0 ≤ x 2 ∧ x 2 ≤ 24) (hk : sd_isH x h → 0 ≤ x (10 + h.toNat) ∧ x (10 + h.toNat) ≤ 6) : sd_Cp sd_SC 1 sY1_isA [.inr 13, .inl h, .inl k] m (.inl (sd_b (sd_isA x h k))) := by
  refine sd_ct rfl (Nat.le_of_ble_eq_true rfl) (fun hok hm => ?_)
  show sd_Wp sd_SC 1 sY1_isA 0 [some (.inr 13), some (.inl h), some (.inl k), none, none] [] m _
  refine sd_iload_n sD1_isA_0 rfl ?_
  refine sd_iconst sD1_isA_1 (by decide) ?_
  refine sd_aload_n sD1_isA_2 rfl ?_
  refine sd_getfx (v := x 2) hx sD1_isA_3 sF1_9 sGC13_0 (by decide) rfl ?_
  refine sd_iconst sD1_isA_6 (by decide) ?_
  refine sd_isub (z := (x 2 - 1)) sD1_isA_7 (by omega) (by omega) ?_
  refine sd_callNp (as := [.inl h, .inl 0, .inl (x 2 - 1)]) (st := []) (v := .inl (sd_b (0 ≤ h ∧ h ≤ (x 2 - 1)))) sD1_isA_8 sM1_62 rfl rfl (by decide) (Nat.le_of_ble_eq_true rfl) (cC_isWithin h 0 (x 2 - 1) m) (fun ho8 => ?_)
  refine sd_bif_eq (tgt := 23) sD1_isA_11 (by decide) (fun zc11 => ?_) (fun zc11 => ?_)
  ·
    refine sd_iconst sD1_isA_23 (by decide) ?_
    refine sd_istore_n (ls' := [some (.inr 13), some (.inl h), some (.inl k), some (.inl (-1)), none]) sD1_isA_24 (by decide) rfl ?_
    refine sd_iconst sD1_isA_25 (by decide) ?_
    refine sd_istore (ls' := [some (.inr 13), some (.inl h), some (.inl k), some (.inl (-1)), some (.inl 0)]) sD1_isA_26 (by decide) rfl ?_
    refine sd_iload sD1_isA_28 rfl ?_
    refine sd_bipush sD1_isA_30 rfl (by decide) ?_
    refine sd_icmp_ge (tgt := 59) sD1_isA_32 (by decide) (fun zc32 => (by exfalso; omega)) (fun zc32 => ?_)
    refine sd_iload_n sD1_isA_35 rfl ?_
    refine sd_iconst sD1_isA_36 (by decide) ?_
    refine sd_icmp_eq (tgt := 59) sD1_isA_37 (by decide) (fun zc37 => ?_) (fun zc37 => (by exfalso; omega))
    refine sd_iconst sD1_isA_59 (by decide) ?_
    refine sd_zretp sD1_isA_60 rfl (by decide) ?_
    exact (sd_b0 (by omega)).symm
  ·
    have e2 := hk ⟨by omega, by omega⟩
    refine sd_aload_n sD1_isA_14 rfl ?_
    refine sd_getfr sD1_isA_15 sF1_18 sGC13_2 ?_
    refine sd_iload_n sD1_isA_18 rfl ?_
    refine sd_ialdx (a := (10 + h.toNat)) (v := x (10 + h.toNat)) hx sD1_isA_19 sAC0 (by omega) rfl ?_
    refine sd_goto (tgt := 24) sD1_isA_20 (by decide) ?_
    rcases (show x (10 + h.toNat) = 0 ∨ x (10 + h.toNat) = 1 ∨ x (10 + h.toNat) = 2 ∨ x (10 + h.toNat) = 3 ∨ x (10 + h.toNat) = 4 ∨ x (10 + h.toNat) = 5 ∨ x (10 + h.toNat) = 6 by omega) with zs24 | zs24 | zs24 | zs24 | zs24 | zs24 | zs24
    ·
      refine sd_eqs (ls' := [some (.inr 13), some (.inl h), some (.inl k), none, none]) (st' := [.inl 0]) ?_ rfl (by rw [zs24])
      refine sd_istore_n (ls' := [some (.inr 13), some (.inl h), some (.inl k), some (.inl 0), none]) sD1_isA_24 (by decide) rfl ?_
      refine sd_iconst sD1_isA_25 (by decide) ?_
      refine sd_istore (ls' := [some (.inr 13), some (.inl h), some (.inl k), some (.inl 0), some (.inl 0)]) sD1_isA_26 (by decide) rfl ?_
      refine sd_iload sD1_isA_28 rfl ?_
      refine sd_bipush sD1_isA_30 rfl (by decide) ?_
      refine sd_icmp_ge (tgt := 59) sD1_isA_32 (by decide) (fun zc32 => (by exfalso; omega)) (fun zc32 => ?_)
      refine sd_iload_n sD1_isA_35 rfl ?_
      refine sd_iconst sD1_isA_36 (by decide) ?_
      refine sd_icmp_eq (tgt := 59) sD1_isA_37 (by decide) (fun zc37 => (by exfalso; omega)) (fun zc37 => ?_)
      refine sd_iload_n sD1_isA_40 rfl ?_
      refine sd_iload_n sD1_isA_41 rfl ?_
      refine sd_icmp_ne (tgt := 47) sD1_isA_42 (by decide) (fun zc42 => ?_) (fun zc42 => ?_)
      ·
        refine sd_gets901 sD1_isA_47 sF1_66 ?_
        refine sd_iload_n sD1_isA_50 rfl ?_
        refine sd_ro901 (v := (-1)) sD1_isA_51 (by decide) (by decide) ?_
        refine sd_istore_n (ls' := [some (.inr 13), some (.inl h), some (.inl k), some (.inl (-1)), some (.inl 0)]) sD1_isA_52 (by decide) rfl ?_
        refine sd_iinc (y := 1) (ls' := [some (.inr 13), some (.inl h), some (.inl k), some (.inl (-1)), some (.inl 1)]) sD1_isA_53 rfl (by omega) (by omega) (by decide) rfl ?_
        refine sd_goto (tgt := 28) sD1_isA_56 (by decide) ?_
        refine sd_iload sD1_isA_28 rfl ?_
        refine sd_bipush sD1_isA_30 rfl (by decide) ?_
        refine sd_icmp_ge (tgt := 59) sD1_isA_32 (by decide) (fun zc32 => (by exfalso; omega)) (fun zc32 => ?_)
        refine sd_iload_n sD1_isA_35 rfl ?_
        refine sd_iconst sD1_isA_36 (by decide) ?_
        refine sd_icmp_eq (tgt := 59) sD1_isA_37 (by decide) (fun zc37 => ?_) (fun zc37 => (by exfalso; omega))
        refine sd_iconst sD1_isA_59 (by decide) ?_
        refine sd_zretp sD1_isA_60 rfl (by decide) ?_
        exact (sd_b0 (by omega)).symm
      ·
        refine sd_iconst sD1_isA_45 (by decide) ?_
        refine sd_zretp sD1_isA_46 rfl (by decide) ?_
        exact (sd_b1 (by omega)).symm
    ·
      refine sd_eqs (ls' := [some (.inr 13), some (.inl h), some (.inl k), none, none]) (st' := [.inl 1]) ?_ rfl (by rw [zs24])
      refine sd_istore_n (ls' := [some (.inr 13), some (.inl h), some (.inl k), some (.inl 1), none]) sD1_isA_24 (by decide) rfl ?_
      refine sd_iconst sD1_isA_25 (by decide) ?_
      refine sd_istore (ls' := [some (.inr 13), some (.inl h), some (.inl k), some (.inl 1), some (.inl 0)]) sD1_isA_26 (by decide) rfl ?_
      refine sd_iload sD1_isA_28 rfl ?_
      refine sd_bipush sD1_isA_30 rfl (by decide) ?_
      refine sd_icmp_ge (tgt := 59) sD1_isA_32 (by decide) (fun zc32 => (by exfalso; omega)) (fun zc32 => ?_)
      refine sd_iload_n sD1_isA_35 rfl ?_
      refine sd_iconst sD1_isA_36 (by decide) ?_
      refine sd_icmp_eq (tgt := 59) sD1_isA_37 (by decide) (fun zc37 => (by exfalso; omega)) (fun zc37 => ?_)
      refine sd_iload_n sD1_isA_40 rfl ?_
      refine sd_iload_n sD1_isA_41 rfl ?_
      refine sd_icmp_ne (tgt := 47) sD1_isA_42 (by decide) (fun zc42 => ?_) (fun zc42 => ?_)
      ·
        refine sd_gets901 sD1_isA_47 sF1_66 ?_
        refine sd_iload_n sD1_isA_50 rfl ?_
        refine sd_ro901 (v := 0) sD1_isA_51 (by decide) (by decide) ?_
        refine sd_istore_n (ls' := [some (.inr 13), some (.inl h), some (.inl k), some (.inl 0), some (.inl 0)]) sD1_isA_52 (by decide) rfl ?_
        refine sd_iinc (y := 1) (ls' := [some (.inr 13), some (.inl h), some (.inl k), some (.inl 0), some (.inl 1)]) sD1_isA_53 rfl (by omega) (by omega) (by decide) rfl ?_
        refine sd_goto (tgt := 28) sD1_isA_56 (by decide) ?_
        refine sd_iload sD1_isA_28 rfl ?_
        refine sd_bipush sD1_isA_30 rfl (by decide) ?_
        refine sd_icmp_ge (tgt := 59) sD1_isA_32 (by decide) (fun zc32 => (by exfalso; omega)) (fun zc32 => ?_)
        refine sd_iload_n sD1_isA_35 rfl ?_
        refine sd_iconst sD1_isA_36 (by decide) ?_
        refine sd_icmp_eq (tgt := 59) sD1_isA_37 (by decide) (fun zc37 => (by exfalso; omega)) (fun zc37 => ?_)
        refine sd_iload_n sD1_isA_40 rfl ?_
        refine sd_iload_n sD1_isA_41 rfl ?_
        refine sd_icmp_ne (tgt := 47) sD1_isA_42 (by decide) (fun zc42 => ?_) (fun zc42 => ?_)
        ·
          refine sd_gets901 sD1_isA_47 sF1_66 ?_
          refine sd_iload_n sD1_isA_50 rfl ?_
          refine sd_ro901 (v := (-1)) sD1_isA_51 (by decide) (by decide) ?_
          refine sd_istore_n (ls' := [some (.inr 13), some (.inl h), some (.inl k), some (.inl (-1)), some (.inl 1)]) sD1_isA_52 (by decide) rfl ?_
          refine sd_iinc (y := 2) (ls' := [some (.inr 13), some (.inl h), some (.inl k), some (.inl (-1)), some (.inl 2)]) sD1_isA_53 rfl (by omega) (by omega) (by decide) rfl ?_
          refine sd_goto (tgt := 28) sD1_isA_56 (by decide) ?_
          refine sd_iload sD1_isA_28 rfl ?_
          refine sd_bipush sD1_isA_30 rfl (by decide) ?_
          refine sd_icmp_ge (tgt := 59) sD1_isA_32 (by decide) (fun zc32 => (by exfalso; omega)) (fun zc32 => ?_)
          refine sd_iload_n sD1_isA_35 rfl ?_
          refine sd_iconst sD1_isA_36 (by decide) ?_
          refine sd_icmp_eq (tgt := 59) sD1_isA_37 (by decide) (fun zc37 => ?_) (fun zc37 => (by exfalso; omega))
          refine sd_iconst sD1_isA_59 (by decide) ?_
          refine sd_zretp sD1_isA_60 rfl (by decide) ?_
          exact (sd_b0 (by omega)).symm
        ·
          refine sd_iconst sD1_isA_45 (by decide) ?_
          refine sd_zretp sD1_isA_46 rfl (by decide) ?_
          exact (sd_b1 (by omega)).symm
      ·
        refine sd_iconst sD1_isA_45 (by decide) ?_
        refine sd_zretp sD1_isA_46 rfl (by decide) ?_
        exact (sd_b1 (by omega)).symm
    ·
      refine sd_eqs (ls' := [some (.inr 13), some (.inl h), some (.inl k), none, none]) (st' := [.inl 2]) ?_ rfl (by rw [zs24])
      refine sd_istore_n (ls' := [some (.inr 13), some (.inl h), some (.inl k), some (.inl 2), none]) sD1_isA_24 (by decide) rfl ?_
      refine sd_iconst sD1_isA_25 (by decide) ?_
      refine sd_istore (ls' := [some (.inr 13), some (.inl h), some (.inl k), some (.inl 2), some (.inl 0)]) sD1_isA_26 (by decide) rfl ?_
      refine sd_iload sD1_isA_28 rfl ?_
      refine sd_bipush sD1_isA_30 rfl (by decide) ?_
      refine sd_icmp_ge (tgt := 59) sD1_isA_32 (by decide) (fun zc32 => (by exfalso; omega)) (fun zc32 => ?_)
      refine sd_iload_n sD1_isA_35 rfl ?_
      refine sd_iconst sD1_isA_36 (by decide) ?_
      refine sd_icmp_eq (tgt := 59) sD1_isA_37 (by decide) (fun zc37 => (by exfalso; omega)) (fun zc37 => ?_)
      refine sd_iload_n sD1_isA_40 rfl ?_
      refine sd_iload_n sD1_isA_41 rfl ?_
      refine sd_icmp_ne (tgt := 47) sD1_isA_42 (by decide) (fun zc42 => ?_) (fun zc42 => ?_)
      ·
        refine sd_gets901 sD1_isA_47 sF1_66 ?_
        refine sd_iload_n sD1_isA_50 rfl ?_
        refine sd_ro901 (v := 1) sD1_isA_51 (by decide) (by decide) ?_
        refine sd_istore_n (ls' := [some (.inr 13), some (.inl h), some (.inl k), some (.inl 1), some (.inl 0)]) sD1_isA_52 (by decide) rfl ?_
        refine sd_iinc (y := 1) (ls' := [some (.inr 13), some (.inl h), some (.inl k), some (.inl 1), some (.inl 1)]) sD1_isA_53 rfl (by omega) (by omega) (by decide) rfl ?_
        refine sd_goto (tgt := 28) sD1_isA_56 (by decide) ?_
        refine sd_iload sD1_isA_28 rfl ?_
        refine sd_bipush sD1_isA_30 rfl (by decide) ?_
        refine sd_icmp_ge (tgt := 59) sD1_isA_32 (by decide) (fun zc32 => (by exfalso; omega)) (fun zc32 => ?_)
        refine sd_iload_n sD1_isA_35 rfl ?_
        refine sd_iconst sD1_isA_36 (by decide) ?_
        refine sd_icmp_eq (tgt := 59) sD1_isA_37 (by decide) (fun zc37 => (by exfalso; omega)) (fun zc37 => ?_)
        refine sd_iload_n sD1_isA_40 rfl ?_
        refine sd_iload_n sD1_isA_41 rfl ?_
        refine sd_icmp_ne (tgt := 47) sD1_isA_42 (by decide) (fun zc42 => ?_) (fun zc42 => ?_)
        ·
          refine sd_gets901 sD1_isA_47 sF1_66 ?_
          refine sd_iload_n sD1_isA_50 rfl ?_
          refine sd_ro901 (v := 0) sD1_isA_51 (by decide) (by decide) ?_
          refine sd_istore_n (ls' := [some (.inr 13), some (.inl h), some (.inl k), some (.inl 0), some (.inl 1)]) sD1_isA_52 (by decide) rfl ?_
          refine sd_iinc (y := 2) (ls' := [some (.inr 13), some (.inl h), some (.inl k), some (.inl 0), some (.inl 2)]) sD1_isA_53 rfl (by omega) (by omega) (by decide) rfl ?_
          refine sd_goto (tgt := 28) sD1_isA_56 (by decide) ?_
          refine sd_iload sD1_isA_28 rfl ?_
          refine sd_bipush sD1_isA_30 rfl (by decide) ?_
          refine sd_icmp_ge (tgt := 59) sD1_isA_32 (by decide) (fun zc32 => (by exfalso; omega)) (fun zc32 => ?_)
          refine sd_iload_n sD1_isA_35 rfl ?_
          refine sd_iconst sD1_isA_36 (by decide) ?_
          refine sd_icmp_eq (tgt := 59) sD1_isA_37 (by decide) (fun zc37 => (by exfalso; omega)) (fun zc37 => ?_)
          refine sd_iload_n sD1_isA_40 rfl ?_
          refine sd_iload_n sD1_isA_41 rfl ?_
          refine sd_icmp_ne (tgt := 47) sD1_isA_42 (by decide) (fun zc42 => ?_) (fun zc42 => ?_)
          ·
            refine sd_gets901 sD1_isA_47 sF1_66 ?_
            refine sd_iload_n sD1_isA_50 rfl ?_
            refine sd_ro901 (v := (-1)) sD1_isA_51 (by decide) (by decide) ?_
            refine sd_istore_n (ls' := [some (.inr 13), some (.inl h), some (.inl k), some (.inl (-1)), some (.inl 2)]) sD1_isA_52 (by decide) rfl ?_
            refine sd_iinc (y := 3) (ls' := [some (.inr 13), some (.inl h), some (.inl k), some (.inl (-1)), some (.inl 3)]) sD1_isA_53 rfl (by omega) (by omega) (by decide) rfl ?_
            refine sd_goto (tgt := 28) sD1_isA_56 (by decide) ?_
            refine sd_iload sD1_isA_28 rfl ?_
            refine sd_bipush sD1_isA_30 rfl (by decide) ?_
            refine sd_icmp_ge (tgt := 59) sD1_isA_32 (by decide) (fun zc32 => (by exfalso; omega)) (fun zc32 => ?_)
            refine sd_iload_n sD1_isA_35 rfl ?_
            refine sd_iconst sD1_isA_36 (by decide) ?_
            refine sd_icmp_eq (tgt := 59) sD1_isA_37 (by decide) (fun zc37 => ?_) (fun zc37 => (by exfalso; omega))
            refine sd_iconst sD1_isA_59 (by decide) ?_
            refine sd_zretp sD1_isA_60 rfl (by decide) ?_
            exact (sd_b0 (by omega)).symm
          ·
            refine sd_iconst sD1_isA_45 (by decide) ?_
            refine sd_zretp sD1_isA_46 rfl (by decide) ?_
            exact (sd_b1 (by omega)).symm
        ·
          refine sd_iconst sD1_isA_45 (by decide) ?_
          refine sd_zretp sD1_isA_46 rfl (by decide) ?_
          exact (sd_b1 (by omega)).symm
      ·
        refine sd_iconst sD1_isA_45 (by decide) ?_
        refine sd_zretp sD1_isA_46 rfl (by decide) ?_
        exact (sd_b1 (by omega)).symm
    ·
      refine sd_eqs (ls' := [some (.inr 13), some (.inl h), some (.inl k), none, none]) (st' := [.inl 3]) ?_ rfl (by rw [zs24])
      refine sd_istore_n (ls' := [some (.inr 13), some (.inl h), some (.inl k), some (.inl 3), none]) sD1_isA_24 (by decide) rfl ?_
      refine sd_iconst sD1_isA_25 (by decide) ?_
      refine sd_istore (ls' := [some (.inr 13), some (.inl h), some (.inl k), some (.inl 3), some (.inl 0)]) sD1_isA_26 (by decide) rfl ?_
      refine sd_iload sD1_isA_28 rfl ?_
      refine sd_bipush sD1_isA_30 rfl (by decide) ?_
      refine sd_icmp_ge (tgt := 59) sD1_isA_32 (by decide) (fun zc32 => (by exfalso; omega)) (fun zc32 => ?_)
      refine sd_iload_n sD1_isA_35 rfl ?_
      refine sd_iconst sD1_isA_36 (by decide) ?_
      refine sd_icmp_eq (tgt := 59) sD1_isA_37 (by decide) (fun zc37 => (by exfalso; omega)) (fun zc37 => ?_)
      refine sd_iload_n sD1_isA_40 rfl ?_
      refine sd_iload_n sD1_isA_41 rfl ?_
      refine sd_icmp_ne (tgt := 47) sD1_isA_42 (by decide) (fun zc42 => ?_) (fun zc42 => ?_)
      ·
        refine sd_gets901 sD1_isA_47 sF1_66 ?_
        refine sd_iload_n sD1_isA_50 rfl ?_
        refine sd_ro901 (v := 0) sD1_isA_51 (by decide) (by decide) ?_
        refine sd_istore_n (ls' := [some (.inr 13), some (.inl h), some (.inl k), some (.inl 0), some (.inl 0)]) sD1_isA_52 (by decide) rfl ?_
        refine sd_iinc (y := 1) (ls' := [some (.inr 13), some (.inl h), some (.inl k), some (.inl 0), some (.inl 1)]) sD1_isA_53 rfl (by omega) (by omega) (by decide) rfl ?_
        refine sd_goto (tgt := 28) sD1_isA_56 (by decide) ?_
        refine sd_iload sD1_isA_28 rfl ?_
        refine sd_bipush sD1_isA_30 rfl (by decide) ?_
        refine sd_icmp_ge (tgt := 59) sD1_isA_32 (by decide) (fun zc32 => (by exfalso; omega)) (fun zc32 => ?_)
        refine sd_iload_n sD1_isA_35 rfl ?_
        refine sd_iconst sD1_isA_36 (by decide) ?_
        refine sd_icmp_eq (tgt := 59) sD1_isA_37 (by decide) (fun zc37 => (by exfalso; omega)) (fun zc37 => ?_)
        refine sd_iload_n sD1_isA_40 rfl ?_
        refine sd_iload_n sD1_isA_41 rfl ?_
        refine sd_icmp_ne (tgt := 47) sD1_isA_42 (by decide) (fun zc42 => ?_) (fun zc42 => ?_)
        ·
          refine sd_gets901 sD1_isA_47 sF1_66 ?_
          refine sd_iload_n sD1_isA_50 rfl ?_
          refine sd_ro901 (v := (-1)) sD1_isA_51 (by decide) (by decide) ?_
          refine sd_istore_n (ls' := [some (.inr 13), some (.inl h), some (.inl k), some (.inl (-1)), some (.inl 1)]) sD1_isA_52 (by decide) rfl ?_
          refine sd_iinc (y := 2) (ls' := [some (.inr 13), some (.inl h), some (.inl k), some (.inl (-1)), some (.inl 2)]) sD1_isA_53 rfl (by omega) (by omega) (by decide) rfl ?_
          refine sd_goto (tgt := 28) sD1_isA_56 (by decide) ?_
          refine sd_iload sD1_isA_28 rfl ?_
          refine sd_bipush sD1_isA_30 rfl (by decide) ?_
          refine sd_icmp_ge (tgt := 59) sD1_isA_32 (by decide) (fun zc32 => (by exfalso; omega)) (fun zc32 => ?_)
          refine sd_iload_n sD1_isA_35 rfl ?_
          refine sd_iconst sD1_isA_36 (by decide) ?_
          refine sd_icmp_eq (tgt := 59) sD1_isA_37 (by decide) (fun zc37 => ?_) (fun zc37 => (by exfalso; omega))
          refine sd_iconst sD1_isA_59 (by decide) ?_
          refine sd_zretp sD1_isA_60 rfl (by decide) ?_
          exact (sd_b0 (by omega)).symm
        ·
          refine sd_iconst sD1_isA_45 (by decide) ?_
          refine sd_zretp sD1_isA_46 rfl (by decide) ?_
          exact (sd_b1 (by omega)).symm
      ·
        refine sd_iconst sD1_isA_45 (by decide) ?_
        refine sd_zretp sD1_isA_46 rfl (by decide) ?_
        exact (sd_b1 (by omega)).symm
    ·
      refine sd_eqs (ls' := [some (.inr 13), some (.inl h), some (.inl k), none, none]) (st' := [.inl 4]) ?_ rfl (by rw [zs24])
      refine sd_istore_n (ls' := [some (.inr 13), some (.inl h), some (.inl k), some (.inl 4), none]) sD1_isA_24 (by decide) rfl ?_
      refine sd_iconst sD1_isA_25 (by decide) ?_
      refine sd_istore (ls' := [some (.inr 13), some (.inl h), some (.inl k), some (.inl 4), some (.inl 0)]) sD1_isA_26 (by decide) rfl ?_
      refine sd_iload sD1_isA_28 rfl ?_
      refine sd_bipush sD1_isA_30 rfl (by decide) ?_
      refine sd_icmp_ge (tgt := 59) sD1_isA_32 (by decide) (fun zc32 => (by exfalso; omega)) (fun zc32 => ?_)
      refine sd_iload_n sD1_isA_35 rfl ?_
      refine sd_iconst sD1_isA_36 (by decide) ?_
      refine sd_icmp_eq (tgt := 59) sD1_isA_37 (by decide) (fun zc37 => (by exfalso; omega)) (fun zc37 => ?_)
      refine sd_iload_n sD1_isA_40 rfl ?_
      refine sd_iload_n sD1_isA_41 rfl ?_
      refine sd_icmp_ne (tgt := 47) sD1_isA_42 (by decide) (fun zc42 => ?_) (fun zc42 => ?_)
      ·
        refine sd_gets901 sD1_isA_47 sF1_66 ?_
        refine sd_iload_n sD1_isA_50 rfl ?_
        refine sd_ro901 (v := 0) sD1_isA_51 (by decide) (by decide) ?_
        refine sd_istore_n (ls' := [some (.inr 13), some (.inl h), some (.inl k), some (.inl 0), some (.inl 0)]) sD1_isA_52 (by decide) rfl ?_
        refine sd_iinc (y := 1) (ls' := [some (.inr 13), some (.inl h), some (.inl k), some (.inl 0), some (.inl 1)]) sD1_isA_53 rfl (by omega) (by omega) (by decide) rfl ?_
        refine sd_goto (tgt := 28) sD1_isA_56 (by decide) ?_
        refine sd_iload sD1_isA_28 rfl ?_
        refine sd_bipush sD1_isA_30 rfl (by decide) ?_
        refine sd_icmp_ge (tgt := 59) sD1_isA_32 (by decide) (fun zc32 => (by exfalso; omega)) (fun zc32 => ?_)
        refine sd_iload_n sD1_isA_35 rfl ?_
        refine sd_iconst sD1_isA_36 (by decide) ?_
        refine sd_icmp_eq (tgt := 59) sD1_isA_37 (by decide) (fun zc37 => (by exfalso; omega)) (fun zc37 => ?_)
        refine sd_iload_n sD1_isA_40 rfl ?_
        refine sd_iload_n sD1_isA_41 rfl ?_
        refine sd_icmp_ne (tgt := 47) sD1_isA_42 (by decide) (fun zc42 => ?_) (fun zc42 => ?_)
        ·
          refine sd_gets901 sD1_isA_47 sF1_66 ?_
          refine sd_iload_n sD1_isA_50 rfl ?_
          refine sd_ro901 (v := (-1)) sD1_isA_51 (by decide) (by decide) ?_
          refine sd_istore_n (ls' := [some (.inr 13), some (.inl h), some (.inl k), some (.inl (-1)), some (.inl 1)]) sD1_isA_52 (by decide) rfl ?_
          refine sd_iinc (y := 2) (ls' := [some (.inr 13), some (.inl h), some (.inl k), some (.inl (-1)), some (.inl 2)]) sD1_isA_53 rfl (by omega) (by omega) (by decide) rfl ?_
          refine sd_goto (tgt := 28) sD1_isA_56 (by decide) ?_
          refine sd_iload sD1_isA_28 rfl ?_
          refine sd_bipush sD1_isA_30 rfl (by decide) ?_
          refine sd_icmp_ge (tgt := 59) sD1_isA_32 (by decide) (fun zc32 => (by exfalso; omega)) (fun zc32 => ?_)
          refine sd_iload_n sD1_isA_35 rfl ?_
          refine sd_iconst sD1_isA_36 (by decide) ?_
          refine sd_icmp_eq (tgt := 59) sD1_isA_37 (by decide) (fun zc37 => ?_) (fun zc37 => (by exfalso; omega))
          refine sd_iconst sD1_isA_59 (by decide) ?_
          refine sd_zretp sD1_isA_60 rfl (by decide) ?_
          exact (sd_b0 (by omega)).symm
        ·
          refine sd_iconst sD1_isA_45 (by decide) ?_
          refine sd_zretp sD1_isA_46 rfl (by decide) ?_
          exact (sd_b1 (by omega)).symm
      ·
        refine sd_iconst sD1_isA_45 (by decide) ?_
        refine sd_zretp sD1_isA_46 rfl (by decide) ?_
        exact (sd_b1 (by omega)).symm
    ·
      refine sd_eqs (ls' := [some (.inr 13), some (.inl h), some (.inl k), none, none]) (st' := [.inl 5]) ?_ rfl (by rw [zs24])
      refine sd_istore_n (ls' := [some (.inr 13), some (.inl h), some (.inl k), some (.inl 5), none]) sD1_isA_24 (by decide) rfl ?_
      refine sd_iconst sD1_isA_25 (by decide) ?_
      refine sd_istore (ls' := [some (.inr 13), some (.inl h), some (.inl k), some (.inl 5), some (.inl 0)]) sD1_isA_26 (by decide) rfl ?_
      refine sd_iload sD1_isA_28 rfl ?_
      refine sd_bipush sD1_isA_30 rfl (by decide) ?_
      refine sd_icmp_ge (tgt := 59) sD1_isA_32 (by decide) (fun zc32 => (by exfalso; omega)) (fun zc32 => ?_)
      refine sd_iload_n sD1_isA_35 rfl ?_
      refine sd_iconst sD1_isA_36 (by decide) ?_
      refine sd_icmp_eq (tgt := 59) sD1_isA_37 (by decide) (fun zc37 => (by exfalso; omega)) (fun zc37 => ?_)
      refine sd_iload_n sD1_isA_40 rfl ?_
      refine sd_iload_n sD1_isA_41 rfl ?_
      refine sd_icmp_ne (tgt := 47) sD1_isA_42 (by decide) (fun zc42 => ?_) (fun zc42 => ?_)
      ·
        refine sd_gets901 sD1_isA_47 sF1_66 ?_
        refine sd_iload_n sD1_isA_50 rfl ?_
        refine sd_ro901 (v := 4) sD1_isA_51 (by decide) (by decide) ?_
        refine sd_istore_n (ls' := [some (.inr 13), some (.inl h), some (.inl k), some (.inl 4), some (.inl 0)]) sD1_isA_52 (by decide) rfl ?_
        refine sd_iinc (y := 1) (ls' := [some (.inr 13), some (.inl h), some (.inl k), some (.inl 4), some (.inl 1)]) sD1_isA_53 rfl (by omega) (by omega) (by decide) rfl ?_
        refine sd_goto (tgt := 28) sD1_isA_56 (by decide) ?_
        refine sd_iload sD1_isA_28 rfl ?_
        refine sd_bipush sD1_isA_30 rfl (by decide) ?_
        refine sd_icmp_ge (tgt := 59) sD1_isA_32 (by decide) (fun zc32 => (by exfalso; omega)) (fun zc32 => ?_)
        refine sd_iload_n sD1_isA_35 rfl ?_
        refine sd_iconst sD1_isA_36 (by decide) ?_
        refine sd_icmp_eq (tgt := 59) sD1_isA_37 (by decide) (fun zc37 => (by exfalso; omega)) (fun zc37 => ?_)
        refine sd_iload_n sD1_isA_40 rfl ?_
        refine sd_iload_n sD1_isA_41 rfl ?_
        refine sd_icmp_ne (tgt := 47) sD1_isA_42 (by decide) (fun zc42 => ?_) (fun zc42 => ?_)
        ·
          refine sd_gets901 sD1_isA_47 sF1_66 ?_
          refine sd_iload_n sD1_isA_50 rfl ?_
          refine sd_ro901 (v := 0) sD1_isA_51 (by decide) (by decide) ?_
          refine sd_istore_n (ls' := [some (.inr 13), some (.inl h), some (.inl k), some (.inl 0), some (.inl 1)]) sD1_isA_52 (by decide) rfl ?_
          refine sd_iinc (y := 2) (ls' := [some (.inr 13), some (.inl h), some (.inl k), some (.inl 0), some (.inl 2)]) sD1_isA_53 rfl (by omega) (by omega) (by decide) rfl ?_
          refine sd_goto (tgt := 28) sD1_isA_56 (by decide) ?_
          refine sd_iload sD1_isA_28 rfl ?_
          refine sd_bipush sD1_isA_30 rfl (by decide) ?_
          refine sd_icmp_ge (tgt := 59) sD1_isA_32 (by decide) (fun zc32 => (by exfalso; omega)) (fun zc32 => ?_)
          refine sd_iload_n sD1_isA_35 rfl ?_
          refine sd_iconst sD1_isA_36 (by decide) ?_
          refine sd_icmp_eq (tgt := 59) sD1_isA_37 (by decide) (fun zc37 => (by exfalso; omega)) (fun zc37 => ?_)
          refine sd_iload_n sD1_isA_40 rfl ?_
          refine sd_iload_n sD1_isA_41 rfl ?_
          refine sd_icmp_ne (tgt := 47) sD1_isA_42 (by decide) (fun zc42 => ?_) (fun zc42 => ?_)
          ·
            refine sd_gets901 sD1_isA_47 sF1_66 ?_
            refine sd_iload_n sD1_isA_50 rfl ?_
            refine sd_ro901 (v := (-1)) sD1_isA_51 (by decide) (by decide) ?_
            refine sd_istore_n (ls' := [some (.inr 13), some (.inl h), some (.inl k), some (.inl (-1)), some (.inl 2)]) sD1_isA_52 (by decide) rfl ?_
            refine sd_iinc (y := 3) (ls' := [some (.inr 13), some (.inl h), some (.inl k), some (.inl (-1)), some (.inl 3)]) sD1_isA_53 rfl (by omega) (by omega) (by decide) rfl ?_
            refine sd_goto (tgt := 28) sD1_isA_56 (by decide) ?_
            refine sd_iload sD1_isA_28 rfl ?_
            refine sd_bipush sD1_isA_30 rfl (by decide) ?_
            refine sd_icmp_ge (tgt := 59) sD1_isA_32 (by decide) (fun zc32 => (by exfalso; omega)) (fun zc32 => ?_)
            refine sd_iload_n sD1_isA_35 rfl ?_
            refine sd_iconst sD1_isA_36 (by decide) ?_
            refine sd_icmp_eq (tgt := 59) sD1_isA_37 (by decide) (fun zc37 => ?_) (fun zc37 => (by exfalso; omega))
            refine sd_iconst sD1_isA_59 (by decide) ?_
            refine sd_zretp sD1_isA_60 rfl (by decide) ?_
            exact (sd_b0 (by omega)).symm
          ·
            refine sd_iconst sD1_isA_45 (by decide) ?_
            refine sd_zretp sD1_isA_46 rfl (by decide) ?_
            exact (sd_b1 (by omega)).symm
        ·
          refine sd_iconst sD1_isA_45 (by decide) ?_
          refine sd_zretp sD1_isA_46 rfl (by decide) ?_
          exact (sd_b1 (by omega)).symm
      ·
        refine sd_iconst sD1_isA_45 (by decide) ?_
        refine sd_zretp sD1_isA_46 rfl (by decide) ?_
        exact (sd_b1 (by omega)).symm
    ·
      refine sd_eqs (ls' := [some (.inr 13), some (.inl h), some (.inl k), none, none]) (st' := [.inl 6]) ?_ rfl (by rw [zs24])
      refine sd_istore_n (ls' := [some (.inr 13), some (.inl h), some (.inl k), some (.inl 6), none]) sD1_isA_24 (by decide) rfl ?_
      refine sd_iconst sD1_isA_25 (by decide) ?_
      refine sd_istore (ls' := [some (.inr 13), some (.inl h), some (.inl k), some (.inl 6), some (.inl 0)]) sD1_isA_26 (by decide) rfl ?_
      refine sd_iload sD1_isA_28 rfl ?_
      refine sd_bipush sD1_isA_30 rfl (by decide) ?_
      refine sd_icmp_ge (tgt := 59) sD1_isA_32 (by decide) (fun zc32 => (by exfalso; omega)) (fun zc32 => ?_)
      refine sd_iload_n sD1_isA_35 rfl ?_
      refine sd_iconst sD1_isA_36 (by decide) ?_
      refine sd_icmp_eq (tgt := 59) sD1_isA_37 (by decide) (fun zc37 => (by exfalso; omega)) (fun zc37 => ?_)
      refine sd_iload_n sD1_isA_40 rfl ?_
      refine sd_iload_n sD1_isA_41 rfl ?_
      refine sd_icmp_ne (tgt := 47) sD1_isA_42 (by decide) (fun zc42 => ?_) (fun zc42 => ?_)
      ·
        refine sd_gets901 sD1_isA_47 sF1_66 ?_
        refine sd_iload_n sD1_isA_50 rfl ?_
        refine sd_ro901 (v := 0) sD1_isA_51 (by decide) (by decide) ?_
        refine sd_istore_n (ls' := [some (.inr 13), some (.inl h), some (.inl k), some (.inl 0), some (.inl 0)]) sD1_isA_52 (by decide) rfl ?_
        refine sd_iinc (y := 1) (ls' := [some (.inr 13), some (.inl h), some (.inl k), some (.inl 0), some (.inl 1)]) sD1_isA_53 rfl (by omega) (by omega) (by decide) rfl ?_
        refine sd_goto (tgt := 28) sD1_isA_56 (by decide) ?_
        refine sd_iload sD1_isA_28 rfl ?_
        refine sd_bipush sD1_isA_30 rfl (by decide) ?_
        refine sd_icmp_ge (tgt := 59) sD1_isA_32 (by decide) (fun zc32 => (by exfalso; omega)) (fun zc32 => ?_)
        refine sd_iload_n sD1_isA_35 rfl ?_
        refine sd_iconst sD1_isA_36 (by decide) ?_
        refine sd_icmp_eq (tgt := 59) sD1_isA_37 (by decide) (fun zc37 => (by exfalso; omega)) (fun zc37 => ?_)
        refine sd_iload_n sD1_isA_40 rfl ?_
        refine sd_iload_n sD1_isA_41 rfl ?_
        refine sd_icmp_ne (tgt := 47) sD1_isA_42 (by decide) (fun zc42 => ?_) (fun zc42 => ?_)
        ·
          refine sd_gets901 sD1_isA_47 sF1_66 ?_
          refine sd_iload_n sD1_isA_50 rfl ?_
          refine sd_ro901 (v := (-1)) sD1_isA_51 (by decide) (by decide) ?_
          refine sd_istore_n (ls' := [some (.inr 13), some (.inl h), some (.inl k), some (.inl (-1)), some (.inl 1)]) sD1_isA_52 (by decide) rfl ?_
          refine sd_iinc (y := 2) (ls' := [some (.inr 13), some (.inl h), some (.inl k), some (.inl (-1)), some (.inl 2)]) sD1_isA_53 rfl (by omega) (by omega) (by decide) rfl ?_
          refine sd_goto (tgt := 28) sD1_isA_56 (by decide) ?_
          refine sd_iload sD1_isA_28 rfl ?_
          refine sd_bipush sD1_isA_30 rfl (by decide) ?_
          refine sd_icmp_ge (tgt := 59) sD1_isA_32 (by decide) (fun zc32 => (by exfalso; omega)) (fun zc32 => ?_)
          refine sd_iload_n sD1_isA_35 rfl ?_
          refine sd_iconst sD1_isA_36 (by decide) ?_
          refine sd_icmp_eq (tgt := 59) sD1_isA_37 (by decide) (fun zc37 => ?_) (fun zc37 => (by exfalso; omega))
          refine sd_iconst sD1_isA_59 (by decide) ?_
          refine sd_zretp sD1_isA_60 rfl (by decide) ?_
          exact (sd_b0 (by omega)).symm
        ·
          refine sd_iconst sD1_isA_45 (by decide) ?_
          refine sd_zretp sD1_isA_46 rfl (by decide) ?_
          exact (sd_b1 (by omega)).symm
      ·
        refine sd_iconst sD1_isA_45 (by decide) ?_
        refine sd_zretp sD1_isA_46 rfl (by decide) ?_
        exact (sd_b1 (by omega)).symm
