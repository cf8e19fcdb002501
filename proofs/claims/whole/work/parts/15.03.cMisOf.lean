set_option maxRecDepth 100000 in
set_option maxHeartbeats 4000000 in
theorem cM_isOf (h : Int) (k : Int) (x m : sd_M) (hx : sd_ns x m) (h1 : sd_I1 x) (hh : 0 ≤ h ∧ h < 24) : sd_Cp sd_SM 1 sY11_isOf [.inr 15, .inl h, .inl k] m (.inl (sd_b (sd_isK (x (10 + h.toNat)) k))) := by
  refine sd_ct rfl (Nat.le_of_ble_eq_true rfl) (fun hok hm => ?_)
  obtain ⟨⟨i0, j0⟩, ⟨i1, j1⟩, ⟨i2, j2⟩, ⟨i3, j3⟩, ⟨i4, j4⟩, ⟨i5, j5⟩, ⟨i6, j6⟩, ⟨i7, j7⟩, ⟨i8, j8⟩⟩ := id h1
  have r_h : sd_R h := hok (.inl h) (by simp)
  have r_k : sd_R k := hok (.inl k) (by simp)
  show sd_Wp sd_SM 1 sY11_isOf 0 [some (.inr 15), some (.inl h), some (.inl k), none] [] m _
  refine sd_aload_n sD11_isOf_0 rfl ?_
  refine sd_iload_n sD11_isOf_1 rfl ?_
  refine sd_callVp (as := [.inl h]) (st := []) (v := .inl (x (10 + h.toNat))) sD11_isOf_2 sM11_64 sOM15 rfl rfl rfl (by decide) (Nat.le_of_ble_eq_true rfl) (cM_kindOf h _ m hx  (by omega)) (fun ho2 => ?_)
  refine sd_istore_n (ls' := [some (.inr 15), some (.inl h), some (.inl k), some (.inl (x (10 + h.toNat)))]) sD11_isOf_5 (by decide) rfl ?_
  refine sd_iload_n sD11_isOf_6 rfl ?_
  refine sd_if_eq (tgt := 35) sD11_isOf_7 (by decide) (fun zc7 => ?_) (fun zc7 => ?_)
  ·
    refine sd_iconst sD11_isOf_35 (by decide) ?_
    refine sd_goto (tgt := 40) sD11_isOf_36 (by decide) ?_
    refine sd_zretp sD11_isOf_40 rfl (by decide) ?_
    exact (sd_b1 (by omega)).symm
  ·
    refine sd_iload_n sD11_isOf_10 rfl ?_
    refine sd_iload_n sD11_isOf_11 rfl ?_
    refine sd_icmp_eq (tgt := 35) sD11_isOf_12 (by decide) (fun zc12 => ?_) (fun zc12 => ?_)
    ·
      refine sd_iconst sD11_isOf_35 (by decide) ?_
      refine sd_goto (tgt := 40) sD11_isOf_36 (by decide) ?_
      refine sd_zretp sD11_isOf_40 rfl (by decide) ?_
      exact (sd_b1 (by omega)).symm
    ·
      refine sd_iload_n sD11_isOf_15 rfl ?_
      refine sd_iconst sD11_isOf_16 (by decide) ?_
      refine sd_icmp_ne (tgt := 25) sD11_isOf_17 (by decide) (fun zc17 => ?_) (fun zc17 => ?_)
      ·
        refine sd_iload_n sD11_isOf_25 rfl ?_
        refine sd_iconst sD11_isOf_26 (by decide) ?_
        refine sd_icmp_ne (tgt := 39) sD11_isOf_27 (by decide) (fun zc27 => ?_) (fun zc27 => ?_)
        ·
          refine sd_iconst sD11_isOf_39 (by decide) ?_
          refine sd_zretp sD11_isOf_40 rfl (by decide) ?_
          exact (sd_b0 (by omega)).symm
        ·
          refine sd_iload_n sD11_isOf_30 rfl ?_
          refine sd_iconst sD11_isOf_31 (by decide) ?_
          refine sd_icmp_ne (tgt := 39) sD11_isOf_32 (by decide) (fun zc32 => ?_) (fun zc32 => ?_)
          ·
            refine sd_iconst sD11_isOf_39 (by decide) ?_
            refine sd_zretp sD11_isOf_40 rfl (by decide) ?_
            exact (sd_b0 (by omega)).symm
          ·
            refine sd_iconst sD11_isOf_35 (by decide) ?_
            refine sd_goto (tgt := 40) sD11_isOf_36 (by decide) ?_
            refine sd_zretp sD11_isOf_40 rfl (by decide) ?_
            exact (sd_b1 (by omega)).symm
      ·
        refine sd_iload_n sD11_isOf_20 rfl ?_
        refine sd_iconst sD11_isOf_21 (by decide) ?_
        refine sd_icmp_eq (tgt := 35) sD11_isOf_22 (by decide) (fun zc22 => ?_) (fun zc22 => ?_)
        ·
          refine sd_iconst sD11_isOf_35 (by decide) ?_
          refine sd_goto (tgt := 40) sD11_isOf_36 (by decide) ?_
          refine sd_zretp sD11_isOf_40 rfl (by decide) ?_
          exact (sd_b1 (by omega)).symm
        ·
          refine sd_iload_n sD11_isOf_25 rfl ?_
          refine sd_iconst sD11_isOf_26 (by decide) ?_
          refine sd_icmp_ne (tgt := 39) sD11_isOf_27 (by decide) (fun zc27 => ?_) (fun zc27 => ?_)
          ·
            refine sd_iconst sD11_isOf_39 (by decide) ?_
            refine sd_zretp sD11_isOf_40 rfl (by decide) ?_
            exact (sd_b0 (by omega)).symm
          ·
            refine sd_iload_n sD11_isOf_30 rfl ?_
            refine sd_iconst sD11_isOf_31 (by decide) ?_
            refine sd_icmp_ne (tgt := 39) sD11_isOf_32 (by decide) (fun zc32 => ?_) (fun zc32 => ?_)
            ·
              refine sd_iconst sD11_isOf_39 (by decide) ?_
              refine sd_zretp sD11_isOf_40 rfl (by decide) ?_
              exact (sd_b0 (by omega)).symm
            ·
              refine sd_iconst sD11_isOf_35 (by decide) ?_
              refine sd_goto (tgt := 40) sD11_isOf_36 (by decide) ?_
              refine sd_zretp sD11_isOf_40 rfl (by decide) ?_
              exact (sd_b1 (by omega)).symm
