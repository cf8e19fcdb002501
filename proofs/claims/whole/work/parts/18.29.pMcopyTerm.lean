set_option maxRecDepth 100000 in
set_option maxHeartbeats 4000000 in
theorem pM_copyTerm (h : Int) (c : Int) (v : Int) (x m : sd_M) (hx : sd_ns x m) (h1 : sd_I1 x) (h2 : sd_I2 x) (hF : ∀ k : Nat, k < 7 → 0 ≤ x (4101 + k) ∧ x (4101 + k) ≤ 1000000) : sd_Ct sd_SM 3 sY11_copyTerm [.inr 15, .inl h, .inl c, .inl v] m (sd_Qp (sp_copyTerm x h c v)) := by
  refine sd_ct rfl (Nat.le_of_ble_eq_true rfl) (fun hok hm => ?_)
  obtain ⟨⟨i0, j0⟩, ⟨i1, j1⟩, ⟨i2, j2⟩, ⟨i3, j3⟩, ⟨i4, j4⟩, ⟨i5, j5⟩, ⟨i6, j6⟩, ⟨i7, j7⟩, ⟨i8, j8⟩⟩ := id h1
  have r_h : sd_R h := hok (.inl h) (by simp)
  have r_c : sd_R c := hok (.inl c) (by simp)
  have r_v : sd_R v := hok (.inl v) (by simp)
  show sd_Wp sd_SM 3 sY11_copyTerm 0 [some (.inr 15), some (.inl h), some (.inl c), some (.inl v)] [] m _
  refine sd_aload_n sD11_copyTerm_0 rfl ?_
  refine sd_iload_n sD11_copyTerm_1 rfl ?_
  refine sd_callVp (as := [.inl h]) (st := []) (v := .inl (sd_b (sd_isH x h))) sD11_copyTerm_2 sM11_60 sOM15 rfl rfl rfl (by decide) (Nat.le_of_ble_eq_true rfl) (cM_isHold h _ m hx h1 ) (fun ho2 => ?_)
  refine sd_bif_eq (tgt := 28) sD11_copyTerm_5 (by decide) (fun zc5 => ?_) (fun zc5 => ?_)
  ·
    refine sd_aload_n sD11_copyTerm_28 rfl ?_
    refine sd_iconst sD11_copyTerm_29 (by decide) ?_
    refine sd_callV (as := [.inl 0]) (st := []) sD11_copyTerm_30 sM11_78 rfl rfl sOM15 rfl (by decide) (Nat.le_of_ble_eq_true rfl) (cM_finding 0 (by decide) _ m hx (hF 0 (by decide))) (fun r m hq ho30 hm => ?_)
    obtain ⟨rfl, hx⟩ := hq
    show sd_Wp sd_SM 3 sY11_copyTerm 33 [some (.inr 15), some (.inl h), some (.inl c), some (.inl v)] [.inl (-1000001)] m _
    refine sd_ireturn sD11_copyTerm_33 rfl (fun hr hm => ?_)
    exact sd_done (by unfold sp_copyTerm; ((repeat (first | rw [if_pos (by first | assumption | omega)] | rw [if_neg (by first | assumption | omega)])); try (first | rfl | (simp [sd_up] at zc77; simp only [Prod.mk.injEq, and_true]; first | exact sd_b1 (by omega) | exact sd_b0 (by omega))))) hx
  ·
    refine sd_iload_n sD11_copyTerm_8 rfl ?_
    refine sd_iconst sD11_copyTerm_9 (by decide) ?_
    refine sd_bipush sD11_copyTerm_10 rfl (by decide) ?_
    refine sd_callSp (as := [.inl c, .inl 0, .inl 99]) (st := []) (v := .inl (sd_b (0 ≤ c ∧ c ≤ 99))) sD11_copyTerm_12 sM11_56 rfl rfl (by decide) (Nat.le_of_ble_eq_true rfl) (cM_in c 0 99 m) (fun ho12 => ?_)
    refine sd_bif_eq (tgt := 28) sD11_copyTerm_15 (by decide) (fun zc15 => ?_) (fun zc15 => ?_)
    ·
      refine sd_aload_n sD11_copyTerm_28 rfl ?_
      refine sd_iconst sD11_copyTerm_29 (by decide) ?_
      refine sd_callV (as := [.inl 0]) (st := []) sD11_copyTerm_30 sM11_78 rfl rfl sOM15 rfl (by decide) (Nat.le_of_ble_eq_true rfl) (cM_finding 0 (by decide) _ m hx (hF 0 (by decide))) (fun r m hq ho30 hm => ?_)
      obtain ⟨rfl, hx⟩ := hq
      show sd_Wp sd_SM 3 sY11_copyTerm 33 [some (.inr 15), some (.inl h), some (.inl c), some (.inl v)] [.inl (-1000001)] m _
      refine sd_ireturn sD11_copyTerm_33 rfl (fun hr hm => ?_)
      exact sd_done (by unfold sp_copyTerm; ((repeat (first | rw [if_pos (by first | assumption | omega)] | rw [if_neg (by first | assumption | omega)])); try (first | rfl | (simp [sd_up] at zc77; simp only [Prod.mk.injEq, and_true]; first | exact sd_b1 (by omega) | exact sd_b0 (by omega))))) hx
    ·
      refine sd_iload_n sD11_copyTerm_18 rfl ?_
      refine sd_iconst sD11_copyTerm_19 (by decide) ?_
      refine sd_bipush sD11_copyTerm_20 rfl (by decide) ?_
      refine sd_callSp (as := [.inl v, .inl 0, .inl 99]) (st := []) (v := .inl (sd_b (0 ≤ v ∧ v ≤ 99))) sD11_copyTerm_22 sM11_56 rfl rfl (by decide) (Nat.le_of_ble_eq_true rfl) (cM_in v 0 99 m) (fun ho22 => ?_)
      refine sd_bif_ne (tgt := 34) sD11_copyTerm_25 (by decide) (fun zc25 => ?_) (fun zc25 => ?_)
      ·
        refine sd_aload_n sD11_copyTerm_34 rfl ?_
        refine sd_iload_n sD11_copyTerm_35 rfl ?_
        refine sd_callVp (as := [.inl h]) (st := []) (v := .inl (x (10 + h.toNat))) sD11_copyTerm_36 sM11_64 sOM15 rfl rfl rfl (by decide) (Nat.le_of_ble_eq_true rfl) (cM_kindOf h _ m hx  (by omega)) (fun ho36 => ?_)
        refine sd_bipush sD11_copyTerm_39 rfl (by decide) ?_
        refine sd_icmp_eq (tgt := 50) sD11_copyTerm_41 (by decide) (fun zc41 => ?_) (fun zc41 => ?_)
        ·
          refine sd_aload_n sD11_copyTerm_50 rfl ?_
          refine sd_getfr sD11_copyTerm_51 sF11_7 sGM15_0 ?_
          refine sd_sipush sD11_copyTerm_54 rfl (by decide) ?_
          refine sd_iload_n sD11_copyTerm_57 rfl ?_
          refine sd_iadd (z := (274 + h)) sD11_copyTerm_58 (by omega) (by omega) ?_
          refine sd_iload_n sD11_copyTerm_59 rfl ?_
          refine sd_iastx (a := (274 + h.toNat)) sd_sokM hx sD11_copyTerm_60 sAM0 (by omega) (fun m hx em60 => ?_)
          refine sd_aload_n sD11_copyTerm_61 rfl ?_
          refine sd_getfr sD11_copyTerm_62 sF11_7 sGM15_0 ?_
          refine sd_sipush sD11_copyTerm_65 rfl (by decide) ?_
          refine sd_iload_n sD11_copyTerm_68 rfl ?_
          refine sd_iadd (z := (298 + h)) sD11_copyTerm_69 (by omega) (by omega) ?_
          refine sd_iload_n sD11_copyTerm_70 rfl ?_
          refine sd_iastx (a := (298 + h.toNat)) sd_sokM hx sD11_copyTerm_71 sAM0 (by omega) (fun m hx em71 => ?_)
          refine sd_aload_n sD11_copyTerm_72 rfl ?_
          refine sd_iload_n sD11_copyTerm_73 rfl ?_
          refine sd_callVp (as := [.inl h]) (st := []) (v := .inl (sd_b ((¬ (sd_up (sd_up x (274 + h.toNat) c) (298 + h.toNat) v) (274 + h.toNat) = (sd_up (sd_up x (274 + h.toNat) c) (298 + h.toNat) v) (34 + h.toNat)) ∨ ¬ (sd_up (sd_up x (274 + h.toNat) c) (298 + h.toNat) v) (298 + h.toNat) = (sd_up (sd_up x (274 + h.toNat) c) (298 + h.toNat) v) (58 + h.toNat)))) sD11_copyTerm_74 sM11_205 sOM15 rfl rfl rfl (by decide) (Nat.le_of_ble_eq_true rfl) (cM_isUnlike h _ m hx  (by omega)) (fun ho74 => ?_)
          refine sd_bif_eq (tgt := 84) sD11_copyTerm_77 (by decide) (fun zc77 => ?_) (fun zc77 => ?_)
          ·
            refine sd_iconst sD11_copyTerm_84 (by decide) ?_
            refine sd_ireturn sD11_copyTerm_85 rfl (fun hr hm => ?_)
            exact sd_done (by unfold sp_copyTerm; ((repeat (first | rw [if_pos (by first | assumption | omega)] | rw [if_neg (by first | assumption | omega)])); try (first | rfl | (simp [sd_up] at zc77; simp only [Prod.mk.injEq, and_true]; first | exact sd_b1 (by omega) | exact sd_b0 (by omega))))) hx
          ·
            refine sd_iconst sD11_copyTerm_80 (by decide) ?_
            refine sd_goto (tgt := 85) sD11_copyTerm_81 (by decide) ?_
            refine sd_ireturn sD11_copyTerm_85 rfl (fun hr hm => ?_)
            exact sd_done (by unfold sp_copyTerm; ((repeat (first | rw [if_pos (by first | assumption | omega)] | rw [if_neg (by first | assumption | omega)])); try (first | rfl | (simp [sd_up] at zc77; simp only [Prod.mk.injEq, and_true]; first | exact sd_b1 (by omega) | exact sd_b0 (by omega))))) hx
        ·
          refine sd_aload_n sD11_copyTerm_44 rfl ?_
          refine sd_iconst sD11_copyTerm_45 (by decide) ?_
          refine sd_callV (as := [.inl 2]) (st := []) sD11_copyTerm_46 sM11_78 rfl rfl sOM15 rfl (by decide) (Nat.le_of_ble_eq_true rfl) (cM_finding 2 (by decide) _ m hx (hF 2 (by decide))) (fun r m hq ho46 hm => ?_)
          obtain ⟨rfl, hx⟩ := hq
          show sd_Wp sd_SM 3 sY11_copyTerm 49 [some (.inr 15), some (.inl h), some (.inl c), some (.inl v)] [.inl (-1000003)] m _
          refine sd_ireturn sD11_copyTerm_49 rfl (fun hr hm => ?_)
          exact sd_done (by unfold sp_copyTerm; ((repeat (first | rw [if_pos (by first | assumption | omega)] | rw [if_neg (by first | assumption | omega)])); try (first | rfl | (simp [sd_up] at zc77; simp only [Prod.mk.injEq, and_true]; first | exact sd_b1 (by omega) | exact sd_b0 (by omega))))) hx
      ·
        refine sd_aload_n sD11_copyTerm_28 rfl ?_
        refine sd_iconst sD11_copyTerm_29 (by decide) ?_
        refine sd_callV (as := [.inl 0]) (st := []) sD11_copyTerm_30 sM11_78 rfl rfl sOM15 rfl (by decide) (Nat.le_of_ble_eq_true rfl) (cM_finding 0 (by decide) _ m hx (hF 0 (by decide))) (fun r m hq ho30 hm => ?_)
        obtain ⟨rfl, hx⟩ := hq
        show sd_Wp sd_SM 3 sY11_copyTerm 33 [some (.inr 15), some (.inl h), some (.inl c), some (.inl v)] [.inl (-1000001)] m _
        refine sd_ireturn sD11_copyTerm_33 rfl (fun hr hm => ?_)
        exact sd_done (by unfold sp_copyTerm; ((repeat (first | rw [if_pos (by first | assumption | omega)] | rw [if_neg (by first | assumption | omega)])); try (first | rfl | (simp [sd_up] at zc77; simp only [Prod.mk.injEq, and_true]; first | exact sd_b1 (by omega) | exact sd_b0 (by omega))))) hx
