set_option maxRecDepth 100000 in
set_option maxHeartbeats 4000000 in
theorem pM_hear (i : Int) (v : Int) (x m : sd_M) (hx : sd_ns x m) (h1 : sd_I1 x) (h4 : sd_I4 x) (hF : ∀ k : Nat, k < 7 → 0 ≤ x (4101 + k) ∧ x (4101 + k) ≤ 1000000) : sd_Ct sd_SM 3 sY11_hear [.inr 15, .inl i, .inl v] m (sd_Qp (sp_hear x i v)) := by
  refine sd_ct rfl (Nat.le_of_ble_eq_true rfl) (fun hok hm => ?_)
  obtain ⟨⟨i0, j0⟩, ⟨i1, j1⟩, ⟨i2, j2⟩, ⟨i3, j3⟩, ⟨i4, j4⟩, ⟨i5, j5⟩, ⟨i6, j6⟩, ⟨i7, j7⟩, ⟨i8, j8⟩⟩ := id h1
  have r_i : sd_R i := hok (.inl i) (by simp)
  have r_v : sd_R v := hok (.inl v) (by simp)
  show sd_Wp sd_SM 3 sY11_hear 0 [some (.inr 15), some (.inl i), some (.inl v), none] [] m _
  refine sd_aload_n sD11_hear_0 rfl ?_
  refine sd_iload_n sD11_hear_1 rfl ?_
  refine sd_callVp (as := [.inl i]) (st := []) (v := .inl (sd_b (sd_isM x i))) sD11_hear_2 sM11_103 sOM15 rfl rfl rfl (by decide) (Nat.le_of_ble_eq_true rfl) (cM_isMan i _ m hx h1 ) (fun ho2 => ?_)
  refine sd_bif_eq (tgt := 19) sD11_hear_5 (by decide) (fun zc5 => ?_) (fun zc5 => ?_)
  ·
    refine sd_aload_n sD11_hear_19 rfl ?_
    refine sd_iconst sD11_hear_20 (by decide) ?_
    refine sd_callV (as := [.inl 0]) (st := []) sD11_hear_21 sM11_78 rfl rfl sOM15 rfl (by decide) (Nat.le_of_ble_eq_true rfl) (cM_finding 0 (by decide) _ m hx (hF 0 (by decide))) (fun r m hq ho21 hm => ?_)
    obtain ⟨rfl, hx⟩ := hq
    show sd_Wp sd_SM 3 sY11_hear 24 [some (.inr 15), some (.inl i), some (.inl v), none] [.inl (-1000001)] m _
    refine sd_ireturn sD11_hear_24 rfl (fun hr hm => ?_)
    exact sd_done (by unfold sp_hear; ((repeat (first | rw [if_pos (by first | assumption | omega)] | rw [if_neg (by first | assumption | omega)])); try (first | rfl | (simp only [Prod.mk.injEq]; exact ⟨by omega, by congr 1; omega⟩)))) hx
  ·
    refine sd_iload_n sD11_hear_8 rfl ?_
    refine sd_bipush sD11_hear_9 rfl (by decide) ?_
    refine sd_bipush sD11_hear_11 rfl (by decide) ?_
    refine sd_callSp (as := [.inl v, .inl (-20), .inl 20]) (st := []) (v := .inl (sd_b ((-20) ≤ v ∧ v ≤ 20))) sD11_hear_13 sM11_56 rfl rfl (by decide) (Nat.le_of_ble_eq_true rfl) (cM_in v (-20) 20 m) (fun ho13 => ?_)
    refine sd_bif_ne (tgt := 25) sD11_hear_16 (by decide) (fun zc16 => ?_) (fun zc16 => ?_)
    ·
      have e4 := (h4 i.toNat (by omega)).1
      have e5 := (h4 i.toNat (by omega)).2.1
      refine sd_aload_n sD11_hear_25 rfl ?_
      refine sd_getfr sD11_hear_26 sF11_7 sGM15_0 ?_
      refine sd_sipush sD11_hear_29 rfl (by decide) ?_
      refine sd_iload_n sD11_hear_32 rfl ?_
      refine sd_iadd (z := (322 + i)) sD11_hear_33 (by omega) (by omega) ?_
      refine sd_ialdx (a := (322 + i.toNat)) (v := x (322 + i.toNat)) hx sD11_hear_34 sAM0 (by omega) rfl ?_
      refine sd_if_ge (tgt := 44) sD11_hear_35 (by decide) (fun zc35 => ?_) (fun zc35 => ?_)
      ·
        refine sd_aload_n sD11_hear_44 rfl ?_
        refine sd_getfr sD11_hear_45 sF11_7 sGM15_0 ?_
        refine sd_sipush sD11_hear_48 rfl (by decide) ?_
        refine sd_iload_n sD11_hear_51 rfl ?_
        refine sd_iadd (z := (338 + i)) sD11_hear_52 (by omega) (by omega) ?_
        refine sd_ialdx (a := (338 + i.toNat)) (v := x (338 + i.toNat)) hx sD11_hear_53 sAM0 (by omega) rfl ?_
        refine sd_iload_n sD11_hear_54 rfl ?_
        refine sd_iadd (z := (x (338 + i.toNat) + v)) sD11_hear_55 (by omega) (by omega) ?_
        refine sd_istore_n (ls' := [some (.inr 15), some (.inl i), some (.inl v), some (.inl (x (338 + i.toNat) + v))]) sD11_hear_56 (by decide) rfl ?_
        refine sd_aload_n sD11_hear_57 rfl ?_
        refine sd_getfr sD11_hear_58 sF11_7 sGM15_0 ?_
        refine sd_sipush sD11_hear_61 rfl (by decide) ?_
        refine sd_iload_n sD11_hear_64 rfl ?_
        refine sd_iadd (z := (338 + i)) sD11_hear_65 (by omega) (by omega) ?_
        refine sd_iload_n sD11_hear_66 rfl ?_
        refine sd_if_ge (tgt := 74) sD11_hear_67 (by decide) (fun zc67 => ?_) (fun zc67 => ?_)
        ·
          refine sd_iload_n sD11_hear_74 rfl ?_
          refine sd_bipush sD11_hear_75 rfl (by decide) ?_
          refine sd_icmp_le (tgt := 85) sD11_hear_77 (by decide) (fun zc77 => ?_) (fun zc77 => ?_)
          ·
            refine sd_iload_n sD11_hear_85 rfl ?_
            refine sd_iastx (a := (338 + i.toNat)) sd_sokM hx sD11_hear_86 sAM0 (by omega) (fun m hx em86 => ?_)
            refine sd_aload_n sD11_hear_87 rfl ?_
            refine sd_getfr sD11_hear_88 sF11_7 sGM15_0 ?_
            refine sd_sipush sD11_hear_91 rfl (by decide) ?_
            refine sd_iload_n sD11_hear_94 rfl ?_
            refine sd_iadd (z := (338 + i)) sD11_hear_95 (by omega) (by omega) ?_
            refine sd_ialdx (a := (338 + i.toNat)) (v := (x (338 + i.toNat) + v)) hx sD11_hear_96 sAM0 (by omega) (by simp only [sd_up]; first | (simp; done) | (repeat (first | rw [if_pos (by first | trivial | omega)] | rw [if_neg (by omega)]))) ?_
            refine sd_ireturn sD11_hear_97 rfl (fun hr hm => ?_)
            exact sd_done (by unfold sp_hear; ((repeat (first | rw [if_pos (by first | assumption | omega)] | rw [if_neg (by first | assumption | omega)])); try (first | rfl | (simp only [Prod.mk.injEq]; exact ⟨by omega, by congr 1; omega⟩)))) hx
          ·
            refine sd_bipush sD11_hear_80 rfl (by decide) ?_
            refine sd_goto (tgt := 86) sD11_hear_82 (by decide) ?_
            refine sd_iastx (a := (338 + i.toNat)) sd_sokM hx sD11_hear_86 sAM0 (by omega) (fun m hx em86 => ?_)
            refine sd_aload_n sD11_hear_87 rfl ?_
            refine sd_getfr sD11_hear_88 sF11_7 sGM15_0 ?_
            refine sd_sipush sD11_hear_91 rfl (by decide) ?_
            refine sd_iload_n sD11_hear_94 rfl ?_
            refine sd_iadd (z := (338 + i)) sD11_hear_95 (by omega) (by omega) ?_
            refine sd_ialdx (a := (338 + i.toNat)) (v := 99) hx sD11_hear_96 sAM0 (by omega) (by simp only [sd_up]; first | (simp; done) | (repeat (first | rw [if_pos (by first | trivial | omega)] | rw [if_neg (by omega)]))) ?_
            refine sd_ireturn sD11_hear_97 rfl (fun hr hm => ?_)
            exact sd_done (by unfold sp_hear; ((repeat (first | rw [if_pos (by first | assumption | omega)] | rw [if_neg (by first | assumption | omega)])); try (first | rfl | (simp only [Prod.mk.injEq]; exact ⟨by omega, by congr 1; omega⟩)))) hx
        ·
          refine sd_iconst sD11_hear_70 (by decide) ?_
          refine sd_goto (tgt := 86) sD11_hear_71 (by decide) ?_
          refine sd_iastx (a := (338 + i.toNat)) sd_sokM hx sD11_hear_86 sAM0 (by omega) (fun m hx em86 => ?_)
          refine sd_aload_n sD11_hear_87 rfl ?_
          refine sd_getfr sD11_hear_88 sF11_7 sGM15_0 ?_
          refine sd_sipush sD11_hear_91 rfl (by decide) ?_
          refine sd_iload_n sD11_hear_94 rfl ?_
          refine sd_iadd (z := (338 + i)) sD11_hear_95 (by omega) (by omega) ?_
          refine sd_ialdx (a := (338 + i.toNat)) (v := 0) hx sD11_hear_96 sAM0 (by omega) (by simp only [sd_up]; first | (simp; done) | (repeat (first | rw [if_pos (by first | trivial | omega)] | rw [if_neg (by omega)]))) ?_
          refine sd_ireturn sD11_hear_97 rfl (fun hr hm => ?_)
          exact sd_done (by unfold sp_hear; ((repeat (first | rw [if_pos (by first | assumption | omega)] | rw [if_neg (by first | assumption | omega)])); try (first | rfl | (simp only [Prod.mk.injEq]; exact ⟨by omega, by congr 1; omega⟩)))) hx
      ·
        refine sd_aload_n sD11_hear_38 rfl ?_
        refine sd_iconst sD11_hear_39 (by decide) ?_
        refine sd_callV (as := [.inl 4]) (st := []) sD11_hear_40 sM11_78 rfl rfl sOM15 rfl (by decide) (Nat.le_of_ble_eq_true rfl) (cM_finding 4 (by decide) _ m hx (hF 4 (by decide))) (fun r m hq ho40 hm => ?_)
        obtain ⟨rfl, hx⟩ := hq
        show sd_Wp sd_SM 3 sY11_hear 43 [some (.inr 15), some (.inl i), some (.inl v), none] [.inl (-1000005)] m _
        refine sd_ireturn sD11_hear_43 rfl (fun hr hm => ?_)
        exact sd_done (by unfold sp_hear; ((repeat (first | rw [if_pos (by first | assumption | omega)] | rw [if_neg (by first | assumption | omega)])); try (first | rfl | (simp only [Prod.mk.injEq]; exact ⟨by omega, by congr 1; omega⟩)))) hx
    ·
      refine sd_aload_n sD11_hear_19 rfl ?_
      refine sd_iconst sD11_hear_20 (by decide) ?_
      refine sd_callV (as := [.inl 0]) (st := []) sD11_hear_21 sM11_78 rfl rfl sOM15 rfl (by decide) (Nat.le_of_ble_eq_true rfl) (cM_finding 0 (by decide) _ m hx (hF 0 (by decide))) (fun r m hq ho21 hm => ?_)
      obtain ⟨rfl, hx⟩ := hq
      show sd_Wp sd_SM 3 sY11_hear 24 [some (.inr 15), some (.inl i), some (.inl v), none] [.inl (-1000001)] m _
      refine sd_ireturn sD11_hear_24 rfl (fun hr hm => ?_)
      exact sd_done (by unfold sp_hear; ((repeat (first | rw [if_pos (by first | assumption | omega)] | rw [if_neg (by first | assumption | omega)])); try (first | rfl | (simp only [Prod.mk.injEq]; exact ⟨by omega, by congr 1; omega⟩)))) hx
