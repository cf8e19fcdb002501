set_option maxRecDepth 100000 in
set_option maxHeartbeats 4000000 in
theorem pM_where (i : Int) (w : Int) (x m : sd_M) (hx : sd_ns x m) (h1 : sd_I1 x) (hF : ∀ k : Nat, k < 7 → 0 ≤ x (4101 + k) ∧ x (4101 + k) ≤ 1000000) : sd_Ct sd_SM 2 sY11_where [.inr 15, .inl i, .inl w] m (sd_Qp (sp_where x i w)) := by
  refine sd_ct rfl (Nat.le_of_ble_eq_true rfl) (fun hok hm => ?_)
  obtain ⟨⟨i0, j0⟩, ⟨i1, j1⟩, ⟨i2, j2⟩, ⟨i3, j3⟩, ⟨i4, j4⟩, ⟨i5, j5⟩, ⟨i6, j6⟩, ⟨i7, j7⟩, ⟨i8, j8⟩⟩ := id h1
  have r_i : sd_R i := hok (.inl i) (by simp)
  have r_w : sd_R w := hok (.inl w) (by simp)
  show sd_Wp sd_SM 2 sY11_where 0 [some (.inr 15), some (.inl i), some (.inl w)] [] m _
  refine sd_aload_n sD11_where_0 rfl ?_
  refine sd_iload_n sD11_where_1 rfl ?_
  refine sd_callVp (as := [.inl i]) (st := []) (v := .inl (sd_b (sd_isM x i))) sD11_where_2 sM11_103 sOM15 rfl rfl rfl (by decide) (Nat.le_of_ble_eq_true rfl) (cM_isMan i _ m hx h1 ) (fun ho2 => ?_)
  refine sd_bif_eq (tgt := 17) sD11_where_5 (by decide) (fun zc5 => ?_) (fun zc5 => ?_)
  ·
    refine sd_aload_n sD11_where_17 rfl ?_
    refine sd_iconst sD11_where_18 (by decide) ?_
    refine sd_callV (as := [.inl 0]) (st := []) sD11_where_19 sM11_78 rfl rfl sOM15 rfl (by decide) (Nat.le_of_ble_eq_true rfl) (cM_finding 0 (by decide) _ m hx (hF 0 (by decide))) (fun r m hq ho19 hm => ?_)
    obtain ⟨rfl, hx⟩ := hq
    show sd_Wp sd_SM 2 sY11_where 22 [some (.inr 15), some (.inl i), some (.inl w)] [.inl (-1000001)] m _
    refine sd_ireturn sD11_where_22 rfl (fun hr hm => ?_)
    exact sd_done (by unfold sp_where; ((repeat (first | rw [if_pos (by first | assumption | omega)] | rw [if_neg (by first | assumption | omega)])); try rfl)) hx
  ·
    refine sd_iload_n sD11_where_8 rfl ?_
    refine sd_iconst sD11_where_9 (by decide) ?_
    refine sd_iconst sD11_where_10 (by decide) ?_
    refine sd_callSp (as := [.inl w, .inl 0, .inl 3]) (st := []) (v := .inl (sd_b (0 ≤ w ∧ w ≤ 3))) sD11_where_11 sM11_56 rfl rfl (by decide) (Nat.le_of_ble_eq_true rfl) (cM_in w 0 3 m) (fun ho11 => ?_)
    refine sd_bif_ne (tgt := 23) sD11_where_14 (by decide) (fun zc14 => ?_) (fun zc14 => ?_)
    ·
      refine sd_iload_n sD11_where_23 rfl ?_
      refine sd_if_ne (tgt := 40) sD11_where_24 (by decide) (fun zc24 => ?_) (fun zc24 => ?_)
      ·
        refine sd_iload_n sD11_where_40 rfl ?_
        refine sd_iconst sD11_where_41 (by decide) ?_
        refine sd_icmp_ne (tgt := 58) sD11_where_42 (by decide) (fun zc42 => ?_) (fun zc42 => ?_)
        ·
          refine sd_iload_n sD11_where_58 rfl ?_
          refine sd_iconst sD11_where_59 (by decide) ?_
          refine sd_icmp_ne (tgt := 76) sD11_where_60 (by decide) (fun zc60 => ?_) (fun zc60 => ?_)
          ·
            refine sd_aload_n sD11_where_76 rfl ?_
            refine sd_getfr sD11_where_77 sF11_7 sGM15_0 ?_
            refine sd_sipush sD11_where_80 rfl (by decide) ?_
            refine sd_iload_n sD11_where_83 rfl ?_
            refine sd_iadd (z := (370 + i)) sD11_where_84 (by omega) (by omega) ?_
            refine sd_ialdx (a := (370 + i.toNat)) (v := x (370 + i.toNat)) hx sD11_where_85 sAM0 (by omega) rfl ?_
            refine sd_ireturn sD11_where_86 rfl (fun hr hm => ?_)
            exact sd_done (by unfold sp_where; ((repeat (first | rw [if_pos (by first | assumption | omega)] | rw [if_neg (by first | assumption | omega)])); try rfl)) hx
          ·
            refine sd_aload_n sD11_where_63 rfl ?_
            refine sd_getfr sD11_where_64 sF11_7 sGM15_0 ?_
            refine sd_sipush sD11_where_67 rfl (by decide) ?_
            refine sd_iload_n sD11_where_70 rfl ?_
            refine sd_iadd (z := (354 + i)) sD11_where_71 (by omega) (by omega) ?_
            refine sd_ialdx (a := (354 + i.toNat)) (v := x (354 + i.toNat)) hx sD11_where_72 sAM0 (by omega) rfl ?_
            refine sd_goto (tgt := 86) sD11_where_73 (by decide) ?_
            refine sd_ireturn sD11_where_86 rfl (fun hr hm => ?_)
            exact sd_done (by unfold sp_where; ((repeat (first | rw [if_pos (by first | assumption | omega)] | rw [if_neg (by first | assumption | omega)])); try rfl)) hx
        ·
          refine sd_aload_n sD11_where_45 rfl ?_
          refine sd_getfr sD11_where_46 sF11_7 sGM15_0 ?_
          refine sd_sipush sD11_where_49 rfl (by decide) ?_
          refine sd_iload_n sD11_where_52 rfl ?_
          refine sd_iadd (z := (338 + i)) sD11_where_53 (by omega) (by omega) ?_
          refine sd_ialdx (a := (338 + i.toNat)) (v := x (338 + i.toNat)) hx sD11_where_54 sAM0 (by omega) rfl ?_
          refine sd_goto (tgt := 86) sD11_where_55 (by decide) ?_
          refine sd_ireturn sD11_where_86 rfl (fun hr hm => ?_)
          exact sd_done (by unfold sp_where; ((repeat (first | rw [if_pos (by first | assumption | omega)] | rw [if_neg (by first | assumption | omega)])); try rfl)) hx
      ·
        refine sd_aload_n sD11_where_27 rfl ?_
        refine sd_getfr sD11_where_28 sF11_7 sGM15_0 ?_
        refine sd_sipush sD11_where_31 rfl (by decide) ?_
        refine sd_iload_n sD11_where_34 rfl ?_
        refine sd_iadd (z := (322 + i)) sD11_where_35 (by omega) (by omega) ?_
        refine sd_ialdx (a := (322 + i.toNat)) (v := x (322 + i.toNat)) hx sD11_where_36 sAM0 (by omega) rfl ?_
        refine sd_goto (tgt := 86) sD11_where_37 (by decide) ?_
        refine sd_ireturn sD11_where_86 rfl (fun hr hm => ?_)
        exact sd_done (by unfold sp_where; ((repeat (first | rw [if_pos (by first | assumption | omega)] | rw [if_neg (by first | assumption | omega)])); try rfl)) hx
    ·
      refine sd_aload_n sD11_where_17 rfl ?_
      refine sd_iconst sD11_where_18 (by decide) ?_
      refine sd_callV (as := [.inl 0]) (st := []) sD11_where_19 sM11_78 rfl rfl sOM15 rfl (by decide) (Nat.le_of_ble_eq_true rfl) (cM_finding 0 (by decide) _ m hx (hF 0 (by decide))) (fun r m hq ho19 hm => ?_)
      obtain ⟨rfl, hx⟩ := hq
      show sd_Wp sd_SM 2 sY11_where 22 [some (.inr 15), some (.inl i), some (.inl w)] [.inl (-1000001)] m _
      refine sd_ireturn sD11_where_22 rfl (fun hr hm => ?_)
      exact sd_done (by unfold sp_where; ((repeat (first | rw [if_pos (by first | assumption | omega)] | rw [if_neg (by first | assumption | omega)])); try rfl)) hx
