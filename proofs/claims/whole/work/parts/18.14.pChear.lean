set_option maxRecDepth 100000 in
set_option maxHeartbeats 4000000 in
theorem pC_hear (i : Int) (v : Int) (x m : sd_M) (hx : sd_ns x m) (h1 : sd_I1 x) (h4 : sd_I4 x) (hF : ∀ k : Nat, k < 7 → 0 ≤ x (4101 + k) ∧ x (4101 + k) ≤ 1000000) : sd_Ct sd_SC 3 sY10_hear [.inr 120, .inl i, .inl v] m (sd_Qp (sp_hear x i v)) := by
  refine sd_ct rfl (Nat.le_of_ble_eq_true rfl) (fun hok hm => ?_)
  obtain ⟨⟨i0, j0⟩, ⟨i1, j1⟩, ⟨i2, j2⟩, ⟨i3, j3⟩, ⟨i4, j4⟩, ⟨i5, j5⟩, ⟨i6, j6⟩, ⟨i7, j7⟩, ⟨i8, j8⟩⟩ := id h1
  have r_i : sd_R i := hok (.inl i) (by simp)
  have r_v : sd_R v := hok (.inl v) (by simp)
  show sd_Wp sd_SC 3 sY10_hear 0 [some (.inr 120), some (.inl i), some (.inl v), none] [] m _
  refine sd_aload_n sD10_hear_0 rfl ?_
  refine sd_getfr sD10_hear_1 sF10_10 sGC120_0 ?_
  refine sd_getfr sD10_hear_4 sF10_106 sGC53_3 ?_
  refine sd_iload_n sD10_hear_7 rfl ?_
  refine sd_callVp (as := [.inl i]) (st := []) (v := .inl (sd_b (sd_isM x i))) sD10_hear_8 sM10_116 sOC18 rfl rfl rfl (by decide) (Nat.le_of_ble_eq_true rfl) (cC_has i _ m hx h1 ) (fun ho8 => ?_)
  refine sd_bif_eq (tgt := 25) sD10_hear_11 (by decide) (fun zc11 => ?_) (fun zc11 => ?_)
  ·
    refine sd_aload_n sD10_hear_25 rfl ?_
    refine sd_ldc (z := -1000001) sD10_hear_26 sK10_51 (by decide) ?_
    refine sd_callV (as := [.inl (-1000001)]) (st := []) sD10_hear_28 sM10_52 rfl rfl sOC120 rfl (by decide) (Nat.le_of_ble_eq_true rfl) (cC_found (-1000001) 0 (by decide) (by decide) _ m hx (hF 0 (by decide))) (fun r m hq ho28 hm => ?_)
    obtain ⟨rfl, hx⟩ := hq
    show sd_Wp sd_SC 3 sY10_hear 31 [some (.inr 120), some (.inl i), some (.inl v), none] [.inl (-1000001)] m _
    refine sd_ireturn sD10_hear_31 rfl (fun hr hm => ?_)
    exact sd_done (by unfold sp_hear; ((repeat (first | rw [if_pos (by first | assumption | omega)] | rw [if_neg (by first | assumption | omega)])); try (first | rfl | (simp only [Prod.mk.injEq]; exact ⟨by omega, by congr 1; omega⟩)))) hx
  ·
    refine sd_iload_n sD10_hear_14 rfl ?_
    refine sd_bipush sD10_hear_15 rfl (by decide) ?_
    refine sd_bipush sD10_hear_17 rfl (by decide) ?_
    refine sd_callSp (as := [.inl v, .inl (-20), .inl 20]) (st := []) (v := .inl (sd_b ((-20) ≤ v ∧ v ≤ 20))) sD10_hear_19 sM10_65 rfl rfl (by decide) (Nat.le_of_ble_eq_true rfl) (cC_isWithin v (-20) 20 m) (fun ho19 => ?_)
    refine sd_bif_ne (tgt := 32) sD10_hear_22 (by decide) (fun zc22 => ?_) (fun zc22 => ?_)
    ·
      have e4 := (h4 i.toNat (by omega)).1
      have e5 := (h4 i.toNat (by omega)).2.1
      refine sd_aload_n sD10_hear_32 rfl ?_
      refine sd_getfr sD10_hear_33 sF10_10 sGC120_0 ?_
      refine sd_getfr sD10_hear_36 sF10_106 sGC53_3 ?_
      refine sd_getfr sD10_hear_39 sF10_120 sGC18_1 ?_
      refine sd_iload_n sD10_hear_42 rfl ?_
      refine sd_ialdx (a := (322 + i.toNat)) (v := x (322 + i.toNat)) hx sD10_hear_43 sAC14 (by omega) rfl ?_
      refine sd_iconst sD10_hear_44 (by decide) ?_
      refine sd_icmp_ne (tgt := 55) sD10_hear_45 (by decide) (fun zc45 => ?_) (fun zc45 => ?_)
      ·
        refine sd_iconst sD10_hear_55 (by decide) ?_
        refine sd_bipush sD10_hear_56 rfl (by decide) ?_
        refine sd_aload_n sD10_hear_58 rfl ?_
        refine sd_getfr sD10_hear_59 sF10_10 sGC120_0 ?_
        refine sd_getfr sD10_hear_62 sF10_106 sGC53_3 ?_
        refine sd_getfr sD10_hear_65 sF10_131 sGC18_2 ?_
        refine sd_iload_n sD10_hear_68 rfl ?_
        refine sd_ialdx (a := (338 + i.toNat)) (v := x (338 + i.toNat)) hx sD10_hear_69 sAC15 (by omega) rfl ?_
        refine sd_iload_n sD10_hear_70 rfl ?_
        refine sd_iadd (z := (x (338 + i.toNat) + v)) sD10_hear_71 (by omega) (by omega) ?_
        refine sd_mmin sD10_hear_72 sM10_134 (by decide) (Nat.le_of_ble_eq_true rfl) ?_
        refine sd_mmax sD10_hear_75 sM10_139 (by decide) (Nat.le_of_ble_eq_true rfl) ?_
        refine sd_istore_n (ls' := [some (.inr 120), some (.inl i), some (.inl v), some (.inl (max 0 (min 99 (x (338 + i.toNat) + v))))]) sD10_hear_78 (by decide) rfl ?_
        refine sd_aload_n sD10_hear_79 rfl ?_
        refine sd_getfr sD10_hear_80 sF10_10 sGC120_0 ?_
        refine sd_getfr sD10_hear_83 sF10_106 sGC53_3 ?_
        refine sd_getfr sD10_hear_86 sF10_131 sGC18_2 ?_
        refine sd_iload_n sD10_hear_89 rfl ?_
        refine sd_iload_n sD10_hear_90 rfl ?_
        refine sd_iastx (a := (338 + i.toNat)) sd_sokC hx sD10_hear_91 sAC15 (by omega) (fun m hx em91 => ?_)
        refine sd_iload_n sD10_hear_92 rfl ?_
        refine sd_ireturn sD10_hear_93 rfl (fun hr hm => ?_)
        exact sd_done (by unfold sp_hear; ((repeat (first | rw [if_pos (by first | assumption | omega)] | rw [if_neg (by first | assumption | omega)])); try (first | rfl | (simp only [Prod.mk.injEq]; exact ⟨by omega, by congr 1; omega⟩)))) hx
      ·
        refine sd_aload_n sD10_hear_48 rfl ?_
        refine sd_ldc (z := -1000005) sD10_hear_49 sK10_123 (by decide) ?_
        refine sd_callV (as := [.inl (-1000005)]) (st := []) sD10_hear_51 sM10_52 rfl rfl sOC120 rfl (by decide) (Nat.le_of_ble_eq_true rfl) (cC_found (-1000005) 4 (by decide) (by decide) _ m hx (hF 4 (by decide))) (fun r m hq ho51 hm => ?_)
        obtain ⟨rfl, hx⟩ := hq
        show sd_Wp sd_SC 3 sY10_hear 54 [some (.inr 120), some (.inl i), some (.inl v), none] [.inl (-1000005)] m _
        refine sd_ireturn sD10_hear_54 rfl (fun hr hm => ?_)
        exact sd_done (by unfold sp_hear; ((repeat (first | rw [if_pos (by first | assumption | omega)] | rw [if_neg (by first | assumption | omega)])); try (first | rfl | (simp only [Prod.mk.injEq]; exact ⟨by omega, by congr 1; omega⟩)))) hx
    ·
      refine sd_aload_n sD10_hear_25 rfl ?_
      refine sd_ldc (z := -1000001) sD10_hear_26 sK10_51 (by decide) ?_
      refine sd_callV (as := [.inl (-1000001)]) (st := []) sD10_hear_28 sM10_52 rfl rfl sOC120 rfl (by decide) (Nat.le_of_ble_eq_true rfl) (cC_found (-1000001) 0 (by decide) (by decide) _ m hx (hF 0 (by decide))) (fun r m hq ho28 hm => ?_)
      obtain ⟨rfl, hx⟩ := hq
      show sd_Wp sd_SC 3 sY10_hear 31 [some (.inr 120), some (.inl i), some (.inl v), none] [.inl (-1000001)] m _
      refine sd_ireturn sD10_hear_31 rfl (fun hr hm => ?_)
      exact sd_done (by unfold sp_hear; ((repeat (first | rw [if_pos (by first | assumption | omega)] | rw [if_neg (by first | assumption | omega)])); try (first | rfl | (simp only [Prod.mk.injEq]; exact ⟨by omega, by congr 1; omega⟩)))) hx
