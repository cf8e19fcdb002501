set_option maxRecDepth 100000 in
set_option maxHeartbeats 4000000 in
theorem pC_last (w : Int) (v : Int) (x m : sd_M) (hx : sd_ns x m) (h1 : sd_I1 x) (h2 : sd_I2 x) (h3 : sd_I3 x) (h4 : sd_I4 x) (h5 : sd_I5 x) (h6 : sd_I6 x) (hR : sd_IR x) (hF : ∀ k : Nat, k < 7 → 0 ≤ x (4101 + k) ∧ x (4101 + k) ≤ 1000000) : sd_Ct sd_SC 5 sY10_last [.inr 120, .inl w, .inl v] m (sd_Qp (sp_last x w v)) := by
  refine sd_ct rfl (Nat.le_of_ble_eq_true rfl) (fun hok hm => ?_)
  obtain ⟨⟨i0, j0⟩, ⟨i1, j1⟩, ⟨i2, j2⟩, ⟨i3, j3⟩, ⟨i4, j4⟩, ⟨i5, j5⟩, ⟨i6, j6⟩, ⟨i7, j7⟩, ⟨i8, j8⟩⟩ := id h1
  have r_w : sd_R w := hok (.inl w) (by simp)
  have r_v : sd_R v := hok (.inl v) (by simp)
  show sd_Wp sd_SC 5 sY10_last 0 [some (.inr 120), some (.inl w), some (.inl v), none] [] m _
  refine sd_iload_n sD10_last_0 rfl ?_
  refine sd_iconst sD10_last_1 (by decide) ?_
  refine sd_aload_n sD10_last_2 rfl ?_
  refine sd_getfr sD10_last_3 sF10_10 sGC120_0 ?_
  refine sd_getfr sD10_last_6 sF10_183 sGC53_4 ?_
  refine sd_getfx (v := x 4) hx sD10_last_9 sF10_187 sGC23_0 (by decide) rfl ?_
  refine sd_iconst sD10_last_12 (by decide) ?_
  refine sd_isub (z := (x 4 - 1)) sD10_last_13 (by omega) (by omega) ?_
  refine sd_callSp (as := [.inl w, .inl 0, .inl (x 4 - 1)]) (st := []) (v := .inl (sd_b (0 ≤ w ∧ w ≤ (x 4 - 1)))) sD10_last_14 sM10_65 rfl rfl (by decide) (Nat.le_of_ble_eq_true rfl) (cC_isWithin w 0 (x 4 - 1) m) (fun ho14 => ?_)
  refine sd_bif_eq (tgt := 29) sD10_last_17 (by decide) (fun zc17 => ?_) (fun zc17 => ?_)
  ·
    refine sd_aload_n sD10_last_29 rfl ?_
    refine sd_ldc (z := -1000001) sD10_last_30 sK10_51 (by decide) ?_
    refine sd_callV (as := [.inl (-1000001)]) (st := []) sD10_last_32 sM10_52 rfl rfl sOC120 rfl (by decide) (Nat.le_of_ble_eq_true rfl) (cC_found (-1000001) 0 (by decide) (by decide) _ m hx (hF 0 (by decide))) (fun r m hq ho32 hm => ?_)
    obtain ⟨rfl, hx⟩ := hq
    show sd_Wp sd_SC 5 sY10_last 35 [some (.inr 120), some (.inl w), some (.inl v), none] [.inl (-1000001)] m _
    refine sd_ireturn sD10_last_35 rfl (fun hr hm => ?_)
    exact sd_done (by unfold sp_last; ((repeat (first | rw [if_pos (by first | assumption | omega)] | rw [if_neg (by first | assumption | omega)])); try rfl)) hx
  ·
    refine sd_iload_n sD10_last_20 rfl ?_
    refine sd_iconst sD10_last_21 (by decide) ?_
    refine sd_iconst sD10_last_22 (by decide) ?_
    refine sd_callSp (as := [.inl v, .inl 0, .inl 1]) (st := []) (v := .inl (sd_b (0 ≤ v ∧ v ≤ 1))) sD10_last_23 sM10_65 rfl rfl (by decide) (Nat.le_of_ble_eq_true rfl) (cC_isWithin v 0 1 m) (fun ho23 => ?_)
    refine sd_bif_ne (tgt := 36) sD10_last_26 (by decide) (fun zc26 => ?_) (fun zc26 => ?_)
    ·
      refine sd_aload_n sD10_last_36 rfl ?_
      refine sd_getfr sD10_last_37 sF10_10 sGC120_0 ?_
      refine sd_getfr sD10_last_40 sF10_183 sGC53_4 ?_
      refine sd_iload_n sD10_last_43 rfl ?_
      refine sd_aload_n sD10_last_44 rfl ?_
      refine sd_getfr sD10_last_45 sF10_10 sGC120_0 ?_
      refine sd_aload_n sD10_last_48 rfl ?_
      refine sd_getfr sD10_last_49 sF10_10 sGC120_0 ?_
      refine sd_callV (as := []) (st := [.inr 53, .inl w, .inr 23]) sD10_last_52 sM10_208 rfl rfl sOC53 rfl (by decide) (Nat.le_of_ble_eq_true rfl) (cC_makers _ m hx h1 h2 h4 h6 hR) (fun r m hq ho52 hm => ?_)
      obtain ⟨rfl, hx⟩ := hq
      have zm52 := sd_mks_rng h1
      show sd_Wp sd_SC 5 sY10_last 55 [some (.inr 120), some (.inl w), some (.inl v), none] [.inl (sd_mks x), .inr 53, .inl w, .inr 23] m _
      refine sd_callV (as := [.inl (sd_mks x)]) (st := [.inl w, .inr 23]) sD10_last_55 sM10_212 rfl rfl sOC53 rfl (by decide) (Nat.le_of_ble_eq_true rfl) (cC_madeBy (sd_mks x) _ m hx h1 h2 (sd_mks_A h1 h3 h2 (fun h hh hb => hb))) (fun r m hq ho55 hm => ?_)
      obtain ⟨rfl, hx, hmd55⟩ := hq
      show sd_Wp sd_SC 5 sY10_last 58 [some (.inr 120), some (.inl w), some (.inl v), none] [.inr 52, .inl w, .inr 23] m _
      refine sd_callV (as := [.inl w, .inr 52]) (st := []) sD10_last_58 sM10_216 rfl rfl sOC23 rfl (by decide) (Nat.le_of_ble_eq_true rfl) (cC_hoursI w (sd_kN x) _ m hx h1 h5 (sd_mka_kr h1 h2 _) hmd55 (by omega)) (fun r m hq ho58 hm => ?_)
      obtain ⟨rfl, hx, hlk⟩ := hq
      have e9 := sd_fh_rng x (sd_kN x) w.toNat
      show sd_Wp sd_SC 5 sY10_last 61 [some (.inr 120), some (.inl w), some (.inl v), none] [.inl (sd_fh x (sd_kN x) w.toNat)] m _
      refine sd_istore_n (ls' := [some (.inr 120), some (.inl w), some (.inl v), some (.inl (sd_fh x (sd_kN x) w.toNat))]) sD10_last_61 (by decide) rfl ?_
      refine sd_iload_n sD10_last_62 rfl ?_
      refine sd_iconst sD10_last_63 (by decide) ?_
      refine sd_icmp_ne (tgt := 74) sD10_last_64 (by decide) (fun zc64 => ?_) (fun zc64 => ?_)
      ·
        refine sd_iload_n sD10_last_74 rfl ?_
        refine sd_if_ne (tgt := 90) sD10_last_75 (by decide) (fun zc75 => ?_) (fun zc75 => ?_)
        ·
          refine sd_aload_n sD10_last_90 rfl ?_
          refine sd_getfr sD10_last_91 sF10_10 sGC120_0 ?_
          refine sd_getfr sD10_last_94 sF10_183 sGC53_4 ?_
          refine sd_getfr sD10_last_97 sF10_223 sGC23_4 ?_
          refine sd_iload_n sD10_last_100 rfl ?_
          refine sd_iald (a := (5020 + w.toNat)) sD10_last_101 sAC21 (by omega) ?_
          rw [show m (5020 + w.toNat) = sd_lkA x (sd_kN x) w.toNat (sd_fh x (sd_kN x) w.toNat).toNat from hlk (by assumption)]
          refine sd_ireturn sD10_last_102 rfl (fun hr hm => ?_)
          exact sd_done (by unfold sp_last; ((repeat (first | rw [if_pos (by first | assumption | omega)] | rw [if_neg (by first | assumption | omega)])); try rfl)) hx
        ·
          refine sd_aload_n sD10_last_78 rfl ?_
          refine sd_getfr sD10_last_79 sF10_10 sGC120_0 ?_
          refine sd_getfx (v := x 0) hx sD10_last_82 sF10_220 sGC53_0 (by decide) rfl ?_
          refine sd_iload_n sD10_last_85 rfl ?_
          refine sd_iadd (z := (x 0 + sd_fh x (sd_kN x) w.toNat)) sD10_last_86 (by omega) (by omega) ?_
          refine sd_goto (tgt := 102) sD10_last_87 (by decide) ?_
          refine sd_ireturn sD10_last_102 rfl (fun hr hm => ?_)
          exact sd_done (by unfold sp_last; ((repeat (first | rw [if_pos (by first | assumption | omega)] | rw [if_neg (by first | assumption | omega)])); try rfl)) hx
      ·
        refine sd_aload_n sD10_last_67 rfl ?_
        refine sd_ldc (z := -1000004) sD10_last_68 sK10_130 (by decide) ?_
        refine sd_callV (as := [.inl (-1000004)]) (st := []) sD10_last_70 sM10_52 rfl rfl sOC120 rfl (by decide) (Nat.le_of_ble_eq_true rfl) (cC_found (-1000004) 3 (by decide) (by decide) _ m hx (hF 3 (by decide))) (fun r m hq ho70 hm => ?_)
        obtain ⟨rfl, hx⟩ := hq
        show sd_Wp sd_SC 5 sY10_last 73 [some (.inr 120), some (.inl w), some (.inl v), some (.inl (sd_fh x (sd_kN x) w.toNat))] [.inl (-1000004)] m _
        refine sd_ireturn sD10_last_73 rfl (fun hr hm => ?_)
        exact sd_done (by unfold sp_last; ((repeat (first | rw [if_pos (by first | assumption | omega)] | rw [if_neg (by first | assumption | omega)])); try rfl)) hx
    ·
      refine sd_aload_n sD10_last_29 rfl ?_
      refine sd_ldc (z := -1000001) sD10_last_30 sK10_51 (by decide) ?_
      refine sd_callV (as := [.inl (-1000001)]) (st := []) sD10_last_32 sM10_52 rfl rfl sOC120 rfl (by decide) (Nat.le_of_ble_eq_true rfl) (cC_found (-1000001) 0 (by decide) (by decide) _ m hx (hF 0 (by decide))) (fun r m hq ho32 hm => ?_)
      obtain ⟨rfl, hx⟩ := hq
      show sd_Wp sd_SC 5 sY10_last 35 [some (.inr 120), some (.inl w), some (.inl v), none] [.inl (-1000001)] m _
      refine sd_ireturn sD10_last_35 rfl (fun hr hm => ?_)
      exact sd_done (by unfold sp_last; ((repeat (first | rw [if_pos (by first | assumption | omega)] | rw [if_neg (by first | assumption | omega)])); try rfl)) hx
