set_option maxRecDepth 100000 in
set_option maxHeartbeats 4000000 in
theorem pM_cold (h : Int) (v : Int) (x m : sd_M) (hx : sd_ns x m) (h1 : sd_I1 x) (h2 : sd_I2 x) (hF : ∀ k : Nat, k < 7 → 0 ≤ x (4101 + k) ∧ x (4101 + k) ≤ 1000000) : sd_Ct sd_SM 3 sY11_cold [.inr 15, .inl h, .inl v] m (sd_Qp (sp_cold x h v)) := by
  refine sd_ct rfl (Nat.le_of_ble_eq_true rfl) (fun hok hm => ?_)
  obtain ⟨⟨i0, j0⟩, ⟨i1, j1⟩, ⟨i2, j2⟩, ⟨i3, j3⟩, ⟨i4, j4⟩, ⟨i5, j5⟩, ⟨i6, j6⟩, ⟨i7, j7⟩, ⟨i8, j8⟩⟩ := id h1
  have r_h : sd_R h := hok (.inl h) (by simp)
  have r_v : sd_R v := hok (.inl v) (by simp)
  show sd_Wp sd_SM 3 sY11_cold 0 [some (.inr 15), some (.inl h), some (.inl v), none, none] [] m _
  refine sd_aload_n sD11_cold_0 rfl ?_
  refine sd_iload_n sD11_cold_1 rfl ?_
  refine sd_callVp (as := [.inl h]) (st := []) (v := .inl (sd_b (sd_isH x h))) sD11_cold_2 sM11_60 sOM15 rfl rfl rfl (by decide) (Nat.le_of_ble_eq_true rfl) (cM_isHold h _ m hx h1 ) (fun ho2 => ?_)
  refine sd_bif_eq (tgt := 18) sD11_cold_5 (by decide) (fun zc5 => ?_) (fun zc5 => ?_)
  ·
    refine sd_aload_n sD11_cold_18 rfl ?_
    refine sd_iconst sD11_cold_19 (by decide) ?_
    refine sd_callV (as := [.inl 0]) (st := []) sD11_cold_20 sM11_78 rfl rfl sOM15 rfl (by decide) (Nat.le_of_ble_eq_true rfl) (cM_finding 0 (by decide) _ m hx (hF 0 (by decide))) (fun r m hq ho20 hm => ?_)
    obtain ⟨rfl, hx⟩ := hq
    show sd_Wp sd_SM 3 sY11_cold 23 [some (.inr 15), some (.inl h), some (.inl v), none, none] [.inl (-1000001)] m _
    refine sd_ireturn sD11_cold_23 rfl (fun hr hm => ?_)
    exact sd_done (by unfold sp_cold; ((repeat (first | rw [if_pos (by first | assumption | omega)] | rw [if_neg (by first | assumption | omega)])); try rfl); try (rw [zz])) hx
  ·
    refine sd_iload_n sD11_cold_8 rfl ?_
    refine sd_iconst sD11_cold_9 (by decide) ?_
    refine sd_bipush sD11_cold_10 rfl (by decide) ?_
    refine sd_callSp (as := [.inl v, .inl 0, .inl 20]) (st := []) (v := .inl (sd_b (0 ≤ v ∧ v ≤ 20))) sD11_cold_12 sM11_56 rfl rfl (by decide) (Nat.le_of_ble_eq_true rfl) (cM_in v 0 20 m) (fun ho12 => ?_)
    refine sd_bif_ne (tgt := 24) sD11_cold_15 (by decide) (fun zc15 => ?_) (fun zc15 => ?_)
    ·
      refine sd_aload_n sD11_cold_24 rfl ?_
      refine sd_iload_n sD11_cold_25 rfl ?_
      refine sd_callVp (as := [.inl h]) (st := []) (v := .inl (sd_b (sd_isA x h 1))) sD11_cold_26 sM11_72 sOM15 rfl rfl rfl (by decide) (Nat.le_of_ble_eq_true rfl) (cM_isShop h _ m hx h1 h2 ) (fun ho26 => ?_)
      refine sd_bif_ne (tgt := 38) sD11_cold_29 (by decide) (fun zc29 => ?_) (fun zc29 => ?_)
      ·
        refine sd_aload_n sD11_cold_38 rfl ?_
        refine sd_getfr sD11_cold_39 sF11_7 sGM15_0 ?_
        refine sd_bipush sD11_cold_42 rfl (by decide) ?_
        refine sd_iload_n sD11_cold_44 rfl ?_
        refine sd_iadd (z := (82 + h)) sD11_cold_45 (by omega) (by omega) ?_
        refine sd_ialdx (a := (82 + h.toNat)) (v := x (82 + h.toNat)) hx sD11_cold_46 sAM0 (by omega) rfl ?_
        refine sd_istore_n (ls' := [some (.inr 15), some (.inl h), some (.inl v), some (.inl (x (82 + h.toNat))), none]) sD11_cold_47 (by decide) rfl ?_
        refine sd_iconst sD11_cold_48 (by decide) ?_
        refine sd_istore (ls' := [some (.inr 15), some (.inl h), some (.inl v), some (.inl (x (82 + h.toNat))), some (.inl 0)]) sD11_cold_49 (by decide) rfl ?_
        refine sd_forH (100) (fun zi51 : Nat => [some (.inr 15), some (.inl h), some (.inl v), some (.inl (sd_wit x h zi51)), some (.inl (zi51 : Int))]) (fun zi51 : Nat => ∀ j, j < zi51 → ¬ sd_Pc_ x h v j) (by rfl) (fun zi51 hizi51 hhzi51 ihzi51 => ?_) (fun hhzi51 => ?_) (by intro j hj; omega)
        ·
          have e5 := sd_wit_rng h1 h2 (s := h) (by omega) zi51
          refine sd_iload sD11_cold_51 rfl ?_
          refine sd_bipush sD11_cold_53 rfl (by decide) ?_
          refine sd_icmp_ge (tgt := 86) sD11_cold_55 (by decide) (fun zc55 => (by exfalso; omega)) (fun zc55 => ?_)
          refine sd_aload_n sD11_cold_58 rfl ?_
          refine sd_iload_n sD11_cold_59 rfl ?_
          refine sd_iload_n sD11_cold_60 rfl ?_
          refine sd_callVp (as := [.inl h, .inl (sd_wit x h zi51)]) (st := []) (v := .inl (sd_wth x h (sd_wit x h zi51))) sD11_cold_61 sM11_100 sOM15 rfl rfl rfl (by decide) (Nat.le_of_ble_eq_true rfl) (cM_nextWarmth h (sd_wit x h zi51) _ m hx h1 h2 (by omega)) (fun ho61 => ?_)
          refine sd_istore_n (ls' := [some (.inr 15), some (.inl h), some (.inl v), some (.inl (sd_wth x h (sd_wit x h zi51))), some (.inl (zi51 : Int))]) sD11_cold_64 (by decide) rfl ?_
          refine sd_iload_n sD11_cold_65 rfl ?_
          refine sd_iload_n sD11_cold_66 rfl ?_
          refine sd_icmp_gt (tgt := 80) sD11_cold_67 (by decide) (fun zc67 => ?_) (fun zc67 => ?_)
          ·
            refine sd_iinc (y := ((zi51 : Int) + 1)) (ls' := [some (.inr 15), some (.inl h), some (.inl v), some (.inl (sd_wth x h (sd_wit x h zi51))), some (.inl ((zi51 : Int) + 1))]) sD11_cold_80 rfl (by omega) (by omega) (by decide) rfl ?_
            refine sd_goto (tgt := 51) sD11_cold_83 (by decide) ?_
            exact sd_eqw (ls' := [some (.inr 15), some (.inl h), some (.inl v), some (.inl (sd_wit x h (zi51 + 1))), some (.inl ((zi51 + 1 : Nat) : Int))]) (ihzi51 (by exact sd_all_succ hhzi51 (fun (hp : sd_wth x h (sd_wit x h zi51) ≤ v) => by omega))) (by rw [show (sd_wth x h (sd_wit x h zi51) : Int) = sd_wit x h (zi51 + 1) from by rfl, show (((zi51 : Int) + 1) : Int) = ((zi51 + 1 : Nat) : Int) from by omega]) rfl
          ·
            have zz := sd_fc_at h1 hhzi51 zc67 (by omega)
            refine sd_aload_n sD11_cold_70 rfl ?_
            refine sd_getfr sD11_cold_71 sF11_7 sGM15_0 ?_
            refine sd_iconst sD11_cold_74 (by decide) ?_
            refine sd_ialdx (a := 0) (v := x 0) hx sD11_cold_75 sAM0 (by omega) rfl ?_
            refine sd_iload sD11_cold_76 rfl ?_
            refine sd_iadd (z := (x 0 + (zi51 : Int))) sD11_cold_78 (by omega) (by omega) ?_
            refine sd_ireturn sD11_cold_79 rfl (fun hr hm => ?_)
            exact sd_done (by unfold sp_cold; ((repeat (first | rw [if_pos (by first | assumption | omega)] | rw [if_neg (by first | assumption | omega)])); try rfl); try (rw [zz])) hx
        ·
          show sd_Wp sd_SM 3 sY11_cold 51 [some (.inr 15), some (.inl h), some (.inl v), some (.inl (sd_wit x h 100)), some (.inl (100 : Int))] [] m _
          refine sd_iload sD11_cold_51 rfl ?_
          refine sd_bipush sD11_cold_53 rfl (by decide) ?_
          refine sd_icmp_ge (tgt := 86) sD11_cold_55 (by decide) (fun zc55 => ?_) (fun zc55 => (by exfalso; omega))
          have zz := sd_fc_none hhzi51
          refine sd_aload_n sD11_cold_86 rfl ?_
          refine sd_iconst sD11_cold_87 (by decide) ?_
          refine sd_callV (as := [.inl 3]) (st := []) sD11_cold_88 sM11_78 rfl rfl sOM15 rfl (by decide) (Nat.le_of_ble_eq_true rfl) (cM_finding 3 (by decide) _ m hx (hF 3 (by decide))) (fun r m hq ho88 hm => ?_)
          obtain ⟨rfl, hx⟩ := hq
          show sd_Wp sd_SM 3 sY11_cold 91 [some (.inr 15), some (.inl h), some (.inl v), some (.inl (sd_wit x h 100)), some (.inl (100 : Int))] [.inl (-1000004)] m _
          refine sd_ireturn sD11_cold_91 rfl (fun hr hm => ?_)
          exact sd_done (by unfold sp_cold; ((repeat (first | rw [if_pos (by first | assumption | omega)] | rw [if_neg (by first | assumption | omega)])); try rfl); try (rw [zz])) hx
      ·
        refine sd_aload_n sD11_cold_32 rfl ?_
        refine sd_iconst sD11_cold_33 (by decide) ?_
        refine sd_callV (as := [.inl 2]) (st := []) sD11_cold_34 sM11_78 rfl rfl sOM15 rfl (by decide) (Nat.le_of_ble_eq_true rfl) (cM_finding 2 (by decide) _ m hx (hF 2 (by decide))) (fun r m hq ho34 hm => ?_)
        obtain ⟨rfl, hx⟩ := hq
        show sd_Wp sd_SM 3 sY11_cold 37 [some (.inr 15), some (.inl h), some (.inl v), none, none] [.inl (-1000003)] m _
        refine sd_ireturn sD11_cold_37 rfl (fun hr hm => ?_)
        exact sd_done (by unfold sp_cold; ((repeat (first | rw [if_pos (by first | assumption | omega)] | rw [if_neg (by first | assumption | omega)])); try rfl); try (rw [zz])) hx
    ·
      refine sd_aload_n sD11_cold_18 rfl ?_
      refine sd_iconst sD11_cold_19 (by decide) ?_
      refine sd_callV (as := [.inl 0]) (st := []) sD11_cold_20 sM11_78 rfl rfl sOM15 rfl (by decide) (Nat.le_of_ble_eq_true rfl) (cM_finding 0 (by decide) _ m hx (hF 0 (by decide))) (fun r m hq ho20 hm => ?_)
      obtain ⟨rfl, hx⟩ := hq
      show sd_Wp sd_SM 3 sY11_cold 23 [some (.inr 15), some (.inl h), some (.inl v), none, none] [.inl (-1000001)] m _
      refine sd_ireturn sD11_cold_23 rfl (fun hr hm => ?_)
      exact sd_done (by unfold sp_cold; ((repeat (first | rw [if_pos (by first | assumption | omega)] | rw [if_neg (by first | assumption | omega)])); try rfl); try (rw [zz])) hx
