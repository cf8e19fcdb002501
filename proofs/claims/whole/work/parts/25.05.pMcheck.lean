set_option maxRecDepth 100000 in
set_option maxHeartbeats 4000000 in
theorem pM_check (d : Int) (s : Int) (x m : sd_M) (hx : sd_ns x m) (h1 : sd_I1 x) (hF : ∀ k : Nat, k < 7 → 0 ≤ x (4101 + k) ∧ x (4101 + k) ≤ 1000000) (hB : sd_IB x) : sd_Ct sd_SM 2 sY11_check [.inr 15, .inl d, .inl s] m (sd_Qp (sp_check x d s)) := by
  refine sd_ct rfl (Nat.le_of_ble_eq_true rfl) (fun hok hm => ?_)
  obtain ⟨⟨i0, j0⟩, ⟨i1, j1⟩, ⟨i2, j2⟩, ⟨i3, j3⟩, ⟨i4, j4⟩, ⟨i5, j5⟩, ⟨i6, j6⟩, ⟨i7, j7⟩, ⟨i8, j8⟩⟩ := id h1
  have r_d : sd_R d := hok (.inl d) (by simp)
  have r_s : sd_R s := hok (.inl s) (by simp)
  show sd_Wp sd_SM 2 sY11_check 0 [some (.inr 15), some (.inl d), some (.inl s), none] [] m _
  refine sd_iload_n sD11_check_0 rfl ?_
  refine sd_iconst sD11_check_1 (by decide) ?_
  refine sd_bipush sD11_check_2 rfl (by decide) ?_
  refine sd_callSp (as := [.inl d, .inl 0, .inl 39]) (st := []) (v := .inl (sd_b (0 ≤ d ∧ d ≤ 39))) sD11_check_4 sM11_56 rfl rfl (by decide) (Nat.le_of_ble_eq_true rfl) (cM_in d 0 39 m) (fun ho4 => ?_)
  refine sd_bif_eq (tgt := 17) sD11_check_7 (by decide) (fun zc7 => ?_) (fun zc7 => ?_)
  ·
    refine sd_aload_n sD11_check_17 rfl ?_
    refine sd_iconst sD11_check_18 (by decide) ?_
    refine sd_callV (as := [.inl 0]) (st := []) sD11_check_19 sM11_78 rfl rfl sOM15 rfl (by decide) (Nat.le_of_ble_eq_true rfl) (cM_finding 0 (by decide) _ m hx (hF 0 (by decide))) (fun r m hq ho19 hm => ?_)
    obtain ⟨rfl, hx⟩ := hq
    show sd_Wp sd_SM 2 sY11_check 22 [some (.inr 15), some (.inl d), some (.inl s), none] [.inl (-1000001)] m _
    refine sd_ireturn sD11_check_22 rfl (fun hr hm => ?_)
    exact sd_done (by unfold sp_check; ((repeat (first | rw [if_pos (by first | assumption | omega)] | rw [if_neg (by first | assumption | omega)])); try rfl); try (rw [zz])) hx
  ·
    refine sd_iload_n sD11_check_10 rfl ?_
    refine sd_callSp (as := [.inl s]) (st := []) (v := .inl (sd_b (0 ≤ s ∧ s ≤ 3))) sD11_check_11 sM11_126 rfl rfl (by decide) (Nat.le_of_ble_eq_true rfl) (cM_isSheet s _ m hx  ) (fun ho11 => ?_)
    refine sd_bif_ne (tgt := 23) sD11_check_14 (by decide) (fun zc14 => ?_) (fun zc14 => ?_)
    ·
      refine sd_aload_n sD11_check_23 rfl ?_
      refine sd_iload_n sD11_check_24 rfl ?_
      refine sd_callVp (as := [.inl d]) (st := []) (v := .inl (sd_b (d < x 0 / 24))) sD11_check_25 sM11_252 sOM15 rfl rfl rfl (by decide) (Nat.le_of_ble_eq_true rfl) (cM_isClosed d _ m hx h1 (by omega)) (fun ho25 => ?_)
      refine sd_bif_ne (tgt := 37) sD11_check_28 (by decide) (fun zc28 => ?_) (fun zc28 => ?_)
      ·
        have e0 := hB s.toNat (by omega)
        refine sd_aload_n sD11_check_37 rfl ?_
        refine sd_getfr sD11_check_38 sF11_43 sGM15_20 ?_
        refine sd_iload_n sD11_check_41 rfl ?_
        refine sd_ialdx (a := (4250 + s.toNat)) (v := x (4250 + s.toNat)) hx sD11_check_42 sAM11 (by omega) rfl ?_
        refine sd_if_ne (tgt := 52) sD11_check_43 (by decide) (fun zc43 => ?_) (fun zc43 => ?_)
        ·
          have e1 := (e0.2.2.2 zc43).1
          have e2 := (e0.2.2.2 zc43).2
          clear e0
          refine sd_aload_n sD11_check_52 rfl ?_
          refine sd_getfr sD11_check_53 sF11_46 sGM15_21 ?_
          refine sd_iload_n sD11_check_56 rfl ?_
          refine sd_ialdx (a := (4254 + s.toNat)) (v := x (4254 + s.toNat)) hx sD11_check_57 sAM12 (by omega) rfl ?_
          refine sd_bipush sD11_check_58 rfl (by decide) ?_
          refine sd_icmp_eq (tgt := 70) sD11_check_60 (by decide) (fun zc60 => ?_) (fun zc60 => ?_)
          ·
            refine sd_iconst sD11_check_70 (by decide) ?_
            refine sd_istore_n (ls' := [some (.inr 15), some (.inl d), some (.inl s), some (.inl 0)]) sD11_check_71 (by decide) rfl ?_
            refine sd_forH (6) (fun zi72 : Nat => [some (.inr 15), some (.inl d), some (.inl s), some (.inl (zi72 : Int))]) (fun zi72 : Nat => ∀ j, j < zi72 → ¬ sd_Pq x s.toNat d.toNat j) (by rfl) (fun zi72 hizi72 hhzi72 ihzi72 => ?_) (fun hhzi72 => ?_) (by intro j hj; omega)
            ·
              have e3 := e2 zi72 (by omega)
              refine sd_iload_n sD11_check_72 rfl ?_
              refine sd_bipush sD11_check_73 rfl (by decide) ?_
              refine sd_icmp_ge (tgt := 113) sD11_check_75 (by decide) (fun zc75 => (by exfalso; omega)) (fun zc75 => ?_)
              refine sd_aload_n sD11_check_78 rfl ?_
              refine sd_getfr sD11_check_79 sF11_49 sGM15_22 ?_
              refine sd_bipush sD11_check_82 rfl (by decide) ?_
              refine sd_iload_n sD11_check_84 rfl ?_
              refine sd_imul (z := (12 * s)) sD11_check_85 (by omega) (by omega) ?_
              refine sd_iload_n sD11_check_86 rfl ?_
              refine sd_iadd (z := ((12 * s) + (zi72 : Int))) sD11_check_87 (by omega) (by omega) ?_
              refine sd_ialdx (a := (4200 + ((12 * s.toNat) + zi72))) (v := x (4200 + ((12 * s.toNat) + zi72))) hx sD11_check_88 sAM13 (by omega) rfl ?_
              refine sd_aload_n sD11_check_89 rfl ?_
              refine sd_getfr sD11_check_90 sF11_7 sGM15_0 ?_
              refine sd_sipush sD11_check_93 rfl (by decide) ?_
              refine sd_bipush sD11_check_96 rfl (by decide) ?_
              refine sd_iload_n sD11_check_98 rfl ?_
              refine sd_imul (z := (6 * d)) sD11_check_99 (by omega) (by omega) ?_
              refine sd_iadd (z := (1314 + (6 * d))) sD11_check_100 (by omega) (by omega) ?_
              refine sd_iload_n sD11_check_101 rfl ?_
              refine sd_iadd (z := ((1314 + (6 * d)) + (zi72 : Int))) sD11_check_102 (by omega) (by omega) ?_
              refine sd_ialdx (a := ((1314 + (6 * d.toNat)) + zi72)) (v := x ((1314 + (6 * d.toNat)) + zi72)) hx sD11_check_103 sAM0 (by omega) rfl ?_
              refine sd_icmp_ne (tgt := 113) sD11_check_104 (by decide) (fun zc104 => ?_) (fun zc104 => ?_)
              ·
                have zz : sd_fck x s.toNat d.toNat = (zi72 : Int) := sd_fck_at hhzi72 (fun hp => zc104 (by rw [e3, Nat.add_assoc 1314]; exact hp)) (by omega)
                refine sd_iload_n sD11_check_113 rfl ?_
                refine sd_ireturn sD11_check_114 rfl (fun hr hm => ?_)
                exact sd_done (by unfold sp_check; ((repeat (first | rw [if_pos (by first | assumption | omega)] | rw [if_neg (by first | assumption | omega)])); try rfl); try (rw [zz])) hx
              ·
                refine sd_iinc (y := ((zi72 : Int) + 1)) (ls' := [some (.inr 15), some (.inl d), some (.inl s), some (.inl ((zi72 : Int) + 1))]) sD11_check_107 rfl (by omega) (by omega) (by decide) rfl ?_
                refine sd_goto (tgt := 72) sD11_check_110 (by decide) ?_
                exact sd_eqw (ls' := [some (.inr 15), some (.inl d), some (.inl s), some (.inl ((zi72 + 1 : Nat) : Int))]) (ihzi72 (by exact sd_all_succ hhzi72 (fun hp => hp (by rw [← e3, ← Nat.add_assoc 1314]; exact zc104)))) (by rw [show (((zi72 : Int) + 1) : Int) = ((zi72 + 1 : Nat) : Int) from by omega]) rfl
            ·
              show sd_Wp sd_SM 2 sY11_check 72 [some (.inr 15), some (.inl d), some (.inl s), some (.inl (6 : Int))] [] m _
              refine sd_iload_n sD11_check_72 rfl ?_
              refine sd_bipush sD11_check_73 rfl (by decide) ?_
              refine sd_icmp_ge (tgt := 113) sD11_check_75 (by decide) (fun zc75 => ?_) (fun zc75 => (by exfalso; omega))
              have zz : sd_fck x s.toNat d.toNat = 6 := sd_fck_none hhzi72
              refine sd_iload_n sD11_check_113 rfl ?_
              refine sd_ireturn sD11_check_114 rfl (fun hr hm => ?_)
              exact sd_done (by unfold sp_check; ((repeat (first | rw [if_pos (by first | assumption | omega)] | rw [if_neg (by first | assumption | omega)])); try rfl); try (rw [zz])) hx
          ·
            refine sd_aload_n sD11_check_63 rfl ?_
            refine sd_bipush sD11_check_64 rfl (by decide) ?_
            refine sd_callV (as := [.inl 6]) (st := []) sD11_check_66 sM11_78 rfl rfl sOM15 rfl (by decide) (Nat.le_of_ble_eq_true rfl) (cM_finding 6 (by decide) _ m hx (hF 6 (by decide))) (fun r m hq ho66 hm => ?_)
            obtain ⟨rfl, hx⟩ := hq
            show sd_Wp sd_SM 2 sY11_check 69 [some (.inr 15), some (.inl d), some (.inl s), none] [.inl (-1000007)] m _
            refine sd_ireturn sD11_check_69 rfl (fun hr hm => ?_)
            exact sd_done (by unfold sp_check; ((repeat (first | rw [if_pos (by first | assumption | omega)] | rw [if_neg (by first | assumption | omega)])); try rfl); try (rw [zz])) hx
        ·
          refine sd_aload_n sD11_check_46 rfl ?_
          refine sd_iconst sD11_check_47 (by decide) ?_
          refine sd_callV (as := [.inl 5]) (st := []) sD11_check_48 sM11_78 rfl rfl sOM15 rfl (by decide) (Nat.le_of_ble_eq_true rfl) (cM_finding 5 (by decide) _ m hx (hF 5 (by decide))) (fun r m hq ho48 hm => ?_)
          obtain ⟨rfl, hx⟩ := hq
          show sd_Wp sd_SM 2 sY11_check 51 [some (.inr 15), some (.inl d), some (.inl s), none] [.inl (-1000006)] m _
          refine sd_ireturn sD11_check_51 rfl (fun hr hm => ?_)
          exact sd_done (by unfold sp_check; ((repeat (first | rw [if_pos (by first | assumption | omega)] | rw [if_neg (by first | assumption | omega)])); try rfl); try (rw [zz])) hx
      ·
        refine sd_aload_n sD11_check_31 rfl ?_
        refine sd_iconst sD11_check_32 (by decide) ?_
        refine sd_callV (as := [.inl 3]) (st := []) sD11_check_33 sM11_78 rfl rfl sOM15 rfl (by decide) (Nat.le_of_ble_eq_true rfl) (cM_finding 3 (by decide) _ m hx (hF 3 (by decide))) (fun r m hq ho33 hm => ?_)
        obtain ⟨rfl, hx⟩ := hq
        show sd_Wp sd_SM 2 sY11_check 36 [some (.inr 15), some (.inl d), some (.inl s), none] [.inl (-1000004)] m _
        refine sd_ireturn sD11_check_36 rfl (fun hr hm => ?_)
        exact sd_done (by unfold sp_check; ((repeat (first | rw [if_pos (by first | assumption | omega)] | rw [if_neg (by first | assumption | omega)])); try rfl); try (rw [zz])) hx
    ·
      refine sd_aload_n sD11_check_17 rfl ?_
      refine sd_iconst sD11_check_18 (by decide) ?_
      refine sd_callV (as := [.inl 0]) (st := []) sD11_check_19 sM11_78 rfl rfl sOM15 rfl (by decide) (Nat.le_of_ble_eq_true rfl) (cM_finding 0 (by decide) _ m hx (hF 0 (by decide))) (fun r m hq ho19 hm => ?_)
      obtain ⟨rfl, hx⟩ := hq
      show sd_Wp sd_SM 2 sY11_check 22 [some (.inr 15), some (.inl d), some (.inl s), none] [.inl (-1000001)] m _
      refine sd_ireturn sD11_check_22 rfl (fun hr hm => ?_)
      exact sd_done (by unfold sp_check; ((repeat (first | rw [if_pos (by first | assumption | omega)] | rw [if_neg (by first | assumption | omega)])); try rfl); try (rw [zz])) hx
