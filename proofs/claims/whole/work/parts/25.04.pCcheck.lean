set_option maxRecDepth 100000 in
set_option maxHeartbeats 4000000 in
theorem pC_check (d : Int) (s : Int) (x m : sd_M) (hx : sd_ns x m) (h1 : sd_I1 x) (hF : ∀ k : Nat, k < 7 → 0 ≤ x (4101 + k) ∧ x (4101 + k) ≤ 1000000) (hB : sd_IB x) : sd_Ct sd_SC 2 sY10_check [.inr 120, .inl d, .inl s] m (sd_Qp (sp_check x d s)) := by
  refine sd_ct rfl (Nat.le_of_ble_eq_true rfl) (fun hok hm => ?_)
  obtain ⟨⟨i0, j0⟩, ⟨i1, j1⟩, ⟨i2, j2⟩, ⟨i3, j3⟩, ⟨i4, j4⟩, ⟨i5, j5⟩, ⟨i6, j6⟩, ⟨i7, j7⟩, ⟨i8, j8⟩⟩ := id h1
  have r_d : sd_R d := hok (.inl d) (by simp)
  have r_s : sd_R s := hok (.inl s) (by simp)
  show sd_Wp sd_SC 2 sY10_check 0 [some (.inr 120), some (.inl d), some (.inl s), none, none] [] m _
  refine sd_iload_n sD10_check_0 rfl ?_
  refine sd_iconst sD10_check_1 (by decide) ?_
  refine sd_bipush sD10_check_2 rfl (by decide) ?_
  refine sd_callSp (as := [.inl d, .inl 0, .inl 39]) (st := []) (v := .inl (sd_b (0 ≤ d ∧ d ≤ 39))) sD10_check_4 sM10_65 rfl rfl (by decide) (Nat.le_of_ble_eq_true rfl) (cC_isWithin d 0 39 m) (fun ho4 => ?_)
  refine sd_bif_eq (tgt := 19) sD10_check_7 (by decide) (fun zc7 => ?_) (fun zc7 => ?_)
  ·
    refine sd_aload_n sD10_check_19 rfl ?_
    refine sd_ldc (z := -1000001) sD10_check_20 sK10_51 (by decide) ?_
    refine sd_callV (as := [.inl (-1000001)]) (st := []) sD10_check_22 sM10_52 rfl rfl sOC120 rfl (by decide) (Nat.le_of_ble_eq_true rfl) (cC_found (-1000001) 0 (by decide) (by decide) _ m hx (hF 0 (by decide))) (fun r m hq ho22 hm => ?_)
    obtain ⟨rfl, hx⟩ := hq
    show sd_Wp sd_SC 2 sY10_check 25 [some (.inr 120), some (.inl d), some (.inl s), none, none] [.inl (-1000001)] m _
    refine sd_ireturn sD10_check_25 rfl (fun hr hm => ?_)
    exact sd_done (by unfold sp_check; (try simp only [Int.reduceToNat, Nat.reduceAdd, Nat.reduceMul, Nat.add_zero]); ((repeat (first | rw [if_pos (by first | assumption | omega)] | rw [if_neg (by first | assumption | omega)])); try rfl); try (rw [zz])) hx
  ·
    refine sd_iload_n sD10_check_10 rfl ?_
    refine sd_iconst sD10_check_11 (by decide) ?_
    refine sd_iconst sD10_check_12 (by decide) ?_
    refine sd_callSp (as := [.inl s, .inl 0, .inl 3]) (st := []) (v := .inl (sd_b (0 ≤ s ∧ s ≤ 3))) sD10_check_13 sM10_65 rfl rfl (by decide) (Nat.le_of_ble_eq_true rfl) (cC_isWithin s 0 3 m) (fun ho13 => ?_)
    refine sd_bif_ne (tgt := 26) sD10_check_16 (by decide) (fun zc16 => ?_) (fun zc16 => ?_)
    ·
      refine sd_aload_n sD10_check_26 rfl ?_
      refine sd_getfr sD10_check_27 sF10_10 sGC120_0 ?_
      refine sd_iload_n sD10_check_30 rfl ?_
      refine sd_callVp (as := [.inl d]) (st := []) (v := .inl (sd_b (d < x 0 / 24))) sD10_check_31 sM10_350 sOC53 rfl rfl rfl (by decide) (Nat.le_of_ble_eq_true rfl) (cC_isClosed d _ m hx h1 (by omega)) (fun ho31 => ?_)
      refine sd_bif_ne (tgt := 44) sD10_check_34 (by decide) (fun zc34 => ?_) (fun zc34 => ?_)
      ·
        refine sd_aload_n sD10_check_44 rfl ?_
        refine sd_getfr sD10_check_45 sF10_21 sGC120_2 ?_
        refine sd_iload_n sD10_check_48 rfl ?_
        rcases (show s = 0 ∨ s = 1 ∨ s = 2 ∨ s = 3 by omega) with zs49 | zs49 | zs49 | zs49
        ·
          subst zs49
          refine sd_aald (q := 109) sD10_check_49 sBC116 (by decide) rfl ?_
          refine sd_astore_n (ls' := [some (.inr 120), some (.inl d), some (.inl 0), some (.inr 109), none]) sD10_check_50 (by decide) rfl ?_
          refine sd_aload_n sD10_check_51 rfl ?_
          refine sd_callVp (as := []) (st := []) (v := .inl (sd_b (x 4250 = 0))) sD10_check_52 sM10_192 sOC109 rfl rfl rfl (by decide) (Nat.le_of_ble_eq_true rfl) (cC_isMissing0 _ m hx) (fun ho52 => ?_)
          refine sd_bif_eq (tgt := 65) sD10_check_55 (by decide) (fun zc55 => ?_) (fun zc55 => ?_)
          ·
            refine sd_aload_n sD10_check_65 rfl ?_
            refine sd_getfx (v := x 8100) hx sD10_check_66 sF10_197 sGC109_1 (by decide) rfl ?_
            refine sd_bipush sD10_check_69 rfl (by decide) ?_
            refine sd_icmp_eq (tgt := 81) sD10_check_71 (by decide) (fun zc71 => ?_) (fun zc71 => ?_)
            ·
              refine sd_iconst sD10_check_81 (by decide) ?_
              refine sd_istore (ls' := [some (.inr 120), some (.inl d), some (.inl 0), some (.inr 109), some (.inl 0)]) sD10_check_82 (by decide) rfl ?_
              refine sd_forH (6) (fun zi84 : Nat => [some (.inr 120), some (.inl d), some (.inl 0), some (.inr 109), some (.inl (zi84 : Int))]) (fun zi84 : Nat => ∀ j, j < zi84 → ¬ sd_Pq x 0 d.toNat j) (by rfl) (fun zi84 hizi84 hhzi84 ihzi84 => ?_) (fun hhzi84 => ?_) (by intro j hj; omega)
              ·
                refine sd_iload sD10_check_84 rfl ?_
                refine sd_bipush sD10_check_86 rfl (by decide) ?_
                refine sd_icmp_ge (tgt := 122) sD10_check_88 (by decide) (fun zc88 => (by exfalso; omega)) (fun zc88 => ?_)
                refine sd_aload_n sD10_check_91 rfl ?_
                refine sd_getfr sD10_check_92 sF10_198 sGC109_2 ?_
                refine sd_iload sD10_check_95 rfl ?_
                refine sd_ialdx (a := (8200 + zi84)) (v := x (8200 + zi84)) hx sD10_check_97 sAC108 (by omega) rfl ?_
                refine sd_aload_n sD10_check_98 rfl ?_
                refine sd_getfr sD10_check_99 sF10_10 sGC120_0 ?_
                refine sd_getfr sD10_check_102 sF10_353 sGC53_9 ?_
                refine sd_iload_n sD10_check_105 rfl ?_
                refine sd_bipush sD10_check_106 rfl (by decide) ?_
                refine sd_imul (z := (d * 6)) sD10_check_108 (by omega) (by omega) ?_
                refine sd_iload sD10_check_109 rfl ?_
                refine sd_iadd (z := ((d * 6) + (zi84 : Int))) sD10_check_111 (by omega) (by omega) ?_
                refine sd_ialdx (a := (1314 + ((d.toNat * 6) + zi84))) (v := x (1314 + ((d.toNat * 6) + zi84))) hx sD10_check_112 sAC50 (by omega) rfl ?_
                refine sd_icmp_ne (tgt := 122) sD10_check_113 (by decide) (fun zc113 => ?_) (fun zc113 => ?_)
                ·
                  have zz : sd_fck x 0 d.toNat = ((zi84 : Int)) := sd_fck_at hhzi84 (fun hp => zc113 (by rw [Nat.mul_comm d.toNat 6]; exact hp)) (by omega)
                  refine sd_iload sD10_check_122 rfl ?_
                  refine sd_ireturn sD10_check_124 rfl (fun hr hm => ?_)
                  exact sd_done (by unfold sp_check; (try simp only [Int.reduceToNat, Nat.reduceAdd, Nat.reduceMul, Nat.add_zero]); ((repeat (first | rw [if_pos (by first | assumption | omega)] | rw [if_neg (by first | assumption | omega)])); try rfl); try (rw [zz])) hx
                ·
                  refine sd_iinc (y := ((zi84 : Int) + 1)) (ls' := [some (.inr 120), some (.inl d), some (.inl 0), some (.inr 109), some (.inl ((zi84 : Int) + 1))]) sD10_check_116 rfl (by omega) (by omega) (by decide) rfl ?_
                  refine sd_goto (tgt := 84) sD10_check_119 (by decide) ?_
                  exact sd_eqw (ls' := [some (.inr 120), some (.inl d), some (.inl 0), some (.inr 109), some (.inl ((zi84 + 1 : Nat) : Int))]) (ihzi84 (by exact sd_all_succ hhzi84 (fun hp => hp (by rw [Nat.mul_comm 6 d.toNat]; exact zc113)))) (by rw [show (((zi84 : Int) + 1) : Int) = ((zi84 + 1 : Nat) : Int) from by omega]) rfl
              ·
                show sd_Wp sd_SC 2 sY10_check 84 [some (.inr 120), some (.inl d), some (.inl 0), some (.inr 109), some (.inl (6 : Int))] [] m _
                refine sd_iload sD10_check_84 rfl ?_
                refine sd_bipush sD10_check_86 rfl (by decide) ?_
                refine sd_icmp_ge (tgt := 122) sD10_check_88 (by decide) (fun zc88 => ?_) (fun zc88 => (by exfalso; omega))
                have zz : sd_fck x 0 d.toNat = (6) := sd_fck_none hhzi84
                refine sd_iload sD10_check_122 rfl ?_
                refine sd_ireturn sD10_check_124 rfl (fun hr hm => ?_)
                exact sd_done (by unfold sp_check; (try simp only [Int.reduceToNat, Nat.reduceAdd, Nat.reduceMul, Nat.add_zero]); ((repeat (first | rw [if_pos (by first | assumption | omega)] | rw [if_neg (by first | assumption | omega)])); try rfl); try (rw [zz])) hx
            ·
              refine sd_aload_n sD10_check_74 rfl ?_
              refine sd_ldc (z := -1000007) sD10_check_75 sK10_163 (by decide) ?_
              refine sd_callV (as := [.inl (-1000007)]) (st := []) sD10_check_77 sM10_52 rfl rfl sOC120 rfl (by decide) (Nat.le_of_ble_eq_true rfl) (cC_found (-1000007) 6 (by decide) (by decide) _ m hx (hF 6 (by decide))) (fun r m hq ho77 hm => ?_)
              obtain ⟨rfl, hx⟩ := hq
              show sd_Wp sd_SC 2 sY10_check 80 [some (.inr 120), some (.inl d), some (.inl 0), some (.inr 109), none] [.inl (-1000007)] m _
              refine sd_ireturn sD10_check_80 rfl (fun hr hm => ?_)
              exact sd_done (by unfold sp_check; (try simp only [Int.reduceToNat, Nat.reduceAdd, Nat.reduceMul, Nat.add_zero]); ((repeat (first | rw [if_pos (by first | assumption | omega)] | rw [if_neg (by first | assumption | omega)])); try rfl); try (rw [zz])) hx
          ·
            refine sd_aload_n sD10_check_58 rfl ?_
            refine sd_ldc (z := -1000006) sD10_check_59 sK10_196 (by decide) ?_
            refine sd_callV (as := [.inl (-1000006)]) (st := []) sD10_check_61 sM10_52 rfl rfl sOC120 rfl (by decide) (Nat.le_of_ble_eq_true rfl) (cC_found (-1000006) 5 (by decide) (by decide) _ m hx (hF 5 (by decide))) (fun r m hq ho61 hm => ?_)
            obtain ⟨rfl, hx⟩ := hq
            show sd_Wp sd_SC 2 sY10_check 64 [some (.inr 120), some (.inl d), some (.inl 0), some (.inr 109), none] [.inl (-1000006)] m _
            refine sd_ireturn sD10_check_64 rfl (fun hr hm => ?_)
            exact sd_done (by unfold sp_check; (try simp only [Int.reduceToNat, Nat.reduceAdd, Nat.reduceMul, Nat.add_zero]); ((repeat (first | rw [if_pos (by first | assumption | omega)] | rw [if_neg (by first | assumption | omega)])); try rfl); try (rw [zz])) hx
        ·
          subst zs49
          refine sd_aald (q := 111) sD10_check_49 sBC116 (by decide) rfl ?_
          refine sd_astore_n (ls' := [some (.inr 120), some (.inl d), some (.inl 1), some (.inr 111), none]) sD10_check_50 (by decide) rfl ?_
          refine sd_aload_n sD10_check_51 rfl ?_
          refine sd_callVp (as := []) (st := []) (v := .inl (sd_b (x 4251 = 0))) sD10_check_52 sM10_192 sOC111 rfl rfl rfl (by decide) (Nat.le_of_ble_eq_true rfl) (cC_isMissing1 _ m hx) (fun ho52 => ?_)
          refine sd_bif_eq (tgt := 65) sD10_check_55 (by decide) (fun zc55 => ?_) (fun zc55 => ?_)
          ·
            refine sd_aload_n sD10_check_65 rfl ?_
            refine sd_getfx (v := x 8101) hx sD10_check_66 sF10_197 sGC111_1 (by decide) rfl ?_
            refine sd_bipush sD10_check_69 rfl (by decide) ?_
            refine sd_icmp_eq (tgt := 81) sD10_check_71 (by decide) (fun zc71 => ?_) (fun zc71 => ?_)
            ·
              refine sd_iconst sD10_check_81 (by decide) ?_
              refine sd_istore (ls' := [some (.inr 120), some (.inl d), some (.inl 1), some (.inr 111), some (.inl 0)]) sD10_check_82 (by decide) rfl ?_
              refine sd_forH (6) (fun zi84 : Nat => [some (.inr 120), some (.inl d), some (.inl 1), some (.inr 111), some (.inl (zi84 : Int))]) (fun zi84 : Nat => ∀ j, j < zi84 → ¬ sd_Pq x 1 d.toNat j) (by rfl) (fun zi84 hizi84 hhzi84 ihzi84 => ?_) (fun hhzi84 => ?_) (by intro j hj; omega)
              ·
                refine sd_iload sD10_check_84 rfl ?_
                refine sd_bipush sD10_check_86 rfl (by decide) ?_
                refine sd_icmp_ge (tgt := 122) sD10_check_88 (by decide) (fun zc88 => (by exfalso; omega)) (fun zc88 => ?_)
                refine sd_aload_n sD10_check_91 rfl ?_
                refine sd_getfr sD10_check_92 sF10_198 sGC111_2 ?_
                refine sd_iload sD10_check_95 rfl ?_
                refine sd_ialdx (a := (8212 + zi84)) (v := x (8212 + zi84)) hx sD10_check_97 sAC110 (by omega) rfl ?_
                refine sd_aload_n sD10_check_98 rfl ?_
                refine sd_getfr sD10_check_99 sF10_10 sGC120_0 ?_
                refine sd_getfr sD10_check_102 sF10_353 sGC53_9 ?_
                refine sd_iload_n sD10_check_105 rfl ?_
                refine sd_bipush sD10_check_106 rfl (by decide) ?_
                refine sd_imul (z := (d * 6)) sD10_check_108 (by omega) (by omega) ?_
                refine sd_iload sD10_check_109 rfl ?_
                refine sd_iadd (z := ((d * 6) + (zi84 : Int))) sD10_check_111 (by omega) (by omega) ?_
                refine sd_ialdx (a := (1314 + ((d.toNat * 6) + zi84))) (v := x (1314 + ((d.toNat * 6) + zi84))) hx sD10_check_112 sAC50 (by omega) rfl ?_
                refine sd_icmp_ne (tgt := 122) sD10_check_113 (by decide) (fun zc113 => ?_) (fun zc113 => ?_)
                ·
                  have zz : sd_fck x 1 d.toNat = ((zi84 : Int)) := sd_fck_at hhzi84 (fun hp => zc113 (by rw [Nat.mul_comm d.toNat 6]; exact hp)) (by omega)
                  refine sd_iload sD10_check_122 rfl ?_
                  refine sd_ireturn sD10_check_124 rfl (fun hr hm => ?_)
                  exact sd_done (by unfold sp_check; (try simp only [Int.reduceToNat, Nat.reduceAdd, Nat.reduceMul, Nat.add_zero]); ((repeat (first | rw [if_pos (by first | assumption | omega)] | rw [if_neg (by first | assumption | omega)])); try rfl); try (rw [zz])) hx
                ·
                  refine sd_iinc (y := ((zi84 : Int) + 1)) (ls' := [some (.inr 120), some (.inl d), some (.inl 1), some (.inr 111), some (.inl ((zi84 : Int) + 1))]) sD10_check_116 rfl (by omega) (by omega) (by decide) rfl ?_
                  refine sd_goto (tgt := 84) sD10_check_119 (by decide) ?_
                  exact sd_eqw (ls' := [some (.inr 120), some (.inl d), some (.inl 1), some (.inr 111), some (.inl ((zi84 + 1 : Nat) : Int))]) (ihzi84 (by exact sd_all_succ hhzi84 (fun hp => hp (by rw [Nat.mul_comm 6 d.toNat]; exact zc113)))) (by rw [show (((zi84 : Int) + 1) : Int) = ((zi84 + 1 : Nat) : Int) from by omega]) rfl
              ·
                show sd_Wp sd_SC 2 sY10_check 84 [some (.inr 120), some (.inl d), some (.inl 1), some (.inr 111), some (.inl (6 : Int))] [] m _
                refine sd_iload sD10_check_84 rfl ?_
                refine sd_bipush sD10_check_86 rfl (by decide) ?_
                refine sd_icmp_ge (tgt := 122) sD10_check_88 (by decide) (fun zc88 => ?_) (fun zc88 => (by exfalso; omega))
                have zz : sd_fck x 1 d.toNat = (6) := sd_fck_none hhzi84
                refine sd_iload sD10_check_122 rfl ?_
                refine sd_ireturn sD10_check_124 rfl (fun hr hm => ?_)
                exact sd_done (by unfold sp_check; (try simp only [Int.reduceToNat, Nat.reduceAdd, Nat.reduceMul, Nat.add_zero]); ((repeat (first | rw [if_pos (by first | assumption | omega)] | rw [if_neg (by first | assumption | omega)])); try rfl); try (rw [zz])) hx
            ·
              refine sd_aload_n sD10_check_74 rfl ?_
              refine sd_ldc (z := -1000007) sD10_check_75 sK10_163 (by decide) ?_
              refine sd_callV (as := [.inl (-1000007)]) (st := []) sD10_check_77 sM10_52 rfl rfl sOC120 rfl (by decide) (Nat.le_of_ble_eq_true rfl) (cC_found (-1000007) 6 (by decide) (by decide) _ m hx (hF 6 (by decide))) (fun r m hq ho77 hm => ?_)
              obtain ⟨rfl, hx⟩ := hq
              show sd_Wp sd_SC 2 sY10_check 80 [some (.inr 120), some (.inl d), some (.inl 1), some (.inr 111), none] [.inl (-1000007)] m _
              refine sd_ireturn sD10_check_80 rfl (fun hr hm => ?_)
              exact sd_done (by unfold sp_check; (try simp only [Int.reduceToNat, Nat.reduceAdd, Nat.reduceMul, Nat.add_zero]); ((repeat (first | rw [if_pos (by first | assumption | omega)] | rw [if_neg (by first | assumption | omega)])); try rfl); try (rw [zz])) hx
          ·
            refine sd_aload_n sD10_check_58 rfl ?_
            refine sd_ldc (z := -1000006) sD10_check_59 sK10_196 (by decide) ?_
            refine sd_callV (as := [.inl (-1000006)]) (st := []) sD10_check_61 sM10_52 rfl rfl sOC120 rfl (by decide) (Nat.le_of_ble_eq_true rfl) (cC_found (-1000006) 5 (by decide) (by decide) _ m hx (hF 5 (by decide))) (fun r m hq ho61 hm => ?_)
            obtain ⟨rfl, hx⟩ := hq
            show sd_Wp sd_SC 2 sY10_check 64 [some (.inr 120), some (.inl d), some (.inl 1), some (.inr 111), none] [.inl (-1000006)] m _
            refine sd_ireturn sD10_check_64 rfl (fun hr hm => ?_)
            exact sd_done (by unfold sp_check; (try simp only [Int.reduceToNat, Nat.reduceAdd, Nat.reduceMul, Nat.add_zero]); ((repeat (first | rw [if_pos (by first | assumption | omega)] | rw [if_neg (by first | assumption | omega)])); try rfl); try (rw [zz])) hx
        ·
          subst zs49
          refine sd_aald (q := 113) sD10_check_49 sBC116 (by decide) rfl ?_
          refine sd_astore_n (ls' := [some (.inr 120), some (.inl d), some (.inl 2), some (.inr 113), none]) sD10_check_50 (by decide) rfl ?_
          refine sd_aload_n sD10_check_51 rfl ?_
          refine sd_callVp (as := []) (st := []) (v := .inl (sd_b (x 4252 = 0))) sD10_check_52 sM10_192 sOC113 rfl rfl rfl (by decide) (Nat.le_of_ble_eq_true rfl) (cC_isMissing2 _ m hx) (fun ho52 => ?_)
          refine sd_bif_eq (tgt := 65) sD10_check_55 (by decide) (fun zc55 => ?_) (fun zc55 => ?_)
          ·
            refine sd_aload_n sD10_check_65 rfl ?_
            refine sd_getfx (v := x 8102) hx sD10_check_66 sF10_197 sGC113_1 (by decide) rfl ?_
            refine sd_bipush sD10_check_69 rfl (by decide) ?_
            refine sd_icmp_eq (tgt := 81) sD10_check_71 (by decide) (fun zc71 => ?_) (fun zc71 => ?_)
            ·
              refine sd_iconst sD10_check_81 (by decide) ?_
              refine sd_istore (ls' := [some (.inr 120), some (.inl d), some (.inl 2), some (.inr 113), some (.inl 0)]) sD10_check_82 (by decide) rfl ?_
              refine sd_forH (6) (fun zi84 : Nat => [some (.inr 120), some (.inl d), some (.inl 2), some (.inr 113), some (.inl (zi84 : Int))]) (fun zi84 : Nat => ∀ j, j < zi84 → ¬ sd_Pq x 2 d.toNat j) (by rfl) (fun zi84 hizi84 hhzi84 ihzi84 => ?_) (fun hhzi84 => ?_) (by intro j hj; omega)
              ·
                refine sd_iload sD10_check_84 rfl ?_
                refine sd_bipush sD10_check_86 rfl (by decide) ?_
                refine sd_icmp_ge (tgt := 122) sD10_check_88 (by decide) (fun zc88 => (by exfalso; omega)) (fun zc88 => ?_)
                refine sd_aload_n sD10_check_91 rfl ?_
                refine sd_getfr sD10_check_92 sF10_198 sGC113_2 ?_
                refine sd_iload sD10_check_95 rfl ?_
                refine sd_ialdx (a := (8224 + zi84)) (v := x (8224 + zi84)) hx sD10_check_97 sAC112 (by omega) rfl ?_
                refine sd_aload_n sD10_check_98 rfl ?_
                refine sd_getfr sD10_check_99 sF10_10 sGC120_0 ?_
                refine sd_getfr sD10_check_102 sF10_353 sGC53_9 ?_
                refine sd_iload_n sD10_check_105 rfl ?_
                refine sd_bipush sD10_check_106 rfl (by decide) ?_
                refine sd_imul (z := (d * 6)) sD10_check_108 (by omega) (by omega) ?_
                refine sd_iload sD10_check_109 rfl ?_
                refine sd_iadd (z := ((d * 6) + (zi84 : Int))) sD10_check_111 (by omega) (by omega) ?_
                refine sd_ialdx (a := (1314 + ((d.toNat * 6) + zi84))) (v := x (1314 + ((d.toNat * 6) + zi84))) hx sD10_check_112 sAC50 (by omega) rfl ?_
                refine sd_icmp_ne (tgt := 122) sD10_check_113 (by decide) (fun zc113 => ?_) (fun zc113 => ?_)
                ·
                  have zz : sd_fck x 2 d.toNat = ((zi84 : Int)) := sd_fck_at hhzi84 (fun hp => zc113 (by rw [Nat.mul_comm d.toNat 6]; exact hp)) (by omega)
                  refine sd_iload sD10_check_122 rfl ?_
                  refine sd_ireturn sD10_check_124 rfl (fun hr hm => ?_)
                  exact sd_done (by unfold sp_check; (try simp only [Int.reduceToNat, Nat.reduceAdd, Nat.reduceMul, Nat.add_zero]); ((repeat (first | rw [if_pos (by first | assumption | omega)] | rw [if_neg (by first | assumption | omega)])); try rfl); try (rw [zz])) hx
                ·
                  refine sd_iinc (y := ((zi84 : Int) + 1)) (ls' := [some (.inr 120), some (.inl d), some (.inl 2), some (.inr 113), some (.inl ((zi84 : Int) + 1))]) sD10_check_116 rfl (by omega) (by omega) (by decide) rfl ?_
                  refine sd_goto (tgt := 84) sD10_check_119 (by decide) ?_
                  exact sd_eqw (ls' := [some (.inr 120), some (.inl d), some (.inl 2), some (.inr 113), some (.inl ((zi84 + 1 : Nat) : Int))]) (ihzi84 (by exact sd_all_succ hhzi84 (fun hp => hp (by rw [Nat.mul_comm 6 d.toNat]; exact zc113)))) (by rw [show (((zi84 : Int) + 1) : Int) = ((zi84 + 1 : Nat) : Int) from by omega]) rfl
              ·
                show sd_Wp sd_SC 2 sY10_check 84 [some (.inr 120), some (.inl d), some (.inl 2), some (.inr 113), some (.inl (6 : Int))] [] m _
                refine sd_iload sD10_check_84 rfl ?_
                refine sd_bipush sD10_check_86 rfl (by decide) ?_
                refine sd_icmp_ge (tgt := 122) sD10_check_88 (by decide) (fun zc88 => ?_) (fun zc88 => (by exfalso; omega))
                have zz : sd_fck x 2 d.toNat = (6) := sd_fck_none hhzi84
                refine sd_iload sD10_check_122 rfl ?_
                refine sd_ireturn sD10_check_124 rfl (fun hr hm => ?_)
                exact sd_done (by unfold sp_check; (try simp only [Int.reduceToNat, Nat.reduceAdd, Nat.reduceMul, Nat.add_zero]); ((repeat (first | rw [if_pos (by first | assumption | omega)] | rw [if_neg (by first | assumption | omega)])); try rfl); try (rw [zz])) hx
            ·
              refine sd_aload_n sD10_check_74 rfl ?_
              refine sd_ldc (z := -1000007) sD10_check_75 sK10_163 (by decide) ?_
              refine sd_callV (as := [.inl (-1000007)]) (st := []) sD10_check_77 sM10_52 rfl rfl sOC120 rfl (by decide) (Nat.le_of_ble_eq_true rfl) (cC_found (-1000007) 6 (by decide) (by decide) _ m hx (hF 6 (by decide))) (fun r m hq ho77 hm => ?_)
              obtain ⟨rfl, hx⟩ := hq
              show sd_Wp sd_SC 2 sY10_check 80 [some (.inr 120), some (.inl d), some (.inl 2), some (.inr 113), none] [.inl (-1000007)] m _
              refine sd_ireturn sD10_check_80 rfl (fun hr hm => ?_)
              exact sd_done (by unfold sp_check; (try simp only [Int.reduceToNat, Nat.reduceAdd, Nat.reduceMul, Nat.add_zero]); ((repeat (first | rw [if_pos (by first | assumption | omega)] | rw [if_neg (by first | assumption | omega)])); try rfl); try (rw [zz])) hx
          ·
            refine sd_aload_n sD10_check_58 rfl ?_
            refine sd_ldc (z := -1000006) sD10_check_59 sK10_196 (by decide) ?_
            refine sd_callV (as := [.inl (-1000006)]) (st := []) sD10_check_61 sM10_52 rfl rfl sOC120 rfl (by decide) (Nat.le_of_ble_eq_true rfl) (cC_found (-1000006) 5 (by decide) (by decide) _ m hx (hF 5 (by decide))) (fun r m hq ho61 hm => ?_)
            obtain ⟨rfl, hx⟩ := hq
            show sd_Wp sd_SC 2 sY10_check 64 [some (.inr 120), some (.inl d), some (.inl 2), some (.inr 113), none] [.inl (-1000006)] m _
            refine sd_ireturn sD10_check_64 rfl (fun hr hm => ?_)
            exact sd_done (by unfold sp_check; (try simp only [Int.reduceToNat, Nat.reduceAdd, Nat.reduceMul, Nat.add_zero]); ((repeat (first | rw [if_pos (by first | assumption | omega)] | rw [if_neg (by first | assumption | omega)])); try rfl); try (rw [zz])) hx
        ·
          subst zs49
          refine sd_aald (q := 115) sD10_check_49 sBC116 (by decide) rfl ?_
          refine sd_astore_n (ls' := [some (.inr 120), some (.inl d), some (.inl 3), some (.inr 115), none]) sD10_check_50 (by decide) rfl ?_
          refine sd_aload_n sD10_check_51 rfl ?_
          refine sd_callVp (as := []) (st := []) (v := .inl (sd_b (x 4253 = 0))) sD10_check_52 sM10_192 sOC115 rfl rfl rfl (by decide) (Nat.le_of_ble_eq_true rfl) (cC_isMissing3 _ m hx) (fun ho52 => ?_)
          refine sd_bif_eq (tgt := 65) sD10_check_55 (by decide) (fun zc55 => ?_) (fun zc55 => ?_)
          ·
            refine sd_aload_n sD10_check_65 rfl ?_
            refine sd_getfx (v := x 8103) hx sD10_check_66 sF10_197 sGC115_1 (by decide) rfl ?_
            refine sd_bipush sD10_check_69 rfl (by decide) ?_
            refine sd_icmp_eq (tgt := 81) sD10_check_71 (by decide) (fun zc71 => ?_) (fun zc71 => ?_)
            ·
              refine sd_iconst sD10_check_81 (by decide) ?_
              refine sd_istore (ls' := [some (.inr 120), some (.inl d), some (.inl 3), some (.inr 115), some (.inl 0)]) sD10_check_82 (by decide) rfl ?_
              refine sd_forH (6) (fun zi84 : Nat => [some (.inr 120), some (.inl d), some (.inl 3), some (.inr 115), some (.inl (zi84 : Int))]) (fun zi84 : Nat => ∀ j, j < zi84 → ¬ sd_Pq x 3 d.toNat j) (by rfl) (fun zi84 hizi84 hhzi84 ihzi84 => ?_) (fun hhzi84 => ?_) (by intro j hj; omega)
              ·
                refine sd_iload sD10_check_84 rfl ?_
                refine sd_bipush sD10_check_86 rfl (by decide) ?_
                refine sd_icmp_ge (tgt := 122) sD10_check_88 (by decide) (fun zc88 => (by exfalso; omega)) (fun zc88 => ?_)
                refine sd_aload_n sD10_check_91 rfl ?_
                refine sd_getfr sD10_check_92 sF10_198 sGC115_2 ?_
                refine sd_iload sD10_check_95 rfl ?_
                refine sd_ialdx (a := (8236 + zi84)) (v := x (8236 + zi84)) hx sD10_check_97 sAC114 (by omega) rfl ?_
                refine sd_aload_n sD10_check_98 rfl ?_
                refine sd_getfr sD10_check_99 sF10_10 sGC120_0 ?_
                refine sd_getfr sD10_check_102 sF10_353 sGC53_9 ?_
                refine sd_iload_n sD10_check_105 rfl ?_
                refine sd_bipush sD10_check_106 rfl (by decide) ?_
                refine sd_imul (z := (d * 6)) sD10_check_108 (by omega) (by omega) ?_
                refine sd_iload sD10_check_109 rfl ?_
                refine sd_iadd (z := ((d * 6) + (zi84 : Int))) sD10_check_111 (by omega) (by omega) ?_
                refine sd_ialdx (a := (1314 + ((d.toNat * 6) + zi84))) (v := x (1314 + ((d.toNat * 6) + zi84))) hx sD10_check_112 sAC50 (by omega) rfl ?_
                refine sd_icmp_ne (tgt := 122) sD10_check_113 (by decide) (fun zc113 => ?_) (fun zc113 => ?_)
                ·
                  have zz : sd_fck x 3 d.toNat = ((zi84 : Int)) := sd_fck_at hhzi84 (fun hp => zc113 (by rw [Nat.mul_comm d.toNat 6]; exact hp)) (by omega)
                  refine sd_iload sD10_check_122 rfl ?_
                  refine sd_ireturn sD10_check_124 rfl (fun hr hm => ?_)
                  exact sd_done (by unfold sp_check; (try simp only [Int.reduceToNat, Nat.reduceAdd, Nat.reduceMul, Nat.add_zero]); ((repeat (first | rw [if_pos (by first | assumption | omega)] | rw [if_neg (by first | assumption | omega)])); try rfl); try (rw [zz])) hx
                ·
                  refine sd_iinc (y := ((zi84 : Int) + 1)) (ls' := [some (.inr 120), some (.inl d), some (.inl 3), some (.inr 115), some (.inl ((zi84 : Int) + 1))]) sD10_check_116 rfl (by omega) (by omega) (by decide) rfl ?_
                  refine sd_goto (tgt := 84) sD10_check_119 (by decide) ?_
                  exact sd_eqw (ls' := [some (.inr 120), some (.inl d), some (.inl 3), some (.inr 115), some (.inl ((zi84 + 1 : Nat) : Int))]) (ihzi84 (by exact sd_all_succ hhzi84 (fun hp => hp (by rw [Nat.mul_comm 6 d.toNat]; exact zc113)))) (by rw [show (((zi84 : Int) + 1) : Int) = ((zi84 + 1 : Nat) : Int) from by omega]) rfl
              ·
                show sd_Wp sd_SC 2 sY10_check 84 [some (.inr 120), some (.inl d), some (.inl 3), some (.inr 115), some (.inl (6 : Int))] [] m _
                refine sd_iload sD10_check_84 rfl ?_
                refine sd_bipush sD10_check_86 rfl (by decide) ?_
                refine sd_icmp_ge (tgt := 122) sD10_check_88 (by decide) (fun zc88 => ?_) (fun zc88 => (by exfalso; omega))
                have zz : sd_fck x 3 d.toNat = (6) := sd_fck_none hhzi84
                refine sd_iload sD10_check_122 rfl ?_
                refine sd_ireturn sD10_check_124 rfl (fun hr hm => ?_)
                exact sd_done (by unfold sp_check; (try simp only [Int.reduceToNat, Nat.reduceAdd, Nat.reduceMul, Nat.add_zero]); ((repeat (first | rw [if_pos (by first | assumption | omega)] | rw [if_neg (by first | assumption | omega)])); try rfl); try (rw [zz])) hx
            ·
              refine sd_aload_n sD10_check_74 rfl ?_
              refine sd_ldc (z := -1000007) sD10_check_75 sK10_163 (by decide) ?_
              refine sd_callV (as := [.inl (-1000007)]) (st := []) sD10_check_77 sM10_52 rfl rfl sOC120 rfl (by decide) (Nat.le_of_ble_eq_true rfl) (cC_found (-1000007) 6 (by decide) (by decide) _ m hx (hF 6 (by decide))) (fun r m hq ho77 hm => ?_)
              obtain ⟨rfl, hx⟩ := hq
              show sd_Wp sd_SC 2 sY10_check 80 [some (.inr 120), some (.inl d), some (.inl 3), some (.inr 115), none] [.inl (-1000007)] m _
              refine sd_ireturn sD10_check_80 rfl (fun hr hm => ?_)
              exact sd_done (by unfold sp_check; (try simp only [Int.reduceToNat, Nat.reduceAdd, Nat.reduceMul, Nat.add_zero]); ((repeat (first | rw [if_pos (by first | assumption | omega)] | rw [if_neg (by first | assumption | omega)])); try rfl); try (rw [zz])) hx
          ·
            refine sd_aload_n sD10_check_58 rfl ?_
            refine sd_ldc (z := -1000006) sD10_check_59 sK10_196 (by decide) ?_
            refine sd_callV (as := [.inl (-1000006)]) (st := []) sD10_check_61 sM10_52 rfl rfl sOC120 rfl (by decide) (Nat.le_of_ble_eq_true rfl) (cC_found (-1000006) 5 (by decide) (by decide) _ m hx (hF 5 (by decide))) (fun r m hq ho61 hm => ?_)
            obtain ⟨rfl, hx⟩ := hq
            show sd_Wp sd_SC 2 sY10_check 64 [some (.inr 120), some (.inl d), some (.inl 3), some (.inr 115), none] [.inl (-1000006)] m _
            refine sd_ireturn sD10_check_64 rfl (fun hr hm => ?_)
            exact sd_done (by unfold sp_check; (try simp only [Int.reduceToNat, Nat.reduceAdd, Nat.reduceMul, Nat.add_zero]); ((repeat (first | rw [if_pos (by first | assumption | omega)] | rw [if_neg (by first | assumption | omega)])); try rfl); try (rw [zz])) hx
      ·
        refine sd_aload_n sD10_check_37 rfl ?_
        refine sd_ldc (z := -1000004) sD10_check_38 sK10_130 (by decide) ?_
        refine sd_callV (as := [.inl (-1000004)]) (st := []) sD10_check_40 sM10_52 rfl rfl sOC120 rfl (by decide) (Nat.le_of_ble_eq_true rfl) (cC_found (-1000004) 3 (by decide) (by decide) _ m hx (hF 3 (by decide))) (fun r m hq ho40 hm => ?_)
        obtain ⟨rfl, hx⟩ := hq
        show sd_Wp sd_SC 2 sY10_check 43 [some (.inr 120), some (.inl d), some (.inl s), none, none] [.inl (-1000004)] m _
        refine sd_ireturn sD10_check_43 rfl (fun hr hm => ?_)
        exact sd_done (by unfold sp_check; (try simp only [Int.reduceToNat, Nat.reduceAdd, Nat.reduceMul, Nat.add_zero]); ((repeat (first | rw [if_pos (by first | assumption | omega)] | rw [if_neg (by first | assumption | omega)])); try rfl); try (rw [zz])) hx
    ·
      refine sd_aload_n sD10_check_19 rfl ?_
      refine sd_ldc (z := -1000001) sD10_check_20 sK10_51 (by decide) ?_
      refine sd_callV (as := [.inl (-1000001)]) (st := []) sD10_check_22 sM10_52 rfl rfl sOC120 rfl (by decide) (Nat.le_of_ble_eq_true rfl) (cC_found (-1000001) 0 (by decide) (by decide) _ m hx (hF 0 (by decide))) (fun r m hq ho22 hm => ?_)
      obtain ⟨rfl, hx⟩ := hq
      show sd_Wp sd_SC 2 sY10_check 25 [some (.inr 120), some (.inl d), some (.inl s), none, none] [.inl (-1000001)] m _
      refine sd_ireturn sD10_check_25 rfl (fun hr hm => ?_)
      exact sd_done (by unfold sp_check; (try simp only [Int.reduceToNat, Nat.reduceAdd, Nat.reduceMul, Nat.add_zero]); ((repeat (first | rw [if_pos (by first | assumption | omega)] | rw [if_neg (by first | assumption | omega)])); try rfl); try (rw [zz])) hx
