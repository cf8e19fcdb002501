set_option maxRecDepth 100000 in
set_option maxHeartbeats 4000000 in
theorem pC_write (s : Int) (i : Int) (v : Int) (x m : sd_M) (hx : sd_ns x m)  (hF : ∀ k : Nat, k < 7 → 0 ≤ x (4101 + k) ∧ x (4101 + k) ≤ 1000000) (hB : sd_IB x) : sd_Ct sd_SC 2 sY10_write [.inr 120, .inl s, .inl i, .inl v] m (sd_Qp (spC_write x s i v)) := by
  refine sd_ct rfl (Nat.le_of_ble_eq_true rfl) (fun hok hm => ?_)
  have r_s : sd_R s := hok (.inl s) (by simp)
  have r_i : sd_R i := hok (.inl i) (by simp)
  have r_v : sd_R v := hok (.inl v) (by simp)
  show sd_Wp sd_SC 2 sY10_write 0 [some (.inr 120), some (.inl s), some (.inl i), some (.inl v), none] [] m _
  refine sd_iload_n sD10_write_0 rfl ?_
  refine sd_iconst sD10_write_1 (by decide) ?_
  refine sd_iconst sD10_write_2 (by decide) ?_
  refine sd_callSp (as := [.inl s, .inl 0, .inl 3]) (st := []) (v := .inl (sd_b (0 ≤ s ∧ s ≤ 3))) sD10_write_3 sM10_65 rfl rfl (by decide) (Nat.le_of_ble_eq_true rfl) (cC_isWithin s 0 3 m) (fun ho3 => ?_)
  refine sd_bif_ne (tgt := 16) sD10_write_6 (by decide) (fun zc6 => ?_) (fun zc6 => ?_)
  ·
    refine sd_aload_n sD10_write_16 rfl ?_
    refine sd_getfr sD10_write_17 sF10_21 sGC120_2 ?_
    refine sd_iload_n sD10_write_20 rfl ?_
    rcases (show s = 0 ∨ s = 1 ∨ s = 2 ∨ s = 3 by omega) with zs21 | zs21 | zs21 | zs21
    ·
      subst zs21
      refine sd_aald (q := 109) sD10_write_21 sBC116 (by decide) rfl ?_
      refine sd_astore (ls' := [some (.inr 120), some (.inl 0), some (.inl i), some (.inl v), some (.inr 109)]) sD10_write_22 (by decide) rfl ?_
      refine sd_aload sD10_write_24 rfl ?_
      have e0 := (hB 0 (by decide)).2.1
      have e1 := (hB 1 (by decide)).2.1
      have e2 := (hB 2 (by decide)).2.1
      have e3 := (hB 3 (by decide)).2.1
      simp only [Nat.add_zero, Nat.reduceAdd] at e0 e1 e2 e3
      refine sd_callVp (as := []) (st := []) (v := .inl (sd_b (x 4250 = 0))) sD10_write_26 sM10_192 sOC109 rfl rfl rfl (by decide) (Nat.le_of_ble_eq_true rfl) (cC_isMissing0 _ m hx) (fun ho26 => ?_)
      refine sd_bif_eq (tgt := 39) sD10_write_29 (by decide) (fun zc29 => ?_) (fun zc29 => ?_)
      ·
        refine sd_iload_n sD10_write_39 rfl ?_
        refine sd_iconst sD10_write_40 (by decide) ?_
        refine sd_aload sD10_write_41 rfl ?_
        refine sd_getfx (v := x 8100) hx sD10_write_43 sF10_197 sGC109_1 (by decide) rfl ?_
        refine sd_iconst sD10_write_46 (by decide) ?_
        refine sd_isub (z := (x 8100 - 1)) sD10_write_47 (by omega) (by omega) ?_
        refine sd_callSp (as := [.inl i, .inl 0, .inl (x 8100 - 1)]) (st := []) (v := .inl (sd_b (0 ≤ i ∧ i ≤ (x 8100 - 1)))) sD10_write_48 sM10_65 rfl rfl (by decide) (Nat.le_of_ble_eq_true rfl) (cC_isWithin i 0 (x 8100 - 1) m) (fun ho48 => ?_)
        refine sd_bif_ne (tgt := 61) sD10_write_51 (by decide) (fun zc51 => ?_) (fun zc51 => ?_)
        ·
          refine sd_aload sD10_write_61 rfl ?_
          refine sd_iload_n sD10_write_63 rfl ?_
          refine sd_iload_n sD10_write_64 rfl ?_
          refine sd_callV (as := [.inl i, .inl v]) (st := []) sD10_write_65 sM10_359 rfl rfl sOC109 rfl (by decide) (Nat.le_of_ble_eq_true rfl) (cC_put0 i v _ m hx (by omega)) (fun r m hq ho65 hm => ?_)
          obtain ⟨rfl, hx⟩ := hq
          show sd_Wp sd_SC 2 sY10_write 68 [some (.inr 120), some (.inl 0), some (.inl i), some (.inl v), some (.inr 109)] [.inl (x (8200 + i.toNat))] m _
          refine sd_ireturn sD10_write_68 rfl (fun hr hm => ?_)
          exact sd_done (by unfold spC_write; (try simp only [Int.reduceToNat, Nat.reduceAdd, Nat.reduceMul, Nat.add_zero]); ((repeat (first | rw [if_pos (by first | assumption | omega)] | rw [if_neg (by first | assumption | omega)])); try rfl)) hx
        ·
          refine sd_aload_n sD10_write_54 rfl ?_
          refine sd_ldc (z := -1000001) sD10_write_55 sK10_51 (by decide) ?_
          refine sd_callV (as := [.inl (-1000001)]) (st := []) sD10_write_57 sM10_52 rfl rfl sOC120 rfl (by decide) (Nat.le_of_ble_eq_true rfl) (cC_found (-1000001) 0 (by decide) (by decide) _ m hx (hF 0 (by decide))) (fun r m hq ho57 hm => ?_)
          obtain ⟨rfl, hx⟩ := hq
          show sd_Wp sd_SC 2 sY10_write 60 [some (.inr 120), some (.inl 0), some (.inl i), some (.inl v), some (.inr 109)] [.inl (-1000001)] m _
          refine sd_ireturn sD10_write_60 rfl (fun hr hm => ?_)
          exact sd_done (by unfold spC_write; (try simp only [Int.reduceToNat, Nat.reduceAdd, Nat.reduceMul, Nat.add_zero]); ((repeat (first | rw [if_pos (by first | assumption | omega)] | rw [if_neg (by first | assumption | omega)])); try rfl)) hx
      ·
        refine sd_aload_n sD10_write_32 rfl ?_
        refine sd_ldc (z := -1000006) sD10_write_33 sK10_196 (by decide) ?_
        refine sd_callV (as := [.inl (-1000006)]) (st := []) sD10_write_35 sM10_52 rfl rfl sOC120 rfl (by decide) (Nat.le_of_ble_eq_true rfl) (cC_found (-1000006) 5 (by decide) (by decide) _ m hx (hF 5 (by decide))) (fun r m hq ho35 hm => ?_)
        obtain ⟨rfl, hx⟩ := hq
        show sd_Wp sd_SC 2 sY10_write 38 [some (.inr 120), some (.inl 0), some (.inl i), some (.inl v), some (.inr 109)] [.inl (-1000006)] m _
        refine sd_ireturn sD10_write_38 rfl (fun hr hm => ?_)
        exact sd_done (by unfold spC_write; (try simp only [Int.reduceToNat, Nat.reduceAdd, Nat.reduceMul, Nat.add_zero]); ((repeat (first | rw [if_pos (by first | assumption | omega)] | rw [if_neg (by first | assumption | omega)])); try rfl)) hx
    ·
      subst zs21
      refine sd_aald (q := 111) sD10_write_21 sBC116 (by decide) rfl ?_
      refine sd_astore (ls' := [some (.inr 120), some (.inl 1), some (.inl i), some (.inl v), some (.inr 111)]) sD10_write_22 (by decide) rfl ?_
      refine sd_aload sD10_write_24 rfl ?_
      have e0 := (hB 0 (by decide)).2.1
      have e1 := (hB 1 (by decide)).2.1
      have e2 := (hB 2 (by decide)).2.1
      have e3 := (hB 3 (by decide)).2.1
      simp only [Nat.add_zero, Nat.reduceAdd] at e0 e1 e2 e3
      refine sd_callVp (as := []) (st := []) (v := .inl (sd_b (x 4251 = 0))) sD10_write_26 sM10_192 sOC111 rfl rfl rfl (by decide) (Nat.le_of_ble_eq_true rfl) (cC_isMissing1 _ m hx) (fun ho26 => ?_)
      refine sd_bif_eq (tgt := 39) sD10_write_29 (by decide) (fun zc29 => ?_) (fun zc29 => ?_)
      ·
        refine sd_iload_n sD10_write_39 rfl ?_
        refine sd_iconst sD10_write_40 (by decide) ?_
        refine sd_aload sD10_write_41 rfl ?_
        refine sd_getfx (v := x 8101) hx sD10_write_43 sF10_197 sGC111_1 (by decide) rfl ?_
        refine sd_iconst sD10_write_46 (by decide) ?_
        refine sd_isub (z := (x 8101 - 1)) sD10_write_47 (by omega) (by omega) ?_
        refine sd_callSp (as := [.inl i, .inl 0, .inl (x 8101 - 1)]) (st := []) (v := .inl (sd_b (0 ≤ i ∧ i ≤ (x 8101 - 1)))) sD10_write_48 sM10_65 rfl rfl (by decide) (Nat.le_of_ble_eq_true rfl) (cC_isWithin i 0 (x 8101 - 1) m) (fun ho48 => ?_)
        refine sd_bif_ne (tgt := 61) sD10_write_51 (by decide) (fun zc51 => ?_) (fun zc51 => ?_)
        ·
          refine sd_aload sD10_write_61 rfl ?_
          refine sd_iload_n sD10_write_63 rfl ?_
          refine sd_iload_n sD10_write_64 rfl ?_
          refine sd_callV (as := [.inl i, .inl v]) (st := []) sD10_write_65 sM10_359 rfl rfl sOC111 rfl (by decide) (Nat.le_of_ble_eq_true rfl) (cC_put1 i v _ m hx (by omega)) (fun r m hq ho65 hm => ?_)
          obtain ⟨rfl, hx⟩ := hq
          show sd_Wp sd_SC 2 sY10_write 68 [some (.inr 120), some (.inl 1), some (.inl i), some (.inl v), some (.inr 111)] [.inl (x (8212 + i.toNat))] m _
          refine sd_ireturn sD10_write_68 rfl (fun hr hm => ?_)
          exact sd_done (by unfold spC_write; (try simp only [Int.reduceToNat, Nat.reduceAdd, Nat.reduceMul, Nat.add_zero]); ((repeat (first | rw [if_pos (by first | assumption | omega)] | rw [if_neg (by first | assumption | omega)])); try rfl)) hx
        ·
          refine sd_aload_n sD10_write_54 rfl ?_
          refine sd_ldc (z := -1000001) sD10_write_55 sK10_51 (by decide) ?_
          refine sd_callV (as := [.inl (-1000001)]) (st := []) sD10_write_57 sM10_52 rfl rfl sOC120 rfl (by decide) (Nat.le_of_ble_eq_true rfl) (cC_found (-1000001) 0 (by decide) (by decide) _ m hx (hF 0 (by decide))) (fun r m hq ho57 hm => ?_)
          obtain ⟨rfl, hx⟩ := hq
          show sd_Wp sd_SC 2 sY10_write 60 [some (.inr 120), some (.inl 1), some (.inl i), some (.inl v), some (.inr 111)] [.inl (-1000001)] m _
          refine sd_ireturn sD10_write_60 rfl (fun hr hm => ?_)
          exact sd_done (by unfold spC_write; (try simp only [Int.reduceToNat, Nat.reduceAdd, Nat.reduceMul, Nat.add_zero]); ((repeat (first | rw [if_pos (by first | assumption | omega)] | rw [if_neg (by first | assumption | omega)])); try rfl)) hx
      ·
        refine sd_aload_n sD10_write_32 rfl ?_
        refine sd_ldc (z := -1000006) sD10_write_33 sK10_196 (by decide) ?_
        refine sd_callV (as := [.inl (-1000006)]) (st := []) sD10_write_35 sM10_52 rfl rfl sOC120 rfl (by decide) (Nat.le_of_ble_eq_true rfl) (cC_found (-1000006) 5 (by decide) (by decide) _ m hx (hF 5 (by decide))) (fun r m hq ho35 hm => ?_)
        obtain ⟨rfl, hx⟩ := hq
        show sd_Wp sd_SC 2 sY10_write 38 [some (.inr 120), some (.inl 1), some (.inl i), some (.inl v), some (.inr 111)] [.inl (-1000006)] m _
        refine sd_ireturn sD10_write_38 rfl (fun hr hm => ?_)
        exact sd_done (by unfold spC_write; (try simp only [Int.reduceToNat, Nat.reduceAdd, Nat.reduceMul, Nat.add_zero]); ((repeat (first | rw [if_pos (by first | assumption | omega)] | rw [if_neg (by first | assumption | omega)])); try rfl)) hx
    ·
      subst zs21
      refine sd_aald (q := 113) sD10_write_21 sBC116 (by decide) rfl ?_
      refine sd_astore (ls' := [some (.inr 120), some (.inl 2), some (.inl i), some (.inl v), some (.inr 113)]) sD10_write_22 (by decide) rfl ?_
      refine sd_aload sD10_write_24 rfl ?_
      have e0 := (hB 0 (by decide)).2.1
      have e1 := (hB 1 (by decide)).2.1
      have e2 := (hB 2 (by decide)).2.1
      have e3 := (hB 3 (by decide)).2.1
      simp only [Nat.add_zero, Nat.reduceAdd] at e0 e1 e2 e3
      refine sd_callVp (as := []) (st := []) (v := .inl (sd_b (x 4252 = 0))) sD10_write_26 sM10_192 sOC113 rfl rfl rfl (by decide) (Nat.le_of_ble_eq_true rfl) (cC_isMissing2 _ m hx) (fun ho26 => ?_)
      refine sd_bif_eq (tgt := 39) sD10_write_29 (by decide) (fun zc29 => ?_) (fun zc29 => ?_)
      ·
        refine sd_iload_n sD10_write_39 rfl ?_
        refine sd_iconst sD10_write_40 (by decide) ?_
        refine sd_aload sD10_write_41 rfl ?_
        refine sd_getfx (v := x 8102) hx sD10_write_43 sF10_197 sGC113_1 (by decide) rfl ?_
        refine sd_iconst sD10_write_46 (by decide) ?_
        refine sd_isub (z := (x 8102 - 1)) sD10_write_47 (by omega) (by omega) ?_
        refine sd_callSp (as := [.inl i, .inl 0, .inl (x 8102 - 1)]) (st := []) (v := .inl (sd_b (0 ≤ i ∧ i ≤ (x 8102 - 1)))) sD10_write_48 sM10_65 rfl rfl (by decide) (Nat.le_of_ble_eq_true rfl) (cC_isWithin i 0 (x 8102 - 1) m) (fun ho48 => ?_)
        refine sd_bif_ne (tgt := 61) sD10_write_51 (by decide) (fun zc51 => ?_) (fun zc51 => ?_)
        ·
          refine sd_aload sD10_write_61 rfl ?_
          refine sd_iload_n sD10_write_63 rfl ?_
          refine sd_iload_n sD10_write_64 rfl ?_
          refine sd_callV (as := [.inl i, .inl v]) (st := []) sD10_write_65 sM10_359 rfl rfl sOC113 rfl (by decide) (Nat.le_of_ble_eq_true rfl) (cC_put2 i v _ m hx (by omega)) (fun r m hq ho65 hm => ?_)
          obtain ⟨rfl, hx⟩ := hq
          show sd_Wp sd_SC 2 sY10_write 68 [some (.inr 120), some (.inl 2), some (.inl i), some (.inl v), some (.inr 113)] [.inl (x (8224 + i.toNat))] m _
          refine sd_ireturn sD10_write_68 rfl (fun hr hm => ?_)
          exact sd_done (by unfold spC_write; (try simp only [Int.reduceToNat, Nat.reduceAdd, Nat.reduceMul, Nat.add_zero]); ((repeat (first | rw [if_pos (by first | assumption | omega)] | rw [if_neg (by first | assumption | omega)])); try rfl)) hx
        ·
          refine sd_aload_n sD10_write_54 rfl ?_
          refine sd_ldc (z := -1000001) sD10_write_55 sK10_51 (by decide) ?_
          refine sd_callV (as := [.inl (-1000001)]) (st := []) sD10_write_57 sM10_52 rfl rfl sOC120 rfl (by decide) (Nat.le_of_ble_eq_true rfl) (cC_found (-1000001) 0 (by decide) (by decide) _ m hx (hF 0 (by decide))) (fun r m hq ho57 hm => ?_)
          obtain ⟨rfl, hx⟩ := hq
          show sd_Wp sd_SC 2 sY10_write 60 [some (.inr 120), some (.inl 2), some (.inl i), some (.inl v), some (.inr 113)] [.inl (-1000001)] m _
          refine sd_ireturn sD10_write_60 rfl (fun hr hm => ?_)
          exact sd_done (by unfold spC_write; (try simp only [Int.reduceToNat, Nat.reduceAdd, Nat.reduceMul, Nat.add_zero]); ((repeat (first | rw [if_pos (by first | assumption | omega)] | rw [if_neg (by first | assumption | omega)])); try rfl)) hx
      ·
        refine sd_aload_n sD10_write_32 rfl ?_
        refine sd_ldc (z := -1000006) sD10_write_33 sK10_196 (by decide) ?_
        refine sd_callV (as := [.inl (-1000006)]) (st := []) sD10_write_35 sM10_52 rfl rfl sOC120 rfl (by decide) (Nat.le_of_ble_eq_true rfl) (cC_found (-1000006) 5 (by decide) (by decide) _ m hx (hF 5 (by decide))) (fun r m hq ho35 hm => ?_)
        obtain ⟨rfl, hx⟩ := hq
        show sd_Wp sd_SC 2 sY10_write 38 [some (.inr 120), some (.inl 2), some (.inl i), some (.inl v), some (.inr 113)] [.inl (-1000006)] m _
        refine sd_ireturn sD10_write_38 rfl (fun hr hm => ?_)
        exact sd_done (by unfold spC_write; (try simp only [Int.reduceToNat, Nat.reduceAdd, Nat.reduceMul, Nat.add_zero]); ((repeat (first | rw [if_pos (by first | assumption | omega)] | rw [if_neg (by first | assumption | omega)])); try rfl)) hx
    ·
      subst zs21
      refine sd_aald (q := 115) sD10_write_21 sBC116 (by decide) rfl ?_
      refine sd_astore (ls' := [some (.inr 120), some (.inl 3), some (.inl i), some (.inl v), some (.inr 115)]) sD10_write_22 (by decide) rfl ?_
      refine sd_aload sD10_write_24 rfl ?_
      have e0 := (hB 0 (by decide)).2.1
      have e1 := (hB 1 (by decide)).2.1
      have e2 := (hB 2 (by decide)).2.1
      have e3 := (hB 3 (by decide)).2.1
      simp only [Nat.add_zero, Nat.reduceAdd] at e0 e1 e2 e3
      refine sd_callVp (as := []) (st := []) (v := .inl (sd_b (x 4253 = 0))) sD10_write_26 sM10_192 sOC115 rfl rfl rfl (by decide) (Nat.le_of_ble_eq_true rfl) (cC_isMissing3 _ m hx) (fun ho26 => ?_)
      refine sd_bif_eq (tgt := 39) sD10_write_29 (by decide) (fun zc29 => ?_) (fun zc29 => ?_)
      ·
        refine sd_iload_n sD10_write_39 rfl ?_
        refine sd_iconst sD10_write_40 (by decide) ?_
        refine sd_aload sD10_write_41 rfl ?_
        refine sd_getfx (v := x 8103) hx sD10_write_43 sF10_197 sGC115_1 (by decide) rfl ?_
        refine sd_iconst sD10_write_46 (by decide) ?_
        refine sd_isub (z := (x 8103 - 1)) sD10_write_47 (by omega) (by omega) ?_
        refine sd_callSp (as := [.inl i, .inl 0, .inl (x 8103 - 1)]) (st := []) (v := .inl (sd_b (0 ≤ i ∧ i ≤ (x 8103 - 1)))) sD10_write_48 sM10_65 rfl rfl (by decide) (Nat.le_of_ble_eq_true rfl) (cC_isWithin i 0 (x 8103 - 1) m) (fun ho48 => ?_)
        refine sd_bif_ne (tgt := 61) sD10_write_51 (by decide) (fun zc51 => ?_) (fun zc51 => ?_)
        ·
          refine sd_aload sD10_write_61 rfl ?_
          refine sd_iload_n sD10_write_63 rfl ?_
          refine sd_iload_n sD10_write_64 rfl ?_
          refine sd_callV (as := [.inl i, .inl v]) (st := []) sD10_write_65 sM10_359 rfl rfl sOC115 rfl (by decide) (Nat.le_of_ble_eq_true rfl) (cC_put3 i v _ m hx (by omega)) (fun r m hq ho65 hm => ?_)
          obtain ⟨rfl, hx⟩ := hq
          show sd_Wp sd_SC 2 sY10_write 68 [some (.inr 120), some (.inl 3), some (.inl i), some (.inl v), some (.inr 115)] [.inl (x (8236 + i.toNat))] m _
          refine sd_ireturn sD10_write_68 rfl (fun hr hm => ?_)
          exact sd_done (by unfold spC_write; (try simp only [Int.reduceToNat, Nat.reduceAdd, Nat.reduceMul, Nat.add_zero]); ((repeat (first | rw [if_pos (by first | assumption | omega)] | rw [if_neg (by first | assumption | omega)])); try rfl)) hx
        ·
          refine sd_aload_n sD10_write_54 rfl ?_
          refine sd_ldc (z := -1000001) sD10_write_55 sK10_51 (by decide) ?_
          refine sd_callV (as := [.inl (-1000001)]) (st := []) sD10_write_57 sM10_52 rfl rfl sOC120 rfl (by decide) (Nat.le_of_ble_eq_true rfl) (cC_found (-1000001) 0 (by decide) (by decide) _ m hx (hF 0 (by decide))) (fun r m hq ho57 hm => ?_)
          obtain ⟨rfl, hx⟩ := hq
          show sd_Wp sd_SC 2 sY10_write 60 [some (.inr 120), some (.inl 3), some (.inl i), some (.inl v), some (.inr 115)] [.inl (-1000001)] m _
          refine sd_ireturn sD10_write_60 rfl (fun hr hm => ?_)
          exact sd_done (by unfold spC_write; (try simp only [Int.reduceToNat, Nat.reduceAdd, Nat.reduceMul, Nat.add_zero]); ((repeat (first | rw [if_pos (by first | assumption | omega)] | rw [if_neg (by first | assumption | omega)])); try rfl)) hx
      ·
        refine sd_aload_n sD10_write_32 rfl ?_
        refine sd_ldc (z := -1000006) sD10_write_33 sK10_196 (by decide) ?_
        refine sd_callV (as := [.inl (-1000006)]) (st := []) sD10_write_35 sM10_52 rfl rfl sOC120 rfl (by decide) (Nat.le_of_ble_eq_true rfl) (cC_found (-1000006) 5 (by decide) (by decide) _ m hx (hF 5 (by decide))) (fun r m hq ho35 hm => ?_)
        obtain ⟨rfl, hx⟩ := hq
        show sd_Wp sd_SC 2 sY10_write 38 [some (.inr 120), some (.inl 3), some (.inl i), some (.inl v), some (.inr 115)] [.inl (-1000006)] m _
        refine sd_ireturn sD10_write_38 rfl (fun hr hm => ?_)
        exact sd_done (by unfold spC_write; (try simp only [Int.reduceToNat, Nat.reduceAdd, Nat.reduceMul, Nat.add_zero]); ((repeat (first | rw [if_pos (by first | assumption | omega)] | rw [if_neg (by first | assumption | omega)])); try rfl)) hx
  ·
    refine sd_aload_n sD10_write_9 rfl ?_
    refine sd_ldc (z := -1000001) sD10_write_10 sK10_51 (by decide) ?_
    refine sd_callV (as := [.inl (-1000001)]) (st := []) sD10_write_12 sM10_52 rfl rfl sOC120 rfl (by decide) (Nat.le_of_ble_eq_true rfl) (cC_found (-1000001) 0 (by decide) (by decide) _ m hx (hF 0 (by decide))) (fun r m hq ho12 hm => ?_)
    obtain ⟨rfl, hx⟩ := hq
    show sd_Wp sd_SC 2 sY10_write 15 [some (.inr 120), some (.inl s), some (.inl i), some (.inl v), none] [.inl (-1000001)] m _
    refine sd_ireturn sD10_write_15 rfl (fun hr hm => ?_)
    exact sd_done (by unfold spC_write; (try simp only [Int.reduceToNat, Nat.reduceAdd, Nat.reduceMul, Nat.add_zero]); ((repeat (first | rw [if_pos (by first | assumption | omega)] | rw [if_neg (by first | assumption | omega)])); try rfl)) hx
