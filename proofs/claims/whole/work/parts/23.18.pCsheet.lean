set_option maxRecDepth 100000 in
set_option maxHeartbeats 4000000 in
theorem pC_sheet (s : Int) (b : Int) (n : Int) (x m : sd_M) (hx : sd_ns x m)  (hF : ∀ k : Nat, k < 7 → 0 ≤ x (4101 + k) ∧ x (4101 + k) ≤ 1000000) : sd_Ct sd_SC 2 sY10_sheet [.inr 120, .inl s, .inl b, .inl n] m (sd_Qp (spC_sheet x s b n)) := by
  refine sd_ct rfl (Nat.le_of_ble_eq_true rfl) (fun hok hm => ?_)
  have r_s : sd_R s := hok (.inl s) (by simp)
  have r_b : sd_R b := hok (.inl b) (by simp)
  have r_n : sd_R n := hok (.inl n) (by simp)
  show sd_Wp sd_SC 2 sY10_sheet 0 [some (.inr 120), some (.inl s), some (.inl b), some (.inl n), none] [] m _
  refine sd_iload_n sD10_sheet_0 rfl ?_
  refine sd_cut (J := 27) (ls := [some (.inr 120), some (.inl s), some (.inl b), some (.inl n), none]) (st := []) (fun zv => zv = (sd_b ((b = 0) ∨ ((¬ b = 0) ∧ (b = 8)) ∨ ((¬ b = 0) ∧ (¬ b = 8) ∧ (b = 16)) ∨ ((¬ b = 0) ∧ (¬ b = 8) ∧ (¬ b = 16) ∧ (b = 32))))) (fun zv hzv => ?_) (fun K1 => ?_)
  ·
    subst hzv
    refine sd_istore (ls' := [some (.inr 120), some (.inl s), some (.inl b), some (.inl n), some (.inl (sd_b ((b = 0) ∨ ((¬ b = 0) ∧ (b = 8)) ∨ ((¬ b = 0) ∧ (¬ b = 8) ∧ (b = 16)) ∨ ((¬ b = 0) ∧ (¬ b = 8) ∧ (¬ b = 16) ∧ (b = 32)))))]) sD10_sheet_27 (by decide) rfl ?_
    refine sd_iload_n sD10_sheet_29 rfl ?_
    refine sd_iconst sD10_sheet_30 (by decide) ?_
    refine sd_iconst sD10_sheet_31 (by decide) ?_
    refine sd_callSp (as := [.inl s, .inl 0, .inl 3]) (st := []) (v := .inl (sd_b (0 ≤ s ∧ s ≤ 3))) sD10_sheet_32 sM10_65 rfl rfl (by decide) (Nat.le_of_ble_eq_true rfl) (cC_isWithin s 0 3 m) (fun ho32 => ?_)
    refine sd_bif_eq (tgt := 43) sD10_sheet_35 (by decide) (fun zc35 => ?_) (fun zc35 => ?_)
    ·
      refine sd_aload_n sD10_sheet_43 rfl ?_
      refine sd_ldc (z := -1000001) sD10_sheet_44 sK10_51 (by decide) ?_
      refine sd_callV (as := [.inl (-1000001)]) (st := []) sD10_sheet_46 sM10_52 rfl rfl sOC120 rfl (by decide) (Nat.le_of_ble_eq_true rfl) (cC_found (-1000001) 0 (by decide) (by decide) _ m hx (hF 0 (by decide))) (fun r m hq ho46 hm => ?_)
      obtain ⟨rfl, hx⟩ := hq
      show sd_Wp sd_SC 2 sY10_sheet 49 [some (.inr 120), some (.inl s), some (.inl b), some (.inl n), some (.inl (sd_b ((b = 0) ∨ ((¬ b = 0) ∧ (b = 8)) ∨ ((¬ b = 0) ∧ (¬ b = 8) ∧ (b = 16)) ∨ ((¬ b = 0) ∧ (¬ b = 8) ∧ (¬ b = 16) ∧ (b = 32)))))] [.inl (-1000001)] m _
      refine sd_ireturn sD10_sheet_49 rfl (fun hr hm => ?_)
      exact sd_done (by unfold spC_sheet; (try simp only [Int.reduceToNat, Nat.reduceAdd, Nat.reduceMul, Nat.add_zero]); ((repeat (first | rw [if_pos (by first | assumption | omega)] | rw [if_neg (by first | assumption | omega)])); try rfl)) hx
    ·
      refine sd_iload sD10_sheet_38 rfl ?_
      refine sd_bif_ne (tgt := 50) sD10_sheet_40 (by decide) (fun zc40 => ?_) (fun zc40 => ?_)
      ·
        refine sd_iload_n sD10_sheet_50 rfl ?_
        refine sd_if_ge (tgt := 61) sD10_sheet_51 (by decide) (fun zc51 => ?_) (fun zc51 => ?_)
        ·
          refine sd_iload_n sD10_sheet_61 rfl ?_
          refine sd_bipush sD10_sheet_62 rfl (by decide) ?_
          refine sd_icmp_le (tgt := 74) sD10_sheet_64 (by decide) (fun zc64 => ?_) (fun zc64 => ?_)
          ·
            refine sd_aload_n sD10_sheet_74 rfl ?_
            refine sd_getfr sD10_sheet_75 sF10_21 sGC120_2 ?_
            refine sd_iload_n sD10_sheet_78 rfl ?_
            rcases (show s = 0 ∨ s = 1 ∨ s = 2 ∨ s = 3 by omega) with zs79 | zs79 | zs79 | zs79
            ·
              subst zs79
              refine sd_aald (q := 109) sD10_sheet_79 sBC116 (by decide) rfl ?_
              refine sd_iload_n sD10_sheet_80 rfl ?_
              refine sd_iload_n sD10_sheet_81 rfl ?_
              refine sd_callV (as := [.inl b, .inl n]) (st := []) sD10_sheet_82 sM10_356 rfl rfl sOC109 rfl (by decide) (Nat.le_of_ble_eq_true rfl) (cC_begin0 b n _ m hx) (fun r m hq ho82 hm => ?_)
              obtain ⟨rfl, hx⟩ := hq
              show sd_Wp sd_SC 2 sY10_sheet 85 [some (.inr 120), some (.inl 0), some (.inl b), some (.inl n), some (.inl (sd_b ((b = 0) ∨ ((¬ b = 0) ∧ (b = 8)) ∨ ((¬ b = 0) ∧ (¬ b = 8) ∧ (b = 16)) ∨ ((¬ b = 0) ∧ (¬ b = 8) ∧ (¬ b = 16) ∧ (b = 32)))))] [.inl (if b = 0 then 0 else n)] m _
              refine sd_ireturn sD10_sheet_85 rfl (fun hr hm => ?_)
              exact sd_done (by unfold spC_sheet; (try simp only [Int.reduceToNat, Nat.reduceAdd, Nat.reduceMul, Nat.add_zero]); ((repeat (first | rw [if_pos (by first | assumption | omega)] | rw [if_neg (by first | assumption | omega)])); try rfl)) hx
            ·
              subst zs79
              refine sd_aald (q := 111) sD10_sheet_79 sBC116 (by decide) rfl ?_
              refine sd_iload_n sD10_sheet_80 rfl ?_
              refine sd_iload_n sD10_sheet_81 rfl ?_
              refine sd_callV (as := [.inl b, .inl n]) (st := []) sD10_sheet_82 sM10_356 rfl rfl sOC111 rfl (by decide) (Nat.le_of_ble_eq_true rfl) (cC_begin1 b n _ m hx) (fun r m hq ho82 hm => ?_)
              obtain ⟨rfl, hx⟩ := hq
              show sd_Wp sd_SC 2 sY10_sheet 85 [some (.inr 120), some (.inl 1), some (.inl b), some (.inl n), some (.inl (sd_b ((b = 0) ∨ ((¬ b = 0) ∧ (b = 8)) ∨ ((¬ b = 0) ∧ (¬ b = 8) ∧ (b = 16)) ∨ ((¬ b = 0) ∧ (¬ b = 8) ∧ (¬ b = 16) ∧ (b = 32)))))] [.inl (if b = 0 then 0 else n)] m _
              refine sd_ireturn sD10_sheet_85 rfl (fun hr hm => ?_)
              exact sd_done (by unfold spC_sheet; (try simp only [Int.reduceToNat, Nat.reduceAdd, Nat.reduceMul, Nat.add_zero]); ((repeat (first | rw [if_pos (by first | assumption | omega)] | rw [if_neg (by first | assumption | omega)])); try rfl)) hx
            ·
              subst zs79
              refine sd_aald (q := 113) sD10_sheet_79 sBC116 (by decide) rfl ?_
              refine sd_iload_n sD10_sheet_80 rfl ?_
              refine sd_iload_n sD10_sheet_81 rfl ?_
              refine sd_callV (as := [.inl b, .inl n]) (st := []) sD10_sheet_82 sM10_356 rfl rfl sOC113 rfl (by decide) (Nat.le_of_ble_eq_true rfl) (cC_begin2 b n _ m hx) (fun r m hq ho82 hm => ?_)
              obtain ⟨rfl, hx⟩ := hq
              show sd_Wp sd_SC 2 sY10_sheet 85 [some (.inr 120), some (.inl 2), some (.inl b), some (.inl n), some (.inl (sd_b ((b = 0) ∨ ((¬ b = 0) ∧ (b = 8)) ∨ ((¬ b = 0) ∧ (¬ b = 8) ∧ (b = 16)) ∨ ((¬ b = 0) ∧ (¬ b = 8) ∧ (¬ b = 16) ∧ (b = 32)))))] [.inl (if b = 0 then 0 else n)] m _
              refine sd_ireturn sD10_sheet_85 rfl (fun hr hm => ?_)
              exact sd_done (by unfold spC_sheet; (try simp only [Int.reduceToNat, Nat.reduceAdd, Nat.reduceMul, Nat.add_zero]); ((repeat (first | rw [if_pos (by first | assumption | omega)] | rw [if_neg (by first | assumption | omega)])); try rfl)) hx
            ·
              subst zs79
              refine sd_aald (q := 115) sD10_sheet_79 sBC116 (by decide) rfl ?_
              refine sd_iload_n sD10_sheet_80 rfl ?_
              refine sd_iload_n sD10_sheet_81 rfl ?_
              refine sd_callV (as := [.inl b, .inl n]) (st := []) sD10_sheet_82 sM10_356 rfl rfl sOC115 rfl (by decide) (Nat.le_of_ble_eq_true rfl) (cC_begin3 b n _ m hx) (fun r m hq ho82 hm => ?_)
              obtain ⟨rfl, hx⟩ := hq
              show sd_Wp sd_SC 2 sY10_sheet 85 [some (.inr 120), some (.inl 3), some (.inl b), some (.inl n), some (.inl (sd_b ((b = 0) ∨ ((¬ b = 0) ∧ (b = 8)) ∨ ((¬ b = 0) ∧ (¬ b = 8) ∧ (b = 16)) ∨ ((¬ b = 0) ∧ (¬ b = 8) ∧ (¬ b = 16) ∧ (b = 32)))))] [.inl (if b = 0 then 0 else n)] m _
              refine sd_ireturn sD10_sheet_85 rfl (fun hr hm => ?_)
              exact sd_done (by unfold spC_sheet; (try simp only [Int.reduceToNat, Nat.reduceAdd, Nat.reduceMul, Nat.add_zero]); ((repeat (first | rw [if_pos (by first | assumption | omega)] | rw [if_neg (by first | assumption | omega)])); try rfl)) hx
          ·
            refine sd_aload_n sD10_sheet_67 rfl ?_
            refine sd_ldc (z := -1000001) sD10_sheet_68 sK10_51 (by decide) ?_
            refine sd_callV (as := [.inl (-1000001)]) (st := []) sD10_sheet_70 sM10_52 rfl rfl sOC120 rfl (by decide) (Nat.le_of_ble_eq_true rfl) (cC_found (-1000001) 0 (by decide) (by decide) _ m hx (hF 0 (by decide))) (fun r m hq ho70 hm => ?_)
            obtain ⟨rfl, hx⟩ := hq
            show sd_Wp sd_SC 2 sY10_sheet 73 [some (.inr 120), some (.inl s), some (.inl b), some (.inl n), some (.inl (sd_b ((b = 0) ∨ ((¬ b = 0) ∧ (b = 8)) ∨ ((¬ b = 0) ∧ (¬ b = 8) ∧ (b = 16)) ∨ ((¬ b = 0) ∧ (¬ b = 8) ∧ (¬ b = 16) ∧ (b = 32)))))] [.inl (-1000001)] m _
            refine sd_ireturn sD10_sheet_73 rfl (fun hr hm => ?_)
            exact sd_done (by unfold spC_sheet; (try simp only [Int.reduceToNat, Nat.reduceAdd, Nat.reduceMul, Nat.add_zero]); ((repeat (first | rw [if_pos (by first | assumption | omega)] | rw [if_neg (by first | assumption | omega)])); try rfl)) hx
        ·
          refine sd_aload_n sD10_sheet_54 rfl ?_
          refine sd_ldc (z := -1000007) sD10_sheet_55 sK10_163 (by decide) ?_
          refine sd_callV (as := [.inl (-1000007)]) (st := []) sD10_sheet_57 sM10_52 rfl rfl sOC120 rfl (by decide) (Nat.le_of_ble_eq_true rfl) (cC_found (-1000007) 6 (by decide) (by decide) _ m hx (hF 6 (by decide))) (fun r m hq ho57 hm => ?_)
          obtain ⟨rfl, hx⟩ := hq
          show sd_Wp sd_SC 2 sY10_sheet 60 [some (.inr 120), some (.inl s), some (.inl b), some (.inl n), some (.inl (sd_b ((b = 0) ∨ ((¬ b = 0) ∧ (b = 8)) ∨ ((¬ b = 0) ∧ (¬ b = 8) ∧ (b = 16)) ∨ ((¬ b = 0) ∧ (¬ b = 8) ∧ (¬ b = 16) ∧ (b = 32)))))] [.inl (-1000007)] m _
          refine sd_ireturn sD10_sheet_60 rfl (fun hr hm => ?_)
          exact sd_done (by unfold spC_sheet; (try simp only [Int.reduceToNat, Nat.reduceAdd, Nat.reduceMul, Nat.add_zero]); ((repeat (first | rw [if_pos (by first | assumption | omega)] | rw [if_neg (by first | assumption | omega)])); try rfl)) hx
      ·
        refine sd_aload_n sD10_sheet_43 rfl ?_
        refine sd_ldc (z := -1000001) sD10_sheet_44 sK10_51 (by decide) ?_
        refine sd_callV (as := [.inl (-1000001)]) (st := []) sD10_sheet_46 sM10_52 rfl rfl sOC120 rfl (by decide) (Nat.le_of_ble_eq_true rfl) (cC_found (-1000001) 0 (by decide) (by decide) _ m hx (hF 0 (by decide))) (fun r m hq ho46 hm => ?_)
        obtain ⟨rfl, hx⟩ := hq
        show sd_Wp sd_SC 2 sY10_sheet 49 [some (.inr 120), some (.inl s), some (.inl b), some (.inl n), some (.inl (sd_b ((b = 0) ∨ ((¬ b = 0) ∧ (b = 8)) ∨ ((¬ b = 0) ∧ (¬ b = 8) ∧ (b = 16)) ∨ ((¬ b = 0) ∧ (¬ b = 8) ∧ (¬ b = 16) ∧ (b = 32)))))] [.inl (-1000001)] m _
        refine sd_ireturn sD10_sheet_49 rfl (fun hr hm => ?_)
        exact sd_done (by unfold spC_sheet; (try simp only [Int.reduceToNat, Nat.reduceAdd, Nat.reduceMul, Nat.add_zero]); ((repeat (first | rw [if_pos (by first | assumption | omega)] | rw [if_neg (by first | assumption | omega)])); try rfl)) hx
  ·
    refine sd_if_eq (tgt := 22) sD10_sheet_1 (by decide) (fun zc1 => ?_) (fun zc1 => ?_)
    ·
      refine sd_iconst sD10_sheet_22 (by decide) ?_
      refine sd_goto (tgt := 27) sD10_sheet_23 (by decide) ?_
      exact K1 _ (by exact (sd_b1 (by omega)).symm)
    ·
      refine sd_iload_n sD10_sheet_4 rfl ?_
      refine sd_bipush sD10_sheet_5 rfl (by decide) ?_
      refine sd_icmp_eq (tgt := 22) sD10_sheet_7 (by decide) (fun zc7 => ?_) (fun zc7 => ?_)
      ·
        refine sd_iconst sD10_sheet_22 (by decide) ?_
        refine sd_goto (tgt := 27) sD10_sheet_23 (by decide) ?_
        exact K1 _ (by exact (sd_b1 (by omega)).symm)
      ·
        refine sd_iload_n sD10_sheet_10 rfl ?_
        refine sd_bipush sD10_sheet_11 rfl (by decide) ?_
        refine sd_icmp_eq (tgt := 22) sD10_sheet_13 (by decide) (fun zc13 => ?_) (fun zc13 => ?_)
        ·
          refine sd_iconst sD10_sheet_22 (by decide) ?_
          refine sd_goto (tgt := 27) sD10_sheet_23 (by decide) ?_
          exact K1 _ (by exact (sd_b1 (by omega)).symm)
        ·
          refine sd_iload_n sD10_sheet_16 rfl ?_
          refine sd_bipush sD10_sheet_17 rfl (by decide) ?_
          refine sd_icmp_ne (tgt := 26) sD10_sheet_19 (by decide) (fun zc19 => ?_) (fun zc19 => ?_)
          ·
            refine sd_iconst sD10_sheet_26 (by decide) ?_
            exact K1 _ (by exact (sd_b0 (by omega)).symm)
          ·
            refine sd_iconst sD10_sheet_22 (by decide) ?_
            refine sd_goto (tgt := 27) sD10_sheet_23 (by decide) ?_
            exact K1 _ (by exact (sd_b1 (by omega)).symm)
