set_option maxRecDepth 100000 in
set_option maxHeartbeats 4000000 in
theorem pC_work (n : Int) (x m : sd_M) (hx : sd_ns x m) (h1 : sd_I1 x) (hF : ∀ k : Nat, k < 7 → 0 ≤ x (4101 + k) ∧ x (4101 + k) ≤ 1000000) : sd_Ct sd_SC 2 sY10_work [.inr 120, .inl n] m (sd_Qp (sp_work x n)) := by
  refine sd_ct rfl (Nat.le_of_ble_eq_true rfl) (fun hok hm => ?_)
  obtain ⟨⟨i0, j0⟩, ⟨i1, j1⟩, ⟨i2, j2⟩, ⟨i3, j3⟩, ⟨i4, j4⟩, ⟨i5, j5⟩, ⟨i6, j6⟩, ⟨i7, j7⟩, ⟨i8, j8⟩⟩ := id h1
  have r_n : sd_R n := hok (.inl n) (by simp)
  show sd_Wp sd_SC 2 sY10_work 0 [some (.inr 120), some (.inl n)] [] m _
  refine sd_iload_n sD10_work_0 rfl ?_
  refine sd_iconst sD10_work_1 (by decide) ?_
  refine sd_ldc (z := 999999) sD10_work_2 sK10_182 (by decide) ?_
  refine sd_callSp (as := [.inl n, .inl 0, .inl 999999]) (st := []) (v := .inl (sd_b (0 ≤ n ∧ n ≤ 999999))) sD10_work_4 sM10_65 rfl rfl (by decide) (Nat.le_of_ble_eq_true rfl) (cC_isWithin n 0 999999 m) (fun ho4 => ?_)
  refine sd_bif_ne (tgt := 17) sD10_work_7 (by decide) (fun zc7 => ?_) (fun zc7 => ?_)
  ·
    refine sd_aload_n sD10_work_17 rfl ?_
    refine sd_getfr sD10_work_18 sF10_10 sGC120_0 ?_
    refine sd_getfr sD10_work_21 sF10_183 sGC53_4 ?_
    refine sd_getfx (v := x 4) hx sD10_work_24 sF10_187 sGC23_0 (by decide) rfl ?_
    refine sd_bipush sD10_work_27 rfl (by decide) ?_
    refine sd_icmp_lt (tgt := 41) sD10_work_29 (by decide) (fun zc29 => ?_) (fun zc29 => ?_)
    ·
      refine sd_aload_n sD10_work_41 rfl ?_
      refine sd_getfr sD10_work_42 sF10_10 sGC120_0 ?_
      refine sd_getfr sD10_work_45 sF10_183 sGC53_4 ?_
      refine sd_iload_n sD10_work_48 rfl ?_
      refine sd_callV (as := [.inl n]) (st := []) sD10_work_49 sM10_190 rfl rfl sOC23 rfl (by decide) (Nat.le_of_ble_eq_true rfl) (cC_workadd n _ m hx (by omega) (by omega)) (fun r m hq ho49 hm => ?_)
      obtain ⟨rfl, hx⟩ := hq
      show sd_Wp sd_SC 2 sY10_work 52 [some (.inr 120), some (.inl n)] [.inl (x 4)] m _
      refine sd_ireturn sD10_work_52 rfl (fun hr hm => ?_)
      exact sd_done3 (by unfold sp_work; ((repeat (first | rw [if_pos (by first | assumption | omega)] | rw [if_neg (by first | assumption | omega)]))); all_goals (first | rfl | (dsimp only; omega))) (by intro j; unfold sp_work; ((repeat (first | rw [if_pos (by first | assumption | omega)] | rw [if_neg (by first | assumption | omega)]))); all_goals (first | rfl | (dsimp only; simp only [sd_up]; (repeat' (first | rfl | split)); all_goals omega))) hx
    ·
      refine sd_aload_n sD10_work_32 rfl ?_
      refine sd_ldc (z := -1000002) sD10_work_33 sK10_60 (by decide) ?_
      refine sd_callV (as := [.inl (-1000002)]) (st := []) sD10_work_35 sM10_52 rfl rfl sOC120 rfl (by decide) (Nat.le_of_ble_eq_true rfl) (cC_found (-1000002) 1 (by decide) (by decide) _ m hx (hF 1 (by decide))) (fun r m hq ho35 hm => ?_)
      obtain ⟨rfl, hx⟩ := hq
      show sd_Wp sd_SC 2 sY10_work 38 [some (.inr 120), some (.inl n)] [.inl (-1000002)] m _
      refine sd_goto (tgt := 52) sD10_work_38 (by decide) ?_
      refine sd_ireturn sD10_work_52 rfl (fun hr hm => ?_)
      exact sd_done3 (by unfold sp_work; ((repeat (first | rw [if_pos (by first | assumption | omega)] | rw [if_neg (by first | assumption | omega)]))); all_goals (first | rfl | (dsimp only; omega))) (by intro j; unfold sp_work; ((repeat (first | rw [if_pos (by first | assumption | omega)] | rw [if_neg (by first | assumption | omega)]))); all_goals (first | rfl | (dsimp only; simp only [sd_up]; (repeat' (first | rfl | split)); all_goals omega))) hx
  ·
    refine sd_aload_n sD10_work_10 rfl ?_
    refine sd_ldc (z := -1000001) sD10_work_11 sK10_51 (by decide) ?_
    refine sd_callV (as := [.inl (-1000001)]) (st := []) sD10_work_13 sM10_52 rfl rfl sOC120 rfl (by decide) (Nat.le_of_ble_eq_true rfl) (cC_found (-1000001) 0 (by decide) (by decide) _ m hx (hF 0 (by decide))) (fun r m hq ho13 hm => ?_)
    obtain ⟨rfl, hx⟩ := hq
    show sd_Wp sd_SC 2 sY10_work 16 [some (.inr 120), some (.inl n)] [.inl (-1000001)] m _
    refine sd_ireturn sD10_work_16 rfl (fun hr hm => ?_)
    exact sd_done3 (by unfold sp_work; ((repeat (first | rw [if_pos (by first | assumption | omega)] | rw [if_neg (by first | assumption | omega)]))); all_goals (first | rfl | (dsimp only; omega))) (by intro j; unfold sp_work; ((repeat (first | rw [if_pos (by first | assumption | omega)] | rw [if_neg (by first | assumption | omega)]))); all_goals (first | rfl | (dsimp only; simp only [sd_up]; (repeat' (first | rfl | split)); all_goals omega))) hx
