set_option maxRecDepth 100000 in
set_option maxHeartbeats 4000000 in
theorem cM_areNumbers (k : Int) (a : Int) (b : Int) (x m : sd_M) (hx : sd_ns x m) (h1 : sd_I1 x) (h2 : sd_I2 x) (hk : 0 ≤ k ∧ k ≤ 6) : sd_Cp sd_SM 3 sY11_areNumbers [.inr 15, .inl k, .inl a, .inl b] m (.inl (sd_b (sd_alw x k a b))) := by
  refine sd_ct rfl (Nat.le_of_ble_eq_true rfl) (fun hok hm => ?_)
  obtain ⟨⟨i0, j0⟩, ⟨i1, j1⟩, ⟨i2, j2⟩, ⟨i3, j3⟩, ⟨i4, j4⟩, ⟨i5, j5⟩, ⟨i6, j6⟩, ⟨i7, j7⟩, ⟨i8, j8⟩⟩ := id h1
  have r_k : sd_R k := hok (.inl k) (by simp)
  have r_a : sd_R a := hok (.inl a) (by simp)
  have r_b : sd_R b := hok (.inl b) (by simp)
  show sd_Wp sd_SM 3 sY11_areNumbers 0 [some (.inr 15), some (.inl k), some (.inl a), some (.inl b)] [] m _
  refine sd_iload_n sD11_areNumbers_0 rfl ?_
  rcases (show k = 1 ∨ k = 2 ∨ k = 3 ∨ k = 4 ∨ k = 5 ∨ (k < 1 ∨ 5 < k) by omega) with zc1 | zc1 | zc1 | zc1 | zc1 | zc1
  ·
    refine sd_tsw (off := 35) (tgt := 36) sD11_areNumbers_1 (by omega) (by rw [zc1]; rfl) (by decide) ?_
    subst zc1
    refine sd_iload_n sD11_areNumbers_36 rfl ?_
    refine sd_bipush sD11_areNumbers_37 rfl (by decide) ?_
    refine sd_icmp_ge (tgt := 52) sD11_areNumbers_39 (by decide) (fun zc39 => ?_) (fun zc39 => ?_)
    ·
      refine sd_iconst sD11_areNumbers_52 (by decide) ?_
      refine sd_zretp sD11_areNumbers_53 rfl (by decide) ?_
      exact (sd_b0 (by first | (simp only [sd_alw, Int.reduceEq, Int.reduceNeg, false_and, false_or, or_false, true_and, true_or, or_true, and_true]; done) | (simp only [sd_alw, Int.reduceEq, Int.reduceNeg, false_and, false_or, or_false, true_and, true_or, or_true, and_true]; first | trivial | (simp only [*, true_and, and_true, false_and, and_false, or_true, true_or, false_or, or_false, not_true_eq_false, not_false_eq_true]; done) | omega))).symm
    ·
      refine sd_iload_n sD11_areNumbers_42 rfl ?_
      refine sd_bipush sD11_areNumbers_43 rfl (by decide) ?_
      refine sd_icmp_ge (tgt := 52) sD11_areNumbers_45 (by decide) (fun zc45 => ?_) (fun zc45 => ?_)
      ·
        refine sd_iconst sD11_areNumbers_52 (by decide) ?_
        refine sd_zretp sD11_areNumbers_53 rfl (by decide) ?_
        exact (sd_b0 (by first | (simp only [sd_alw, Int.reduceEq, Int.reduceNeg, false_and, false_or, or_false, true_and, true_or, or_true, and_true]; done) | (simp only [sd_alw, Int.reduceEq, Int.reduceNeg, false_and, false_or, or_false, true_and, true_or, or_true, and_true]; first | trivial | (simp only [*, true_and, and_true, false_and, and_false, or_true, true_or, false_or, or_false, not_true_eq_false, not_false_eq_true]; done) | omega))).symm
      ·
        refine sd_iconst sD11_areNumbers_48 (by decide) ?_
        refine sd_goto (tgt := 53) sD11_areNumbers_49 (by decide) ?_
        refine sd_zretp sD11_areNumbers_53 rfl (by decide) ?_
        exact (sd_b1 (by first | (simp only [sd_alw, Int.reduceEq, Int.reduceNeg, false_and, false_or, or_false, true_and, true_or, or_true, and_true]; done) | (simp only [sd_alw, Int.reduceEq, Int.reduceNeg, false_and, false_or, or_false, true_and, true_or, or_true, and_true]; first | trivial | (simp only [*, true_and, and_true, false_and, and_false, or_true, true_or, false_or, or_false, not_true_eq_false, not_false_eq_true]; done) | omega))).symm
  ·
    refine sd_tsw (off := 53) (tgt := 54) sD11_areNumbers_1 (by omega) (by rw [zc1]; rfl) (by decide) ?_
    subst zc1
    refine sd_iload_n sD11_areNumbers_54 rfl ?_
    refine sd_iconst sD11_areNumbers_55 (by decide) ?_
    refine sd_bipush sD11_areNumbers_56 rfl (by decide) ?_
    refine sd_callSp (as := [.inl a, .inl 1, .inl 9]) (st := []) (v := .inl (sd_b (1 ≤ a ∧ a ≤ 9))) sD11_areNumbers_58 sM11_56 rfl rfl (by decide) (Nat.le_of_ble_eq_true rfl) (cM_in a 1 9 m) (fun ho58 => ?_)
    refine sd_zretp sD11_areNumbers_61 rfl (sd_b01 _) ?_
    first | rfl | exact sd_bc (by first | (simp only [sd_alw, Int.reduceEq, Int.reduceNeg, false_and, false_or, or_false, true_and, true_or, or_true, and_true]; done) | (simp only [sd_alw, Int.reduceEq, Int.reduceNeg, false_and, false_or, or_false, true_and, true_or, or_true, and_true]; first | trivial | (simp only [*, true_and, and_true, false_and, and_false, or_true, true_or, false_or, or_false, not_true_eq_false, not_false_eq_true]; done) | omega))
  ·
    refine sd_tsw (off := 61) (tgt := 62) sD11_areNumbers_1 (by omega) (by rw [zc1]; rfl) (by decide) ?_
    subst zc1
    refine sd_aload_n sD11_areNumbers_62 rfl ?_
    refine sd_iload_n sD11_areNumbers_63 rfl ?_
    refine sd_callVp (as := [.inl a]) (st := []) (v := .inl (sd_b (sd_isA x a 1))) sD11_areNumbers_64 sM11_72 sOM15 rfl rfl rfl (by decide) (Nat.le_of_ble_eq_true rfl) (cM_isShop a _ m hx h1 h2 ) (fun ho64 => ?_)
    refine sd_bif_eq (tgt := 93) sD11_areNumbers_67 (by decide) (fun zc67 => ?_) (fun zc67 => ?_)
    ·
      refine sd_iconst sD11_areNumbers_93 (by decide) ?_
      refine sd_zretp sD11_areNumbers_94 rfl (by decide) ?_
      exact (sd_b0 (by first | (simp only [sd_alw, Int.reduceEq, Int.reduceNeg, false_and, false_or, or_false, true_and, true_or, or_true, and_true]; done) | (simp only [sd_alw, Int.reduceEq, Int.reduceNeg, false_and, false_or, or_false, true_and, true_or, or_true, and_true]; first | trivial | (simp only [*, true_and, and_true, false_and, and_false, or_true, true_or, false_or, or_false, not_true_eq_false, not_false_eq_true]; done) | omega))).symm
    ·
      refine sd_iload_n sD11_areNumbers_70 rfl ?_
      refine sd_bipush sD11_areNumbers_71 rfl (by decide) ?_
      refine sd_icmp_eq (tgt := 89) sD11_areNumbers_73 (by decide) (fun zc73 => ?_) (fun zc73 => ?_)
      ·
        refine sd_iconst sD11_areNumbers_89 (by decide) ?_
        refine sd_goto (tgt := 94) sD11_areNumbers_90 (by decide) ?_
        refine sd_zretp sD11_areNumbers_94 rfl (by decide) ?_
        exact (sd_b1 (by first | (simp only [sd_alw, Int.reduceEq, Int.reduceNeg, false_and, false_or, or_false, true_and, true_or, or_true, and_true]; done) | (simp only [sd_alw, Int.reduceEq, Int.reduceNeg, false_and, false_or, or_false, true_and, true_or, or_true, and_true]; first | trivial | (simp only [*, true_and, and_true, false_and, and_false, or_true, true_or, false_or, or_false, not_true_eq_false, not_false_eq_true]; done) | omega))).symm
      ·
        refine sd_aload_n sD11_areNumbers_76 rfl ?_
        refine sd_iload_n sD11_areNumbers_77 rfl ?_
        refine sd_callVp (as := [.inl b]) (st := []) (v := .inl (sd_b (sd_isA x b 1))) sD11_areNumbers_78 sM11_72 sOM15 rfl rfl rfl (by decide) (Nat.le_of_ble_eq_true rfl) (cM_isShop b _ m hx h1 h2 ) (fun ho78 => ?_)
        refine sd_bif_eq (tgt := 93) sD11_areNumbers_81 (by decide) (fun zc81 => ?_) (fun zc81 => ?_)
        ·
          refine sd_iconst sD11_areNumbers_93 (by decide) ?_
          refine sd_zretp sD11_areNumbers_94 rfl (by decide) ?_
          exact (sd_b0 (by first | (simp only [sd_alw, Int.reduceEq, Int.reduceNeg, false_and, false_or, or_false, true_and, true_or, or_true, and_true]; done) | (simp only [sd_alw, Int.reduceEq, Int.reduceNeg, false_and, false_or, or_false, true_and, true_or, or_true, and_true]; first | trivial | (simp only [*, true_and, and_true, false_and, and_false, or_true, true_or, false_or, or_false, not_true_eq_false, not_false_eq_true]; done) | omega))).symm
        ·
          refine sd_iload_n sD11_areNumbers_84 rfl ?_
          refine sd_iload_n sD11_areNumbers_85 rfl ?_
          refine sd_icmp_eq (tgt := 93) sD11_areNumbers_86 (by decide) (fun zc86 => ?_) (fun zc86 => ?_)
          ·
            refine sd_iconst sD11_areNumbers_93 (by decide) ?_
            refine sd_zretp sD11_areNumbers_94 rfl (by decide) ?_
            exact (sd_b0 (by first | (simp only [sd_alw, Int.reduceEq, Int.reduceNeg, false_and, false_or, or_false, true_and, true_or, or_true, and_true]; done) | (simp only [sd_alw, Int.reduceEq, Int.reduceNeg, false_and, false_or, or_false, true_and, true_or, or_true, and_true]; first | trivial | (simp only [*, true_and, and_true, false_and, and_false, or_true, true_or, false_or, or_false, not_true_eq_false, not_false_eq_true]; done) | omega))).symm
          ·
            refine sd_iconst sD11_areNumbers_89 (by decide) ?_
            refine sd_goto (tgt := 94) sD11_areNumbers_90 (by decide) ?_
            refine sd_zretp sD11_areNumbers_94 rfl (by decide) ?_
            exact (sd_b1 (by first | (simp only [sd_alw, Int.reduceEq, Int.reduceNeg, false_and, false_or, or_false, true_and, true_or, or_true, and_true]; done) | (simp only [sd_alw, Int.reduceEq, Int.reduceNeg, false_and, false_or, or_false, true_and, true_or, or_true, and_true]; first | trivial | (simp only [*, true_and, and_true, false_and, and_false, or_true, true_or, false_or, or_false, not_true_eq_false, not_false_eq_true]; done) | omega))).symm
  ·
    refine sd_tsw (off := 94) (tgt := 95) sD11_areNumbers_1 (by omega) (by rw [zc1]; rfl) (by decide) ?_
    subst zc1
    refine sd_aload_n sD11_areNumbers_95 rfl ?_
    refine sd_iload_n sD11_areNumbers_96 rfl ?_
    refine sd_callVp (as := [.inl a]) (st := []) (v := .inl (sd_b (sd_isA x a 1))) sD11_areNumbers_97 sM11_72 sOM15 rfl rfl rfl (by decide) (Nat.le_of_ble_eq_true rfl) (cM_isShop a _ m hx h1 h2 ) (fun ho97 => ?_)
    refine sd_bif_eq (tgt := 112) sD11_areNumbers_100 (by decide) (fun zc100 => ?_) (fun zc100 => ?_)
    ·
      refine sd_iconst sD11_areNumbers_112 (by decide) ?_
      refine sd_zretp sD11_areNumbers_113 rfl (by decide) ?_
      exact (sd_b0 (by first | (simp only [sd_alw, Int.reduceEq, Int.reduceNeg, false_and, false_or, or_false, true_and, true_or, or_true, and_true]; done) | (simp only [sd_alw, Int.reduceEq, Int.reduceNeg, false_and, false_or, or_false, true_and, true_or, or_true, and_true]; first | trivial | (simp only [*, true_and, and_true, false_and, and_false, or_true, true_or, false_or, or_false, not_true_eq_false, not_false_eq_true]; done) | omega))).symm
    ·
      refine sd_iload_n sD11_areNumbers_103 rfl ?_
      refine sd_iconst sD11_areNumbers_104 (by decide) ?_
      refine sd_icmp_ge (tgt := 112) sD11_areNumbers_105 (by decide) (fun zc105 => ?_) (fun zc105 => ?_)
      ·
        refine sd_iconst sD11_areNumbers_112 (by decide) ?_
        refine sd_zretp sD11_areNumbers_113 rfl (by decide) ?_
        exact (sd_b0 (by first | (simp only [sd_alw, Int.reduceEq, Int.reduceNeg, false_and, false_or, or_false, true_and, true_or, or_true, and_true]; done) | (simp only [sd_alw, Int.reduceEq, Int.reduceNeg, false_and, false_or, or_false, true_and, true_or, or_true, and_true]; first | trivial | (simp only [*, true_and, and_true, false_and, and_false, or_true, true_or, false_or, or_false, not_true_eq_false, not_false_eq_true]; done) | omega))).symm
      ·
        refine sd_iconst sD11_areNumbers_108 (by decide) ?_
        refine sd_goto (tgt := 113) sD11_areNumbers_109 (by decide) ?_
        refine sd_zretp sD11_areNumbers_113 rfl (by decide) ?_
        exact (sd_b1 (by first | (simp only [sd_alw, Int.reduceEq, Int.reduceNeg, false_and, false_or, or_false, true_and, true_or, or_true, and_true]; done) | (simp only [sd_alw, Int.reduceEq, Int.reduceNeg, false_and, false_or, or_false, true_and, true_or, or_true, and_true]; first | trivial | (simp only [*, true_and, and_true, false_and, and_false, or_true, true_or, false_or, or_false, not_true_eq_false, not_false_eq_true]; done) | omega))).symm
  ·
    refine sd_tsw (off := 113) (tgt := 114) sD11_areNumbers_1 (by omega) (by rw [zc1]; rfl) (by decide) ?_
    subst zc1
    refine sd_iload_n sD11_areNumbers_114 rfl ?_
    refine sd_if_ne (tgt := 127) sD11_areNumbers_115 (by decide) (fun zc115 => ?_) (fun zc115 => ?_)
    ·
      refine sd_iconst sD11_areNumbers_127 (by decide) ?_
      refine sd_zretp sD11_areNumbers_128 rfl (by decide) ?_
      exact (sd_b0 (by first | (simp only [sd_alw, Int.reduceEq, Int.reduceNeg, false_and, false_or, or_false, true_and, true_or, or_true, and_true]; done) | (simp only [sd_alw, Int.reduceEq, Int.reduceNeg, false_and, false_or, or_false, true_and, true_or, or_true, and_true]; first | trivial | (simp only [*, true_and, and_true, false_and, and_false, or_true, true_or, false_or, or_false, not_true_eq_false, not_false_eq_true]; done) | omega))).symm
    ·
      refine sd_iload_n sD11_areNumbers_118 rfl ?_
      refine sd_iconst sD11_areNumbers_119 (by decide) ?_
      refine sd_icmp_ge (tgt := 127) sD11_areNumbers_120 (by decide) (fun zc120 => ?_) (fun zc120 => ?_)
      ·
        refine sd_iconst sD11_areNumbers_127 (by decide) ?_
        refine sd_zretp sD11_areNumbers_128 rfl (by decide) ?_
        exact (sd_b0 (by first | (simp only [sd_alw, Int.reduceEq, Int.reduceNeg, false_and, false_or, or_false, true_and, true_or, or_true, and_true]; done) | (simp only [sd_alw, Int.reduceEq, Int.reduceNeg, false_and, false_or, or_false, true_and, true_or, or_true, and_true]; first | trivial | (simp only [*, true_and, and_true, false_and, and_false, or_true, true_or, false_or, or_false, not_true_eq_false, not_false_eq_true]; done) | omega))).symm
      ·
        refine sd_iconst sD11_areNumbers_123 (by decide) ?_
        refine sd_goto (tgt := 128) sD11_areNumbers_124 (by decide) ?_
        refine sd_zretp sD11_areNumbers_128 rfl (by decide) ?_
        exact (sd_b1 (by first | (simp only [sd_alw, Int.reduceEq, Int.reduceNeg, false_and, false_or, or_false, true_and, true_or, or_true, and_true]; done) | (simp only [sd_alw, Int.reduceEq, Int.reduceNeg, false_and, false_or, or_false, true_and, true_or, or_true, and_true]; first | trivial | (simp only [*, true_and, and_true, false_and, and_false, or_true, true_or, false_or, or_false, not_true_eq_false, not_false_eq_true]; done) | omega))).symm
  ·
    refine sd_tswd (tgt := 129) sD11_areNumbers_1 zc1 (by decide) ?_
    refine sd_iconst sD11_areNumbers_129 (by decide) ?_
    refine sd_zretp sD11_areNumbers_130 rfl (by decide) ?_
    exact (sd_b1 (by rcases (show k = 0 ∨ k = 6 by omega) with rfl | rfl <;> first | exact Or.inl rfl | exact Or.inr (Or.inl rfl))).symm
