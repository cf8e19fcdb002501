set_option maxRecDepth 100000 in
set_option maxHeartbeats 4000000 in
theorem cC_allows (k : Int) (n : Int) (x m : sd_M) (hx : sd_ns x m) (h1 : sd_I1 x) (h2 : sd_I2 x) : sd_Cp sd_SC 2 sY1_allows [.inr 13, .inl k, .inl n] m (.inl (sd_b ((0 ≤ n ∧ n ≤ 9999) ∧ sd_alw x k (n / 100) (n % 100)))) := by
  refine sd_ct rfl (Nat.le_of_ble_eq_true rfl) (fun hok hm => ?_)
  obtain ⟨⟨i0, j0⟩, ⟨i1, j1⟩, ⟨i2, j2⟩, ⟨i3, j3⟩, ⟨i4, j4⟩, ⟨i5, j5⟩, ⟨i6, j6⟩, ⟨i7, j7⟩, ⟨i8, j8⟩⟩ := id h1
  have r_k : sd_R k := hok (.inl k) (by simp)
  have r_n : sd_R n := hok (.inl n) (by simp)
  show sd_Wp sd_SC 2 sY1_allows 0 [some (.inr 13), some (.inl k), some (.inl n), none, none] [] m _
  refine sd_iload_n sD1_allows_0 rfl ?_
  refine sd_iconst sD1_allows_1 (by decide) ?_
  refine sd_sipush sD1_allows_2 rfl (by decide) ?_
  refine sd_callNp (as := [.inl n, .inl 0, .inl 9999]) (st := []) (v := .inl (sd_b (0 ≤ n ∧ n ≤ 9999))) sD1_allows_5 sM1_62 rfl rfl (by decide) (Nat.le_of_ble_eq_true rfl) (cC_isWithin n 0 9999 m) (fun ho5 => ?_)
  refine sd_bif_ne (tgt := 13) sD1_allows_8 (by decide) (fun zc8 => ?_) (fun zc8 => ?_)
  ·
    refine sd_iload_n sD1_allows_13 rfl ?_
    refine sd_bipush sD1_allows_14 rfl (by decide) ?_
    refine sd_idiv (z := (n / 100)) sD1_allows_16 (by decide) (by exact Int.tdiv_eq_ediv_of_nonneg (by omega)) (by omega) ?_
    refine sd_istore_n (ls' := [some (.inr 13), some (.inl k), some (.inl n), some (.inl (n / 100)), none]) sD1_allows_17 (by decide) rfl ?_
    refine sd_iload_n sD1_allows_18 rfl ?_
    refine sd_bipush sD1_allows_19 rfl (by decide) ?_
    refine sd_irem (z := (n % 100)) sD1_allows_21 (by decide) (by exact Int.tmod_eq_emod_of_nonneg (by omega)) (by omega) ?_
    refine sd_istore (ls' := [some (.inr 13), some (.inl k), some (.inl n), some (.inl (n / 100)), some (.inl (n % 100))]) sD1_allows_22 (by decide) rfl ?_
    refine sd_iload_n sD1_allows_24 rfl ?_
    rcases (show k = 0 ∨ k = 1 ∨ k = 2 ∨ k = 3 ∨ k = 4 ∨ k = 5 ∨ k = 6 ∨ (k < 0 ∨ 6 < k) by omega) with zc25 | zc25 | zc25 | zc25 | zc25 | zc25 | zc25 | zc25
    ·
      refine sd_tsw (off := 43) (tgt := 68) sD1_allows_25 (by omega) (by rw [zc25]; rfl) (by decide) ?_
      subst zc25
      refine sd_iconst sD1_allows_68 (by decide) ?_
      refine sd_zretp sD1_allows_69 rfl (by decide) ?_
      have zr : (0 ≤ n ∧ n ≤ 9999) = True := eq_true (by omega)
      simp only [zr, true_and]
      exact (sd_b1 (by first | (simp only [sd_alw, Int.reduceEq, Int.reduceNeg, false_and, false_or, or_false, true_and, true_or, or_true, and_true]; done) | (simp only [sd_alw, Int.reduceEq, Int.reduceNeg, false_and, false_or, or_false, true_and, true_or, or_true, and_true]; first | trivial | (simp only [*, true_and, and_true, false_and, and_false, or_true, true_or, false_or, or_false, not_true_eq_false, not_false_eq_true]; done) | omega))).symm
    ·
      refine sd_tsw (off := 45) (tgt := 70) sD1_allows_25 (by omega) (by rw [zc25]; rfl) (by decide) ?_
      subst zc25
      refine sd_iload_n sD1_allows_70 rfl ?_
      refine sd_bipush sD1_allows_71 rfl (by decide) ?_
      refine sd_icmp_ge (tgt := 87) sD1_allows_73 (by decide) (fun zc73 => ?_) (fun zc73 => ?_)
      ·
        refine sd_iconst sD1_allows_87 (by decide) ?_
        refine sd_zretp sD1_allows_88 rfl (by decide) ?_
        have zr : (0 ≤ n ∧ n ≤ 9999) = True := eq_true (by omega)
        simp only [zr, true_and]
        exact (sd_b0 (by first | (simp only [sd_alw, Int.reduceEq, Int.reduceNeg, false_and, false_or, or_false, true_and, true_or, or_true, and_true]; done) | (simp only [sd_alw, Int.reduceEq, Int.reduceNeg, false_and, false_or, or_false, true_and, true_or, or_true, and_true]; first | trivial | (simp only [*, true_and, and_true, false_and, and_false, or_true, true_or, false_or, or_false, not_true_eq_false, not_false_eq_true]; done) | omega))).symm
      ·
        refine sd_iload sD1_allows_76 rfl ?_
        refine sd_bipush sD1_allows_78 rfl (by decide) ?_
        refine sd_icmp_gt (tgt := 87) sD1_allows_80 (by decide) (fun zc80 => ?_) (fun zc80 => ?_)
        ·
          refine sd_iconst sD1_allows_87 (by decide) ?_
          refine sd_zretp sD1_allows_88 rfl (by decide) ?_
          have zr : (0 ≤ n ∧ n ≤ 9999) = True := eq_true (by omega)
          simp only [zr, true_and]
          exact (sd_b0 (by first | (simp only [sd_alw, Int.reduceEq, Int.reduceNeg, false_and, false_or, or_false, true_and, true_or, or_true, and_true]; done) | (simp only [sd_alw, Int.reduceEq, Int.reduceNeg, false_and, false_or, or_false, true_and, true_or, or_true, and_true]; first | trivial | (simp only [*, true_and, and_true, false_and, and_false, or_true, true_or, false_or, or_false, not_true_eq_false, not_false_eq_true]; done) | omega))).symm
        ·
          refine sd_iconst sD1_allows_83 (by decide) ?_
          refine sd_goto (tgt := 88) sD1_allows_84 (by decide) ?_
          refine sd_zretp sD1_allows_88 rfl (by decide) ?_
          have zr : (0 ≤ n ∧ n ≤ 9999) = True := eq_true (by omega)
          simp only [zr, true_and]
          exact (sd_b1 (by first | (simp only [sd_alw, Int.reduceEq, Int.reduceNeg, false_and, false_or, or_false, true_and, true_or, or_true, and_true]; done) | (simp only [sd_alw, Int.reduceEq, Int.reduceNeg, false_and, false_or, or_false, true_and, true_or, or_true, and_true]; first | trivial | (simp only [*, true_and, and_true, false_and, and_false, or_true, true_or, false_or, or_false, not_true_eq_false, not_false_eq_true]; done) | omega))).symm
    ·
      refine sd_tsw (off := 64) (tgt := 89) sD1_allows_25 (by omega) (by rw [zc25]; rfl) (by decide) ?_
      subst zc25
      refine sd_iload_n sD1_allows_89 rfl ?_
      refine sd_iconst sD1_allows_90 (by decide) ?_
      refine sd_bipush sD1_allows_91 rfl (by decide) ?_
      refine sd_callNp (as := [.inl (n / 100), .inl 1, .inl 9]) (st := []) (v := .inl (sd_b (1 ≤ (n / 100) ∧ (n / 100) ≤ 9))) sD1_allows_93 sM1_62 rfl rfl (by decide) (Nat.le_of_ble_eq_true rfl) (cC_isWithin (n / 100) 1 9 m) (fun ho93 => ?_)
      refine sd_zretp sD1_allows_96 rfl (sd_b01 _) ?_
      have zr : (0 ≤ n ∧ n ≤ 9999) = True := eq_true (by omega)
      simp only [zr, true_and]
      first | rfl | exact sd_bc (by first | (simp only [sd_alw, Int.reduceEq, Int.reduceNeg, false_and, false_or, or_false, true_and, true_or, or_true, and_true]; done) | (simp only [sd_alw, Int.reduceEq, Int.reduceNeg, false_and, false_or, or_false, true_and, true_or, or_true, and_true]; first | trivial | (simp only [*, true_and, and_true, false_and, and_false, or_true, true_or, false_or, or_false, not_true_eq_false, not_false_eq_true]; done) | omega))
    ·
      refine sd_tsw (off := 72) (tgt := 97) sD1_allows_25 (by omega) (by rw [zc25]; rfl) (by decide) ?_
      subst zc25
      refine sd_aload_n sD1_allows_97 rfl ?_
      refine sd_iload_n sD1_allows_98 rfl ?_
      refine sd_iconst sD1_allows_99 (by decide) ?_
      refine sd_callVp (as := [.inl (n / 100), .inl 1]) (st := []) (v := .inl (sd_b (sd_isA x (n / 100) 1))) sD1_allows_100 sM1_70 sOC13 rfl rfl rfl (by decide) (Nat.le_of_ble_eq_true rfl) (cC_isA (n / 100) 1 _ m hx h1 h2) (fun ho100 => ?_)
      refine sd_bif_eq (tgt := 133) sD1_allows_103 (by decide) (fun zc103 => ?_) (fun zc103 => ?_)
      ·
        refine sd_iconst sD1_allows_133 (by decide) ?_
        refine sd_zretp sD1_allows_134 rfl (by decide) ?_
        have zr : (0 ≤ n ∧ n ≤ 9999) = True := eq_true (by omega)
        simp only [zr, true_and]
        exact (sd_b0 (by first | (simp only [sd_alw, Int.reduceEq, Int.reduceNeg, false_and, false_or, or_false, true_and, true_or, or_true, and_true]; done) | (simp only [sd_alw, Int.reduceEq, Int.reduceNeg, false_and, false_or, or_false, true_and, true_or, or_true, and_true]; first | trivial | (simp only [*, true_and, and_true, false_and, and_false, or_true, true_or, false_or, or_false, not_true_eq_false, not_false_eq_true]; done) | omega))).symm
      ·
        refine sd_iload sD1_allows_106 rfl ?_
        refine sd_bipush sD1_allows_108 rfl (by decide) ?_
        refine sd_icmp_eq (tgt := 129) sD1_allows_110 (by decide) (fun zc110 => ?_) (fun zc110 => ?_)
        ·
          refine sd_iconst sD1_allows_129 (by decide) ?_
          refine sd_goto (tgt := 134) sD1_allows_130 (by decide) ?_
          refine sd_zretp sD1_allows_134 rfl (by decide) ?_
          have zr : (0 ≤ n ∧ n ≤ 9999) = True := eq_true (by omega)
          simp only [zr, true_and]
          exact (sd_b1 (by first | (simp only [sd_alw, Int.reduceEq, Int.reduceNeg, false_and, false_or, or_false, true_and, true_or, or_true, and_true]; done) | (simp only [sd_alw, Int.reduceEq, Int.reduceNeg, false_and, false_or, or_false, true_and, true_or, or_true, and_true]; first | trivial | (simp only [*, true_and, and_true, false_and, and_false, or_true, true_or, false_or, or_false, not_true_eq_false, not_false_eq_true]; done) | omega))).symm
        ·
          refine sd_iload sD1_allows_113 rfl ?_
          refine sd_iload_n sD1_allows_115 rfl ?_
          refine sd_icmp_eq (tgt := 133) sD1_allows_116 (by decide) (fun zc116 => ?_) (fun zc116 => ?_)
          ·
            refine sd_iconst sD1_allows_133 (by decide) ?_
            refine sd_zretp sD1_allows_134 rfl (by decide) ?_
            have zr : (0 ≤ n ∧ n ≤ 9999) = True := eq_true (by omega)
            simp only [zr, true_and]
            exact (sd_b0 (by first | (simp only [sd_alw, Int.reduceEq, Int.reduceNeg, false_and, false_or, or_false, true_and, true_or, or_true, and_true]; done) | (simp only [sd_alw, Int.reduceEq, Int.reduceNeg, false_and, false_or, or_false, true_and, true_or, or_true, and_true]; first | trivial | (simp only [*, true_and, and_true, false_and, and_false, or_true, true_or, false_or, or_false, not_true_eq_false, not_false_eq_true]; done) | omega))).symm
          ·
            refine sd_aload_n sD1_allows_119 rfl ?_
            refine sd_iload sD1_allows_120 rfl ?_
            refine sd_iconst sD1_allows_122 (by decide) ?_
            refine sd_callVp (as := [.inl (n % 100), .inl 1]) (st := []) (v := .inl (sd_b (sd_isA x (n % 100) 1))) sD1_allows_123 sM1_70 sOC13 rfl rfl rfl (by decide) (Nat.le_of_ble_eq_true rfl) (cC_isA (n % 100) 1 _ m hx h1 h2) (fun ho123 => ?_)
            refine sd_bif_eq (tgt := 133) sD1_allows_126 (by decide) (fun zc126 => ?_) (fun zc126 => ?_)
            ·
              refine sd_iconst sD1_allows_133 (by decide) ?_
              refine sd_zretp sD1_allows_134 rfl (by decide) ?_
              have zr : (0 ≤ n ∧ n ≤ 9999) = True := eq_true (by omega)
              simp only [zr, true_and]
              exact (sd_b0 (by first | (simp only [sd_alw, Int.reduceEq, Int.reduceNeg, false_and, false_or, or_false, true_and, true_or, or_true, and_true]; done) | (simp only [sd_alw, Int.reduceEq, Int.reduceNeg, false_and, false_or, or_false, true_and, true_or, or_true, and_true]; first | trivial | (simp only [*, true_and, and_true, false_and, and_false, or_true, true_or, false_or, or_false, not_true_eq_false, not_false_eq_true]; done) | omega))).symm
            ·
              refine sd_iconst sD1_allows_129 (by decide) ?_
              refine sd_goto (tgt := 134) sD1_allows_130 (by decide) ?_
              refine sd_zretp sD1_allows_134 rfl (by decide) ?_
              have zr : (0 ≤ n ∧ n ≤ 9999) = True := eq_true (by omega)
              simp only [zr, true_and]
              exact (sd_b1 (by first | (simp only [sd_alw, Int.reduceEq, Int.reduceNeg, false_and, false_or, or_false, true_and, true_or, or_true, and_true]; done) | (simp only [sd_alw, Int.reduceEq, Int.reduceNeg, false_and, false_or, or_false, true_and, true_or, or_true, and_true]; first | trivial | (simp only [*, true_and, and_true, false_and, and_false, or_true, true_or, false_or, or_false, not_true_eq_false, not_false_eq_true]; done) | omega))).symm
    ·
      refine sd_tsw (off := 110) (tgt := 135) sD1_allows_25 (by omega) (by rw [zc25]; rfl) (by decide) ?_
      subst zc25
      refine sd_aload_n sD1_allows_135 rfl ?_
      refine sd_iload_n sD1_allows_136 rfl ?_
      refine sd_iconst sD1_allows_137 (by decide) ?_
      refine sd_callVp (as := [.inl (n / 100), .inl 1]) (st := []) (v := .inl (sd_b (sd_isA x (n / 100) 1))) sD1_allows_138 sM1_70 sOC13 rfl rfl rfl (by decide) (Nat.le_of_ble_eq_true rfl) (cC_isA (n / 100) 1 _ m hx h1 h2) (fun ho138 => ?_)
      refine sd_bif_eq (tgt := 154) sD1_allows_141 (by decide) (fun zc141 => ?_) (fun zc141 => ?_)
      ·
        refine sd_iconst sD1_allows_154 (by decide) ?_
        refine sd_zretp sD1_allows_155 rfl (by decide) ?_
        have zr : (0 ≤ n ∧ n ≤ 9999) = True := eq_true (by omega)
        simp only [zr, true_and]
        exact (sd_b0 (by first | (simp only [sd_alw, Int.reduceEq, Int.reduceNeg, false_and, false_or, or_false, true_and, true_or, or_true, and_true]; done) | (simp only [sd_alw, Int.reduceEq, Int.reduceNeg, false_and, false_or, or_false, true_and, true_or, or_true, and_true]; first | trivial | (simp only [*, true_and, and_true, false_and, and_false, or_true, true_or, false_or, or_false, not_true_eq_false, not_false_eq_true]; done) | omega))).symm
      ·
        refine sd_iload sD1_allows_144 rfl ?_
        refine sd_iconst sD1_allows_146 (by decide) ?_
        refine sd_icmp_gt (tgt := 154) sD1_allows_147 (by decide) (fun zc147 => ?_) (fun zc147 => ?_)
        ·
          refine sd_iconst sD1_allows_154 (by decide) ?_
          refine sd_zretp sD1_allows_155 rfl (by decide) ?_
          have zr : (0 ≤ n ∧ n ≤ 9999) = True := eq_true (by omega)
          simp only [zr, true_and]
          exact (sd_b0 (by first | (simp only [sd_alw, Int.reduceEq, Int.reduceNeg, false_and, false_or, or_false, true_and, true_or, or_true, and_true]; done) | (simp only [sd_alw, Int.reduceEq, Int.reduceNeg, false_and, false_or, or_false, true_and, true_or, or_true, and_true]; first | trivial | (simp only [*, true_and, and_true, false_and, and_false, or_true, true_or, false_or, or_false, not_true_eq_false, not_false_eq_true]; done) | omega))).symm
        ·
          refine sd_iconst sD1_allows_150 (by decide) ?_
          refine sd_goto (tgt := 155) sD1_allows_151 (by decide) ?_
          refine sd_zretp sD1_allows_155 rfl (by decide) ?_
          have zr : (0 ≤ n ∧ n ≤ 9999) = True := eq_true (by omega)
          simp only [zr, true_and]
          exact (sd_b1 (by first | (simp only [sd_alw, Int.reduceEq, Int.reduceNeg, false_and, false_or, or_false, true_and, true_or, or_true, and_true]; done) | (simp only [sd_alw, Int.reduceEq, Int.reduceNeg, false_and, false_or, or_false, true_and, true_or, or_true, and_true]; first | trivial | (simp only [*, true_and, and_true, false_and, and_false, or_true, true_or, false_or, or_false, not_true_eq_false, not_false_eq_true]; done) | omega))).symm
    ·
      refine sd_tsw (off := 131) (tgt := 156) sD1_allows_25 (by omega) (by rw [zc25]; rfl) (by decide) ?_
      subst zc25
      refine sd_iload_n sD1_allows_156 rfl ?_
      refine sd_if_ne (tgt := 170) sD1_allows_157 (by decide) (fun zc157 => ?_) (fun zc157 => ?_)
      ·
        refine sd_iconst sD1_allows_170 (by decide) ?_
        refine sd_zretp sD1_allows_171 rfl (by decide) ?_
        have zr : (0 ≤ n ∧ n ≤ 9999) = True := eq_true (by omega)
        simp only [zr, true_and]
        exact (sd_b0 (by first | (simp only [sd_alw, Int.reduceEq, Int.reduceNeg, false_and, false_or, or_false, true_and, true_or, or_true, and_true]; done) | (simp only [sd_alw, Int.reduceEq, Int.reduceNeg, false_and, false_or, or_false, true_and, true_or, or_true, and_true]; first | trivial | (simp only [*, true_and, and_true, false_and, and_false, or_true, true_or, false_or, or_false, not_true_eq_false, not_false_eq_true]; done) | omega))).symm
      ·
        refine sd_iload sD1_allows_160 rfl ?_
        refine sd_iconst sD1_allows_162 (by decide) ?_
        refine sd_icmp_gt (tgt := 170) sD1_allows_163 (by decide) (fun zc163 => ?_) (fun zc163 => ?_)
        ·
          refine sd_iconst sD1_allows_170 (by decide) ?_
          refine sd_zretp sD1_allows_171 rfl (by decide) ?_
          have zr : (0 ≤ n ∧ n ≤ 9999) = True := eq_true (by omega)
          simp only [zr, true_and]
          exact (sd_b0 (by first | (simp only [sd_alw, Int.reduceEq, Int.reduceNeg, false_and, false_or, or_false, true_and, true_or, or_true, and_true]; done) | (simp only [sd_alw, Int.reduceEq, Int.reduceNeg, false_and, false_or, or_false, true_and, true_or, or_true, and_true]; first | trivial | (simp only [*, true_and, and_true, false_and, and_false, or_true, true_or, false_or, or_false, not_true_eq_false, not_false_eq_true]; done) | omega))).symm
        ·
          refine sd_iconst sD1_allows_166 (by decide) ?_
          refine sd_goto (tgt := 171) sD1_allows_167 (by decide) ?_
          refine sd_zretp sD1_allows_171 rfl (by decide) ?_
          have zr : (0 ≤ n ∧ n ≤ 9999) = True := eq_true (by omega)
          simp only [zr, true_and]
          exact (sd_b1 (by first | (simp only [sd_alw, Int.reduceEq, Int.reduceNeg, false_and, false_or, or_false, true_and, true_or, or_true, and_true]; done) | (simp only [sd_alw, Int.reduceEq, Int.reduceNeg, false_and, false_or, or_false, true_and, true_or, or_true, and_true]; first | trivial | (simp only [*, true_and, and_true, false_and, and_false, or_true, true_or, false_or, or_false, not_true_eq_false, not_false_eq_true]; done) | omega))).symm
    ·
      refine sd_tsw (off := 147) (tgt := 172) sD1_allows_25 (by omega) (by rw [zc25]; rfl) (by decide) ?_
      subst zc25
      refine sd_iconst sD1_allows_172 (by decide) ?_
      refine sd_zretp sD1_allows_173 rfl (by decide) ?_
      have zr : (0 ≤ n ∧ n ≤ 9999) = True := eq_true (by omega)
      simp only [zr, true_and]
      exact (sd_b1 (by first | (simp only [sd_alw, Int.reduceEq, Int.reduceNeg, false_and, false_or, or_false, true_and, true_or, or_true, and_true]; done) | (simp only [sd_alw, Int.reduceEq, Int.reduceNeg, false_and, false_or, or_false, true_and, true_or, or_true, and_true]; first | trivial | (simp only [*, true_and, and_true, false_and, and_false, or_true, true_or, false_or, or_false, not_true_eq_false, not_false_eq_true]; done) | omega))).symm
    ·
      refine sd_tswd (tgt := 174) sD1_allows_25 zc25 (by decide) ?_
      refine sd_iconst sD1_allows_174 (by decide) ?_
      refine sd_zretp sD1_allows_175 rfl (by decide) ?_
      exact (sd_b0 (by intro hp; have hp2 := hp.2; clear hp; omega)).symm
  ·
    refine sd_iconst sD1_allows_11 (by decide) ?_
    refine sd_zretp sD1_allows_12 rfl (by decide) ?_
    exact (sd_b0 (by intro hp; have hp2 := hp.1; omega)).symm
