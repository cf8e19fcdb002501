set_option maxRecDepth 100000 in
set_option maxHeartbeats 4000000 in
theorem pM_count (w : Int) (x m : sd_M) (hx : sd_ns x m) (h1 : sd_I1 x) (h2 : sd_I2 x) (h3 : sd_I3 x) (h4 : sd_I4 x) (h6 : sd_I6 x) (hR : sd_IR x) (hI : sd_IT x) (hL : sd_LT x) (hF : ∀ k : Nat, k < 7 → 0 ≤ x (4101 + k) ∧ x (4101 + k) ≤ 1000000) (h8 : x 6004 = sd_cnt (sd_Pk x 1) (x 2).toNat) : sd_Ct sd_SM 8 sY11_count [.inr 15, .inl w] m (sd_Qp (sp_count x w)) := by
  refine sd_ct rfl (Nat.le_of_ble_eq_true rfl) (fun hok hm => ?_)
  obtain ⟨⟨i0, j0⟩, ⟨i1, j1⟩, ⟨i2, j2⟩, ⟨i3, j3⟩, ⟨i4, j4⟩, ⟨i5, j5⟩, ⟨i6, j6⟩, ⟨i7, j7⟩, ⟨i8, j8⟩⟩ := id h1
  have r_w : sd_R w := hok (.inl w) (by simp)
  show sd_Wp sd_SM 8 sY11_count 0 [some (.inr 15), some (.inl w)] [] m _
  refine sd_iload_n sD11_count_0 rfl ?_
  rcases (show w = 0 ∨ w = 1 ∨ w = 2 ∨ w = 3 ∨ w = 4 ∨ w = 5 ∨ w = 6 ∨ w = 7 ∨ w = 8 ∨ w = 9 ∨ w = 10 ∨ w = 11 ∨ w = 12 ∨ w = 13 ∨ (w < 0 ∨ 13 < w) by omega) with zc1 | zc1 | zc1 | zc1 | zc1 | zc1 | zc1 | zc1 | zc1 | zc1 | zc1 | zc1 | zc1 | zc1 | zc1
  ·
    refine sd_tsw (off := 71) (tgt := 72) sD11_count_1 (by omega) (by rw [zc1]; rfl) (by decide) ?_
    subst zc1
    refine sd_aload_n sD11_count_72 rfl ?_
    refine sd_getfr sD11_count_73 sF11_7 sGM15_0 ?_
    refine sd_iconst sD11_count_76 (by decide) ?_
    refine sd_ialdx (a := 2) (v := x 2) hx sD11_count_77 sAM0 (by omega) rfl ?_
    refine sd_ireturn sD11_count_78 rfl (fun hr hm => ?_)
    exact sd_done (by unfold sp_count; ((repeat (first | rw [if_pos (by first | assumption | omega)] | rw [if_neg (by first | assumption | omega)])); try rfl); try (rw [h8])) hx
  ·
    refine sd_tsw (off := 78) (tgt := 79) sD11_count_1 (by omega) (by rw [zc1]; rfl) (by decide) ?_
    subst zc1
    refine sd_aload_n sD11_count_79 rfl ?_
    refine sd_iconst sD11_count_80 (by decide) ?_
    refine sd_callVp (as := [.inl 1]) (st := []) (v := .inl (sd_cnt (sd_Pk x 1) (x 2).toNat)) sD11_count_81 sM11_81 sOM15 rfl rfl rfl (by decide) (Nat.le_of_ble_eq_true rfl) (cM_manyOf 1 _ m hx h1 ) (fun ho81 => ?_)
    refine sd_ireturn sD11_count_84 rfl (fun hr hm => ?_)
    exact sd_done (by unfold sp_count; ((repeat (first | rw [if_pos (by first | assumption | omega)] | rw [if_neg (by first | assumption | omega)])); try rfl); try (rw [h8])) hx
  ·
    refine sd_tsw (off := 84) (tgt := 85) sD11_count_1 (by omega) (by rw [zc1]; rfl) (by decide) ?_
    subst zc1
    refine sd_aload_n sD11_count_85 rfl ?_
    refine sd_getfr sD11_count_86 sF11_7 sGM15_0 ?_
    refine sd_iconst sD11_count_89 (by decide) ?_
    refine sd_ialdx (a := 3) (v := x 3) hx sD11_count_90 sAM0 (by omega) rfl ?_
    refine sd_ireturn sD11_count_91 rfl (fun hr hm => ?_)
    exact sd_done (by unfold sp_count; ((repeat (first | rw [if_pos (by first | assumption | omega)] | rw [if_neg (by first | assumption | omega)])); try rfl); try (rw [h8])) hx
  ·
    refine sd_tsw (off := 91) (tgt := 92) sD11_count_1 (by omega) (by rw [zc1]; rfl) (by decide) ?_
    subst zc1
    refine sd_aload_n sD11_count_92 rfl ?_
    refine sd_callVp (as := []) (st := []) (v := .inl (sd_inS x (-1))) sD11_count_93 sM11_261 sOM15 rfl rfl rfl (by decide) (Nat.le_of_ble_eq_true rfl) (cM_menInShops  _ m hx h1 h4 ) (fun ho93 => ?_)
    refine sd_ireturn sD11_count_96 rfl (fun hr hm => ?_)
    exact sd_done (by unfold sp_count; ((repeat (first | rw [if_pos (by first | assumption | omega)] | rw [if_neg (by first | assumption | omega)])); try rfl); try (rw [h8])) hx
  ·
    refine sd_tsw (off := 96) (tgt := 97) sD11_count_1 (by omega) (by rw [zc1]; rfl) (by decide) ?_
    subst zc1
    refine sd_aload_n sD11_count_97 rfl ?_
    refine sd_getfr sD11_count_98 sF11_7 sGM15_0 ?_
    refine sd_iconst sD11_count_101 (by decide) ?_
    refine sd_ialdx (a := 4) (v := x 4) hx sD11_count_102 sAM0 (by omega) rfl ?_
    refine sd_ireturn sD11_count_103 rfl (fun hr hm => ?_)
    exact sd_done (by unfold sp_count; ((repeat (first | rw [if_pos (by first | assumption | omega)] | rw [if_neg (by first | assumption | omega)])); try rfl); try (rw [h8])) hx
  ·
    refine sd_tsw (off := 103) (tgt := 104) sD11_count_1 (by omega) (by rw [zc1]; rfl) (by decide) ?_
    subst zc1
    refine sd_aload_n sD11_count_104 rfl ?_
    refine sd_getfr sD11_count_105 sF11_7 sGM15_0 ?_
    refine sd_bipush sD11_count_108 rfl (by decide) ?_
    refine sd_ialdx (a := 8) (v := x 8) hx sD11_count_110 sAM0 (by omega) rfl ?_
    refine sd_ireturn sD11_count_111 rfl (fun hr hm => ?_)
    exact sd_done (by unfold sp_count; ((repeat (first | rw [if_pos (by first | assumption | omega)] | rw [if_neg (by first | assumption | omega)])); try rfl); try (rw [h8])) hx
  ·
    refine sd_tsw (off := 111) (tgt := 112) sD11_count_1 (by omega) (by rw [zc1]; rfl) (by decide) ?_
    subst zc1
    refine sd_aload_n sD11_count_112 rfl ?_
    refine sd_getfr sD11_count_113 sF11_7 sGM15_0 ?_
    refine sd_iconst sD11_count_116 (by decide) ?_
    refine sd_ialdx (a := 5) (v := x 5) hx sD11_count_117 sAM0 (by omega) rfl ?_
    refine sd_ireturn sD11_count_118 rfl (fun hr hm => ?_)
    exact sd_done (by unfold sp_count; ((repeat (first | rw [if_pos (by first | assumption | omega)] | rw [if_neg (by first | assumption | omega)])); try rfl); try (rw [h8])) hx
  ·
    refine sd_tsw (off := 118) (tgt := 119) sD11_count_1 (by omega) (by rw [zc1]; rfl) (by decide) ?_
    subst zc1
    refine sd_aload_n sD11_count_119 rfl ?_
    refine sd_callVp (as := []) (st := []) (v := .inl (sd_cF x)) sD11_count_120 sM11_196 sOM15 rfl rfl rfl (by decide) (Nat.le_of_ble_eq_true rfl) (cM_inForce  _ m hx h1 h6 ) (fun ho120 => ?_)
    refine sd_ireturn sD11_count_123 rfl (fun hr hm => ?_)
    exact sd_done (by unfold sp_count; ((repeat (first | rw [if_pos (by first | assumption | omega)] | rw [if_neg (by first | assumption | omega)])); try rfl); try (rw [h8])) hx
  ·
    refine sd_tsw (off := 123) (tgt := 124) sD11_count_1 (by omega) (by rw [zc1]; rfl) (by decide) ?_
    subst zc1
    refine sd_aload_n sD11_count_124 rfl ?_
    refine sd_getfr sD11_count_125 sF11_7 sGM15_0 ?_
    refine sd_bipush sD11_count_128 rfl (by decide) ?_
    refine sd_ialdx (a := 6) (v := x 6) hx sD11_count_130 sAM0 (by omega) rfl ?_
    refine sd_ireturn sD11_count_131 rfl (fun hr hm => ?_)
    exact sd_done (by unfold sp_count; ((repeat (first | rw [if_pos (by first | assumption | omega)] | rw [if_neg (by first | assumption | omega)])); try rfl); try (rw [h8])) hx
  ·
    refine sd_tsw (off := 131) (tgt := 132) sD11_count_1 (by omega) (by rw [zc1]; rfl) (by decide) ?_
    subst zc1
    refine sd_aload_n sD11_count_132 rfl ?_
    refine sd_getfr sD11_count_133 sF11_7 sGM15_0 ?_
    refine sd_iconst sD11_count_136 (by decide) ?_
    refine sd_ialdx (a := 0) (v := x 0) hx sD11_count_137 sAM0 (by omega) rfl ?_
    refine sd_ireturn sD11_count_138 rfl (fun hr hm => ?_)
    exact sd_done (by unfold sp_count; ((repeat (first | rw [if_pos (by first | assumption | omega)] | rw [if_neg (by first | assumption | omega)])); try rfl); try (rw [h8])) hx
  ·
    refine sd_tsw (off := 138) (tgt := 139) sD11_count_1 (by omega) (by rw [zc1]; rfl) (by decide) ?_
    subst zc1
    refine sd_aload_n sD11_count_139 rfl ?_
    refine sd_callVp (as := []) (st := []) (v := .inl (sd_hgt x)) sD11_count_140 sM11_246 sOM15 rfl rfl rfl (by decide) (Nat.le_of_ble_eq_true rfl) (cM_heldGates  _ m hx h1 h2 h3 ) (fun ho140 => ?_)
    refine sd_ireturn sD11_count_143 rfl (fun hr hm => ?_)
    exact sd_done (by unfold sp_count; ((repeat (first | rw [if_pos (by first | assumption | omega)] | rw [if_neg (by first | assumption | omega)])); try rfl); try (rw [h8])) hx
  ·
    refine sd_tsw (off := 143) (tgt := 144) sD11_count_1 (by omega) (by rw [zc1]; rfl) (by decide) ?_
    subst zc1
    refine sd_aload_n sD11_count_144 rfl ?_
    refine sd_callV (as := []) (st := []) sD11_count_145 sM11_133 rfl rfl sOM15 rfl (by decide) (Nat.le_of_ble_eq_true rfl) (cM_makers _ m hx h1 h2 h4 h6 hR hI hL) (fun r m hq ho145 hm => ?_)
    obtain ⟨rfl, hx⟩ := hq
    have zm145 := sd_mks_rng h1
    show sd_Wp sd_SM 8 sY11_count 148 [some (.inr 15), some (.inl 11)] [.inl (sd_mks x)] m _
    refine sd_callSp (as := [.inl (sd_mks x)]) (st := []) (v := .inl (sd_ones (sd_mks x))) sD11_count_148 sM11_141 rfl rfl (by decide) (Nat.le_of_ble_eq_true rfl) (cM_ones (sd_mks x) _ m hx  ) (fun ho148 => ?_)
    refine sd_ireturn sD11_count_151 rfl (fun hr hm => ?_)
    exact sd_done (by unfold sp_count; ((repeat (first | rw [if_pos (by first | assumption | omega)] | rw [if_neg (by first | assumption | omega)])); try rfl); try (rw [h8])) hx
  ·
    refine sd_tsw (off := 151) (tgt := 152) sD11_count_1 (by omega) (by rw [zc1]; rfl) (by decide) ?_
    subst zc1
    refine sd_aload_n sD11_count_152 rfl ?_
    refine sd_getfx (v := x 4100) hx sD11_count_153 sF11_186 sGM15_4 (by decide) rfl ?_
    refine sd_ireturn sD11_count_156 rfl (fun hr hm => ?_)
    exact sd_done (by unfold sp_count; ((repeat (first | rw [if_pos (by first | assumption | omega)] | rw [if_neg (by first | assumption | omega)])); try rfl); try (rw [h8])) hx
  ·
    refine sd_tsw (off := 156) (tgt := 157) sD11_count_1 (by omega) (by rw [zc1]; rfl) (by decide) ?_
    subst zc1
    refine sd_aload_n sD11_count_157 rfl ?_
    refine sd_getfr sD11_count_158 sF11_7 sGM15_0 ?_
    refine sd_bipush sD11_count_161 rfl (by decide) ?_
    refine sd_ialdx (a := 7) (v := x 7) hx sD11_count_163 sAM0 (by omega) rfl ?_
    refine sd_ireturn sD11_count_164 rfl (fun hr hm => ?_)
    exact sd_done (by unfold sp_count; ((repeat (first | rw [if_pos (by first | assumption | omega)] | rw [if_neg (by first | assumption | omega)])); try rfl); try (rw [h8])) hx
  ·
    refine sd_tswd (tgt := 165) sD11_count_1 zc1 (by decide) ?_
    refine sd_aload_n sD11_count_165 rfl ?_
    refine sd_iconst sD11_count_166 (by decide) ?_
    refine sd_callV (as := [.inl 0]) (st := []) sD11_count_167 sM11_78 rfl rfl sOM15 rfl (by decide) (Nat.le_of_ble_eq_true rfl) (cM_finding 0 (by decide) _ m hx (hF 0 (by decide))) (fun r m hq ho167 hm => ?_)
    obtain ⟨rfl, hx⟩ := hq
    show sd_Wp sd_SM 8 sY11_count 170 [some (.inr 15), some (.inl w)] [.inl (-1000001)] m _
    refine sd_ireturn sD11_count_170 rfl (fun hr hm => ?_)
    exact sd_done (by unfold sp_count; ((repeat (first | rw [if_pos (by first | assumption | omega)] | rw [if_neg (by first | assumption | omega)])); try rfl); try (rw [h8])) hx
