set_option maxRecDepth 100000 in
set_option maxHeartbeats 4000000 in
theorem pC_count (w : Int) (x m : sd_M) (hx : sd_ns x m) (h1 : sd_I1 x) (h2 : sd_I2 x) (h3 : sd_I3 x) (h4 : sd_I4 x) (h6 : sd_I6 x) (hR : sd_IR x) (hF : ∀ k : Nat, k < 7 → 0 ≤ x (4101 + k) ∧ x (4101 + k) ≤ 1000000) : sd_Ct sd_SC 5 sY10_count [.inr 120, .inl w] m (sd_Qp (sp_count x w)) := by
  refine sd_ct rfl (Nat.le_of_ble_eq_true rfl) (fun hok hm => ?_)
  obtain ⟨⟨i0, j0⟩, ⟨i1, j1⟩, ⟨i2, j2⟩, ⟨i3, j3⟩, ⟨i4, j4⟩, ⟨i5, j5⟩, ⟨i6, j6⟩, ⟨i7, j7⟩, ⟨i8, j8⟩⟩ := id h1
  have r_w : sd_R w := hok (.inl w) (by simp)
  show sd_Wp sd_SC 5 sY10_count 0 [some (.inr 120), some (.inl w)] [] m _
  refine sd_iload_n sD10_count_0 rfl ?_
  rcases (show w = 0 ∨ w = 1 ∨ w = 2 ∨ w = 3 ∨ w = 4 ∨ w = 5 ∨ w = 6 ∨ w = 7 ∨ w = 8 ∨ w = 9 ∨ w = 10 ∨ w = 11 ∨ w = 12 ∨ w = 13 ∨ (w < 0 ∨ 13 < w) by omega) with zc1 | zc1 | zc1 | zc1 | zc1 | zc1 | zc1 | zc1 | zc1 | zc1 | zc1 | zc1 | zc1 | zc1 | zc1
  ·
    refine sd_tsw (off := 71) (tgt := 72) sD10_count_1 (by omega) (by rw [zc1]; rfl) (by decide) ?_
    subst zc1
    refine sd_aload_n sD10_count_72 rfl ?_
    refine sd_getfr sD10_count_73 sF10_10 sGC120_0 ?_
    refine sd_getfr sD10_count_76 sF10_41 sGC53_2 ?_
    refine sd_getfx (v := x 2) hx sD10_count_79 sF10_379 sGC13_0 (by decide) rfl ?_
    refine sd_ireturn sD10_count_82 rfl (fun hr hm => ?_)
    exact sd_done (by unfold sp_count; ((repeat (first | rw [if_pos (by first | assumption | omega)] | rw [if_neg (by first | assumption | omega)])); try rfl)) hx
  ·
    refine sd_tsw (off := 82) (tgt := 83) sD10_count_1 (by omega) (by rw [zc1]; rfl) (by decide) ?_
    subst zc1
    refine sd_aload_n sD10_count_83 rfl ?_
    refine sd_getfr sD10_count_84 sF10_10 sGC120_0 ?_
    refine sd_getfr sD10_count_87 sF10_41 sGC53_2 ?_
    refine sd_getfx (v := x 6004) hx sD10_count_90 sF10_380 sGC13_1 (by decide) rfl ?_
    refine sd_ireturn sD10_count_93 rfl (fun hr hm => ?_)
    exact sd_done (by unfold sp_count; ((repeat (first | rw [if_pos (by first | assumption | omega)] | rw [if_neg (by first | assumption | omega)])); try rfl)) hx
  ·
    refine sd_tsw (off := 93) (tgt := 94) sD10_count_1 (by omega) (by rw [zc1]; rfl) (by decide) ?_
    subst zc1
    refine sd_aload_n sD10_count_94 rfl ?_
    refine sd_getfr sD10_count_95 sF10_10 sGC120_0 ?_
    refine sd_getfr sD10_count_98 sF10_106 sGC53_3 ?_
    refine sd_getfx (v := x 3) hx sD10_count_101 sF10_110 sGC18_0 (by decide) rfl ?_
    refine sd_ireturn sD10_count_104 rfl (fun hr hm => ?_)
    exact sd_done (by unfold sp_count; ((repeat (first | rw [if_pos (by first | assumption | omega)] | rw [if_neg (by first | assumption | omega)])); try rfl)) hx
  ·
    refine sd_tsw (off := 104) (tgt := 105) sD10_count_1 (by omega) (by rw [zc1]; rfl) (by decide) ?_
    subst zc1
    refine sd_aload_n sD10_count_105 rfl ?_
    refine sd_getfr sD10_count_106 sF10_10 sGC120_0 ?_
    refine sd_getfr sD10_count_109 sF10_106 sGC53_3 ?_
    refine sd_iconst sD10_count_112 (by decide) ?_
    refine sd_callVp (as := [.inl (-1)]) (st := []) (v := .inl (sd_inS x (-1))) sD10_count_113 sM10_164 sOC18 rfl rfl rfl (by decide) (Nat.le_of_ble_eq_true rfl) (cC_inShops (-1) _ m hx h1 h4) (fun ho113 => ?_)
    refine sd_ireturn sD10_count_116 rfl (fun hr hm => ?_)
    exact sd_done (by unfold sp_count; ((repeat (first | rw [if_pos (by first | assumption | omega)] | rw [if_neg (by first | assumption | omega)])); try rfl)) hx
  ·
    refine sd_tsw (off := 116) (tgt := 117) sD10_count_1 (by omega) (by rw [zc1]; rfl) (by decide) ?_
    subst zc1
    refine sd_aload_n sD10_count_117 rfl ?_
    refine sd_getfr sD10_count_118 sF10_10 sGC120_0 ?_
    refine sd_getfr sD10_count_121 sF10_183 sGC53_4 ?_
    refine sd_getfx (v := x 4) hx sD10_count_124 sF10_187 sGC23_0 (by decide) rfl ?_
    refine sd_ireturn sD10_count_127 rfl (fun hr hm => ?_)
    exact sd_done (by unfold sp_count; ((repeat (first | rw [if_pos (by first | assumption | omega)] | rw [if_neg (by first | assumption | omega)])); try rfl)) hx
  ·
    refine sd_tsw (off := 127) (tgt := 128) sD10_count_1 (by omega) (by rw [zc1]; rfl) (by decide) ?_
    subst zc1
    refine sd_aload_n sD10_count_128 rfl ?_
    refine sd_getfr sD10_count_129 sF10_10 sGC120_0 ?_
    refine sd_getfr sD10_count_132 sF10_183 sGC53_4 ?_
    refine sd_getfx (v := x 8) hx sD10_count_135 sF10_382 sGC23_1 (by decide) rfl ?_
    refine sd_ireturn sD10_count_138 rfl (fun hr hm => ?_)
    exact sd_done (by unfold sp_count; ((repeat (first | rw [if_pos (by first | assumption | omega)] | rw [if_neg (by first | assumption | omega)])); try rfl)) hx
  ·
    refine sd_tsw (off := 138) (tgt := 139) sD10_count_1 (by omega) (by rw [zc1]; rfl) (by decide) ?_
    subst zc1
    refine sd_aload_n sD10_count_139 rfl ?_
    refine sd_getfr sD10_count_140 sF10_10 sGC120_0 ?_
    refine sd_getfr sD10_count_143 sF10_145 sGC53_5 ?_
    refine sd_getfx (v := x 5) hx sD10_count_146 sF10_232 sGC36_0 (by decide) rfl ?_
    refine sd_ireturn sD10_count_149 rfl (fun hr hm => ?_)
    exact sd_done (by unfold sp_count; ((repeat (first | rw [if_pos (by first | assumption | omega)] | rw [if_neg (by first | assumption | omega)])); try rfl)) hx
  ·
    refine sd_tsw (off := 149) (tgt := 150) sD10_count_1 (by omega) (by rw [zc1]; rfl) (by decide) ?_
    subst zc1
    refine sd_aload_n sD10_count_150 rfl ?_
    refine sd_getfr sD10_count_151 sF10_10 sGC120_0 ?_
    refine sd_getfr sD10_count_154 sF10_145 sGC53_5 ?_
    refine sd_aload_n sD10_count_157 rfl ?_
    refine sd_getfr sD10_count_158 sF10_10 sGC120_0 ?_
    refine sd_getfx (v := x 0) hx sD10_count_161 sF10_220 sGC53_0 (by decide) rfl ?_
    refine sd_callVp (as := [.inl (x 0)]) (st := []) (v := .inl (sd_cF x)) sD10_count_164 sM10_385 sOC36 rfl rfl rfl (by decide) (Nat.le_of_ble_eq_true rfl) (cC_countInForce (x 0) _ m hx h1 h6 (by first | rfl | assumption | omega | (simp only [sd_up]; rw [if_neg (by omega)]))) (fun ho164 => ?_)
    refine sd_ireturn sD10_count_167 rfl (fun hr hm => ?_)
    exact sd_done (by unfold sp_count; ((repeat (first | rw [if_pos (by first | assumption | omega)] | rw [if_neg (by first | assumption | omega)])); try rfl)) hx
  ·
    refine sd_tsw (off := 167) (tgt := 168) sD10_count_1 (by omega) (by rw [zc1]; rfl) (by decide) ?_
    subst zc1
    refine sd_aload_n sD10_count_168 rfl ?_
    refine sd_getfr sD10_count_169 sF10_10 sGC120_0 ?_
    refine sd_getfr sD10_count_172 sF10_252 sGC53_6 ?_
    refine sd_getfx (v := x 6) hx sD10_count_175 sF10_256 sGC42_0 (by decide) rfl ?_
    refine sd_ireturn sD10_count_178 rfl (fun hr hm => ?_)
    exact sd_done (by unfold sp_count; ((repeat (first | rw [if_pos (by first | assumption | omega)] | rw [if_neg (by first | assumption | omega)])); try rfl)) hx
  ·
    refine sd_tsw (off := 178) (tgt := 179) sD10_count_1 (by omega) (by rw [zc1]; rfl) (by decide) ?_
    subst zc1
    refine sd_aload_n sD10_count_179 rfl ?_
    refine sd_getfr sD10_count_180 sF10_10 sGC120_0 ?_
    refine sd_getfx (v := x 0) hx sD10_count_183 sF10_220 sGC53_0 (by decide) rfl ?_
    refine sd_ireturn sD10_count_186 rfl (fun hr hm => ?_)
    exact sd_done (by unfold sp_count; ((repeat (first | rw [if_pos (by first | assumption | omega)] | rw [if_neg (by first | assumption | omega)])); try rfl)) hx
  ·
    refine sd_tsw (off := 186) (tgt := 187) sD10_count_1 (by omega) (by rw [zc1]; rfl) (by decide) ?_
    subst zc1
    refine sd_aload_n sD10_count_187 rfl ?_
    refine sd_getfr sD10_count_188 sF10_10 sGC120_0 ?_
    refine sd_getfr sD10_count_191 sF10_41 sGC53_2 ?_
    refine sd_callVp (as := []) (st := []) (v := .inl (sd_hgt x)) sD10_count_194 sM10_388 sOC13 rfl rfl rfl (by decide) (Nat.le_of_ble_eq_true rfl) (cC_heldGates  _ m hx h1 h2 ) (fun ho194 => ?_)
    refine sd_ireturn sD10_count_197 rfl (fun hr hm => ?_)
    exact sd_done (by unfold sp_count; ((repeat (first | rw [if_pos (by first | assumption | omega)] | rw [if_neg (by first | assumption | omega)])); try rfl)) hx
  ·
    refine sd_tsw (off := 197) (tgt := 198) sD10_count_1 (by omega) (by rw [zc1]; rfl) (by decide) ?_
    subst zc1
    refine sd_aload_n sD10_count_198 rfl ?_
    refine sd_getfr sD10_count_199 sF10_10 sGC120_0 ?_
    refine sd_callV (as := []) (st := []) sD10_count_202 sM10_208 rfl rfl sOC53 rfl (by decide) (Nat.le_of_ble_eq_true rfl) (cC_makers _ m hx h1 h2 h4 h6 hR) (fun r m hq ho202 hm => ?_)
    obtain ⟨rfl, hx⟩ := hq
    have zm202 := sd_mks_rng h1
    show sd_Wp sd_SC 5 sY10_count 205 [some (.inr 120), some (.inl 11)] [.inl (sd_mks x)] m _
    refine sd_callSp (as := [.inl (sd_mks x)]) (st := []) (v := .inl (sd_ones (sd_mks x))) sD10_count_205 sM10_298 rfl rfl (by decide) (Nat.le_of_ble_eq_true rfl) (cC_bitCount (sd_mks x) m (by first | omega | assumption)) (fun ho205 => ?_)
    refine sd_ireturn sD10_count_208 rfl (fun hr hm => ?_)
    exact sd_done (by unfold sp_count; ((repeat (first | rw [if_pos (by first | assumption | omega)] | rw [if_neg (by first | assumption | omega)])); try rfl)) hx
  ·
    refine sd_tsw (off := 208) (tgt := 209) sD10_count_1 (by omega) (by rw [zc1]; rfl) (by decide) ?_
    subst zc1
    refine sd_aload_n sD10_count_209 rfl ?_
    refine sd_getfr sD10_count_210 sF10_28 sGC120_3 ?_
    refine sd_getfx (v := x 4100) hx sD10_count_213 sF10_229 sGC118_0 (by decide) rfl ?_
    refine sd_ireturn sD10_count_216 rfl (fun hr hm => ?_)
    exact sd_done (by unfold sp_count; ((repeat (first | rw [if_pos (by first | assumption | omega)] | rw [if_neg (by first | assumption | omega)])); try rfl)) hx
  ·
    refine sd_tsw (off := 216) (tgt := 217) sD10_count_1 (by omega) (by rw [zc1]; rfl) (by decide) ?_
    subst zc1
    refine sd_aload_n sD10_count_217 rfl ?_
    refine sd_getfr sD10_count_218 sF10_10 sGC120_0 ?_
    refine sd_getfr sD10_count_221 sF10_252 sGC53_6 ?_
    refine sd_getfx (v := x 7) hx sD10_count_224 sF10_263 sGC42_1 (by decide) rfl ?_
    refine sd_ireturn sD10_count_227 rfl (fun hr hm => ?_)
    exact sd_done (by unfold sp_count; ((repeat (first | rw [if_pos (by first | assumption | omega)] | rw [if_neg (by first | assumption | omega)])); try rfl)) hx
  ·
    refine sd_tswd (tgt := 228) sD10_count_1 zc1 (by decide) ?_
    refine sd_aload_n sD10_count_228 rfl ?_
    refine sd_ldc (z := -1000001) sD10_count_229 sK10_51 (by decide) ?_
    refine sd_callV (as := [.inl (-1000001)]) (st := []) sD10_count_231 sM10_52 rfl rfl sOC120 rfl (by decide) (Nat.le_of_ble_eq_true rfl) (cC_found (-1000001) 0 (by decide) (by decide) _ m hx (hF 0 (by decide))) (fun r m hq ho231 hm => ?_)
    obtain ⟨rfl, hx⟩ := hq
    show sd_Wp sd_SC 5 sY10_count 234 [some (.inr 120), some (.inl w)] [.inl (-1000001)] m _
    refine sd_ireturn sD10_count_234 rfl (fun hr hm => ?_)
    exact sd_done (by unfold sp_count; ((repeat (first | rw [if_pos (by first | assumption | omega)] | rw [if_neg (by first | assumption | omega)])); try rfl)) hx
