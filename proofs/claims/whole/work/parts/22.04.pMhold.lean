set_option maxRecDepth 100000 in
set_option maxHeartbeats 4000000 in
theorem pM_hold (k : Int) (n : Int) (x m : sd_M) (hx : sd_ns x m) (h1 : sd_I1 x) (h2 : sd_I2 x) (hF : ∀ k : Nat, k < 7 → 0 ≤ x (4101 + k) ∧ x (4101 + k) ≤ 1000000) (hz : x 6004 = sd_cnt (sd_Pk x 1) (x 2).toNat ∧ 0 ≤ x 6004 ∧ x 6004 ≤ 8) : sd_Ct sd_SM 4 sY11_hold [.inr 15, .inl k, .inl n] m (sd_Qp (spM_hold x k n)) := by
  refine sd_ct rfl (Nat.le_of_ble_eq_true rfl) (fun hok hm => ?_)
  obtain ⟨⟨i0, j0⟩, ⟨i1, j1⟩, ⟨i2, j2⟩, ⟨i3, j3⟩, ⟨i4, j4⟩, ⟨i5, j5⟩, ⟨i6, j6⟩, ⟨i7, j7⟩, ⟨i8, j8⟩⟩ := id h1
  have r_k : sd_R k := hok (.inl k) (by simp)
  have r_n : sd_R n := hok (.inl n) (by simp)
  show sd_Wp sd_SM 4 sY11_hold 0 [some (.inr 15), some (.inl k), some (.inl n), none, none, none] [] m _
  refine sd_iload_n sD11_hold_0 rfl ?_
  refine sd_iconst sD11_hold_1 (by decide) ?_
  refine sd_bipush sD11_hold_2 rfl (by decide) ?_
  refine sd_callSp (as := [.inl k, .inl 0, .inl 6]) (st := []) (v := .inl (sd_b (0 ≤ k ∧ k ≤ 6))) sD11_hold_4 sM11_56 rfl rfl (by decide) (Nat.le_of_ble_eq_true rfl) (cM_in k 0 6 m) (fun ho4 => ?_)
  refine sd_bif_eq (tgt := 37) sD11_hold_7 (by decide) (fun zc7 => ?_) (fun zc7 => ?_)
  ·
    refine sd_aload_n sD11_hold_37 rfl ?_
    refine sd_iconst sD11_hold_38 (by decide) ?_
    refine sd_callV (as := [.inl 0]) (st := []) sD11_hold_39 sM11_78 rfl rfl sOM15 rfl (by decide) (Nat.le_of_ble_eq_true rfl) (cM_finding 0 (by decide) _ m hx (hF 0 (by decide))) (fun r m hq ho39 hm => ?_)
    obtain ⟨rfl, hx⟩ := hq
    show sd_Wp sd_SM 4 sY11_hold 42 [some (.inr 15), some (.inl k), some (.inl n), none, none, none] [.inl (-1000001)] m _
    refine sd_ireturn sD11_hold_42 rfl (fun hr hm => ?_)
    exact sd_done (by unfold spM_hold; (first | rw [if_pos ⟨by assumption, by assumption⟩] | rw [if_pos (by assumption)] | rw [if_neg (fun hh => by first | exact absurd hh (by assumption) | exact absurd hh.1 (by assumption) | exact absurd hh.2 (by assumption) | exact absurd (sd_alw_k hh.2) (by assumption))]); all_goals (first | rfl | (rw [if_pos (by omega)]; rfl) | (rw [if_neg (by omega), ← sd_hadd_eq (by omega)]; done))) hx
  ·
    refine sd_iload_n sD11_hold_10 rfl ?_
    refine sd_iconst sD11_hold_11 (by decide) ?_
    refine sd_sipush sD11_hold_12 rfl (by decide) ?_
    refine sd_callSp (as := [.inl n, .inl 0, .inl 9999]) (st := []) (v := .inl (sd_b (0 ≤ n ∧ n ≤ 9999))) sD11_hold_15 sM11_56 rfl rfl (by decide) (Nat.le_of_ble_eq_true rfl) (cM_in n 0 9999 m) (fun ho15 => ?_)
    refine sd_bif_eq (tgt := 37) sD11_hold_18 (by decide) (fun zc18 => ?_) (fun zc18 => ?_)
    ·
      refine sd_aload_n sD11_hold_37 rfl ?_
      refine sd_iconst sD11_hold_38 (by decide) ?_
      refine sd_callV (as := [.inl 0]) (st := []) sD11_hold_39 sM11_78 rfl rfl sOM15 rfl (by decide) (Nat.le_of_ble_eq_true rfl) (cM_finding 0 (by decide) _ m hx (hF 0 (by decide))) (fun r m hq ho39 hm => ?_)
      obtain ⟨rfl, hx⟩ := hq
      show sd_Wp sd_SM 4 sY11_hold 42 [some (.inr 15), some (.inl k), some (.inl n), none, none, none] [.inl (-1000001)] m _
      refine sd_ireturn sD11_hold_42 rfl (fun hr hm => ?_)
      exact sd_done (by unfold spM_hold; (first | rw [if_pos ⟨by assumption, by assumption⟩] | rw [if_pos (by assumption)] | rw [if_neg (fun hh => by first | exact absurd hh (by assumption) | exact absurd hh.1 (by assumption) | exact absurd hh.2 (by assumption) | exact absurd (sd_alw_k hh.2) (by assumption))]); all_goals (first | rfl | (rw [if_pos (by omega)]; rfl) | (rw [if_neg (by omega), ← sd_hadd_eq (by omega)]; done))) hx
    ·
      refine sd_aload_n sD11_hold_21 rfl ?_
      refine sd_iload_n sD11_hold_22 rfl ?_
      refine sd_iload_n sD11_hold_23 rfl ?_
      refine sd_bipush sD11_hold_24 rfl (by decide) ?_
      refine sd_idiv (z := (n / 100)) sD11_hold_26 (by decide) (by exact Int.tdiv_eq_ediv_of_nonneg (by omega)) (by omega) ?_
      refine sd_iload_n sD11_hold_27 rfl ?_
      refine sd_bipush sD11_hold_28 rfl (by decide) ?_
      refine sd_irem (z := (n % 100)) sD11_hold_30 (by decide) (by exact Int.tmod_eq_emod_of_nonneg (by omega)) (by omega) ?_
      refine sd_callVp (as := [.inl k, .inl (n / 100), .inl (n % 100)]) (st := []) (v := .inl (sd_b (sd_alw x k (n / 100) (n % 100)))) sD11_hold_31 sM11_75 sOM15 rfl rfl rfl (by decide) (Nat.le_of_ble_eq_true rfl) (cM_areNumbers k (n / 100) (n % 100) _ m hx h1 h2 (by omega)) (fun ho31 => ?_)
      refine sd_bif_ne (tgt := 43) sD11_hold_34 (by decide) (fun zc34 => ?_) (fun zc34 => ?_)
      ·
        refine sd_aload_n sD11_hold_43 rfl ?_
        refine sd_getfr sD11_hold_44 sF11_7 sGM15_0 ?_
        refine sd_iconst sD11_hold_47 (by decide) ?_
        refine sd_ialdx (a := 2) (v := x 2) hx sD11_hold_48 sAM0 (by omega) rfl ?_
        refine sd_bipush sD11_hold_49 rfl (by decide) ?_
        refine sd_icmp_eq (tgt := 73) sD11_hold_51 (by decide) (fun zc51 => ?_) (fun zc51 => ?_)
        ·
          refine sd_aload_n sD11_hold_73 rfl ?_
          refine sd_iconst sD11_hold_74 (by decide) ?_
          refine sd_callV (as := [.inl 1]) (st := []) sD11_hold_75 sM11_78 rfl rfl sOM15 rfl (by decide) (Nat.le_of_ble_eq_true rfl) (cM_finding 1 (by decide) _ m hx (hF 1 (by decide))) (fun r m hq ho75 hm => ?_)
          obtain ⟨rfl, hx⟩ := hq
          show sd_Wp sd_SM 4 sY11_hold 78 [some (.inr 15), some (.inl k), some (.inl n), none, none, none] [.inl (-1000002)] m _
          refine sd_ireturn sD11_hold_78 rfl (fun hr hm => ?_)
          exact sd_done (by unfold spM_hold; (first | rw [if_pos ⟨by assumption, by assumption⟩] | rw [if_pos (by assumption)] | rw [if_neg (fun hh => by first | exact absurd hh (by assumption) | exact absurd hh.1 (by assumption) | exact absurd hh.2 (by assumption) | exact absurd (sd_alw_k hh.2) (by assumption))]); all_goals (first | rfl | (rw [if_pos (by omega)]; rfl) | (rw [if_neg (by omega), ← sd_hadd_eq (by omega)]; done))) hx
        ·
          refine sd_iload_n sD11_hold_54 rfl ?_
          refine sd_iconst sD11_hold_55 (by decide) ?_
          refine sd_iconst sD11_hold_56 (by decide) ?_
          refine sd_callSp (as := [.inl k, .inl 1, .inl 2]) (st := []) (v := .inl (sd_b (1 ≤ k ∧ k ≤ 2))) sD11_hold_57 sM11_56 rfl rfl (by decide) (Nat.le_of_ble_eq_true rfl) (cM_in k 1 2 m) (fun ho57 => ?_)
          refine sd_bif_eq (tgt := 79) sD11_hold_60 (by decide) (fun zc60 => ?_) (fun zc60 => ?_)
          ·
            refine sd_aload_n sD11_hold_79 rfl ?_
            refine sd_getfr sD11_hold_80 sF11_7 sGM15_0 ?_
            refine sd_iconst sD11_hold_83 (by decide) ?_
            refine sd_ialdx (a := 2) (v := x 2) hx sD11_hold_84 sAM0 (by omega) rfl ?_
            refine sd_istore_n (ls' := [some (.inr 15), some (.inl k), some (.inl n), some (.inl (x 2)), none, none]) sD11_hold_85 (by decide) rfl ?_
            refine sd_iload_n sD11_hold_86 rfl ?_
            refine sd_bipush sD11_hold_87 rfl (by decide) ?_
            refine sd_idiv (z := (n / 100)) sD11_hold_89 (by decide) (by exact Int.tdiv_eq_ediv_of_nonneg (by omega)) (by omega) ?_
            refine sd_istore (ls' := [some (.inr 15), some (.inl k), some (.inl n), some (.inl (x 2)), some (.inl (n / 100)), none]) sD11_hold_90 (by decide) rfl ?_
            refine sd_iload_n sD11_hold_92 rfl ?_
            refine sd_bipush sD11_hold_93 rfl (by decide) ?_
            refine sd_irem (z := (n % 100)) sD11_hold_95 (by decide) (by exact Int.tmod_eq_emod_of_nonneg (by omega)) (by omega) ?_
            refine sd_istore (ls' := [some (.inr 15), some (.inl k), some (.inl n), some (.inl (x 2)), some (.inl (n / 100)), some (.inl (n % 100))]) sD11_hold_96 (by decide) rfl ?_
            refine sd_aload_n sD11_hold_98 rfl ?_
            refine sd_getfr sD11_hold_99 sF11_7 sGM15_0 ?_
            refine sd_bipush sD11_hold_102 rfl (by decide) ?_
            refine sd_iload_n sD11_hold_104 rfl ?_
            refine sd_iadd (z := (10 + x 2)) sD11_hold_105 (by omega) (by omega) ?_
            refine sd_iload_n sD11_hold_106 rfl ?_
            refine sd_iastx (a := (10 + (x 2).toNat)) sd_sokM hx sD11_hold_107 sAM0 (by omega) (fun m hx em107 => ?_)
            refine sd_aload_n sD11_hold_108 rfl ?_
            refine sd_getfr sD11_hold_109 sF11_7 sGM15_0 ?_
            refine sd_bipush sD11_hold_112 rfl (by decide) ?_
            refine sd_iload_n sD11_hold_114 rfl ?_
            refine sd_iadd (z := (34 + x 2)) sD11_hold_115 (by omega) (by omega) ?_
            refine sd_iload sD11_hold_116 rfl ?_
            refine sd_iastx (a := (34 + (x 2).toNat)) sd_sokM hx sD11_hold_118 sAM0 (by omega) (fun m hx em118 => ?_)
            refine sd_aload_n sD11_hold_119 rfl ?_
            refine sd_getfr sD11_hold_120 sF11_7 sGM15_0 ?_
            refine sd_bipush sD11_hold_123 rfl (by decide) ?_
            refine sd_iload_n sD11_hold_125 rfl ?_
            refine sd_iadd (z := (58 + x 2)) sD11_hold_126 (by omega) (by omega) ?_
            refine sd_iload sD11_hold_127 rfl ?_
            refine sd_iastx (a := (58 + (x 2).toNat)) sd_sokM hx sD11_hold_129 sAM0 (by omega) (fun m hx em129 => ?_)
            refine sd_aload_n sD11_hold_130 rfl ?_
            refine sd_getfr sD11_hold_131 sF11_7 sGM15_0 ?_
            refine sd_bipush sD11_hold_134 rfl (by decide) ?_
            refine sd_iload_n sD11_hold_136 rfl ?_
            refine sd_iadd (z := (82 + x 2)) sD11_hold_137 (by omega) (by omega) ?_
            refine sd_bipush sD11_hold_138 rfl (by decide) ?_
            refine sd_iastx (a := (82 + (x 2).toNat)) sd_sokM hx sD11_hold_140 sAM0 (by omega) (fun m hx em140 => ?_)
            refine sd_aload_n sD11_hold_141 rfl ?_
            refine sd_getfr sD11_hold_142 sF11_7 sGM15_0 ?_
            refine sd_bipush sD11_hold_145 rfl (by decide) ?_
            refine sd_iload_n sD11_hold_147 rfl ?_
            refine sd_iadd (z := (106 + x 2)) sD11_hold_148 (by omega) (by omega) ?_
            refine sd_iconst sD11_hold_149 (by decide) ?_
            refine sd_iastx (a := (106 + (x 2).toNat)) sd_sokM hx sD11_hold_150 sAM0 (by omega) (fun m hx em150 => ?_)
            refine sd_aload_n sD11_hold_151 rfl ?_
            refine sd_getfr sD11_hold_152 sF11_7 sGM15_0 ?_
            refine sd_sipush sD11_hold_155 rfl (by decide) ?_
            refine sd_iload_n sD11_hold_158 rfl ?_
            refine sd_iadd (z := (130 + x 2)) sD11_hold_159 (by omega) (by omega) ?_
            refine sd_iconst sD11_hold_160 (by decide) ?_
            refine sd_iastx (a := (130 + (x 2).toNat)) sd_sokM hx sD11_hold_161 sAM0 (by omega) (fun m hx em161 => ?_)
            refine sd_aload_n sD11_hold_162 rfl ?_
            refine sd_getfr sD11_hold_163 sF11_7 sGM15_0 ?_
            refine sd_sipush sD11_hold_166 rfl (by decide) ?_
            refine sd_iload_n sD11_hold_169 rfl ?_
            refine sd_iadd (z := (154 + x 2)) sD11_hold_170 (by omega) (by omega) ?_
            refine sd_iload_n sD11_hold_171 rfl ?_
            refine sd_iconst sD11_hold_172 (by decide) ?_
            refine sd_cut (J := 182) (ls := [some (.inr 15), some (.inl k), some (.inl n), some (.inl (x 2)), some (.inl (n / 100)), some (.inl (n % 100))]) (st := [.inl (154 + x 2), .inr 0]) (fun zv => zv = (if k = 2 then (n % 100) else 0)) (fun zv hzv => ?_) (fun K173 => ?_)
            ·
              subst hzv
              refine sd_iastx (a := (154 + (x 2).toNat)) sd_sokM hx sD11_hold_182 sAM0 (by omega) (fun m hx em182 => ?_)
              refine sd_aload_n sD11_hold_183 rfl ?_
              refine sd_getfr sD11_hold_184 sF11_7 sGM15_0 ?_
              refine sd_sipush sD11_hold_187 rfl (by decide) ?_
              refine sd_iload_n sD11_hold_190 rfl ?_
              refine sd_iadd (z := (178 + x 2)) sD11_hold_191 (by omega) (by omega) ?_
              refine sd_iconst sD11_hold_192 (by decide) ?_
              refine sd_iastx (a := (178 + (x 2).toNat)) sd_sokM hx sD11_hold_193 sAM0 (by omega) (fun m hx em193 => ?_)
              refine sd_aload_n sD11_hold_194 rfl ?_
              refine sd_getfr sD11_hold_195 sF11_7 sGM15_0 ?_
              refine sd_sipush sD11_hold_198 rfl (by decide) ?_
              refine sd_iload_n sD11_hold_201 rfl ?_
              refine sd_iadd (z := (202 + x 2)) sD11_hold_202 (by omega) (by omega) ?_
              refine sd_iconst sD11_hold_203 (by decide) ?_
              refine sd_iastx (a := (202 + (x 2).toNat)) sd_sokM hx sD11_hold_204 sAM0 (by omega) (fun m hx em204 => ?_)
              refine sd_aload_n sD11_hold_205 rfl ?_
              refine sd_getfr sD11_hold_206 sF11_7 sGM15_0 ?_
              refine sd_sipush sD11_hold_209 rfl (by decide) ?_
              refine sd_iload_n sD11_hold_212 rfl ?_
              refine sd_iadd (z := (226 + x 2)) sD11_hold_213 (by omega) (by omega) ?_
              refine sd_iconst sD11_hold_214 (by decide) ?_
              refine sd_iastx (a := (226 + (x 2).toNat)) sd_sokM hx sD11_hold_215 sAM0 (by omega) (fun m hx em215 => ?_)
              refine sd_aload_n sD11_hold_216 rfl ?_
              refine sd_getfr sD11_hold_217 sF11_7 sGM15_0 ?_
              refine sd_sipush sD11_hold_220 rfl (by decide) ?_
              refine sd_iload_n sD11_hold_223 rfl ?_
              refine sd_iadd (z := (250 + x 2)) sD11_hold_224 (by omega) (by omega) ?_
              refine sd_iconst sD11_hold_225 (by decide) ?_
              refine sd_iastx (a := (250 + (x 2).toNat)) sd_sokM hx sD11_hold_226 sAM0 (by omega) (fun m hx em226 => ?_)
              refine sd_aload_n sD11_hold_227 rfl ?_
              refine sd_getfr sD11_hold_228 sF11_7 sGM15_0 ?_
              refine sd_sipush sD11_hold_231 rfl (by decide) ?_
              refine sd_iload_n sD11_hold_234 rfl ?_
              refine sd_iadd (z := (274 + x 2)) sD11_hold_235 (by omega) (by omega) ?_
              refine sd_iload sD11_hold_236 rfl ?_
              refine sd_iastx (a := (274 + (x 2).toNat)) sd_sokM hx sD11_hold_238 sAM0 (by omega) (fun m hx em238 => ?_)
              refine sd_aload_n sD11_hold_239 rfl ?_
              refine sd_getfr sD11_hold_240 sF11_7 sGM15_0 ?_
              refine sd_sipush sD11_hold_243 rfl (by decide) ?_
              refine sd_iload_n sD11_hold_246 rfl ?_
              refine sd_iadd (z := (298 + x 2)) sD11_hold_247 (by omega) (by omega) ?_
              refine sd_iload sD11_hold_248 rfl ?_
              refine sd_iastx (a := (298 + (x 2).toNat)) sd_sokM hx sD11_hold_250 sAM0 (by omega) (fun m hx em250 => ?_)
              refine sd_aload_n sD11_hold_251 rfl ?_
              refine sd_getfr sD11_hold_252 sF11_7 sGM15_0 ?_
              refine sd_iconst sD11_hold_255 (by decide) ?_
              refine sd_dup2 sD11_hold_256 ?_
              refine sd_ialdx (a := 2) (v := x 2) hx sD11_hold_257 sAM0 (by omega) (by simp only [sd_up]; repeat rw [if_neg (by omega)]) ?_
              refine sd_iconst sD11_hold_258 (by decide) ?_
              refine sd_iadd (z := (x 2 + 1)) sD11_hold_259 (by omega) (by omega) ?_
              refine sd_iastx (a := 2) sd_sokM hx sD11_hold_260 sAM0 (by omega) (fun m hx em260 => ?_)
              refine sd_iload_n sD11_hold_261 rfl ?_
              refine sd_ireturn sD11_hold_262 rfl (fun hr hm => ?_)
              exact sd_done (by unfold spM_hold; (first | rw [if_pos ⟨by assumption, by assumption⟩] | rw [if_pos (by assumption)] | rw [if_neg (fun hh => by first | exact absurd hh (by assumption) | exact absurd hh.1 (by assumption) | exact absurd hh.2 (by assumption) | exact absurd (sd_alw_k hh.2) (by assumption))]); all_goals (first | rfl | (rw [if_pos (by omega)]; rfl) | (rw [if_neg (by omega), ← sd_hadd_eq (by omega)]; done))) hx
            ·
              refine sd_icmp_ne (tgt := 181) sD11_hold_173 (by decide) (fun zc173 => ?_) (fun zc173 => ?_)
              ·
                refine sd_iconst sD11_hold_181 (by decide) ?_
                exact K173 _ (by first | (rw [if_pos (by omega)]; done) | (rw [if_neg (by omega)]; done))
              ·
                refine sd_iload sD11_hold_176 rfl ?_
                refine sd_goto (tgt := 182) sD11_hold_178 (by decide) ?_
                exact K173 _ (by first | (rw [if_pos (by omega)]; done) | (rw [if_neg (by omega)]; done))
          ·
            refine sd_aload_n sD11_hold_63 rfl ?_
            refine sd_iconst sD11_hold_64 (by decide) ?_
            refine sd_callVp (as := [.inl 1]) (st := []) (v := .inl (sd_cnt (sd_Pk x 1) (x 2).toNat)) sD11_hold_65 sM11_81 sOM15 rfl rfl rfl (by decide) (Nat.le_of_ble_eq_true rfl) (cM_manyOf 1 _ m hx h1 ) (fun ho65 => ?_)
            refine sd_bipush sD11_hold_68 rfl (by decide) ?_
            refine sd_icmp_ne (tgt := 79) sD11_hold_70 (by decide) (fun zc70 => ?_) (fun zc70 => ?_)
            ·
              refine sd_aload_n sD11_hold_79 rfl ?_
              refine sd_getfr sD11_hold_80 sF11_7 sGM15_0 ?_
              refine sd_iconst sD11_hold_83 (by decide) ?_
              refine sd_ialdx (a := 2) (v := x 2) hx sD11_hold_84 sAM0 (by omega) rfl ?_
              refine sd_istore_n (ls' := [some (.inr 15), some (.inl k), some (.inl n), some (.inl (x 2)), none, none]) sD11_hold_85 (by decide) rfl ?_
              refine sd_iload_n sD11_hold_86 rfl ?_
              refine sd_bipush sD11_hold_87 rfl (by decide) ?_
              refine sd_idiv (z := (n / 100)) sD11_hold_89 (by decide) (by exact Int.tdiv_eq_ediv_of_nonneg (by omega)) (by omega) ?_
              refine sd_istore (ls' := [some (.inr 15), some (.inl k), some (.inl n), some (.inl (x 2)), some (.inl (n / 100)), none]) sD11_hold_90 (by decide) rfl ?_
              refine sd_iload_n sD11_hold_92 rfl ?_
              refine sd_bipush sD11_hold_93 rfl (by decide) ?_
              refine sd_irem (z := (n % 100)) sD11_hold_95 (by decide) (by exact Int.tmod_eq_emod_of_nonneg (by omega)) (by omega) ?_
              refine sd_istore (ls' := [some (.inr 15), some (.inl k), some (.inl n), some (.inl (x 2)), some (.inl (n / 100)), some (.inl (n % 100))]) sD11_hold_96 (by decide) rfl ?_
              refine sd_aload_n sD11_hold_98 rfl ?_
              refine sd_getfr sD11_hold_99 sF11_7 sGM15_0 ?_
              refine sd_bipush sD11_hold_102 rfl (by decide) ?_
              refine sd_iload_n sD11_hold_104 rfl ?_
              refine sd_iadd (z := (10 + x 2)) sD11_hold_105 (by omega) (by omega) ?_
              refine sd_iload_n sD11_hold_106 rfl ?_
              refine sd_iastx (a := (10 + (x 2).toNat)) sd_sokM hx sD11_hold_107 sAM0 (by omega) (fun m hx em107 => ?_)
              refine sd_aload_n sD11_hold_108 rfl ?_
              refine sd_getfr sD11_hold_109 sF11_7 sGM15_0 ?_
              refine sd_bipush sD11_hold_112 rfl (by decide) ?_
              refine sd_iload_n sD11_hold_114 rfl ?_
              refine sd_iadd (z := (34 + x 2)) sD11_hold_115 (by omega) (by omega) ?_
              refine sd_iload sD11_hold_116 rfl ?_
              refine sd_iastx (a := (34 + (x 2).toNat)) sd_sokM hx sD11_hold_118 sAM0 (by omega) (fun m hx em118 => ?_)
              refine sd_aload_n sD11_hold_119 rfl ?_
              refine sd_getfr sD11_hold_120 sF11_7 sGM15_0 ?_
              refine sd_bipush sD11_hold_123 rfl (by decide) ?_
              refine sd_iload_n sD11_hold_125 rfl ?_
              refine sd_iadd (z := (58 + x 2)) sD11_hold_126 (by omega) (by omega) ?_
              refine sd_iload sD11_hold_127 rfl ?_
              refine sd_iastx (a := (58 + (x 2).toNat)) sd_sokM hx sD11_hold_129 sAM0 (by omega) (fun m hx em129 => ?_)
              refine sd_aload_n sD11_hold_130 rfl ?_
              refine sd_getfr sD11_hold_131 sF11_7 sGM15_0 ?_
              refine sd_bipush sD11_hold_134 rfl (by decide) ?_
              refine sd_iload_n sD11_hold_136 rfl ?_
              refine sd_iadd (z := (82 + x 2)) sD11_hold_137 (by omega) (by omega) ?_
              refine sd_bipush sD11_hold_138 rfl (by decide) ?_
              refine sd_iastx (a := (82 + (x 2).toNat)) sd_sokM hx sD11_hold_140 sAM0 (by omega) (fun m hx em140 => ?_)
              refine sd_aload_n sD11_hold_141 rfl ?_
              refine sd_getfr sD11_hold_142 sF11_7 sGM15_0 ?_
              refine sd_bipush sD11_hold_145 rfl (by decide) ?_
              refine sd_iload_n sD11_hold_147 rfl ?_
              refine sd_iadd (z := (106 + x 2)) sD11_hold_148 (by omega) (by omega) ?_
              refine sd_iconst sD11_hold_149 (by decide) ?_
              refine sd_iastx (a := (106 + (x 2).toNat)) sd_sokM hx sD11_hold_150 sAM0 (by omega) (fun m hx em150 => ?_)
              refine sd_aload_n sD11_hold_151 rfl ?_
              refine sd_getfr sD11_hold_152 sF11_7 sGM15_0 ?_
              refine sd_sipush sD11_hold_155 rfl (by decide) ?_
              refine sd_iload_n sD11_hold_158 rfl ?_
              refine sd_iadd (z := (130 + x 2)) sD11_hold_159 (by omega) (by omega) ?_
              refine sd_iconst sD11_hold_160 (by decide) ?_
              refine sd_iastx (a := (130 + (x 2).toNat)) sd_sokM hx sD11_hold_161 sAM0 (by omega) (fun m hx em161 => ?_)
              refine sd_aload_n sD11_hold_162 rfl ?_
              refine sd_getfr sD11_hold_163 sF11_7 sGM15_0 ?_
              refine sd_sipush sD11_hold_166 rfl (by decide) ?_
              refine sd_iload_n sD11_hold_169 rfl ?_
              refine sd_iadd (z := (154 + x 2)) sD11_hold_170 (by omega) (by omega) ?_
              refine sd_iload_n sD11_hold_171 rfl ?_
              refine sd_iconst sD11_hold_172 (by decide) ?_
              refine sd_cut (J := 182) (ls := [some (.inr 15), some (.inl k), some (.inl n), some (.inl (x 2)), some (.inl (n / 100)), some (.inl (n % 100))]) (st := [.inl (154 + x 2), .inr 0]) (fun zv => zv = (if k = 2 then (n % 100) else 0)) (fun zv hzv => ?_) (fun K173 => ?_)
              ·
                subst hzv
                refine sd_iastx (a := (154 + (x 2).toNat)) sd_sokM hx sD11_hold_182 sAM0 (by omega) (fun m hx em182 => ?_)
                refine sd_aload_n sD11_hold_183 rfl ?_
                refine sd_getfr sD11_hold_184 sF11_7 sGM15_0 ?_
                refine sd_sipush sD11_hold_187 rfl (by decide) ?_
                refine sd_iload_n sD11_hold_190 rfl ?_
                refine sd_iadd (z := (178 + x 2)) sD11_hold_191 (by omega) (by omega) ?_
                refine sd_iconst sD11_hold_192 (by decide) ?_
                refine sd_iastx (a := (178 + (x 2).toNat)) sd_sokM hx sD11_hold_193 sAM0 (by omega) (fun m hx em193 => ?_)
                refine sd_aload_n sD11_hold_194 rfl ?_
                refine sd_getfr sD11_hold_195 sF11_7 sGM15_0 ?_
                refine sd_sipush sD11_hold_198 rfl (by decide) ?_
                refine sd_iload_n sD11_hold_201 rfl ?_
                refine sd_iadd (z := (202 + x 2)) sD11_hold_202 (by omega) (by omega) ?_
                refine sd_iconst sD11_hold_203 (by decide) ?_
                refine sd_iastx (a := (202 + (x 2).toNat)) sd_sokM hx sD11_hold_204 sAM0 (by omega) (fun m hx em204 => ?_)
                refine sd_aload_n sD11_hold_205 rfl ?_
                refine sd_getfr sD11_hold_206 sF11_7 sGM15_0 ?_
                refine sd_sipush sD11_hold_209 rfl (by decide) ?_
                refine sd_iload_n sD11_hold_212 rfl ?_
                refine sd_iadd (z := (226 + x 2)) sD11_hold_213 (by omega) (by omega) ?_
                refine sd_iconst sD11_hold_214 (by decide) ?_
                refine sd_iastx (a := (226 + (x 2).toNat)) sd_sokM hx sD11_hold_215 sAM0 (by omega) (fun m hx em215 => ?_)
                refine sd_aload_n sD11_hold_216 rfl ?_
                refine sd_getfr sD11_hold_217 sF11_7 sGM15_0 ?_
                refine sd_sipush sD11_hold_220 rfl (by decide) ?_
                refine sd_iload_n sD11_hold_223 rfl ?_
                refine sd_iadd (z := (250 + x 2)) sD11_hold_224 (by omega) (by omega) ?_
                refine sd_iconst sD11_hold_225 (by decide) ?_
                refine sd_iastx (a := (250 + (x 2).toNat)) sd_sokM hx sD11_hold_226 sAM0 (by omega) (fun m hx em226 => ?_)
                refine sd_aload_n sD11_hold_227 rfl ?_
                refine sd_getfr sD11_hold_228 sF11_7 sGM15_0 ?_
                refine sd_sipush sD11_hold_231 rfl (by decide) ?_
                refine sd_iload_n sD11_hold_234 rfl ?_
                refine sd_iadd (z := (274 + x 2)) sD11_hold_235 (by omega) (by omega) ?_
                refine sd_iload sD11_hold_236 rfl ?_
                refine sd_iastx (a := (274 + (x 2).toNat)) sd_sokM hx sD11_hold_238 sAM0 (by omega) (fun m hx em238 => ?_)
                refine sd_aload_n sD11_hold_239 rfl ?_
                refine sd_getfr sD11_hold_240 sF11_7 sGM15_0 ?_
                refine sd_sipush sD11_hold_243 rfl (by decide) ?_
                refine sd_iload_n sD11_hold_246 rfl ?_
                refine sd_iadd (z := (298 + x 2)) sD11_hold_247 (by omega) (by omega) ?_
                refine sd_iload sD11_hold_248 rfl ?_
                refine sd_iastx (a := (298 + (x 2).toNat)) sd_sokM hx sD11_hold_250 sAM0 (by omega) (fun m hx em250 => ?_)
                refine sd_aload_n sD11_hold_251 rfl ?_
                refine sd_getfr sD11_hold_252 sF11_7 sGM15_0 ?_
                refine sd_iconst sD11_hold_255 (by decide) ?_
                refine sd_dup2 sD11_hold_256 ?_
                refine sd_ialdx (a := 2) (v := x 2) hx sD11_hold_257 sAM0 (by omega) (by simp only [sd_up]; repeat rw [if_neg (by omega)]) ?_
                refine sd_iconst sD11_hold_258 (by decide) ?_
                refine sd_iadd (z := (x 2 + 1)) sD11_hold_259 (by omega) (by omega) ?_
                refine sd_iastx (a := 2) sd_sokM hx sD11_hold_260 sAM0 (by omega) (fun m hx em260 => ?_)
                refine sd_iload_n sD11_hold_261 rfl ?_
                refine sd_ireturn sD11_hold_262 rfl (fun hr hm => ?_)
                exact sd_done (by unfold spM_hold; (first | rw [if_pos ⟨by assumption, by assumption⟩] | rw [if_pos (by assumption)] | rw [if_neg (fun hh => by first | exact absurd hh (by assumption) | exact absurd hh.1 (by assumption) | exact absurd hh.2 (by assumption) | exact absurd (sd_alw_k hh.2) (by assumption))]); all_goals (first | rfl | (rw [if_pos (by omega)]; rfl) | (rw [if_neg (by omega), ← sd_hadd_eq (by omega)]; done))) hx
              ·
                refine sd_icmp_ne (tgt := 181) sD11_hold_173 (by decide) (fun zc173 => ?_) (fun zc173 => ?_)
                ·
                  refine sd_iconst sD11_hold_181 (by decide) ?_
                  exact K173 _ (by first | (rw [if_pos (by omega)]; done) | (rw [if_neg (by omega)]; done))
                ·
                  refine sd_iload sD11_hold_176 rfl ?_
                  refine sd_goto (tgt := 182) sD11_hold_178 (by decide) ?_
                  exact K173 _ (by first | (rw [if_pos (by omega)]; done) | (rw [if_neg (by omega)]; done))
            ·
              refine sd_aload_n sD11_hold_73 rfl ?_
              refine sd_iconst sD11_hold_74 (by decide) ?_
              refine sd_callV (as := [.inl 1]) (st := []) sD11_hold_75 sM11_78 rfl rfl sOM15 rfl (by decide) (Nat.le_of_ble_eq_true rfl) (cM_finding 1 (by decide) _ m hx (hF 1 (by decide))) (fun r m hq ho75 hm => ?_)
              obtain ⟨rfl, hx⟩ := hq
              show sd_Wp sd_SM 4 sY11_hold 78 [some (.inr 15), some (.inl k), some (.inl n), none, none, none] [.inl (-1000002)] m _
              refine sd_ireturn sD11_hold_78 rfl (fun hr hm => ?_)
              exact sd_done (by unfold spM_hold; (first | rw [if_pos ⟨by assumption, by assumption⟩] | rw [if_pos (by assumption)] | rw [if_neg (fun hh => by first | exact absurd hh (by assumption) | exact absurd hh.1 (by assumption) | exact absurd hh.2 (by assumption) | exact absurd (sd_alw_k hh.2) (by assumption))]); all_goals (first | rfl | (rw [if_pos (by omega)]; rfl) | (rw [if_neg (by omega), ← sd_hadd_eq (by omega)]; done))) hx
      ·
        refine sd_aload_n sD11_hold_37 rfl ?_
        refine sd_iconst sD11_hold_38 (by decide) ?_
        refine sd_callV (as := [.inl 0]) (st := []) sD11_hold_39 sM11_78 rfl rfl sOM15 rfl (by decide) (Nat.le_of_ble_eq_true rfl) (cM_finding 0 (by decide) _ m hx (hF 0 (by decide))) (fun r m hq ho39 hm => ?_)
        obtain ⟨rfl, hx⟩ := hq
        show sd_Wp sd_SM 4 sY11_hold 42 [some (.inr 15), some (.inl k), some (.inl n), none, none, none] [.inl (-1000001)] m _
        refine sd_ireturn sD11_hold_42 rfl (fun hr hm => ?_)
        exact sd_done (by unfold spM_hold; (first | rw [if_pos ⟨by assumption, by assumption⟩] | rw [if_pos (by assumption)] | rw [if_neg (fun hh => by first | exact absurd hh (by assumption) | exact absurd hh.1 (by assumption) | exact absurd hh.2 (by assumption) | exact absurd (sd_alw_k hh.2) (by assumption))]); all_goals (first | rfl | (rw [if_pos (by omega)]; rfl) | (rw [if_neg (by omega), ← sd_hadd_eq (by omega)]; done))) hx
