set_option maxRecDepth 100000 in
set_option maxHeartbeats 4000000 in
theorem cM_test1 (f : Nat → Int) (m0 : sd_M) (hf : ∀ i, i < 4 → m0 (5504 + i) = f i) (fr : Int) (B : Nat → Int) (n p : Nat) (x m : sd_M) (hx : sd_ns x m) (hB : sd_RB x fr B n) (hS : sd_RS m fr n p (-1)) (hp100 : p ≤ n) (hL : sd_LT x) (hK : sd_k2 m0 m) : sd_Ct sd_SM 3 sY11_test [.inr 15] m (sd_tsM f B fr n p m0) := by
  refine sd_ct rfl (Nat.le_of_ble_eq_true rfl) (fun hok hm => ?_)
  show sd_Wp sd_SM 3 sY11_test 0 [some (.inr 15), none, none, none, none, none] [] m _
  refine sd_aload_n sD11_test_0 rfl ?_
  refine sd_bipush sD11_test_1 rfl (by decide) ?_
  refine sd_bipush sD11_test_3 rfl (by decide) ?_
  refine sd_callV (as := [.inl 7, .inl 10]) (st := []) sD11_test_5 sM11_173 rfl rfl sOM15 rfl (by decide) (Nat.le_of_ble_eq_true rfl) (cM_wordD fr B n p _ m hx hB hS (by omega) hL) (fun r m hq ho5 hm => ?_)
  obtain ⟨hk5_1, hq5_1⟩ := hq
  replace hx := hk5_1.ns hx
  replace hK := hK.tr hk5_1
  rcases hq5_1 with ⟨q5_1, hz5_1, rfl, hS, hn5_1⟩ | ⟨j5_1, q5_1, hz5_1, rfl, hS, hn5_1, hj5_1⟩
  ·
    show sd_Wp sd_SM 3 sY11_test 8 [some (.inr 15), none, none, none, none, none] [.inl (-1)] m _
    refine sd_istore_n (ls' := [some (.inr 15), some (.inl (-1)), none, none, none, none]) sD11_test_8 (by decide) rfl ?_
    refine sd_aload_n sD11_test_9 rfl ?_
    refine sd_callVp (as := []) (st := []) (v := .inl (B q5_1)) sD11_test_10 sM11_164 sOM15 rfl rfl rfl (by decide) (Nat.le_of_ble_eq_true rfl) (cM_byteAt _ fr B n q5_1 _ m hx hB hS) (fun ho10 => ?_)
    refine sd_istore_n (ls' := [some (.inr 15), some (.inl (-1)), some (.inl (B q5_1)), none, none, none]) sD11_test_13 (by decide) rfl ?_
    refine sd_aload_n sD11_test_14 rfl ?_
    refine sd_callVp (as := []) (st := []) (v := .inl 0) sD11_test_15 sM11_160 sOM15 rfl rfl rfl (by decide) (Nat.le_of_ble_eq_true rfl) (cM_isGood0 fr n q5_1 q5_1 _ m hx hS) (fun ho15 => ?_)
    refine sd_if_eq (tgt := 39) sD11_test_18 (by decide) (fun zc18 => ?_) (fun zc18 => (by exfalso; omega))
    refine sd_aload_n sD11_test_39 rfl ?_
    refine sd_callV (as := []) (st := []) sD11_test_40 sM11_167 rfl rfl sOM15 rfl (by decide) (Nat.le_of_ble_eq_true rfl) (cM_wrong0 fr n q5_1 q5_1 _ m hx hS) (fun r m hq ho40 hm => ?_)
    obtain ⟨rfl, hk40_2, hS⟩ := hq
    replace hx := hk40_2.ns hx
    replace hK := hK.tr hk40_2
    rcases (⟨trivial⟩ : Nonempty True) with hy40_2
    ·
      show sd_Wp sd_SM 3 sY11_test 43 [some (.inr 15), some (.inl (-1)), some (.inl (B q5_1)), none, none, none] [] m _
      refine sd_iconst sD11_test_43 (by decide) ?_
      exact sd_zreturn sD11_test_44 rfl (by decide) (fun hm => ⟨hK, Or.inl ⟨q5_1, by simp only [sd_ts, hz5_1], rfl, hS, by omega⟩⟩)
  ·
    show sd_Wp sd_SM 3 sY11_test 8 [some (.inr 15), none, none, none, none, none] [.inl (7 + (j5_1 : Int))] m _
    refine sd_istore_n (ls' := [some (.inr 15), some (.inl (7 + (j5_1 : Int))), none, none, none, none]) sD11_test_8 (by decide) rfl ?_
    refine sd_aload_n sD11_test_9 rfl ?_
    refine sd_callVp (as := []) (st := []) (v := .inl (B q5_1)) sD11_test_10 sM11_164 sOM15 rfl rfl rfl (by decide) (Nat.le_of_ble_eq_true rfl) (cM_byteAt _ fr B n q5_1 _ m hx hB hS) (fun ho10 => ?_)
    refine sd_istore_n (ls' := [some (.inr 15), some (.inl (7 + (j5_1 : Int))), some (.inl (B q5_1)), none, none, none]) sD11_test_13 (by decide) rfl ?_
    refine sd_aload_n sD11_test_14 rfl ?_
    refine sd_callVp (as := []) (st := []) (v := .inl 1) sD11_test_15 sM11_160 sOM15 rfl rfl rfl (by decide) (Nat.le_of_ble_eq_true rfl) (cM_isGood1 fr n q5_1 _ m hx hS) (fun ho15 => ?_)
    refine sd_if_eq (tgt := 39) sD11_test_18 (by decide) (fun zc18 => (by exfalso; omega)) (fun zc18 => ?_)
    refine sd_iload_n sD11_test_21 rfl ?_
    refine sd_bipush sD11_test_22 rfl (by decide) ?_
    refine sd_icmp_eq (tgt := 45) sD11_test_24 (by decide) (fun zc24 => ?_) (fun zc24 => ?_)
    ·
      have hq0 := hB.in (p := q5_1) (by omega)
      have hn1 := hB.1
      refine sd_aload_n sD11_test_45 rfl ?_
      refine sd_dup sD11_test_46 ?_
      refine sd_getfi sD11_test_47 sF11_147 sGM15_12 ?_
      rw [show m 5492 = (q5_1 : Int) from hS.2.2.1]
      refine sd_iconst sD11_test_50 (by decide) ?_
      refine sd_iadd (z := ((q5_1 : Int) + 1)) sD11_test_51 (by omega) (by omega) ?_
      refine sd_putfc sd_sokM sd_oneM hx sD11_test_52 sF11_147 sGM15_12 (by decide) (Or.inl rfl) (fun m hx em52 => ?_)
      replace hK := hK.tr (sd_k2.up em52 (Or.inl rfl))
      replace hS : sd_RS m fr n (q5_1 + 1) (-1) := ⟨by rw [em52, sd_up_ne (by decide)]; exact hS.1, by rw [em52, sd_up_ne (by decide)]; exact hS.2.1, by rw [em52, sd_up_eq]; (try omega), by rw [em52, sd_up_ne (by decide)]; exact hS.2.2.2⟩
      refine sd_iconst sD11_test_55 (by decide) ?_
      refine sd_istore_n (ls' := [some (.inr 15), some (.inl (7 + (j5_1 : Int))), some (.inl (B q5_1)), some (.inl 0), none, none]) sD11_test_56 (by decide) rfl ?_
      refine sd_iconst sD11_test_57 (by decide) ?_
      refine sd_istore (ls' := [some (.inr 15), some (.inl (7 + (j5_1 : Int))), some (.inl (B q5_1)), some (.inl 0), some (.inl 0), none]) sD11_test_58 (by decide) rfl ?_
      refine sd_forX (3) (fun zi60 : Nat => [some (.inr 15), some (.inl (7 + (j5_1 : Int))), some (.inl (B q5_1)), some (.inl (max 0 (sd_nv B (q5_1 + 1) zi60))), some (.inl (zi60 : Int)), none]) (fun zi60 : Nat => x) (fun (zi60 : Nat) (m : sd_M) => sd_RS m fr n ((q5_1 + 1) + zi60) (-1) ∧ sd_k2 m0 m ∧ ∀ j, j < zi60 → sd_dg (B ((q5_1 + 1) + j))) (by rfl) (fun zi60 hizi60 m hx hpzi60 ihzi60 => ?_) (fun m hx hpzi60 => ?_) (by exact hx) (by exact ⟨hS, hK, fun j hj => absurd hj (by omega)⟩)
      ·
        have e5 := sd_nv_rng hpzi60.2.2 (by omega)
        have hS := hpzi60.1
        have hK := hpzi60.2.1
        have zl := sd_dn_leM hB (p := (q5_1 + 1)) (k := zi60) (by omega) hpzi60.2.2
        refine sd_iload sD11_test_60 rfl ?_
        refine sd_iconst sD11_test_62 (by decide) ?_
        refine sd_icmp_ge (tgt := 109) sD11_test_63 (by decide) (fun zc63 => (by exfalso; omega)) (fun zc63 => ?_)
        refine sd_aload_n sD11_test_66 rfl ?_
        refine sd_callVp (as := []) (st := []) (v := .inl (B ((q5_1 + 1) + zi60))) sD11_test_67 sM11_164 sOM15 rfl rfl rfl (by decide) (Nat.le_of_ble_eq_true rfl) (cM_byteAt _ fr B n ((q5_1 + 1) + zi60) _ m hx hB hS) (fun ho67 => ?_)
        refine sd_bipush sD11_test_70 rfl (by decide) ?_
        refine sd_bipush sD11_test_72 rfl (by decide) ?_
        refine sd_callSp (as := [.inl (B ((q5_1 + 1) + zi60)), .inl 48, .inl 57]) (st := []) (v := .inl (sd_b (48 ≤ B ((q5_1 + 1) + zi60) ∧ B ((q5_1 + 1) + zi60) ≤ 57))) sD11_test_74 sM11_56 rfl rfl (by decide) (Nat.le_of_ble_eq_true rfl) (cM_in (B ((q5_1 + 1) + zi60)) 48 57 m) (fun ho74 => ?_)
        refine sd_bif_eq (tgt := 109) sD11_test_77 (by decide) (fun zc77 => ?_) (fun zc77 => ?_)
        ·
          have zd : sd_dn B (q5_1 + 1) = zi60 := sd_dn_at hpzi60.2.2 (Or.inr ⟨by omega, by omega⟩)
          have zv := sd_nv_dn B (q5_1 + 1)
          rw [zd] at zv
          have zl := sd_dn_leM hB (p := (q5_1 + 1)) (k := zi60) (by omega) hpzi60.2.2
          replace hS := hpzi60.1
          replace hK := hpzi60.2.1
          refine sd_iload sD11_test_109 rfl ?_
          refine sd_if_ne (tgt := 120) sD11_test_111 (by decide) (fun zc111 => ?_) (fun zc111 => ?_)
          ·
            refine sd_aload_n sD11_test_120 rfl ?_
            refine sd_getfr sD11_test_121 sF11_34 sGM15_14 ?_
            refine sd_iload_n sD11_test_124 rfl ?_
            refine sd_bipush sD11_test_125 rfl (by decide) ?_
            refine sd_isub (z := (j5_1 : Int)) sD11_test_127 (by omega) (by omega) ?_
            refine sd_iald (a := (5504 + j5_1)) sD11_test_128 sAM8 (by omega) ?_
            rw [show m (5504 + j5_1) = f j5_1 from (hK _ (by omega) (by omega)).trans (hf _ (by omega))]
            refine sd_istore (ls' := [some (.inr 15), some (.inl (7 + (j5_1 : Int))), some (.inl (B q5_1)), some (.inl (max 0 (sd_nv B (q5_1 + 1) zi60))), some (.inl (zi60 : Int)), some (.inl (f j5_1))]) sD11_test_129 (by decide) rfl ?_
            refine sd_iload_n sD11_test_131 rfl ?_
            refine sd_bipush sD11_test_132 rfl (by decide) ?_
            refine sd_icmp_ne (tgt := 151) sD11_test_134 (by decide) (fun zc134 => ?_) (fun zc134 => ?_)
            ·
              refine sd_iload_n sD11_test_151 rfl ?_
              refine sd_bipush sD11_test_152 rfl (by decide) ?_
              refine sd_icmp_ne (tgt := 171) sD11_test_154 (by decide) (fun zc154 => ?_) (fun zc154 => ?_)
              ·
                refine sd_iload sD11_test_171 rfl ?_
                refine sd_iload_n sD11_test_173 rfl ?_
                refine sd_icmp_le (tgt := 181) sD11_test_174 (by decide) (fun zc174 => ?_) (fun zc174 => ?_)
                ·
                  refine sd_iconst sD11_test_181 (by decide) ?_
                  have hO := sd_roO (B := B) (q := q5_1) (o := 1) (by decide) (by omega)
                  refine sd_zreturn sD11_test_182 rfl (by decide) (fun hm => ⟨hK, Or.inr ⟨(j5_1, 1, sd_nv B (q5_1 + 1) (sd_dn B (q5_1 + 1))), ((q5_1 + 1) + zi60), by simp only [sd_ts, hz5_1, hO]; rw [if_neg (by omega), zd], ?_, hS, by omega⟩⟩)
                  rw [zd]
                  rw [sd_b0 (show ¬ sd_hl f (j5_1, 1, sd_nv B (q5_1 + 1) zi60) from by unfold sd_hl sd_sg; simp only; split; omega; split <;> omega)]
                ·
                  refine sd_iconst sD11_test_177 (by decide) ?_
                  refine sd_goto (tgt := 182) sD11_test_178 (by decide) ?_
                  have hO := sd_roO (B := B) (q := q5_1) (o := 1) (by decide) (by omega)
                  refine sd_zreturn sD11_test_182 rfl (by decide) (fun hm => ⟨hK, Or.inr ⟨(j5_1, 1, sd_nv B (q5_1 + 1) (sd_dn B (q5_1 + 1))), ((q5_1 + 1) + zi60), by simp only [sd_ts, hz5_1, hO]; rw [if_neg (by omega), zd], ?_, hS, by omega⟩⟩)
                  rw [zd]
                  rw [sd_b1 (show sd_hl f (j5_1, 1, sd_nv B (q5_1 + 1) zi60) from by unfold sd_hl sd_sg; simp only; split; omega; split <;> omega)]
              ·
                refine sd_iload sD11_test_157 rfl ?_
                refine sd_iload_n sD11_test_159 rfl ?_
                refine sd_icmp_ge (tgt := 167) sD11_test_160 (by decide) (fun zc160 => ?_) (fun zc160 => ?_)
                ·
                  refine sd_iconst sD11_test_167 (by decide) ?_
                  refine sd_goto (tgt := 182) sD11_test_168 (by decide) ?_
                  have hO := sd_roO (B := B) (q := q5_1) (o := 1) (by decide) (by omega)
                  refine sd_zreturn sD11_test_182 rfl (by decide) (fun hm => ⟨hK, Or.inr ⟨(j5_1, 1, sd_nv B (q5_1 + 1) (sd_dn B (q5_1 + 1))), ((q5_1 + 1) + zi60), by simp only [sd_ts, hz5_1, hO]; rw [if_neg (by omega), zd], ?_, hS, by omega⟩⟩)
                  rw [zd]
                  rw [sd_b0 (show ¬ sd_hl f (j5_1, 1, sd_nv B (q5_1 + 1) zi60) from by unfold sd_hl sd_sg; simp only; split; omega; split <;> omega)]
                ·
                  refine sd_iconst sD11_test_163 (by decide) ?_
                  refine sd_goto (tgt := 182) sD11_test_164 (by decide) ?_
                  have hO := sd_roO (B := B) (q := q5_1) (o := 1) (by decide) (by omega)
                  refine sd_zreturn sD11_test_182 rfl (by decide) (fun hm => ⟨hK, Or.inr ⟨(j5_1, 1, sd_nv B (q5_1 + 1) (sd_dn B (q5_1 + 1))), ((q5_1 + 1) + zi60), by simp only [sd_ts, hz5_1, hO]; rw [if_neg (by omega), zd], ?_, hS, by omega⟩⟩)
                  rw [zd]
                  rw [sd_b1 (show sd_hl f (j5_1, 1, sd_nv B (q5_1 + 1) zi60) from by unfold sd_hl sd_sg; simp only; split; omega; split <;> omega)]
            ·
              refine sd_iload sD11_test_137 rfl ?_
              refine sd_iload_n sD11_test_139 rfl ?_
              refine sd_icmp_ne (tgt := 147) sD11_test_140 (by decide) (fun zc140 => ?_) (fun zc140 => ?_)
              ·
                refine sd_iconst sD11_test_147 (by decide) ?_
                refine sd_goto (tgt := 182) sD11_test_148 (by decide) ?_
                have hO := sd_roO (B := B) (q := q5_1) (o := 1) (by decide) (by omega)
                refine sd_zreturn sD11_test_182 rfl (by decide) (fun hm => ⟨hK, Or.inr ⟨(j5_1, 1, sd_nv B (q5_1 + 1) (sd_dn B (q5_1 + 1))), ((q5_1 + 1) + zi60), by simp only [sd_ts, hz5_1, hO]; rw [if_neg (by omega), zd], ?_, hS, by omega⟩⟩)
                rw [zd]
                rw [sd_b0 (show ¬ sd_hl f (j5_1, 1, sd_nv B (q5_1 + 1) zi60) from by unfold sd_hl sd_sg; simp only; split; omega; split <;> omega)]
              ·
                refine sd_iconst sD11_test_143 (by decide) ?_
                refine sd_goto (tgt := 182) sD11_test_144 (by decide) ?_
                have hO := sd_roO (B := B) (q := q5_1) (o := 1) (by decide) (by omega)
                refine sd_zreturn sD11_test_182 rfl (by decide) (fun hm => ⟨hK, Or.inr ⟨(j5_1, 1, sd_nv B (q5_1 + 1) (sd_dn B (q5_1 + 1))), ((q5_1 + 1) + zi60), by simp only [sd_ts, hz5_1, hO]; rw [if_neg (by omega), zd], ?_, hS, by omega⟩⟩)
                rw [zd]
                rw [sd_b1 (show sd_hl f (j5_1, 1, sd_nv B (q5_1 + 1) zi60) from by unfold sd_hl sd_sg; simp only; split; omega; split <;> omega)]
          ·
            refine sd_aload_n sD11_test_114 rfl ?_
            refine sd_callV (as := []) (st := []) sD11_test_115 sM11_167 rfl rfl sOM15 rfl (by decide) (Nat.le_of_ble_eq_true rfl) (cM_wrong1 fr n ((q5_1 + 1) + zi60) _ m hx hS) (fun r m hq ho115 hm => ?_)
            obtain ⟨rfl, hk115_3, hS⟩ := hq
            replace hx := hk115_3.ns hx
            replace hK := hK.tr hk115_3
            rcases (⟨trivial⟩ : Nonempty True) with hy115_3
            ·
              show sd_Wp sd_SM 3 sY11_test 118 [some (.inr 15), some (.inl (7 + (j5_1 : Int))), some (.inl (B q5_1)), some (.inl (max 0 (sd_nv B (q5_1 + 1) zi60))), some (.inl (zi60 : Int)), none] [] m _
              refine sd_iconst sD11_test_118 (by decide) ?_
              have hO := sd_roO (B := B) (q := q5_1) (o := 1) (by decide) (by omega)
              have zd0 : sd_dn B (q5_1 + 1) = 0 := by omega
              rw [show ((q5_1 + 1) + zi60) = (q5_1 + 1) from by omega] at hS
              exact sd_zreturn sD11_test_119 rfl (by decide) (fun hm => ⟨hK, Or.inl ⟨(q5_1 + 1), by simp only [sd_ts, hz5_1, hO]; rw [if_pos zd0], rfl, hS, by omega⟩⟩)
        ·
          refine sd_bipush sD11_test_80 rfl (by decide) ?_
          refine sd_iload_n sD11_test_82 rfl ?_
          refine sd_imul (z := (10 * (max 0 (sd_nv B (q5_1 + 1) zi60)))) sD11_test_83 (by omega) (by omega) ?_
          refine sd_aload_n sD11_test_84 rfl ?_
          refine sd_callVp (as := []) (st := [.inl (10 * (max 0 (sd_nv B (q5_1 + 1) zi60)))]) (v := .inl (B ((q5_1 + 1) + zi60))) sD11_test_85 sM11_164 sOM15 rfl rfl rfl (by decide) (Nat.le_of_ble_eq_true rfl) (cM_byteAt _ fr B n ((q5_1 + 1) + zi60) _ m hx hB hS) (fun ho85 => ?_)
          refine sd_iadd (z := ((10 * (max 0 (sd_nv B (q5_1 + 1) zi60))) + B ((q5_1 + 1) + zi60))) sD11_test_88 (by omega) (by omega) ?_
          refine sd_bipush sD11_test_89 rfl (by decide) ?_
          refine sd_isub (z := (((10 * (max 0 (sd_nv B (q5_1 + 1) zi60))) + B ((q5_1 + 1) + zi60)) - 48)) sD11_test_91 (by omega) (by omega) ?_
          refine sd_istore_n (ls' := [some (.inr 15), some (.inl (7 + (j5_1 : Int))), some (.inl (B q5_1)), some (.inl (((10 * (max 0 (sd_nv B (q5_1 + 1) zi60))) + B ((q5_1 + 1) + zi60)) - 48)), some (.inl (zi60 : Int)), none]) sD11_test_92 (by decide) rfl ?_
          refine sd_iinc (y := ((zi60 : Int) + 1)) (ls' := [some (.inr 15), some (.inl (7 + (j5_1 : Int))), some (.inl (B q5_1)), some (.inl (((10 * (max 0 (sd_nv B (q5_1 + 1) zi60))) + B ((q5_1 + 1) + zi60)) - 48)), some (.inl ((zi60 : Int) + 1)), none]) sD11_test_93 rfl (by omega) (by omega) (by decide) rfl ?_
          refine sd_aload_n sD11_test_96 rfl ?_
          refine sd_dup sD11_test_97 ?_
          refine sd_getfi sD11_test_98 sF11_147 sGM15_12 ?_
          rw [show m 5492 = ((((q5_1 + 1) + zi60) : Nat) : Int) from hS.2.2.1]
          refine sd_iconst sD11_test_101 (by decide) ?_
          refine sd_iadd (z := (((((q5_1 + 1) + zi60) : Nat) : Int) + 1)) sD11_test_102 (by omega) (by omega) ?_
          refine sd_putfc sd_sokM sd_oneM hx sD11_test_103 sF11_147 sGM15_12 (by decide) (Or.inl rfl) (fun m hx em103 => ?_)
          replace hK := hK.tr (sd_k2.up em103 (Or.inl rfl))
          replace hS : sd_RS m fr n (((q5_1 + 1) + zi60) + 1) (-1) := ⟨by rw [em103, sd_up_ne (by decide)]; exact hS.1, by rw [em103, sd_up_ne (by decide)]; exact hS.2.1, by rw [em103, sd_up_eq]; (try omega), by rw [em103, sd_up_ne (by decide)]; exact hS.2.2.2⟩
          refine sd_goto (tgt := 60) sD11_test_106 (by decide) ?_
          exact sd_eqw (ls' := [some (.inr 15), some (.inl (7 + (j5_1 : Int))), some (.inl (B q5_1)), some (.inl (max 0 (sd_nv B (q5_1 + 1) (zi60 + 1)))), some (.inl ((zi60 + 1 : Nat) : Int)), none]) (ihzi60 m (by exact hx) (by exact ⟨hS, hK, fun j hj => by by_cases q : j = zi60; (subst q; omega); exact hpzi60.2.2 j (by omega)⟩)) (sd_cg rfl (sd_cg rfl (sd_cg rfl (sd_cg (sd_ce (show ((((10 * (max 0 (sd_nv B (q5_1 + 1) zi60))) + B ((q5_1 + 1) + zi60)) - 48) : Int) = max 0 (sd_nv B (q5_1 + 1) (zi60 + 1)) from by simp only [sd_nv]; omega)) (sd_cg (sd_ce (show (((zi60 : Int) + 1) : Int) = ((zi60 + 1 : Nat) : Int) from by omega)) (sd_cg rfl rfl)))))) rfl
      ·
        show sd_Wp sd_SM 3 sY11_test 60 [some (.inr 15), some (.inl (7 + (j5_1 : Int))), some (.inl (B q5_1)), some (.inl (max 0 (sd_nv B (q5_1 + 1) 3))), some (.inl (3 : Int)), none] [] m _
        refine sd_iload sD11_test_60 rfl ?_
        refine sd_iconst sD11_test_62 (by decide) ?_
        refine sd_icmp_ge (tgt := 109) sD11_test_63 (by decide) (fun zc63 => ?_) (fun zc63 => (by exfalso; omega))
        have zd : sd_dn B (q5_1 + 1) = 3 := sd_dn_at hpzi60.2.2 (Or.inl rfl)
        have zv := sd_nv_dn B (q5_1 + 1)
        rw [zd] at zv
        have zl := sd_dn_leM hB (p := (q5_1 + 1)) (k := 3) (by omega) hpzi60.2.2
        replace hS := hpzi60.1
        replace hK := hpzi60.2.1
        refine sd_iload sD11_test_109 rfl ?_
        refine sd_if_ne (tgt := 120) sD11_test_111 (by decide) (fun zc111 => ?_) (fun zc111 => ?_)
        ·
          refine sd_aload_n sD11_test_120 rfl ?_
          refine sd_getfr sD11_test_121 sF11_34 sGM15_14 ?_
          refine sd_iload_n sD11_test_124 rfl ?_
          refine sd_bipush sD11_test_125 rfl (by decide) ?_
          refine sd_isub (z := (j5_1 : Int)) sD11_test_127 (by omega) (by omega) ?_
          refine sd_iald (a := (5504 + j5_1)) sD11_test_128 sAM8 (by omega) ?_
          rw [show m (5504 + j5_1) = f j5_1 from (hK _ (by omega) (by omega)).trans (hf _ (by omega))]
          refine sd_istore (ls' := [some (.inr 15), some (.inl (7 + (j5_1 : Int))), some (.inl (B q5_1)), some (.inl (max 0 (sd_nv B (q5_1 + 1) 3))), some (.inl (3 : Int)), some (.inl (f j5_1))]) sD11_test_129 (by decide) rfl ?_
          refine sd_iload_n sD11_test_131 rfl ?_
          refine sd_bipush sD11_test_132 rfl (by decide) ?_
          refine sd_icmp_ne (tgt := 151) sD11_test_134 (by decide) (fun zc134 => ?_) (fun zc134 => ?_)
          ·
            refine sd_iload_n sD11_test_151 rfl ?_
            refine sd_bipush sD11_test_152 rfl (by decide) ?_
            refine sd_icmp_ne (tgt := 171) sD11_test_154 (by decide) (fun zc154 => ?_) (fun zc154 => ?_)
            ·
              refine sd_iload sD11_test_171 rfl ?_
              refine sd_iload_n sD11_test_173 rfl ?_
              refine sd_icmp_le (tgt := 181) sD11_test_174 (by decide) (fun zc174 => ?_) (fun zc174 => ?_)
              ·
                refine sd_iconst sD11_test_181 (by decide) ?_
                have hO := sd_roO (B := B) (q := q5_1) (o := 1) (by decide) (by omega)
                refine sd_zreturn sD11_test_182 rfl (by decide) (fun hm => ⟨hK, Or.inr ⟨(j5_1, 1, sd_nv B (q5_1 + 1) (sd_dn B (q5_1 + 1))), ((q5_1 + 1) + 3), by simp only [sd_ts, hz5_1, hO]; rw [if_neg (by omega), zd], ?_, hS, by omega⟩⟩)
                rw [zd]
                rw [sd_b0 (show ¬ sd_hl f (j5_1, 1, sd_nv B (q5_1 + 1) 3) from by unfold sd_hl sd_sg; simp only; split; omega; split <;> omega)]
              ·
                refine sd_iconst sD11_test_177 (by decide) ?_
                refine sd_goto (tgt := 182) sD11_test_178 (by decide) ?_
                have hO := sd_roO (B := B) (q := q5_1) (o := 1) (by decide) (by omega)
                refine sd_zreturn sD11_test_182 rfl (by decide) (fun hm => ⟨hK, Or.inr ⟨(j5_1, 1, sd_nv B (q5_1 + 1) (sd_dn B (q5_1 + 1))), ((q5_1 + 1) + 3), by simp only [sd_ts, hz5_1, hO]; rw [if_neg (by omega), zd], ?_, hS, by omega⟩⟩)
                rw [zd]
                rw [sd_b1 (show sd_hl f (j5_1, 1, sd_nv B (q5_1 + 1) 3) from by unfold sd_hl sd_sg; simp only; split; omega; split <;> omega)]
            ·
              refine sd_iload sD11_test_157 rfl ?_
              refine sd_iload_n sD11_test_159 rfl ?_
              refine sd_icmp_ge (tgt := 167) sD11_test_160 (by decide) (fun zc160 => ?_) (fun zc160 => ?_)
              ·
                refine sd_iconst sD11_test_167 (by decide) ?_
                refine sd_goto (tgt := 182) sD11_test_168 (by decide) ?_
                have hO := sd_roO (B := B) (q := q5_1) (o := 1) (by decide) (by omega)
                refine sd_zreturn sD11_test_182 rfl (by decide) (fun hm => ⟨hK, Or.inr ⟨(j5_1, 1, sd_nv B (q5_1 + 1) (sd_dn B (q5_1 + 1))), ((q5_1 + 1) + 3), by simp only [sd_ts, hz5_1, hO]; rw [if_neg (by omega), zd], ?_, hS, by omega⟩⟩)
                rw [zd]
                rw [sd_b0 (show ¬ sd_hl f (j5_1, 1, sd_nv B (q5_1 + 1) 3) from by unfold sd_hl sd_sg; simp only; split; omega; split <;> omega)]
              ·
                refine sd_iconst sD11_test_163 (by decide) ?_
                refine sd_goto (tgt := 182) sD11_test_164 (by decide) ?_
                have hO := sd_roO (B := B) (q := q5_1) (o := 1) (by decide) (by omega)
                refine sd_zreturn sD11_test_182 rfl (by decide) (fun hm => ⟨hK, Or.inr ⟨(j5_1, 1, sd_nv B (q5_1 + 1) (sd_dn B (q5_1 + 1))), ((q5_1 + 1) + 3), by simp only [sd_ts, hz5_1, hO]; rw [if_neg (by omega), zd], ?_, hS, by omega⟩⟩)
                rw [zd]
                rw [sd_b1 (show sd_hl f (j5_1, 1, sd_nv B (q5_1 + 1) 3) from by unfold sd_hl sd_sg; simp only; split; omega; split <;> omega)]
          ·
            refine sd_iload sD11_test_137 rfl ?_
            refine sd_iload_n sD11_test_139 rfl ?_
            refine sd_icmp_ne (tgt := 147) sD11_test_140 (by decide) (fun zc140 => ?_) (fun zc140 => ?_)
            ·
              refine sd_iconst sD11_test_147 (by decide) ?_
              refine sd_goto (tgt := 182) sD11_test_148 (by decide) ?_
              have hO := sd_roO (B := B) (q := q5_1) (o := 1) (by decide) (by omega)
              refine sd_zreturn sD11_test_182 rfl (by decide) (fun hm => ⟨hK, Or.inr ⟨(j5_1, 1, sd_nv B (q5_1 + 1) (sd_dn B (q5_1 + 1))), ((q5_1 + 1) + 3), by simp only [sd_ts, hz5_1, hO]; rw [if_neg (by omega), zd], ?_, hS, by omega⟩⟩)
              rw [zd]
              rw [sd_b0 (show ¬ sd_hl f (j5_1, 1, sd_nv B (q5_1 + 1) 3) from by unfold sd_hl sd_sg; simp only; split; omega; split <;> omega)]
            ·
              refine sd_iconst sD11_test_143 (by decide) ?_
              refine sd_goto (tgt := 182) sD11_test_144 (by decide) ?_
              have hO := sd_roO (B := B) (q := q5_1) (o := 1) (by decide) (by omega)
              refine sd_zreturn sD11_test_182 rfl (by decide) (fun hm => ⟨hK, Or.inr ⟨(j5_1, 1, sd_nv B (q5_1 + 1) (sd_dn B (q5_1 + 1))), ((q5_1 + 1) + 3), by simp only [sd_ts, hz5_1, hO]; rw [if_neg (by omega), zd], ?_, hS, by omega⟩⟩)
              rw [zd]
              rw [sd_b1 (show sd_hl f (j5_1, 1, sd_nv B (q5_1 + 1) 3) from by unfold sd_hl sd_sg; simp only; split; omega; split <;> omega)]
        ·
          refine sd_aload_n sD11_test_114 rfl ?_
          refine sd_callV (as := []) (st := []) sD11_test_115 sM11_167 rfl rfl sOM15 rfl (by decide) (Nat.le_of_ble_eq_true rfl) (cM_wrong1 fr n ((q5_1 + 1) + 3) _ m hx hS) (fun r m hq ho115 hm => ?_)
          obtain ⟨rfl, hk115_4, hS⟩ := hq
          replace hx := hk115_4.ns hx
          replace hK := hK.tr hk115_4
          rcases (⟨trivial⟩ : Nonempty True) with hy115_4
          ·
            show sd_Wp sd_SM 3 sY11_test 118 [some (.inr 15), some (.inl (7 + (j5_1 : Int))), some (.inl (B q5_1)), some (.inl (max 0 (sd_nv B (q5_1 + 1) 3))), some (.inl (3 : Int)), none] [] m _
            refine sd_iconst sD11_test_118 (by decide) ?_
            have hO := sd_roO (B := B) (q := q5_1) (o := 1) (by decide) (by omega)
            have zd0 : sd_dn B (q5_1 + 1) = 0 := by omega
            rw [show ((q5_1 + 1) + 3) = (q5_1 + 1) from by omega] at hS
            exact sd_zreturn sD11_test_119 rfl (by decide) (fun hm => ⟨hK, Or.inl ⟨(q5_1 + 1), by simp only [sd_ts, hz5_1, hO]; rw [if_pos zd0], rfl, hS, by omega⟩⟩)
    ·
      refine sd_iload_n sD11_test_27 rfl ?_
      refine sd_bipush sD11_test_28 rfl (by decide) ?_
      refine sd_icmp_eq (tgt := 45) sD11_test_30 (by decide) (fun zc30 => ?_) (fun zc30 => ?_)
      ·
        have hq0 := hB.in (p := q5_1) (by omega)
        have hn1 := hB.1
        refine sd_aload_n sD11_test_45 rfl ?_
        refine sd_dup sD11_test_46 ?_
        refine sd_getfi sD11_test_47 sF11_147 sGM15_12 ?_
        rw [show m 5492 = (q5_1 : Int) from hS.2.2.1]
        refine sd_iconst sD11_test_50 (by decide) ?_
        refine sd_iadd (z := ((q5_1 : Int) + 1)) sD11_test_51 (by omega) (by omega) ?_
        refine sd_putfc sd_sokM sd_oneM hx sD11_test_52 sF11_147 sGM15_12 (by decide) (Or.inl rfl) (fun m hx em52 => ?_)
        replace hK := hK.tr (sd_k2.up em52 (Or.inl rfl))
        replace hS : sd_RS m fr n (q5_1 + 1) (-1) := ⟨by rw [em52, sd_up_ne (by decide)]; exact hS.1, by rw [em52, sd_up_ne (by decide)]; exact hS.2.1, by rw [em52, sd_up_eq]; (try omega), by rw [em52, sd_up_ne (by decide)]; exact hS.2.2.2⟩
        refine sd_iconst sD11_test_55 (by decide) ?_
        refine sd_istore_n (ls' := [some (.inr 15), some (.inl (7 + (j5_1 : Int))), some (.inl (B q5_1)), some (.inl 0), none, none]) sD11_test_56 (by decide) rfl ?_
        refine sd_iconst sD11_test_57 (by decide) ?_
        refine sd_istore (ls' := [some (.inr 15), some (.inl (7 + (j5_1 : Int))), some (.inl (B q5_1)), some (.inl 0), some (.inl 0), none]) sD11_test_58 (by decide) rfl ?_
        refine sd_forX (3) (fun zi60 : Nat => [some (.inr 15), some (.inl (7 + (j5_1 : Int))), some (.inl (B q5_1)), some (.inl (max 0 (sd_nv B (q5_1 + 1) zi60))), some (.inl (zi60 : Int)), none]) (fun zi60 : Nat => x) (fun (zi60 : Nat) (m : sd_M) => sd_RS m fr n ((q5_1 + 1) + zi60) (-1) ∧ sd_k2 m0 m ∧ ∀ j, j < zi60 → sd_dg (B ((q5_1 + 1) + j))) (by rfl) (fun zi60 hizi60 m hx hpzi60 ihzi60 => ?_) (fun m hx hpzi60 => ?_) (by exact hx) (by exact ⟨hS, hK, fun j hj => absurd hj (by omega)⟩)
        ·
          have e5 := sd_nv_rng hpzi60.2.2 (by omega)
          have hS := hpzi60.1
          have hK := hpzi60.2.1
          have zl := sd_dn_leM hB (p := (q5_1 + 1)) (k := zi60) (by omega) hpzi60.2.2
          refine sd_iload sD11_test_60 rfl ?_
          refine sd_iconst sD11_test_62 (by decide) ?_
          refine sd_icmp_ge (tgt := 109) sD11_test_63 (by decide) (fun zc63 => (by exfalso; omega)) (fun zc63 => ?_)
          refine sd_aload_n sD11_test_66 rfl ?_
          refine sd_callVp (as := []) (st := []) (v := .inl (B ((q5_1 + 1) + zi60))) sD11_test_67 sM11_164 sOM15 rfl rfl rfl (by decide) (Nat.le_of_ble_eq_true rfl) (cM_byteAt _ fr B n ((q5_1 + 1) + zi60) _ m hx hB hS) (fun ho67 => ?_)
          refine sd_bipush sD11_test_70 rfl (by decide) ?_
          refine sd_bipush sD11_test_72 rfl (by decide) ?_
          refine sd_callSp (as := [.inl (B ((q5_1 + 1) + zi60)), .inl 48, .inl 57]) (st := []) (v := .inl (sd_b (48 ≤ B ((q5_1 + 1) + zi60) ∧ B ((q5_1 + 1) + zi60) ≤ 57))) sD11_test_74 sM11_56 rfl rfl (by decide) (Nat.le_of_ble_eq_true rfl) (cM_in (B ((q5_1 + 1) + zi60)) 48 57 m) (fun ho74 => ?_)
          refine sd_bif_eq (tgt := 109) sD11_test_77 (by decide) (fun zc77 => ?_) (fun zc77 => ?_)
          ·
            have zd : sd_dn B (q5_1 + 1) = zi60 := sd_dn_at hpzi60.2.2 (Or.inr ⟨by omega, by omega⟩)
            have zv := sd_nv_dn B (q5_1 + 1)
            rw [zd] at zv
            have zl := sd_dn_leM hB (p := (q5_1 + 1)) (k := zi60) (by omega) hpzi60.2.2
            replace hS := hpzi60.1
            replace hK := hpzi60.2.1
            refine sd_iload sD11_test_109 rfl ?_
            refine sd_if_ne (tgt := 120) sD11_test_111 (by decide) (fun zc111 => ?_) (fun zc111 => ?_)
            ·
              refine sd_aload_n sD11_test_120 rfl ?_
              refine sd_getfr sD11_test_121 sF11_34 sGM15_14 ?_
              refine sd_iload_n sD11_test_124 rfl ?_
              refine sd_bipush sD11_test_125 rfl (by decide) ?_
              refine sd_isub (z := (j5_1 : Int)) sD11_test_127 (by omega) (by omega) ?_
              refine sd_iald (a := (5504 + j5_1)) sD11_test_128 sAM8 (by omega) ?_
              rw [show m (5504 + j5_1) = f j5_1 from (hK _ (by omega) (by omega)).trans (hf _ (by omega))]
              refine sd_istore (ls' := [some (.inr 15), some (.inl (7 + (j5_1 : Int))), some (.inl (B q5_1)), some (.inl (max 0 (sd_nv B (q5_1 + 1) zi60))), some (.inl (zi60 : Int)), some (.inl (f j5_1))]) sD11_test_129 (by decide) rfl ?_
              refine sd_iload_n sD11_test_131 rfl ?_
              refine sd_bipush sD11_test_132 rfl (by decide) ?_
              refine sd_icmp_ne (tgt := 151) sD11_test_134 (by decide) (fun zc134 => ?_) (fun zc134 => ?_)
              ·
                refine sd_iload_n sD11_test_151 rfl ?_
                refine sd_bipush sD11_test_152 rfl (by decide) ?_
                refine sd_icmp_ne (tgt := 171) sD11_test_154 (by decide) (fun zc154 => ?_) (fun zc154 => ?_)
                ·
                  refine sd_iload sD11_test_171 rfl ?_
                  refine sd_iload_n sD11_test_173 rfl ?_
                  refine sd_icmp_le (tgt := 181) sD11_test_174 (by decide) (fun zc174 => ?_) (fun zc174 => ?_)
                  ·
                    refine sd_iconst sD11_test_181 (by decide) ?_
                    have hO := sd_roO (B := B) (q := q5_1) (o := 0) (by decide) (by omega)
                    refine sd_zreturn sD11_test_182 rfl (by decide) (fun hm => ⟨hK, Or.inr ⟨(j5_1, 0, sd_nv B (q5_1 + 1) (sd_dn B (q5_1 + 1))), ((q5_1 + 1) + zi60), by simp only [sd_ts, hz5_1, hO]; rw [if_neg (by omega), zd], ?_, hS, by omega⟩⟩)
                    rw [zd]
                    rw [sd_b0 (show ¬ sd_hl f (j5_1, 0, sd_nv B (q5_1 + 1) zi60) from by unfold sd_hl sd_sg; simp only; split; omega; split <;> omega)]
                  ·
                    refine sd_iconst sD11_test_177 (by decide) ?_
                    refine sd_goto (tgt := 182) sD11_test_178 (by decide) ?_
                    have hO := sd_roO (B := B) (q := q5_1) (o := 0) (by decide) (by omega)
                    refine sd_zreturn sD11_test_182 rfl (by decide) (fun hm => ⟨hK, Or.inr ⟨(j5_1, 0, sd_nv B (q5_1 + 1) (sd_dn B (q5_1 + 1))), ((q5_1 + 1) + zi60), by simp only [sd_ts, hz5_1, hO]; rw [if_neg (by omega), zd], ?_, hS, by omega⟩⟩)
                    rw [zd]
                    rw [sd_b1 (show sd_hl f (j5_1, 0, sd_nv B (q5_1 + 1) zi60) from by unfold sd_hl sd_sg; simp only; split; omega; split <;> omega)]
                ·
                  refine sd_iload sD11_test_157 rfl ?_
                  refine sd_iload_n sD11_test_159 rfl ?_
                  refine sd_icmp_ge (tgt := 167) sD11_test_160 (by decide) (fun zc160 => ?_) (fun zc160 => ?_)
                  ·
                    refine sd_iconst sD11_test_167 (by decide) ?_
                    refine sd_goto (tgt := 182) sD11_test_168 (by decide) ?_
                    have hO := sd_roO (B := B) (q := q5_1) (o := 0) (by decide) (by omega)
                    refine sd_zreturn sD11_test_182 rfl (by decide) (fun hm => ⟨hK, Or.inr ⟨(j5_1, 0, sd_nv B (q5_1 + 1) (sd_dn B (q5_1 + 1))), ((q5_1 + 1) + zi60), by simp only [sd_ts, hz5_1, hO]; rw [if_neg (by omega), zd], ?_, hS, by omega⟩⟩)
                    rw [zd]
                    rw [sd_b0 (show ¬ sd_hl f (j5_1, 0, sd_nv B (q5_1 + 1) zi60) from by unfold sd_hl sd_sg; simp only; split; omega; split <;> omega)]
                  ·
                    refine sd_iconst sD11_test_163 (by decide) ?_
                    refine sd_goto (tgt := 182) sD11_test_164 (by decide) ?_
                    have hO := sd_roO (B := B) (q := q5_1) (o := 0) (by decide) (by omega)
                    refine sd_zreturn sD11_test_182 rfl (by decide) (fun hm => ⟨hK, Or.inr ⟨(j5_1, 0, sd_nv B (q5_1 + 1) (sd_dn B (q5_1 + 1))), ((q5_1 + 1) + zi60), by simp only [sd_ts, hz5_1, hO]; rw [if_neg (by omega), zd], ?_, hS, by omega⟩⟩)
                    rw [zd]
                    rw [sd_b1 (show sd_hl f (j5_1, 0, sd_nv B (q5_1 + 1) zi60) from by unfold sd_hl sd_sg; simp only; split; omega; split <;> omega)]
              ·
                refine sd_iload sD11_test_137 rfl ?_
                refine sd_iload_n sD11_test_139 rfl ?_
                refine sd_icmp_ne (tgt := 147) sD11_test_140 (by decide) (fun zc140 => ?_) (fun zc140 => ?_)
                ·
                  refine sd_iconst sD11_test_147 (by decide) ?_
                  refine sd_goto (tgt := 182) sD11_test_148 (by decide) ?_
                  have hO := sd_roO (B := B) (q := q5_1) (o := 0) (by decide) (by omega)
                  refine sd_zreturn sD11_test_182 rfl (by decide) (fun hm => ⟨hK, Or.inr ⟨(j5_1, 0, sd_nv B (q5_1 + 1) (sd_dn B (q5_1 + 1))), ((q5_1 + 1) + zi60), by simp only [sd_ts, hz5_1, hO]; rw [if_neg (by omega), zd], ?_, hS, by omega⟩⟩)
                  rw [zd]
                  rw [sd_b0 (show ¬ sd_hl f (j5_1, 0, sd_nv B (q5_1 + 1) zi60) from by unfold sd_hl sd_sg; simp only; split; omega; split <;> omega)]
                ·
                  refine sd_iconst sD11_test_143 (by decide) ?_
                  refine sd_goto (tgt := 182) sD11_test_144 (by decide) ?_
                  have hO := sd_roO (B := B) (q := q5_1) (o := 0) (by decide) (by omega)
                  refine sd_zreturn sD11_test_182 rfl (by decide) (fun hm => ⟨hK, Or.inr ⟨(j5_1, 0, sd_nv B (q5_1 + 1) (sd_dn B (q5_1 + 1))), ((q5_1 + 1) + zi60), by simp only [sd_ts, hz5_1, hO]; rw [if_neg (by omega), zd], ?_, hS, by omega⟩⟩)
                  rw [zd]
                  rw [sd_b1 (show sd_hl f (j5_1, 0, sd_nv B (q5_1 + 1) zi60) from by unfold sd_hl sd_sg; simp only; split; omega; split <;> omega)]
            ·
              refine sd_aload_n sD11_test_114 rfl ?_
              refine sd_callV (as := []) (st := []) sD11_test_115 sM11_167 rfl rfl sOM15 rfl (by decide) (Nat.le_of_ble_eq_true rfl) (cM_wrong1 fr n ((q5_1 + 1) + zi60) _ m hx hS) (fun r m hq ho115 hm => ?_)
              obtain ⟨rfl, hk115_5, hS⟩ := hq
              replace hx := hk115_5.ns hx
              replace hK := hK.tr hk115_5
              rcases (⟨trivial⟩ : Nonempty True) with hy115_5
              ·
                show sd_Wp sd_SM 3 sY11_test 118 [some (.inr 15), some (.inl (7 + (j5_1 : Int))), some (.inl (B q5_1)), some (.inl (max 0 (sd_nv B (q5_1 + 1) zi60))), some (.inl (zi60 : Int)), none] [] m _
                refine sd_iconst sD11_test_118 (by decide) ?_
                have hO := sd_roO (B := B) (q := q5_1) (o := 0) (by decide) (by omega)
                have zd0 : sd_dn B (q5_1 + 1) = 0 := by omega
                rw [show ((q5_1 + 1) + zi60) = (q5_1 + 1) from by omega] at hS
                exact sd_zreturn sD11_test_119 rfl (by decide) (fun hm => ⟨hK, Or.inl ⟨(q5_1 + 1), by simp only [sd_ts, hz5_1, hO]; rw [if_pos zd0], rfl, hS, by omega⟩⟩)
          ·
            refine sd_bipush sD11_test_80 rfl (by decide) ?_
            refine sd_iload_n sD11_test_82 rfl ?_
            refine sd_imul (z := (10 * (max 0 (sd_nv B (q5_1 + 1) zi60)))) sD11_test_83 (by omega) (by omega) ?_
            refine sd_aload_n sD11_test_84 rfl ?_
            refine sd_callVp (as := []) (st := [.inl (10 * (max 0 (sd_nv B (q5_1 + 1) zi60)))]) (v := .inl (B ((q5_1 + 1) + zi60))) sD11_test_85 sM11_164 sOM15 rfl rfl rfl (by decide) (Nat.le_of_ble_eq_true rfl) (cM_byteAt _ fr B n ((q5_1 + 1) + zi60) _ m hx hB hS) (fun ho85 => ?_)
            refine sd_iadd (z := ((10 * (max 0 (sd_nv B (q5_1 + 1) zi60))) + B ((q5_1 + 1) + zi60))) sD11_test_88 (by omega) (by omega) ?_
            refine sd_bipush sD11_test_89 rfl (by decide) ?_
            refine sd_isub (z := (((10 * (max 0 (sd_nv B (q5_1 + 1) zi60))) + B ((q5_1 + 1) + zi60)) - 48)) sD11_test_91 (by omega) (by omega) ?_
            refine sd_istore_n (ls' := [some (.inr 15), some (.inl (7 + (j5_1 : Int))), some (.inl (B q5_1)), some (.inl (((10 * (max 0 (sd_nv B (q5_1 + 1) zi60))) + B ((q5_1 + 1) + zi60)) - 48)), some (.inl (zi60 : Int)), none]) sD11_test_92 (by decide) rfl ?_
            refine sd_iinc (y := ((zi60 : Int) + 1)) (ls' := [some (.inr 15), some (.inl (7 + (j5_1 : Int))), some (.inl (B q5_1)), some (.inl (((10 * (max 0 (sd_nv B (q5_1 + 1) zi60))) + B ((q5_1 + 1) + zi60)) - 48)), some (.inl ((zi60 : Int) + 1)), none]) sD11_test_93 rfl (by omega) (by omega) (by decide) rfl ?_
            refine sd_aload_n sD11_test_96 rfl ?_
            refine sd_dup sD11_test_97 ?_
            refine sd_getfi sD11_test_98 sF11_147 sGM15_12 ?_
            rw [show m 5492 = ((((q5_1 + 1) + zi60) : Nat) : Int) from hS.2.2.1]
            refine sd_iconst sD11_test_101 (by decide) ?_
            refine sd_iadd (z := (((((q5_1 + 1) + zi60) : Nat) : Int) + 1)) sD11_test_102 (by omega) (by omega) ?_
            refine sd_putfc sd_sokM sd_oneM hx sD11_test_103 sF11_147 sGM15_12 (by decide) (Or.inl rfl) (fun m hx em103 => ?_)
            replace hK := hK.tr (sd_k2.up em103 (Or.inl rfl))
            replace hS : sd_RS m fr n (((q5_1 + 1) + zi60) + 1) (-1) := ⟨by rw [em103, sd_up_ne (by decide)]; exact hS.1, by rw [em103, sd_up_ne (by decide)]; exact hS.2.1, by rw [em103, sd_up_eq]; (try omega), by rw [em103, sd_up_ne (by decide)]; exact hS.2.2.2⟩
            refine sd_goto (tgt := 60) sD11_test_106 (by decide) ?_
            exact sd_eqw (ls' := [some (.inr 15), some (.inl (7 + (j5_1 : Int))), some (.inl (B q5_1)), some (.inl (max 0 (sd_nv B (q5_1 + 1) (zi60 + 1)))), some (.inl ((zi60 + 1 : Nat) : Int)), none]) (ihzi60 m (by exact hx) (by exact ⟨hS, hK, fun j hj => by by_cases q : j = zi60; (subst q; omega); exact hpzi60.2.2 j (by omega)⟩)) (sd_cg rfl (sd_cg rfl (sd_cg rfl (sd_cg (sd_ce (show ((((10 * (max 0 (sd_nv B (q5_1 + 1) zi60))) + B ((q5_1 + 1) + zi60)) - 48) : Int) = max 0 (sd_nv B (q5_1 + 1) (zi60 + 1)) from by simp only [sd_nv]; omega)) (sd_cg (sd_ce (show (((zi60 : Int) + 1) : Int) = ((zi60 + 1 : Nat) : Int) from by omega)) (sd_cg rfl rfl)))))) rfl
        ·
          show sd_Wp sd_SM 3 sY11_test 60 [some (.inr 15), some (.inl (7 + (j5_1 : Int))), some (.inl (B q5_1)), some (.inl (max 0 (sd_nv B (q5_1 + 1) 3))), some (.inl (3 : Int)), none] [] m _
          refine sd_iload sD11_test_60 rfl ?_
          refine sd_iconst sD11_test_62 (by decide) ?_
          refine sd_icmp_ge (tgt := 109) sD11_test_63 (by decide) (fun zc63 => ?_) (fun zc63 => (by exfalso; omega))
          have zd : sd_dn B (q5_1 + 1) = 3 := sd_dn_at hpzi60.2.2 (Or.inl rfl)
          have zv := sd_nv_dn B (q5_1 + 1)
          rw [zd] at zv
          have zl := sd_dn_leM hB (p := (q5_1 + 1)) (k := 3) (by omega) hpzi60.2.2
          replace hS := hpzi60.1
          replace hK := hpzi60.2.1
          refine sd_iload sD11_test_109 rfl ?_
          refine sd_if_ne (tgt := 120) sD11_test_111 (by decide) (fun zc111 => ?_) (fun zc111 => ?_)
          ·
            refine sd_aload_n sD11_test_120 rfl ?_
            refine sd_getfr sD11_test_121 sF11_34 sGM15_14 ?_
            refine sd_iload_n sD11_test_124 rfl ?_
            refine sd_bipush sD11_test_125 rfl (by decide) ?_
            refine sd_isub (z := (j5_1 : Int)) sD11_test_127 (by omega) (by omega) ?_
            refine sd_iald (a := (5504 + j5_1)) sD11_test_128 sAM8 (by omega) ?_
            rw [show m (5504 + j5_1) = f j5_1 from (hK _ (by omega) (by omega)).trans (hf _ (by omega))]
            refine sd_istore (ls' := [some (.inr 15), some (.inl (7 + (j5_1 : Int))), some (.inl (B q5_1)), some (.inl (max 0 (sd_nv B (q5_1 + 1) 3))), some (.inl (3 : Int)), some (.inl (f j5_1))]) sD11_test_129 (by decide) rfl ?_
            refine sd_iload_n sD11_test_131 rfl ?_
            refine sd_bipush sD11_test_132 rfl (by decide) ?_
            refine sd_icmp_ne (tgt := 151) sD11_test_134 (by decide) (fun zc134 => ?_) (fun zc134 => ?_)
            ·
              refine sd_iload_n sD11_test_151 rfl ?_
              refine sd_bipush sD11_test_152 rfl (by decide) ?_
              refine sd_icmp_ne (tgt := 171) sD11_test_154 (by decide) (fun zc154 => ?_) (fun zc154 => ?_)
              ·
                refine sd_iload sD11_test_171 rfl ?_
                refine sd_iload_n sD11_test_173 rfl ?_
                refine sd_icmp_le (tgt := 181) sD11_test_174 (by decide) (fun zc174 => ?_) (fun zc174 => ?_)
                ·
                  refine sd_iconst sD11_test_181 (by decide) ?_
                  have hO := sd_roO (B := B) (q := q5_1) (o := 0) (by decide) (by omega)
                  refine sd_zreturn sD11_test_182 rfl (by decide) (fun hm => ⟨hK, Or.inr ⟨(j5_1, 0, sd_nv B (q5_1 + 1) (sd_dn B (q5_1 + 1))), ((q5_1 + 1) + 3), by simp only [sd_ts, hz5_1, hO]; rw [if_neg (by omega), zd], ?_, hS, by omega⟩⟩)
                  rw [zd]
                  rw [sd_b0 (show ¬ sd_hl f (j5_1, 0, sd_nv B (q5_1 + 1) 3) from by unfold sd_hl sd_sg; simp only; split; omega; split <;> omega)]
                ·
                  refine sd_iconst sD11_test_177 (by decide) ?_
                  refine sd_goto (tgt := 182) sD11_test_178 (by decide) ?_
                  have hO := sd_roO (B := B) (q := q5_1) (o := 0) (by decide) (by omega)
                  refine sd_zreturn sD11_test_182 rfl (by decide) (fun hm => ⟨hK, Or.inr ⟨(j5_1, 0, sd_nv B (q5_1 + 1) (sd_dn B (q5_1 + 1))), ((q5_1 + 1) + 3), by simp only [sd_ts, hz5_1, hO]; rw [if_neg (by omega), zd], ?_, hS, by omega⟩⟩)
                  rw [zd]
                  rw [sd_b1 (show sd_hl f (j5_1, 0, sd_nv B (q5_1 + 1) 3) from by unfold sd_hl sd_sg; simp only; split; omega; split <;> omega)]
              ·
                refine sd_iload sD11_test_157 rfl ?_
                refine sd_iload_n sD11_test_159 rfl ?_
                refine sd_icmp_ge (tgt := 167) sD11_test_160 (by decide) (fun zc160 => ?_) (fun zc160 => ?_)
                ·
                  refine sd_iconst sD11_test_167 (by decide) ?_
                  refine sd_goto (tgt := 182) sD11_test_168 (by decide) ?_
                  have hO := sd_roO (B := B) (q := q5_1) (o := 0) (by decide) (by omega)
                  refine sd_zreturn sD11_test_182 rfl (by decide) (fun hm => ⟨hK, Or.inr ⟨(j5_1, 0, sd_nv B (q5_1 + 1) (sd_dn B (q5_1 + 1))), ((q5_1 + 1) + 3), by simp only [sd_ts, hz5_1, hO]; rw [if_neg (by omega), zd], ?_, hS, by omega⟩⟩)
                  rw [zd]
                  rw [sd_b0 (show ¬ sd_hl f (j5_1, 0, sd_nv B (q5_1 + 1) 3) from by unfold sd_hl sd_sg; simp only; split; omega; split <;> omega)]
                ·
                  refine sd_iconst sD11_test_163 (by decide) ?_
                  refine sd_goto (tgt := 182) sD11_test_164 (by decide) ?_
                  have hO := sd_roO (B := B) (q := q5_1) (o := 0) (by decide) (by omega)
                  refine sd_zreturn sD11_test_182 rfl (by decide) (fun hm => ⟨hK, Or.inr ⟨(j5_1, 0, sd_nv B (q5_1 + 1) (sd_dn B (q5_1 + 1))), ((q5_1 + 1) + 3), by simp only [sd_ts, hz5_1, hO]; rw [if_neg (by omega), zd], ?_, hS, by omega⟩⟩)
                  rw [zd]
                  rw [sd_b1 (show sd_hl f (j5_1, 0, sd_nv B (q5_1 + 1) 3) from by unfold sd_hl sd_sg; simp only; split; omega; split <;> omega)]
            ·
              refine sd_iload sD11_test_137 rfl ?_
              refine sd_iload_n sD11_test_139 rfl ?_
              refine sd_icmp_ne (tgt := 147) sD11_test_140 (by decide) (fun zc140 => ?_) (fun zc140 => ?_)
              ·
                refine sd_iconst sD11_test_147 (by decide) ?_
                refine sd_goto (tgt := 182) sD11_test_148 (by decide) ?_
                have hO := sd_roO (B := B) (q := q5_1) (o := 0) (by decide) (by omega)
                refine sd_zreturn sD11_test_182 rfl (by decide) (fun hm => ⟨hK, Or.inr ⟨(j5_1, 0, sd_nv B (q5_1 + 1) (sd_dn B (q5_1 + 1))), ((q5_1 + 1) + 3), by simp only [sd_ts, hz5_1, hO]; rw [if_neg (by omega), zd], ?_, hS, by omega⟩⟩)
                rw [zd]
                rw [sd_b0 (show ¬ sd_hl f (j5_1, 0, sd_nv B (q5_1 + 1) 3) from by unfold sd_hl sd_sg; simp only; split; omega; split <;> omega)]
              ·
                refine sd_iconst sD11_test_143 (by decide) ?_
                refine sd_goto (tgt := 182) sD11_test_144 (by decide) ?_
                have hO := sd_roO (B := B) (q := q5_1) (o := 0) (by decide) (by omega)
                refine sd_zreturn sD11_test_182 rfl (by decide) (fun hm => ⟨hK, Or.inr ⟨(j5_1, 0, sd_nv B (q5_1 + 1) (sd_dn B (q5_1 + 1))), ((q5_1 + 1) + 3), by simp only [sd_ts, hz5_1, hO]; rw [if_neg (by omega), zd], ?_, hS, by omega⟩⟩)
                rw [zd]
                rw [sd_b1 (show sd_hl f (j5_1, 0, sd_nv B (q5_1 + 1) 3) from by unfold sd_hl sd_sg; simp only; split; omega; split <;> omega)]
          ·
            refine sd_aload_n sD11_test_114 rfl ?_
            refine sd_callV (as := []) (st := []) sD11_test_115 sM11_167 rfl rfl sOM15 rfl (by decide) (Nat.le_of_ble_eq_true rfl) (cM_wrong1 fr n ((q5_1 + 1) + 3) _ m hx hS) (fun r m hq ho115 hm => ?_)
            obtain ⟨rfl, hk115_6, hS⟩ := hq
            replace hx := hk115_6.ns hx
            replace hK := hK.tr hk115_6
            rcases (⟨trivial⟩ : Nonempty True) with hy115_6
            ·
              show sd_Wp sd_SM 3 sY11_test 118 [some (.inr 15), some (.inl (7 + (j5_1 : Int))), some (.inl (B q5_1)), some (.inl (max 0 (sd_nv B (q5_1 + 1) 3))), some (.inl (3 : Int)), none] [] m _
              refine sd_iconst sD11_test_118 (by decide) ?_
              have hO := sd_roO (B := B) (q := q5_1) (o := 0) (by decide) (by omega)
              have zd0 : sd_dn B (q5_1 + 1) = 0 := by omega
              rw [show ((q5_1 + 1) + 3) = (q5_1 + 1) from by omega] at hS
              exact sd_zreturn sD11_test_119 rfl (by decide) (fun hm => ⟨hK, Or.inl ⟨(q5_1 + 1), by simp only [sd_ts, hz5_1, hO]; rw [if_pos zd0], rfl, hS, by omega⟩⟩)
      ·
        refine sd_iload_n sD11_test_33 rfl ?_
        refine sd_bipush sD11_test_34 rfl (by decide) ?_
        refine sd_icmp_eq (tgt := 45) sD11_test_36 (by decide) (fun zc36 => ?_) (fun zc36 => ?_)
        ·
          have hq0 := hB.in (p := q5_1) (by omega)
          have hn1 := hB.1
          refine sd_aload_n sD11_test_45 rfl ?_
          refine sd_dup sD11_test_46 ?_
          refine sd_getfi sD11_test_47 sF11_147 sGM15_12 ?_
          rw [show m 5492 = (q5_1 : Int) from hS.2.2.1]
          refine sd_iconst sD11_test_50 (by decide) ?_
          refine sd_iadd (z := ((q5_1 : Int) + 1)) sD11_test_51 (by omega) (by omega) ?_
          refine sd_putfc sd_sokM sd_oneM hx sD11_test_52 sF11_147 sGM15_12 (by decide) (Or.inl rfl) (fun m hx em52 => ?_)
          replace hK := hK.tr (sd_k2.up em52 (Or.inl rfl))
          replace hS : sd_RS m fr n (q5_1 + 1) (-1) := ⟨by rw [em52, sd_up_ne (by decide)]; exact hS.1, by rw [em52, sd_up_ne (by decide)]; exact hS.2.1, by rw [em52, sd_up_eq]; (try omega), by rw [em52, sd_up_ne (by decide)]; exact hS.2.2.2⟩
          refine sd_iconst sD11_test_55 (by decide) ?_
          refine sd_istore_n (ls' := [some (.inr 15), some (.inl (7 + (j5_1 : Int))), some (.inl (B q5_1)), some (.inl 0), none, none]) sD11_test_56 (by decide) rfl ?_
          refine sd_iconst sD11_test_57 (by decide) ?_
          refine sd_istore (ls' := [some (.inr 15), some (.inl (7 + (j5_1 : Int))), some (.inl (B q5_1)), some (.inl 0), some (.inl 0), none]) sD11_test_58 (by decide) rfl ?_
          refine sd_forX (3) (fun zi60 : Nat => [some (.inr 15), some (.inl (7 + (j5_1 : Int))), some (.inl (B q5_1)), some (.inl (max 0 (sd_nv B (q5_1 + 1) zi60))), some (.inl (zi60 : Int)), none]) (fun zi60 : Nat => x) (fun (zi60 : Nat) (m : sd_M) => sd_RS m fr n ((q5_1 + 1) + zi60) (-1) ∧ sd_k2 m0 m ∧ ∀ j, j < zi60 → sd_dg (B ((q5_1 + 1) + j))) (by rfl) (fun zi60 hizi60 m hx hpzi60 ihzi60 => ?_) (fun m hx hpzi60 => ?_) (by exact hx) (by exact ⟨hS, hK, fun j hj => absurd hj (by omega)⟩)
          ·
            have e5 := sd_nv_rng hpzi60.2.2 (by omega)
            have hS := hpzi60.1
            have hK := hpzi60.2.1
            have zl := sd_dn_leM hB (p := (q5_1 + 1)) (k := zi60) (by omega) hpzi60.2.2
            refine sd_iload sD11_test_60 rfl ?_
            refine sd_iconst sD11_test_62 (by decide) ?_
            refine sd_icmp_ge (tgt := 109) sD11_test_63 (by decide) (fun zc63 => (by exfalso; omega)) (fun zc63 => ?_)
            refine sd_aload_n sD11_test_66 rfl ?_
            refine sd_callVp (as := []) (st := []) (v := .inl (B ((q5_1 + 1) + zi60))) sD11_test_67 sM11_164 sOM15 rfl rfl rfl (by decide) (Nat.le_of_ble_eq_true rfl) (cM_byteAt _ fr B n ((q5_1 + 1) + zi60) _ m hx hB hS) (fun ho67 => ?_)
            refine sd_bipush sD11_test_70 rfl (by decide) ?_
            refine sd_bipush sD11_test_72 rfl (by decide) ?_
            refine sd_callSp (as := [.inl (B ((q5_1 + 1) + zi60)), .inl 48, .inl 57]) (st := []) (v := .inl (sd_b (48 ≤ B ((q5_1 + 1) + zi60) ∧ B ((q5_1 + 1) + zi60) ≤ 57))) sD11_test_74 sM11_56 rfl rfl (by decide) (Nat.le_of_ble_eq_true rfl) (cM_in (B ((q5_1 + 1) + zi60)) 48 57 m) (fun ho74 => ?_)
            refine sd_bif_eq (tgt := 109) sD11_test_77 (by decide) (fun zc77 => ?_) (fun zc77 => ?_)
            ·
              have zd : sd_dn B (q5_1 + 1) = zi60 := sd_dn_at hpzi60.2.2 (Or.inr ⟨by omega, by omega⟩)
              have zv := sd_nv_dn B (q5_1 + 1)
              rw [zd] at zv
              have zl := sd_dn_leM hB (p := (q5_1 + 1)) (k := zi60) (by omega) hpzi60.2.2
              replace hS := hpzi60.1
              replace hK := hpzi60.2.1
              refine sd_iload sD11_test_109 rfl ?_
              refine sd_if_ne (tgt := 120) sD11_test_111 (by decide) (fun zc111 => ?_) (fun zc111 => ?_)
              ·
                refine sd_aload_n sD11_test_120 rfl ?_
                refine sd_getfr sD11_test_121 sF11_34 sGM15_14 ?_
                refine sd_iload_n sD11_test_124 rfl ?_
                refine sd_bipush sD11_test_125 rfl (by decide) ?_
                refine sd_isub (z := (j5_1 : Int)) sD11_test_127 (by omega) (by omega) ?_
                refine sd_iald (a := (5504 + j5_1)) sD11_test_128 sAM8 (by omega) ?_
                rw [show m (5504 + j5_1) = f j5_1 from (hK _ (by omega) (by omega)).trans (hf _ (by omega))]
                refine sd_istore (ls' := [some (.inr 15), some (.inl (7 + (j5_1 : Int))), some (.inl (B q5_1)), some (.inl (max 0 (sd_nv B (q5_1 + 1) zi60))), some (.inl (zi60 : Int)), some (.inl (f j5_1))]) sD11_test_129 (by decide) rfl ?_
                refine sd_iload_n sD11_test_131 rfl ?_
                refine sd_bipush sD11_test_132 rfl (by decide) ?_
                refine sd_icmp_ne (tgt := 151) sD11_test_134 (by decide) (fun zc134 => ?_) (fun zc134 => ?_)
                ·
                  refine sd_iload_n sD11_test_151 rfl ?_
                  refine sd_bipush sD11_test_152 rfl (by decide) ?_
                  refine sd_icmp_ne (tgt := 171) sD11_test_154 (by decide) (fun zc154 => ?_) (fun zc154 => ?_)
                  ·
                    refine sd_iload sD11_test_171 rfl ?_
                    refine sd_iload_n sD11_test_173 rfl ?_
                    refine sd_icmp_le (tgt := 181) sD11_test_174 (by decide) (fun zc174 => ?_) (fun zc174 => ?_)
                    ·
                      refine sd_iconst sD11_test_181 (by decide) ?_
                      have hO := sd_roO (B := B) (q := q5_1) (o := 2) (by decide) (by omega)
                      refine sd_zreturn sD11_test_182 rfl (by decide) (fun hm => ⟨hK, Or.inr ⟨(j5_1, 2, sd_nv B (q5_1 + 1) (sd_dn B (q5_1 + 1))), ((q5_1 + 1) + zi60), by simp only [sd_ts, hz5_1, hO]; rw [if_neg (by omega), zd], ?_, hS, by omega⟩⟩)
                      rw [zd]
                      rw [sd_b0 (show ¬ sd_hl f (j5_1, 2, sd_nv B (q5_1 + 1) zi60) from by unfold sd_hl sd_sg; simp only; split; omega; split <;> omega)]
                    ·
                      refine sd_iconst sD11_test_177 (by decide) ?_
                      refine sd_goto (tgt := 182) sD11_test_178 (by decide) ?_
                      have hO := sd_roO (B := B) (q := q5_1) (o := 2) (by decide) (by omega)
                      refine sd_zreturn sD11_test_182 rfl (by decide) (fun hm => ⟨hK, Or.inr ⟨(j5_1, 2, sd_nv B (q5_1 + 1) (sd_dn B (q5_1 + 1))), ((q5_1 + 1) + zi60), by simp only [sd_ts, hz5_1, hO]; rw [if_neg (by omega), zd], ?_, hS, by omega⟩⟩)
                      rw [zd]
                      rw [sd_b1 (show sd_hl f (j5_1, 2, sd_nv B (q5_1 + 1) zi60) from by unfold sd_hl sd_sg; simp only; split; omega; split <;> omega)]
                  ·
                    refine sd_iload sD11_test_157 rfl ?_
                    refine sd_iload_n sD11_test_159 rfl ?_
                    refine sd_icmp_ge (tgt := 167) sD11_test_160 (by decide) (fun zc160 => ?_) (fun zc160 => ?_)
                    ·
                      refine sd_iconst sD11_test_167 (by decide) ?_
                      refine sd_goto (tgt := 182) sD11_test_168 (by decide) ?_
                      have hO := sd_roO (B := B) (q := q5_1) (o := 2) (by decide) (by omega)
                      refine sd_zreturn sD11_test_182 rfl (by decide) (fun hm => ⟨hK, Or.inr ⟨(j5_1, 2, sd_nv B (q5_1 + 1) (sd_dn B (q5_1 + 1))), ((q5_1 + 1) + zi60), by simp only [sd_ts, hz5_1, hO]; rw [if_neg (by omega), zd], ?_, hS, by omega⟩⟩)
                      rw [zd]
                      rw [sd_b0 (show ¬ sd_hl f (j5_1, 2, sd_nv B (q5_1 + 1) zi60) from by unfold sd_hl sd_sg; simp only; split; omega; split <;> omega)]
                    ·
                      refine sd_iconst sD11_test_163 (by decide) ?_
                      refine sd_goto (tgt := 182) sD11_test_164 (by decide) ?_
                      have hO := sd_roO (B := B) (q := q5_1) (o := 2) (by decide) (by omega)
                      refine sd_zreturn sD11_test_182 rfl (by decide) (fun hm => ⟨hK, Or.inr ⟨(j5_1, 2, sd_nv B (q5_1 + 1) (sd_dn B (q5_1 + 1))), ((q5_1 + 1) + zi60), by simp only [sd_ts, hz5_1, hO]; rw [if_neg (by omega), zd], ?_, hS, by omega⟩⟩)
                      rw [zd]
                      rw [sd_b1 (show sd_hl f (j5_1, 2, sd_nv B (q5_1 + 1) zi60) from by unfold sd_hl sd_sg; simp only; split; omega; split <;> omega)]
                ·
                  refine sd_iload sD11_test_137 rfl ?_
                  refine sd_iload_n sD11_test_139 rfl ?_
                  refine sd_icmp_ne (tgt := 147) sD11_test_140 (by decide) (fun zc140 => ?_) (fun zc140 => ?_)
                  ·
                    refine sd_iconst sD11_test_147 (by decide) ?_
                    refine sd_goto (tgt := 182) sD11_test_148 (by decide) ?_
                    have hO := sd_roO (B := B) (q := q5_1) (o := 2) (by decide) (by omega)
                    refine sd_zreturn sD11_test_182 rfl (by decide) (fun hm => ⟨hK, Or.inr ⟨(j5_1, 2, sd_nv B (q5_1 + 1) (sd_dn B (q5_1 + 1))), ((q5_1 + 1) + zi60), by simp only [sd_ts, hz5_1, hO]; rw [if_neg (by omega), zd], ?_, hS, by omega⟩⟩)
                    rw [zd]
                    rw [sd_b0 (show ¬ sd_hl f (j5_1, 2, sd_nv B (q5_1 + 1) zi60) from by unfold sd_hl sd_sg; simp only; split; omega; split <;> omega)]
                  ·
                    refine sd_iconst sD11_test_143 (by decide) ?_
                    refine sd_goto (tgt := 182) sD11_test_144 (by decide) ?_
                    have hO := sd_roO (B := B) (q := q5_1) (o := 2) (by decide) (by omega)
                    refine sd_zreturn sD11_test_182 rfl (by decide) (fun hm => ⟨hK, Or.inr ⟨(j5_1, 2, sd_nv B (q5_1 + 1) (sd_dn B (q5_1 + 1))), ((q5_1 + 1) + zi60), by simp only [sd_ts, hz5_1, hO]; rw [if_neg (by omega), zd], ?_, hS, by omega⟩⟩)
                    rw [zd]
                    rw [sd_b1 (show sd_hl f (j5_1, 2, sd_nv B (q5_1 + 1) zi60) from by unfold sd_hl sd_sg; simp only; split; omega; split <;> omega)]
              ·
                refine sd_aload_n sD11_test_114 rfl ?_
                refine sd_callV (as := []) (st := []) sD11_test_115 sM11_167 rfl rfl sOM15 rfl (by decide) (Nat.le_of_ble_eq_true rfl) (cM_wrong1 fr n ((q5_1 + 1) + zi60) _ m hx hS) (fun r m hq ho115 hm => ?_)
                obtain ⟨rfl, hk115_7, hS⟩ := hq
                replace hx := hk115_7.ns hx
                replace hK := hK.tr hk115_7
                rcases (⟨trivial⟩ : Nonempty True) with hy115_7
                ·
                  show sd_Wp sd_SM 3 sY11_test 118 [some (.inr 15), some (.inl (7 + (j5_1 : Int))), some (.inl (B q5_1)), some (.inl (max 0 (sd_nv B (q5_1 + 1) zi60))), some (.inl (zi60 : Int)), none] [] m _
                  refine sd_iconst sD11_test_118 (by decide) ?_
                  have hO := sd_roO (B := B) (q := q5_1) (o := 2) (by decide) (by omega)
                  have zd0 : sd_dn B (q5_1 + 1) = 0 := by omega
                  rw [show ((q5_1 + 1) + zi60) = (q5_1 + 1) from by omega] at hS
                  exact sd_zreturn sD11_test_119 rfl (by decide) (fun hm => ⟨hK, Or.inl ⟨(q5_1 + 1), by simp only [sd_ts, hz5_1, hO]; rw [if_pos zd0], rfl, hS, by omega⟩⟩)
            ·
              refine sd_bipush sD11_test_80 rfl (by decide) ?_
              refine sd_iload_n sD11_test_82 rfl ?_
              refine sd_imul (z := (10 * (max 0 (sd_nv B (q5_1 + 1) zi60)))) sD11_test_83 (by omega) (by omega) ?_
              refine sd_aload_n sD11_test_84 rfl ?_
              refine sd_callVp (as := []) (st := [.inl (10 * (max 0 (sd_nv B (q5_1 + 1) zi60)))]) (v := .inl (B ((q5_1 + 1) + zi60))) sD11_test_85 sM11_164 sOM15 rfl rfl rfl (by decide) (Nat.le_of_ble_eq_true rfl) (cM_byteAt _ fr B n ((q5_1 + 1) + zi60) _ m hx hB hS) (fun ho85 => ?_)
              refine sd_iadd (z := ((10 * (max 0 (sd_nv B (q5_1 + 1) zi60))) + B ((q5_1 + 1) + zi60))) sD11_test_88 (by omega) (by omega) ?_
              refine sd_bipush sD11_test_89 rfl (by decide) ?_
              refine sd_isub (z := (((10 * (max 0 (sd_nv B (q5_1 + 1) zi60))) + B ((q5_1 + 1) + zi60)) - 48)) sD11_test_91 (by omega) (by omega) ?_
              refine sd_istore_n (ls' := [some (.inr 15), some (.inl (7 + (j5_1 : Int))), some (.inl (B q5_1)), some (.inl (((10 * (max 0 (sd_nv B (q5_1 + 1) zi60))) + B ((q5_1 + 1) + zi60)) - 48)), some (.inl (zi60 : Int)), none]) sD11_test_92 (by decide) rfl ?_
              refine sd_iinc (y := ((zi60 : Int) + 1)) (ls' := [some (.inr 15), some (.inl (7 + (j5_1 : Int))), some (.inl (B q5_1)), some (.inl (((10 * (max 0 (sd_nv B (q5_1 + 1) zi60))) + B ((q5_1 + 1) + zi60)) - 48)), some (.inl ((zi60 : Int) + 1)), none]) sD11_test_93 rfl (by omega) (by omega) (by decide) rfl ?_
              refine sd_aload_n sD11_test_96 rfl ?_
              refine sd_dup sD11_test_97 ?_
              refine sd_getfi sD11_test_98 sF11_147 sGM15_12 ?_
              rw [show m 5492 = ((((q5_1 + 1) + zi60) : Nat) : Int) from hS.2.2.1]
              refine sd_iconst sD11_test_101 (by decide) ?_
              refine sd_iadd (z := (((((q5_1 + 1) + zi60) : Nat) : Int) + 1)) sD11_test_102 (by omega) (by omega) ?_
              refine sd_putfc sd_sokM sd_oneM hx sD11_test_103 sF11_147 sGM15_12 (by decide) (Or.inl rfl) (fun m hx em103 => ?_)
              replace hK := hK.tr (sd_k2.up em103 (Or.inl rfl))
              replace hS : sd_RS m fr n (((q5_1 + 1) + zi60) + 1) (-1) := ⟨by rw [em103, sd_up_ne (by decide)]; exact hS.1, by rw [em103, sd_up_ne (by decide)]; exact hS.2.1, by rw [em103, sd_up_eq]; (try omega), by rw [em103, sd_up_ne (by decide)]; exact hS.2.2.2⟩
              refine sd_goto (tgt := 60) sD11_test_106 (by decide) ?_
              exact sd_eqw (ls' := [some (.inr 15), some (.inl (7 + (j5_1 : Int))), some (.inl (B q5_1)), some (.inl (max 0 (sd_nv B (q5_1 + 1) (zi60 + 1)))), some (.inl ((zi60 + 1 : Nat) : Int)), none]) (ihzi60 m (by exact hx) (by exact ⟨hS, hK, fun j hj => by by_cases q : j = zi60; (subst q; omega); exact hpzi60.2.2 j (by omega)⟩)) (sd_cg rfl (sd_cg rfl (sd_cg rfl (sd_cg (sd_ce (show ((((10 * (max 0 (sd_nv B (q5_1 + 1) zi60))) + B ((q5_1 + 1) + zi60)) - 48) : Int) = max 0 (sd_nv B (q5_1 + 1) (zi60 + 1)) from by simp only [sd_nv]; omega)) (sd_cg (sd_ce (show (((zi60 : Int) + 1) : Int) = ((zi60 + 1 : Nat) : Int) from by omega)) (sd_cg rfl rfl)))))) rfl
          ·
            show sd_Wp sd_SM 3 sY11_test 60 [some (.inr 15), some (.inl (7 + (j5_1 : Int))), some (.inl (B q5_1)), some (.inl (max 0 (sd_nv B (q5_1 + 1) 3))), some (.inl (3 : Int)), none] [] m _
            refine sd_iload sD11_test_60 rfl ?_
            refine sd_iconst sD11_test_62 (by decide) ?_
            refine sd_icmp_ge (tgt := 109) sD11_test_63 (by decide) (fun zc63 => ?_) (fun zc63 => (by exfalso; omega))
            have zd : sd_dn B (q5_1 + 1) = 3 := sd_dn_at hpzi60.2.2 (Or.inl rfl)
            have zv := sd_nv_dn B (q5_1 + 1)
            rw [zd] at zv
            have zl := sd_dn_leM hB (p := (q5_1 + 1)) (k := 3) (by omega) hpzi60.2.2
            replace hS := hpzi60.1
            replace hK := hpzi60.2.1
            refine sd_iload sD11_test_109 rfl ?_
            refine sd_if_ne (tgt := 120) sD11_test_111 (by decide) (fun zc111 => ?_) (fun zc111 => ?_)
            ·
              refine sd_aload_n sD11_test_120 rfl ?_
              refine sd_getfr sD11_test_121 sF11_34 sGM15_14 ?_
              refine sd_iload_n sD11_test_124 rfl ?_
              refine sd_bipush sD11_test_125 rfl (by decide) ?_
              refine sd_isub (z := (j5_1 : Int)) sD11_test_127 (by omega) (by omega) ?_
              refine sd_iald (a := (5504 + j5_1)) sD11_test_128 sAM8 (by omega) ?_
              rw [show m (5504 + j5_1) = f j5_1 from (hK _ (by omega) (by omega)).trans (hf _ (by omega))]
              refine sd_istore (ls' := [some (.inr 15), some (.inl (7 + (j5_1 : Int))), some (.inl (B q5_1)), some (.inl (max 0 (sd_nv B (q5_1 + 1) 3))), some (.inl (3 : Int)), some (.inl (f j5_1))]) sD11_test_129 (by decide) rfl ?_
              refine sd_iload_n sD11_test_131 rfl ?_
              refine sd_bipush sD11_test_132 rfl (by decide) ?_
              refine sd_icmp_ne (tgt := 151) sD11_test_134 (by decide) (fun zc134 => ?_) (fun zc134 => ?_)
              ·
                refine sd_iload_n sD11_test_151 rfl ?_
                refine sd_bipush sD11_test_152 rfl (by decide) ?_
                refine sd_icmp_ne (tgt := 171) sD11_test_154 (by decide) (fun zc154 => ?_) (fun zc154 => ?_)
                ·
                  refine sd_iload sD11_test_171 rfl ?_
                  refine sd_iload_n sD11_test_173 rfl ?_
                  refine sd_icmp_le (tgt := 181) sD11_test_174 (by decide) (fun zc174 => ?_) (fun zc174 => ?_)
                  ·
                    refine sd_iconst sD11_test_181 (by decide) ?_
                    have hO := sd_roO (B := B) (q := q5_1) (o := 2) (by decide) (by omega)
                    refine sd_zreturn sD11_test_182 rfl (by decide) (fun hm => ⟨hK, Or.inr ⟨(j5_1, 2, sd_nv B (q5_1 + 1) (sd_dn B (q5_1 + 1))), ((q5_1 + 1) + 3), by simp only [sd_ts, hz5_1, hO]; rw [if_neg (by omega), zd], ?_, hS, by omega⟩⟩)
                    rw [zd]
                    rw [sd_b0 (show ¬ sd_hl f (j5_1, 2, sd_nv B (q5_1 + 1) 3) from by unfold sd_hl sd_sg; simp only; split; omega; split <;> omega)]
                  ·
                    refine sd_iconst sD11_test_177 (by decide) ?_
                    refine sd_goto (tgt := 182) sD11_test_178 (by decide) ?_
                    have hO := sd_roO (B := B) (q := q5_1) (o := 2) (by decide) (by omega)
                    refine sd_zreturn sD11_test_182 rfl (by decide) (fun hm => ⟨hK, Or.inr ⟨(j5_1, 2, sd_nv B (q5_1 + 1) (sd_dn B (q5_1 + 1))), ((q5_1 + 1) + 3), by simp only [sd_ts, hz5_1, hO]; rw [if_neg (by omega), zd], ?_, hS, by omega⟩⟩)
                    rw [zd]
                    rw [sd_b1 (show sd_hl f (j5_1, 2, sd_nv B (q5_1 + 1) 3) from by unfold sd_hl sd_sg; simp only; split; omega; split <;> omega)]
                ·
                  refine sd_iload sD11_test_157 rfl ?_
                  refine sd_iload_n sD11_test_159 rfl ?_
                  refine sd_icmp_ge (tgt := 167) sD11_test_160 (by decide) (fun zc160 => ?_) (fun zc160 => ?_)
                  ·
                    refine sd_iconst sD11_test_167 (by decide) ?_
                    refine sd_goto (tgt := 182) sD11_test_168 (by decide) ?_
                    have hO := sd_roO (B := B) (q := q5_1) (o := 2) (by decide) (by omega)
                    refine sd_zreturn sD11_test_182 rfl (by decide) (fun hm => ⟨hK, Or.inr ⟨(j5_1, 2, sd_nv B (q5_1 + 1) (sd_dn B (q5_1 + 1))), ((q5_1 + 1) + 3), by simp only [sd_ts, hz5_1, hO]; rw [if_neg (by omega), zd], ?_, hS, by omega⟩⟩)
                    rw [zd]
                    rw [sd_b0 (show ¬ sd_hl f (j5_1, 2, sd_nv B (q5_1 + 1) 3) from by unfold sd_hl sd_sg; simp only; split; omega; split <;> omega)]
                  ·
                    refine sd_iconst sD11_test_163 (by decide) ?_
                    refine sd_goto (tgt := 182) sD11_test_164 (by decide) ?_
                    have hO := sd_roO (B := B) (q := q5_1) (o := 2) (by decide) (by omega)
                    refine sd_zreturn sD11_test_182 rfl (by decide) (fun hm => ⟨hK, Or.inr ⟨(j5_1, 2, sd_nv B (q5_1 + 1) (sd_dn B (q5_1 + 1))), ((q5_1 + 1) + 3), by simp only [sd_ts, hz5_1, hO]; rw [if_neg (by omega), zd], ?_, hS, by omega⟩⟩)
                    rw [zd]
                    rw [sd_b1 (show sd_hl f (j5_1, 2, sd_nv B (q5_1 + 1) 3) from by unfold sd_hl sd_sg; simp only; split; omega; split <;> omega)]
              ·
                refine sd_iload sD11_test_137 rfl ?_
                refine sd_iload_n sD11_test_139 rfl ?_
                refine sd_icmp_ne (tgt := 147) sD11_test_140 (by decide) (fun zc140 => ?_) (fun zc140 => ?_)
                ·
                  refine sd_iconst sD11_test_147 (by decide) ?_
                  refine sd_goto (tgt := 182) sD11_test_148 (by decide) ?_
                  have hO := sd_roO (B := B) (q := q5_1) (o := 2) (by decide) (by omega)
                  refine sd_zreturn sD11_test_182 rfl (by decide) (fun hm => ⟨hK, Or.inr ⟨(j5_1, 2, sd_nv B (q5_1 + 1) (sd_dn B (q5_1 + 1))), ((q5_1 + 1) + 3), by simp only [sd_ts, hz5_1, hO]; rw [if_neg (by omega), zd], ?_, hS, by omega⟩⟩)
                  rw [zd]
                  rw [sd_b0 (show ¬ sd_hl f (j5_1, 2, sd_nv B (q5_1 + 1) 3) from by unfold sd_hl sd_sg; simp only; split; omega; split <;> omega)]
                ·
                  refine sd_iconst sD11_test_143 (by decide) ?_
                  refine sd_goto (tgt := 182) sD11_test_144 (by decide) ?_
                  have hO := sd_roO (B := B) (q := q5_1) (o := 2) (by decide) (by omega)
                  refine sd_zreturn sD11_test_182 rfl (by decide) (fun hm => ⟨hK, Or.inr ⟨(j5_1, 2, sd_nv B (q5_1 + 1) (sd_dn B (q5_1 + 1))), ((q5_1 + 1) + 3), by simp only [sd_ts, hz5_1, hO]; rw [if_neg (by omega), zd], ?_, hS, by omega⟩⟩)
                  rw [zd]
                  rw [sd_b1 (show sd_hl f (j5_1, 2, sd_nv B (q5_1 + 1) 3) from by unfold sd_hl sd_sg; simp only; split; omega; split <;> omega)]
            ·
              refine sd_aload_n sD11_test_114 rfl ?_
              refine sd_callV (as := []) (st := []) sD11_test_115 sM11_167 rfl rfl sOM15 rfl (by decide) (Nat.le_of_ble_eq_true rfl) (cM_wrong1 fr n ((q5_1 + 1) + 3) _ m hx hS) (fun r m hq ho115 hm => ?_)
              obtain ⟨rfl, hk115_8, hS⟩ := hq
              replace hx := hk115_8.ns hx
              replace hK := hK.tr hk115_8
              rcases (⟨trivial⟩ : Nonempty True) with hy115_8
              ·
                show sd_Wp sd_SM 3 sY11_test 118 [some (.inr 15), some (.inl (7 + (j5_1 : Int))), some (.inl (B q5_1)), some (.inl (max 0 (sd_nv B (q5_1 + 1) 3))), some (.inl (3 : Int)), none] [] m _
                refine sd_iconst sD11_test_118 (by decide) ?_
                have hO := sd_roO (B := B) (q := q5_1) (o := 2) (by decide) (by omega)
                have zd0 : sd_dn B (q5_1 + 1) = 0 := by omega
                rw [show ((q5_1 + 1) + 3) = (q5_1 + 1) from by omega] at hS
                exact sd_zreturn sD11_test_119 rfl (by decide) (fun hm => ⟨hK, Or.inl ⟨(q5_1 + 1), by simp only [sd_ts, hz5_1, hO]; rw [if_pos zd0], rfl, hS, by omega⟩⟩)
        ·
          refine sd_aload_n sD11_test_39 rfl ?_
          refine sd_callV (as := []) (st := []) sD11_test_40 sM11_167 rfl rfl sOM15 rfl (by decide) (Nat.le_of_ble_eq_true rfl) (cM_wrong1 fr n q5_1 _ m hx hS) (fun r m hq ho40 hm => ?_)
          obtain ⟨rfl, hk40_9, hS⟩ := hq
          replace hx := hk40_9.ns hx
          replace hK := hK.tr hk40_9
          rcases (⟨trivial⟩ : Nonempty True) with hy40_9
          ·
            show sd_Wp sd_SM 3 sY11_test 43 [some (.inr 15), some (.inl (7 + (j5_1 : Int))), some (.inl (B q5_1)), none, none, none] [] m _
            refine sd_iconst sD11_test_43 (by decide) ?_
            have hO := sd_roON (B := B) (q := q5_1) ⟨by omega, by omega, by omega⟩
            exact sd_zreturn sD11_test_44 rfl (by decide) (fun hm => ⟨hK, Or.inl ⟨q5_1, by simp only [sd_ts, hz5_1, hO], rfl, hS, by omega⟩⟩)
