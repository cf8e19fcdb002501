set_option maxRecDepth 100000 in
set_option maxHeartbeats 4000000 in
theorem cM_fix (s i r n : Nat) (hs : s < 4) (hn : n = i + 1 + r) (hn5 : n ≤ 5) (w o : Int) (x m : sd_M) (hx : sd_ns x m) (h9 : sd_L9 x) (hz : x (4254 + s) = (n : Int)) (hk : 0 ≤ x (4200 + ((12 * s) + i)) ∧ x (4200 + ((12 * s) + i)) ≤ 2) (hw : (-900 + 18 * (r : Int) + 18 ≤ w ∧ w ≤ 900 - 18 * (r : Int) - 18)) (ho : (-900 + 18 * (r : Int) + 18 ≤ o ∧ o ≤ 900 - 18 * (r : Int) - 18)) (hrec : 0 < r → ∀ w o : Int, (-900 + 18 * (r : Int) ≤ w ∧ w ≤ 900 - 18 * (r : Int)) → (-900 + 18 * (r : Int) ≤ o ∧ o ≤ 900 - 18 * (r : Int)) → sd_Cp sd_SM r sY11_fixed [.inr 15, .inl (s : Int), .inl ((i : Int) + 1), .inl w, .inl o] m (.inl (sd_pv x (sd_pl4 x s) n r w o))) : sd_Cp sd_SM (r + 1) sY11_fixed [.inr 15, .inl (s : Int), .inl (i : Int), .inl w, .inl o] m (.inl (sd_pv x (sd_pl4 x s) n (r + 1) w o)) := by
  refine sd_ct rfl (Nat.le_of_ble_eq_true rfl) (fun hok hm => ?_)
  have hgr := sd_pv_rng x (sd_pl4 x s) n r
  have b0 := h9 0 (by decide)
  have b1 := h9 1 (by decide)
  have b2 := h9 2 (by decide)
  have b3 := h9 3 (by decide)
  have b4 := h9 4 (by decide)
  have b5 := h9 5 (by decide)
  simp only [Nat.reduceAdd, Nat.reduceMul, Nat.add_zero] at b0 b1 b2 b3 b4 b5
  show sd_Wp sd_SM (r + 1) sY11_fixed 0 [some (.inr 15), some (.inl (s : Int)), some (.inl (i : Int)), some (.inl w), some (.inl o), none, none, none, none, none, none, none, none] [] m _
  refine sd_aload_n sD11_fixed_0 rfl ?_
  refine sd_getfr sD11_fixed_1 sF11_49 sGM15_22 ?_
  refine sd_bipush sD11_fixed_4 rfl (by decide) ?_
  refine sd_iload_n sD11_fixed_6 rfl ?_
  refine sd_imul (z := (12 * (s : Int))) sD11_fixed_7 (by omega) (by omega) ?_
  refine sd_iload_n sD11_fixed_8 rfl ?_
  refine sd_iadd (z := ((12 * (s : Int)) + (i : Int))) sD11_fixed_9 (by omega) (by omega) ?_
  refine sd_ialdx (a := (4200 + ((12 * s) + i))) (v := x (4200 + ((12 * s) + i))) hx sD11_fixed_10 sAM13 (by omega) rfl ?_
  rcases (show x (4200 + ((12 * s) + i)) = 0 ∨ x (4200 + ((12 * s) + i)) = 1 ∨ x (4200 + ((12 * s) + i)) = 2 by omega) with zs11 | zs11 | zs11
  ·
    refine sd_eqs (ls' := [some (.inr 15), some (.inl (s : Int)), some (.inl (i : Int)), some (.inl w), some (.inl o), none, none, none, none, none, none, none, none]) (st' := [.inl 0]) ?_ rfl (by rw [zs11])
    refine sd_istore (ls' := [some (.inr 15), some (.inl (s : Int)), some (.inl (i : Int)), some (.inl w), some (.inl o), some (.inl 0), none, none, none, none, none, none, none]) sD11_fixed_11 (by decide) rfl ?_
    have eK := sd_fix1 x s i r n hn h9 (k := 0) (by decide) zs11 w o
    simp only [Nat.reduceMul, Nat.reduceAdd, Nat.mul_zero, Nat.add_zero] at eK
    refine sd_iload_n sD11_fixed_13 rfl ?_
    refine sd_aload_n sD11_fixed_14 rfl ?_
    refine sd_getfr sD11_fixed_15 sF11_7 sGM15_0 ?_
    refine sd_sipush sD11_fixed_18 rfl (by decide) ?_
    refine sd_iconst sD11_fixed_21 (by decide) ?_
    refine sd_iload sD11_fixed_22 rfl ?_
    refine sd_imul (z := 0) sD11_fixed_24 (by omega) (by omega) ?_
    refine sd_iadd (z := 1302) sD11_fixed_25 (by omega) (by omega) ?_
    refine sd_ialdx (a := 1302) (v := x 1302) hx sD11_fixed_26 sAM0 (by omega) rfl ?_
    refine sd_iadd (z := (w + x 1302)) sD11_fixed_27 (by omega) (by omega) ?_
    refine sd_istore (ls' := [some (.inr 15), some (.inl (s : Int)), some (.inl (i : Int)), some (.inl w), some (.inl o), some (.inl 0), some (.inl (w + x 1302)), none, none, none, none, none, none]) sD11_fixed_28 (by decide) rfl ?_
    refine sd_iload sD11_fixed_30 rfl ?_
    refine sd_aload_n sD11_fixed_32 rfl ?_
    refine sd_getfr sD11_fixed_33 sF11_7 sGM15_0 ?_
    refine sd_sipush sD11_fixed_36 rfl (by decide) ?_
    refine sd_iconst sD11_fixed_39 (by decide) ?_
    refine sd_iload sD11_fixed_40 rfl ?_
    refine sd_imul (z := 0) sD11_fixed_42 (by omega) (by omega) ?_
    refine sd_iadd (z := 1302) sD11_fixed_43 (by omega) (by omega) ?_
    refine sd_iconst sD11_fixed_44 (by decide) ?_
    refine sd_iadd (z := 1303) sD11_fixed_45 (by omega) (by omega) ?_
    refine sd_ialdx (a := 1303) (v := x 1303) hx sD11_fixed_46 sAM0 (by omega) rfl ?_
    refine sd_iadd (z := (o + x 1303)) sD11_fixed_47 (by omega) (by omega) ?_
    refine sd_istore (ls' := [some (.inr 15), some (.inl (s : Int)), some (.inl (i : Int)), some (.inl w), some (.inl o), some (.inl 0), some (.inl (w + x 1302)), some (.inl (o + x 1303)), none, none, none, none, none]) sD11_fixed_48 (by decide) rfl ?_
    refine sd_iload sD11_fixed_50 rfl ?_
    refine sd_iload sD11_fixed_52 rfl ?_
    refine sd_callSp (as := [.inl (w + x 1302), .inl (o + x 1303)]) (st := []) (v := .inl (sd_std (w + x 1302) (o + x 1303))) sD11_fixed_54 sM11_211 rfl rfl (by omega) (Nat.le_of_ble_eq_true rfl) (cM_stands (w + x 1302) (o + x 1303) _ m hx  ) (fun ho54 => ?_)
    have e57 := sd_std_cases (w + x 1302) (o + x 1303)
    refine sd_istore (ls' := [some (.inr 15), some (.inl (s : Int)), some (.inl (i : Int)), some (.inl w), some (.inl o), some (.inl 0), some (.inl (w + x 1302)), some (.inl (o + x 1303)), some (.inl (sd_std (w + x 1302) (o + x 1303))), none, none, none, none]) sD11_fixed_57 (by decide) rfl ?_
    refine sd_iload sD11_fixed_59 rfl ?_
    refine sd_if_eq (tgt := 67) sD11_fixed_61 (by decide) (fun zc61 => ?_) (fun zc61 => ?_)
    ·
      have eC0 := sd_pC_rng hgr (w + x 1302 + x 1308) (o + x 1303 + x 1309)
      have eC1 := sd_pC_rng hgr (w + x 1302 + x 1310) (o + x 1303 + x 1311)
      have eC2 := sd_pC_rng hgr (w + x 1302 + x 1312) (o + x 1303 + x 1313)
      refine sd_iconst sD11_fixed_67 (by decide) ?_
      refine sd_istore (ls' := [some (.inr 15), some (.inl (s : Int)), some (.inl (i : Int)), some (.inl w), some (.inl o), some (.inl 0), some (.inl (w + x 1302)), some (.inl (o + x 1303)), some (.inl 1), none, none, none, none]) sD11_fixed_68 (by decide) rfl ?_
      refine sd_iconst sD11_fixed_70 (by decide) ?_
      refine sd_istore (ls' := [some (.inr 15), some (.inl (s : Int)), some (.inl (i : Int)), some (.inl w), some (.inl o), some (.inl 0), some (.inl (w + x 1302)), some (.inl (o + x 1303)), some (.inl 1), some (.inl 0), none, none, none]) sD11_fixed_71 (by decide) rfl ?_
      refine sd_iload sD11_fixed_73 rfl ?_
      refine sd_iconst sD11_fixed_75 (by decide) ?_
      refine sd_icmp_ge (tgt := 190) sD11_fixed_76 (by decide) (fun zc76 => (by exfalso; omega)) (fun zc76 => ?_)
      refine sd_iload sD11_fixed_79 rfl ?_
      refine sd_iconst sD11_fixed_81 (by decide) ?_
      refine sd_icmp_le (tgt := 190) sD11_fixed_82 (by decide) (fun zc82 => (by exfalso; omega)) (fun zc82 => ?_)
      refine sd_iload sD11_fixed_85 rfl ?_
      refine sd_aload_n sD11_fixed_87 rfl ?_
      refine sd_getfr sD11_fixed_88 sF11_7 sGM15_0 ?_
      refine sd_sipush sD11_fixed_91 rfl (by decide) ?_
      refine sd_iconst sD11_fixed_94 (by decide) ?_
      refine sd_iload sD11_fixed_95 rfl ?_
      refine sd_imul (z := 0) sD11_fixed_97 (by omega) (by omega) ?_
      refine sd_iadd (z := 1308) sD11_fixed_98 (by omega) (by omega) ?_
      refine sd_ialdx (a := 1308) (v := x 1308) hx sD11_fixed_99 sAM0 (by omega) rfl ?_
      refine sd_iadd (z := ((w + x 1302) + x 1308)) sD11_fixed_100 (by omega) (by omega) ?_
      refine sd_istore (ls' := [some (.inr 15), some (.inl (s : Int)), some (.inl (i : Int)), some (.inl w), some (.inl o), some (.inl 0), some (.inl (w + x 1302)), some (.inl (o + x 1303)), some (.inl 1), some (.inl 0), some (.inl ((w + x 1302) + x 1308)), none, none]) sD11_fixed_101 (by decide) rfl ?_
      refine sd_iload sD11_fixed_103 rfl ?_
      refine sd_aload_n sD11_fixed_105 rfl ?_
      refine sd_getfr sD11_fixed_106 sF11_7 sGM15_0 ?_
      refine sd_sipush sD11_fixed_109 rfl (by decide) ?_
      refine sd_iconst sD11_fixed_112 (by decide) ?_
      refine sd_iload sD11_fixed_113 rfl ?_
      refine sd_imul (z := 0) sD11_fixed_115 (by omega) (by omega) ?_
      refine sd_iadd (z := 1308) sD11_fixed_116 (by omega) (by omega) ?_
      refine sd_iconst sD11_fixed_117 (by decide) ?_
      refine sd_iadd (z := 1309) sD11_fixed_118 (by omega) (by omega) ?_
      refine sd_ialdx (a := 1309) (v := x 1309) hx sD11_fixed_119 sAM0 (by omega) rfl ?_
      refine sd_iadd (z := ((o + x 1303) + x 1309)) sD11_fixed_120 (by omega) (by omega) ?_
      refine sd_istore (ls' := [some (.inr 15), some (.inl (s : Int)), some (.inl (i : Int)), some (.inl w), some (.inl o), some (.inl 0), some (.inl (w + x 1302)), some (.inl (o + x 1303)), some (.inl 1), some (.inl 0), some (.inl ((w + x 1302) + x 1308)), some (.inl ((o + x 1303) + x 1309)), none]) sD11_fixed_121 (by decide) rfl ?_
      refine sd_iload sD11_fixed_123 rfl ?_
      refine sd_iload sD11_fixed_125 rfl ?_
      refine sd_callSp (as := [.inl ((w + x 1302) + x 1308), .inl ((o + x 1303) + x 1309)]) (st := []) (v := .inl (sd_std ((w + x 1302) + x 1308) ((o + x 1303) + x 1309))) sD11_fixed_127 sM11_211 rfl rfl (by omega) (Nat.le_of_ble_eq_true rfl) (cM_stands ((w + x 1302) + x 1308) ((o + x 1303) + x 1309) _ m hx  ) (fun ho127 => ?_)
      refine sd_istore (ls' := [some (.inr 15), some (.inl (s : Int)), some (.inl (i : Int)), some (.inl w), some (.inl o), some (.inl 0), some (.inl (w + x 1302)), some (.inl (o + x 1303)), some (.inl 1), some (.inl 0), some (.inl ((w + x 1302) + x 1308)), some (.inl ((o + x 1303) + x 1309)), some (.inl (sd_std ((w + x 1302) + x 1308) ((o + x 1303) + x 1309)))]) sD11_fixed_130 (by decide) rfl ?_
      refine sd_iload sD11_fixed_132 rfl ?_
      refine sd_cut (J := 166) (ls := [some (.inr 15), some (.inl (s : Int)), some (.inl (i : Int)), some (.inl w), some (.inl o), some (.inl 0), some (.inl (w + x 1302)), some (.inl (o + x 1303)), some (.inl 1), some (.inl 0), some (.inl ((w + x 1302) + x 1308)), some (.inl ((o + x 1303) + x 1309)), some (.inl (sd_std ((w + x 1302) + x 1308) ((o + x 1303) + x 1309)))]) (st := []) (fun zv => zv = (sd_pC (sd_pv x (sd_pl4 x s) n r) ((w + x 1302) + x 1308) ((o + x 1303) + x 1309))) (fun zv hzv => ?_) (fun K134 => ?_)
      ·
        subst hzv
        refine sd_istore (ls' := [some (.inr 15), some (.inl (s : Int)), some (.inl (i : Int)), some (.inl w), some (.inl o), some (.inl 0), some (.inl (w + x 1302)), some (.inl (o + x 1303)), some (.inl 1), some (.inl 0), some (.inl ((w + x 1302) + x 1308)), some (.inl ((o + x 1303) + x 1309)), some (.inl (sd_pC (sd_pv x (sd_pl4 x s) n r) ((w + x 1302) + x 1308) ((o + x 1303) + x 1309)))]) sD11_fixed_166 (by decide) rfl ?_
        refine sd_iload sD11_fixed_168 rfl ?_
        refine sd_iload sD11_fixed_170 rfl ?_
        refine sd_cut (J := 182) (ls := [some (.inr 15), some (.inl (s : Int)), some (.inl (i : Int)), some (.inl w), some (.inl o), some (.inl 0), some (.inl (w + x 1302)), some (.inl (o + x 1303)), some (.inl 1), some (.inl 0), some (.inl ((w + x 1302) + x 1308)), some (.inl ((o + x 1303) + x 1309)), some (.inl (sd_pC (sd_pv x (sd_pl4 x s) n r) ((w + x 1302) + x 1308) ((o + x 1303) + x 1309)))]) (st := []) (fun zv => zv = (min 1 (sd_pC (sd_pv x (sd_pl4 x s) n r) ((w + x 1302) + x 1308) ((o + x 1303) + x 1309)))) (fun zv hzv => ?_) (fun K172 => ?_)
        ·
          subst hzv
          refine sd_istore (ls' := [some (.inr 15), some (.inl (s : Int)), some (.inl (i : Int)), some (.inl w), some (.inl o), some (.inl 0), some (.inl (w + x 1302)), some (.inl (o + x 1303)), some (.inl (min 1 (sd_pC (sd_pv x (sd_pl4 x s) n r) ((w + x 1302) + x 1308) ((o + x 1303) + x 1309)))), some (.inl 0), some (.inl ((w + x 1302) + x 1308)), some (.inl ((o + x 1303) + x 1309)), some (.inl (sd_pC (sd_pv x (sd_pl4 x s) n r) ((w + x 1302) + x 1308) ((o + x 1303) + x 1309)))]) sD11_fixed_182 (by decide) rfl ?_
          refine sd_iinc (y := 1) (ls' := [some (.inr 15), some (.inl (s : Int)), some (.inl (i : Int)), some (.inl w), some (.inl o), some (.inl 0), some (.inl (w + x 1302)), some (.inl (o + x 1303)), some (.inl (min 1 (sd_pC (sd_pv x (sd_pl4 x s) n r) ((w + x 1302) + x 1308) ((o + x 1303) + x 1309)))), some (.inl 1), some (.inl ((w + x 1302) + x 1308)), some (.inl ((o + x 1303) + x 1309)), some (.inl (sd_pC (sd_pv x (sd_pl4 x s) n r) ((w + x 1302) + x 1308) ((o + x 1303) + x 1309)))]) sD11_fixed_184 rfl (by omega) (by omega) (by decide) rfl ?_
          refine sd_goto (tgt := 73) sD11_fixed_187 (by decide) ?_
          refine sd_iload sD11_fixed_73 rfl ?_
          refine sd_iconst sD11_fixed_75 (by decide) ?_
          refine sd_icmp_ge (tgt := 190) sD11_fixed_76 (by decide) (fun zc76 => (by exfalso; omega)) (fun zc76 => ?_)
          refine sd_iload sD11_fixed_79 rfl ?_
          refine sd_iconst sD11_fixed_81 (by decide) ?_
          refine sd_icmp_le (tgt := 190) sD11_fixed_82 (by decide) (fun zc82 => ?_) (fun zc82 => ?_)
          ·
            refine sd_iload sD11_fixed_190 rfl ?_
            refine sd_iretp sD11_fixed_192 rfl ?_
            (rw [eK]; unfold sd_pM; rcases e57 with e57 | e57 | e57 <;> first | (exfalso; omega) | (rw [if_pos (by omega)]; omega) | (rw [if_neg (by omega), if_pos (by omega)]; omega) | (rw [if_neg (by omega), if_neg (by omega), ← b3.2.2.1, ← b3.2.2.2, ← b4.2.2.1, ← b4.2.2.2, ← b5.2.2.1, ← b5.2.2.2]; omega))
          ·
            refine sd_iload sD11_fixed_85 rfl ?_
            refine sd_aload_n sD11_fixed_87 rfl ?_
            refine sd_getfr sD11_fixed_88 sF11_7 sGM15_0 ?_
            refine sd_sipush sD11_fixed_91 rfl (by decide) ?_
            refine sd_iconst sD11_fixed_94 (by decide) ?_
            refine sd_iload sD11_fixed_95 rfl ?_
            refine sd_imul (z := 2) sD11_fixed_97 (by omega) (by omega) ?_
            refine sd_iadd (z := 1310) sD11_fixed_98 (by omega) (by omega) ?_
            refine sd_ialdx (a := 1310) (v := x 1310) hx sD11_fixed_99 sAM0 (by omega) rfl ?_
            refine sd_iadd (z := ((w + x 1302) + x 1310)) sD11_fixed_100 (by omega) (by omega) ?_
            refine sd_istore (ls' := [some (.inr 15), some (.inl (s : Int)), some (.inl (i : Int)), some (.inl w), some (.inl o), some (.inl 0), some (.inl (w + x 1302)), some (.inl (o + x 1303)), some (.inl (min 1 (sd_pC (sd_pv x (sd_pl4 x s) n r) ((w + x 1302) + x 1308) ((o + x 1303) + x 1309)))), some (.inl 1), some (.inl ((w + x 1302) + x 1310)), some (.inl ((o + x 1303) + x 1309)), some (.inl (sd_pC (sd_pv x (sd_pl4 x s) n r) ((w + x 1302) + x 1308) ((o + x 1303) + x 1309)))]) sD11_fixed_101 (by decide) rfl ?_
            refine sd_iload sD11_fixed_103 rfl ?_
            refine sd_aload_n sD11_fixed_105 rfl ?_
            refine sd_getfr sD11_fixed_106 sF11_7 sGM15_0 ?_
            refine sd_sipush sD11_fixed_109 rfl (by decide) ?_
            refine sd_iconst sD11_fixed_112 (by decide) ?_
            refine sd_iload sD11_fixed_113 rfl ?_
            refine sd_imul (z := 2) sD11_fixed_115 (by omega) (by omega) ?_
            refine sd_iadd (z := 1310) sD11_fixed_116 (by omega) (by omega) ?_
            refine sd_iconst sD11_fixed_117 (by decide) ?_
            refine sd_iadd (z := 1311) sD11_fixed_118 (by omega) (by omega) ?_
            refine sd_ialdx (a := 1311) (v := x 1311) hx sD11_fixed_119 sAM0 (by omega) rfl ?_
            refine sd_iadd (z := ((o + x 1303) + x 1311)) sD11_fixed_120 (by omega) (by omega) ?_
            refine sd_istore (ls' := [some (.inr 15), some (.inl (s : Int)), some (.inl (i : Int)), some (.inl w), some (.inl o), some (.inl 0), some (.inl (w + x 1302)), some (.inl (o + x 1303)), some (.inl (min 1 (sd_pC (sd_pv x (sd_pl4 x s) n r) ((w + x 1302) + x 1308) ((o + x 1303) + x 1309)))), some (.inl 1), some (.inl ((w + x 1302) + x 1310)), some (.inl ((o + x 1303) + x 1311)), some (.inl (sd_pC (sd_pv x (sd_pl4 x s) n r) ((w + x 1302) + x 1308) ((o + x 1303) + x 1309)))]) sD11_fixed_121 (by decide) rfl ?_
            refine sd_iload sD11_fixed_123 rfl ?_
            refine sd_iload sD11_fixed_125 rfl ?_
            refine sd_callSp (as := [.inl ((w + x 1302) + x 1310), .inl ((o + x 1303) + x 1311)]) (st := []) (v := .inl (sd_std ((w + x 1302) + x 1310) ((o + x 1303) + x 1311))) sD11_fixed_127 sM11_211 rfl rfl (by omega) (Nat.le_of_ble_eq_true rfl) (cM_stands ((w + x 1302) + x 1310) ((o + x 1303) + x 1311) _ m hx  ) (fun ho127 => ?_)
            refine sd_istore (ls' := [some (.inr 15), some (.inl (s : Int)), some (.inl (i : Int)), some (.inl w), some (.inl o), some (.inl 0), some (.inl (w + x 1302)), some (.inl (o + x 1303)), some (.inl (min 1 (sd_pC (sd_pv x (sd_pl4 x s) n r) ((w + x 1302) + x 1308) ((o + x 1303) + x 1309)))), some (.inl 1), some (.inl ((w + x 1302) + x 1310)), some (.inl ((o + x 1303) + x 1311)), some (.inl (sd_std ((w + x 1302) + x 1310) ((o + x 1303) + x 1311)))]) sD11_fixed_130 (by decide) rfl ?_
            refine sd_iload sD11_fixed_132 rfl ?_
            refine sd_cut (J := 166) (ls := [some (.inr 15), some (.inl (s : Int)), some (.inl (i : Int)), some (.inl w), some (.inl o), some (.inl 0), some (.inl (w + x 1302)), some (.inl (o + x 1303)), some (.inl (min 1 (sd_pC (sd_pv x (sd_pl4 x s) n r) ((w + x 1302) + x 1308) ((o + x 1303) + x 1309)))), some (.inl 1), some (.inl ((w + x 1302) + x 1310)), some (.inl ((o + x 1303) + x 1311)), some (.inl (sd_std ((w + x 1302) + x 1310) ((o + x 1303) + x 1311)))]) (st := []) (fun zv => zv = (sd_pC (sd_pv x (sd_pl4 x s) n r) ((w + x 1302) + x 1310) ((o + x 1303) + x 1311))) (fun zv hzv => ?_) (fun K134 => ?_)
            ·
              subst hzv
              refine sd_istore (ls' := [some (.inr 15), some (.inl (s : Int)), some (.inl (i : Int)), some (.inl w), some (.inl o), some (.inl 0), some (.inl (w + x 1302)), some (.inl (o + x 1303)), some (.inl (min 1 (sd_pC (sd_pv x (sd_pl4 x s) n r) ((w + x 1302) + x 1308) ((o + x 1303) + x 1309)))), some (.inl 1), some (.inl ((w + x 1302) + x 1310)), some (.inl ((o + x 1303) + x 1311)), some (.inl (sd_pC (sd_pv x (sd_pl4 x s) n r) ((w + x 1302) + x 1310) ((o + x 1303) + x 1311)))]) sD11_fixed_166 (by decide) rfl ?_
              refine sd_iload sD11_fixed_168 rfl ?_
              refine sd_iload sD11_fixed_170 rfl ?_
              refine sd_cut (J := 182) (ls := [some (.inr 15), some (.inl (s : Int)), some (.inl (i : Int)), some (.inl w), some (.inl o), some (.inl 0), some (.inl (w + x 1302)), some (.inl (o + x 1303)), some (.inl (min 1 (sd_pC (sd_pv x (sd_pl4 x s) n r) ((w + x 1302) + x 1308) ((o + x 1303) + x 1309)))), some (.inl 1), some (.inl ((w + x 1302) + x 1310)), some (.inl ((o + x 1303) + x 1311)), some (.inl (sd_pC (sd_pv x (sd_pl4 x s) n r) ((w + x 1302) + x 1310) ((o + x 1303) + x 1311)))]) (st := []) (fun zv => zv = (min (min 1 (sd_pC (sd_pv x (sd_pl4 x s) n r) ((w + x 1302) + x 1308) ((o + x 1303) + x 1309))) (sd_pC (sd_pv x (sd_pl4 x s) n r) ((w + x 1302) + x 1310) ((o + x 1303) + x 1311)))) (fun zv hzv => ?_) (fun K172 => ?_)
              ·
                subst hzv
                refine sd_istore (ls' := [some (.inr 15), some (.inl (s : Int)), some (.inl (i : Int)), some (.inl w), some (.inl o), some (.inl 0), some (.inl (w + x 1302)), some (.inl (o + x 1303)), some (.inl (min (min 1 (sd_pC (sd_pv x (sd_pl4 x s) n r) ((w + x 1302) + x 1308) ((o + x 1303) + x 1309))) (sd_pC (sd_pv x (sd_pl4 x s) n r) ((w + x 1302) + x 1310) ((o + x 1303) + x 1311)))), some (.inl 1), some (.inl ((w + x 1302) + x 1310)), some (.inl ((o + x 1303) + x 1311)), some (.inl (sd_pC (sd_pv x (sd_pl4 x s) n r) ((w + x 1302) + x 1310) ((o + x 1303) + x 1311)))]) sD11_fixed_182 (by decide) rfl ?_
                refine sd_iinc (y := 2) (ls' := [some (.inr 15), some (.inl (s : Int)), some (.inl (i : Int)), some (.inl w), some (.inl o), some (.inl 0), some (.inl (w + x 1302)), some (.inl (o + x 1303)), some (.inl (min (min 1 (sd_pC (sd_pv x (sd_pl4 x s) n r) ((w + x 1302) + x 1308) ((o + x 1303) + x 1309))) (sd_pC (sd_pv x (sd_pl4 x s) n r) ((w + x 1302) + x 1310) ((o + x 1303) + x 1311)))), some (.inl 2), some (.inl ((w + x 1302) + x 1310)), some (.inl ((o + x 1303) + x 1311)), some (.inl (sd_pC (sd_pv x (sd_pl4 x s) n r) ((w + x 1302) + x 1310) ((o + x 1303) + x 1311)))]) sD11_fixed_184 rfl (by omega) (by omega) (by decide) rfl ?_
                refine sd_goto (tgt := 73) sD11_fixed_187 (by decide) ?_
                refine sd_iload sD11_fixed_73 rfl ?_
                refine sd_iconst sD11_fixed_75 (by decide) ?_
                refine sd_icmp_ge (tgt := 190) sD11_fixed_76 (by decide) (fun zc76 => (by exfalso; omega)) (fun zc76 => ?_)
                refine sd_iload sD11_fixed_79 rfl ?_
                refine sd_iconst sD11_fixed_81 (by decide) ?_
                refine sd_icmp_le (tgt := 190) sD11_fixed_82 (by decide) (fun zc82 => ?_) (fun zc82 => ?_)
                ·
                  refine sd_iload sD11_fixed_190 rfl ?_
                  refine sd_iretp sD11_fixed_192 rfl ?_
                  (rw [eK]; unfold sd_pM; rcases e57 with e57 | e57 | e57 <;> first | (exfalso; omega) | (rw [if_pos (by omega)]; omega) | (rw [if_neg (by omega), if_pos (by omega)]; omega) | (rw [if_neg (by omega), if_neg (by omega), ← b3.2.2.1, ← b3.2.2.2, ← b4.2.2.1, ← b4.2.2.2, ← b5.2.2.1, ← b5.2.2.2]; omega))
                ·
                  refine sd_iload sD11_fixed_85 rfl ?_
                  refine sd_aload_n sD11_fixed_87 rfl ?_
                  refine sd_getfr sD11_fixed_88 sF11_7 sGM15_0 ?_
                  refine sd_sipush sD11_fixed_91 rfl (by decide) ?_
                  refine sd_iconst sD11_fixed_94 (by decide) ?_
                  refine sd_iload sD11_fixed_95 rfl ?_
                  refine sd_imul (z := 4) sD11_fixed_97 (by omega) (by omega) ?_
                  refine sd_iadd (z := 1312) sD11_fixed_98 (by omega) (by omega) ?_
                  refine sd_ialdx (a := 1312) (v := x 1312) hx sD11_fixed_99 sAM0 (by omega) rfl ?_
                  refine sd_iadd (z := ((w + x 1302) + x 1312)) sD11_fixed_100 (by omega) (by omega) ?_
                  refine sd_istore (ls' := [some (.inr 15), some (.inl (s : Int)), some (.inl (i : Int)), some (.inl w), some (.inl o), some (.inl 0), some (.inl (w + x 1302)), some (.inl (o + x 1303)), some (.inl (min (min 1 (sd_pC (sd_pv x (sd_pl4 x s) n r) ((w + x 1302) + x 1308) ((o + x 1303) + x 1309))) (sd_pC (sd_pv x (sd_pl4 x s) n r) ((w + x 1302) + x 1310) ((o + x 1303) + x 1311)))), some (.inl 2), some (.inl ((w + x 1302) + x 1312)), some (.inl ((o + x 1303) + x 1311)), some (.inl (sd_pC (sd_pv x (sd_pl4 x s) n r) ((w + x 1302) + x 1310) ((o + x 1303) + x 1311)))]) sD11_fixed_101 (by decide) rfl ?_
                  refine sd_iload sD11_fixed_103 rfl ?_
                  refine sd_aload_n sD11_fixed_105 rfl ?_
                  refine sd_getfr sD11_fixed_106 sF11_7 sGM15_0 ?_
                  refine sd_sipush sD11_fixed_109 rfl (by decide) ?_
                  refine sd_iconst sD11_fixed_112 (by decide) ?_
                  refine sd_iload sD11_fixed_113 rfl ?_
                  refine sd_imul (z := 4) sD11_fixed_115 (by omega) (by omega) ?_
                  refine sd_iadd (z := 1312) sD11_fixed_116 (by omega) (by omega) ?_
                  refine sd_iconst sD11_fixed_117 (by decide) ?_
                  refine sd_iadd (z := 1313) sD11_fixed_118 (by omega) (by omega) ?_
                  refine sd_ialdx (a := 1313) (v := x 1313) hx sD11_fixed_119 sAM0 (by omega) rfl ?_
                  refine sd_iadd (z := ((o + x 1303) + x 1313)) sD11_fixed_120 (by omega) (by omega) ?_
                  refine sd_istore (ls' := [some (.inr 15), some (.inl (s : Int)), some (.inl (i : Int)), some (.inl w), some (.inl o), some (.inl 0), some (.inl (w + x 1302)), some (.inl (o + x 1303)), some (.inl (min (min 1 (sd_pC (sd_pv x (sd_pl4 x s) n r) ((w + x 1302) + x 1308) ((o + x 1303) + x 1309))) (sd_pC (sd_pv x (sd_pl4 x s) n r) ((w + x 1302) + x 1310) ((o + x 1303) + x 1311)))), some (.inl 2), some (.inl ((w + x 1302) + x 1312)), some (.inl ((o + x 1303) + x 1313)), some (.inl (sd_pC (sd_pv x (sd_pl4 x s) n r) ((w + x 1302) + x 1310) ((o + x 1303) + x 1311)))]) sD11_fixed_121 (by decide) rfl ?_
                  refine sd_iload sD11_fixed_123 rfl ?_
                  refine sd_iload sD11_fixed_125 rfl ?_
                  refine sd_callSp (as := [.inl ((w + x 1302) + x 1312), .inl ((o + x 1303) + x 1313)]) (st := []) (v := .inl (sd_std ((w + x 1302) + x 1312) ((o + x 1303) + x 1313))) sD11_fixed_127 sM11_211 rfl rfl (by omega) (Nat.le_of_ble_eq_true rfl) (cM_stands ((w + x 1302) + x 1312) ((o + x 1303) + x 1313) _ m hx  ) (fun ho127 => ?_)
                  refine sd_istore (ls' := [some (.inr 15), some (.inl (s : Int)), some (.inl (i : Int)), some (.inl w), some (.inl o), some (.inl 0), some (.inl (w + x 1302)), some (.inl (o + x 1303)), some (.inl (min (min 1 (sd_pC (sd_pv x (sd_pl4 x s) n r) ((w + x 1302) + x 1308) ((o + x 1303) + x 1309))) (sd_pC (sd_pv x (sd_pl4 x s) n r) ((w + x 1302) + x 1310) ((o + x 1303) + x 1311)))), some (.inl 2), some (.inl ((w + x 1302) + x 1312)), some (.inl ((o + x 1303) + x 1313)), some (.inl (sd_std ((w + x 1302) + x 1312) ((o + x 1303) + x 1313)))]) sD11_fixed_130 (by decide) rfl ?_
                  refine sd_iload sD11_fixed_132 rfl ?_
                  refine sd_cut (J := 166) (ls := [some (.inr 15), some (.inl (s : Int)), some (.inl (i : Int)), some (.inl w), some (.inl o), some (.inl 0), some (.inl (w + x 1302)), some (.inl (o + x 1303)), some (.inl (min (min 1 (sd_pC (sd_pv x (sd_pl4 x s) n r) ((w + x 1302) + x 1308) ((o + x 1303) + x 1309))) (sd_pC (sd_pv x (sd_pl4 x s) n r) ((w + x 1302) + x 1310) ((o + x 1303) + x 1311)))), some (.inl 2), some (.inl ((w + x 1302) + x 1312)), some (.inl ((o + x 1303) + x 1313)), some (.inl (sd_std ((w + x 1302) + x 1312) ((o + x 1303) + x 1313)))]) (st := []) (fun zv => zv = (sd_pC (sd_pv x (sd_pl4 x s) n r) ((w + x 1302) + x 1312) ((o + x 1303) + x 1313))) (fun zv hzv => ?_) (fun K134 => ?_)
                  ·
                    subst hzv
                    refine sd_istore (ls' := [some (.inr 15), some (.inl (s : Int)), some (.inl (i : Int)), some (.inl w), some (.inl o), some (.inl 0), some (.inl (w + x 1302)), some (.inl (o + x 1303)), some (.inl (min (min 1 (sd_pC (sd_pv x (sd_pl4 x s) n r) ((w + x 1302) + x 1308) ((o + x 1303) + x 1309))) (sd_pC (sd_pv x (sd_pl4 x s) n r) ((w + x 1302) + x 1310) ((o + x 1303) + x 1311)))), some (.inl 2), some (.inl ((w + x 1302) + x 1312)), some (.inl ((o + x 1303) + x 1313)), some (.inl (sd_pC (sd_pv x (sd_pl4 x s) n r) ((w + x 1302) + x 1312) ((o + x 1303) + x 1313)))]) sD11_fixed_166 (by decide) rfl ?_
                    refine sd_iload sD11_fixed_168 rfl ?_
                    refine sd_iload sD11_fixed_170 rfl ?_
                    refine sd_cut (J := 182) (ls := [some (.inr 15), some (.inl (s : Int)), some (.inl (i : Int)), some (.inl w), some (.inl o), some (.inl 0), some (.inl (w + x 1302)), some (.inl (o + x 1303)), some (.inl (min (min 1 (sd_pC (sd_pv x (sd_pl4 x s) n r) ((w + x 1302) + x 1308) ((o + x 1303) + x 1309))) (sd_pC (sd_pv x (sd_pl4 x s) n r) ((w + x 1302) + x 1310) ((o + x 1303) + x 1311)))), some (.inl 2), some (.inl ((w + x 1302) + x 1312)), some (.inl ((o + x 1303) + x 1313)), some (.inl (sd_pC (sd_pv x (sd_pl4 x s) n r) ((w + x 1302) + x 1312) ((o + x 1303) + x 1313)))]) (st := []) (fun zv => zv = (min (min (min 1 (sd_pC (sd_pv x (sd_pl4 x s) n r) ((w + x 1302) + x 1308) ((o + x 1303) + x 1309))) (sd_pC (sd_pv x (sd_pl4 x s) n r) ((w + x 1302) + x 1310) ((o + x 1303) + x 1311))) (sd_pC (sd_pv x (sd_pl4 x s) n r) ((w + x 1302) + x 1312) ((o + x 1303) + x 1313)))) (fun zv hzv => ?_) (fun K172 => ?_)
                    ·
                      subst hzv
                      refine sd_istore (ls' := [some (.inr 15), some (.inl (s : Int)), some (.inl (i : Int)), some (.inl w), some (.inl o), some (.inl 0), some (.inl (w + x 1302)), some (.inl (o + x 1303)), some (.inl (min (min (min 1 (sd_pC (sd_pv x (sd_pl4 x s) n r) ((w + x 1302) + x 1308) ((o + x 1303) + x 1309))) (sd_pC (sd_pv x (sd_pl4 x s) n r) ((w + x 1302) + x 1310) ((o + x 1303) + x 1311))) (sd_pC (sd_pv x (sd_pl4 x s) n r) ((w + x 1302) + x 1312) ((o + x 1303) + x 1313)))), some (.inl 2), some (.inl ((w + x 1302) + x 1312)), some (.inl ((o + x 1303) + x 1313)), some (.inl (sd_pC (sd_pv x (sd_pl4 x s) n r) ((w + x 1302) + x 1312) ((o + x 1303) + x 1313)))]) sD11_fixed_182 (by decide) rfl ?_
                      refine sd_iinc (y := 3) (ls' := [some (.inr 15), some (.inl (s : Int)), some (.inl (i : Int)), some (.inl w), some (.inl o), some (.inl 0), some (.inl (w + x 1302)), some (.inl (o + x 1303)), some (.inl (min (min (min 1 (sd_pC (sd_pv x (sd_pl4 x s) n r) ((w + x 1302) + x 1308) ((o + x 1303) + x 1309))) (sd_pC (sd_pv x (sd_pl4 x s) n r) ((w + x 1302) + x 1310) ((o + x 1303) + x 1311))) (sd_pC (sd_pv x (sd_pl4 x s) n r) ((w + x 1302) + x 1312) ((o + x 1303) + x 1313)))), some (.inl 3), some (.inl ((w + x 1302) + x 1312)), some (.inl ((o + x 1303) + x 1313)), some (.inl (sd_pC (sd_pv x (sd_pl4 x s) n r) ((w + x 1302) + x 1312) ((o + x 1303) + x 1313)))]) sD11_fixed_184 rfl (by omega) (by omega) (by decide) rfl ?_
                      refine sd_goto (tgt := 73) sD11_fixed_187 (by decide) ?_
                      refine sd_iload sD11_fixed_73 rfl ?_
                      refine sd_iconst sD11_fixed_75 (by decide) ?_
                      refine sd_icmp_ge (tgt := 190) sD11_fixed_76 (by decide) (fun zc76 => ?_) (fun zc76 => (by exfalso; omega))
                      refine sd_iload sD11_fixed_190 rfl ?_
                      refine sd_iretp sD11_fixed_192 rfl ?_
                      (rw [eK]; unfold sd_pM; rcases e57 with e57 | e57 | e57 <;> first | (exfalso; omega) | (rw [if_pos (by omega)]; omega) | (rw [if_neg (by omega), if_pos (by omega)]; omega) | (rw [if_neg (by omega), if_neg (by omega), ← b3.2.2.1, ← b3.2.2.2, ← b4.2.2.1, ← b4.2.2.2, ← b5.2.2.1, ← b5.2.2.2]; omega))
                    ·
                      refine sd_icmp_ge (tgt := 180) sD11_fixed_172 (by decide) (fun zc172 => ?_) (fun zc172 => ?_)
                      ·
                        refine sd_iload sD11_fixed_180 rfl ?_
                        exact K172 _ (by omega)
                      ·
                        refine sd_iload sD11_fixed_175 rfl ?_
                        refine sd_goto (tgt := 182) sD11_fixed_177 (by decide) ?_
                        exact K172 _ (by omega)
                  ·
                    refine sd_if_ne (tgt := 164) sD11_fixed_134 (by decide) (fun zc134 => ?_) (fun zc134 => ?_)
                    ·
                      refine sd_iload sD11_fixed_164 rfl ?_
                      exact K134 _ (by rw [sd_pC_std]; first | (rw [if_neg (by assumption)]; done) | (rw [if_pos (by assumption)]; done) | (rw [if_pos (by assumption)]; have hr0 : r = 0 := (by omega); rw [hr0]; assumption))
                    ·
                      refine sd_iload_n sD11_fixed_137 rfl ?_
                      refine sd_iconst sD11_fixed_138 (by decide) ?_
                      refine sd_iadd (z := ((i : Int) + 1)) sD11_fixed_139 (by omega) (by omega) ?_
                      refine sd_aload_n sD11_fixed_140 rfl ?_
                      refine sd_getfr sD11_fixed_141 sF11_46 sGM15_21 ?_
                      refine sd_iload_n sD11_fixed_144 rfl ?_
                      refine sd_ialdx (a := (4254 + s)) (v := x (4254 + s)) hx sD11_fixed_145 sAM12 (by omega) rfl ?_
                      refine sd_icmp_ge (tgt := 164) sD11_fixed_146 (by decide) (fun zc146 => ?_) (fun zc146 => ?_)
                      ·
                        refine sd_iload sD11_fixed_164 rfl ?_
                        exact K134 _ (by rw [sd_pC_std]; first | (rw [if_neg (by assumption)]; done) | (rw [if_pos (by assumption)]; done) | (rw [if_pos (by assumption)]; have hr0 : r = 0 := (by omega); rw [hr0]; assumption))
                      ·
                        refine sd_aload_n sD11_fixed_149 rfl ?_
                        refine sd_iload_n sD11_fixed_150 rfl ?_
                        refine sd_iload_n sD11_fixed_151 rfl ?_
                        refine sd_iconst sD11_fixed_152 (by decide) ?_
                        refine sd_iadd (z := ((i : Int) + 1)) sD11_fixed_153 (by omega) (by omega) ?_
                        refine sd_iload sD11_fixed_154 rfl ?_
                        refine sd_iload sD11_fixed_156 rfl ?_
                        refine sd_callVp (as := [.inl (s : Int), .inl ((i : Int) + 1), .inl ((w + x 1302) + x 1312), .inl ((o + x 1303) + x 1313)]) (st := []) (v := .inl (sd_pv x (sd_pl4 x s) n r ((w + x 1302) + x 1312) ((o + x 1303) + x 1313))) sD11_fixed_158 sM11_224 sOM15 rfl rfl rfl (by omega) (Nat.le_of_ble_eq_true rfl) (hrec (by omega) ((w + x 1302) + x 1312) ((o + x 1303) + x 1313) (by omega) (by omega)) (fun ho158 => ?_)
                        refine sd_goto (tgt := 166) sD11_fixed_161 (by decide) ?_
                        exact K134 _ (by rw [sd_pC_std]; first | (rw [if_neg (by assumption)]; done) | (rw [if_pos (by assumption)]; done) | (rw [if_pos (by assumption)]; have hr0 : r = 0 := (by omega); rw [hr0]; assumption))
              ·
                refine sd_icmp_ge (tgt := 180) sD11_fixed_172 (by decide) (fun zc172 => ?_) (fun zc172 => ?_)
                ·
                  refine sd_iload sD11_fixed_180 rfl ?_
                  exact K172 _ (by omega)
                ·
                  refine sd_iload sD11_fixed_175 rfl ?_
                  refine sd_goto (tgt := 182) sD11_fixed_177 (by decide) ?_
                  exact K172 _ (by omega)
            ·
              refine sd_if_ne (tgt := 164) sD11_fixed_134 (by decide) (fun zc134 => ?_) (fun zc134 => ?_)
              ·
                refine sd_iload sD11_fixed_164 rfl ?_
                exact K134 _ (by rw [sd_pC_std]; first | (rw [if_neg (by assumption)]; done) | (rw [if_pos (by assumption)]; done) | (rw [if_pos (by assumption)]; have hr0 : r = 0 := (by omega); rw [hr0]; assumption))
              ·
                refine sd_iload_n sD11_fixed_137 rfl ?_
                refine sd_iconst sD11_fixed_138 (by decide) ?_
                refine sd_iadd (z := ((i : Int) + 1)) sD11_fixed_139 (by omega) (by omega) ?_
                refine sd_aload_n sD11_fixed_140 rfl ?_
                refine sd_getfr sD11_fixed_141 sF11_46 sGM15_21 ?_
                refine sd_iload_n sD11_fixed_144 rfl ?_
                refine sd_ialdx (a := (4254 + s)) (v := x (4254 + s)) hx sD11_fixed_145 sAM12 (by omega) rfl ?_
                refine sd_icmp_ge (tgt := 164) sD11_fixed_146 (by decide) (fun zc146 => ?_) (fun zc146 => ?_)
                ·
                  refine sd_iload sD11_fixed_164 rfl ?_
                  exact K134 _ (by rw [sd_pC_std]; first | (rw [if_neg (by assumption)]; done) | (rw [if_pos (by assumption)]; done) | (rw [if_pos (by assumption)]; have hr0 : r = 0 := (by omega); rw [hr0]; assumption))
                ·
                  refine sd_aload_n sD11_fixed_149 rfl ?_
                  refine sd_iload_n sD11_fixed_150 rfl ?_
                  refine sd_iload_n sD11_fixed_151 rfl ?_
                  refine sd_iconst sD11_fixed_152 (by decide) ?_
                  refine sd_iadd (z := ((i : Int) + 1)) sD11_fixed_153 (by omega) (by omega) ?_
                  refine sd_iload sD11_fixed_154 rfl ?_
                  refine sd_iload sD11_fixed_156 rfl ?_
                  refine sd_callVp (as := [.inl (s : Int), .inl ((i : Int) + 1), .inl ((w + x 1302) + x 1310), .inl ((o + x 1303) + x 1311)]) (st := []) (v := .inl (sd_pv x (sd_pl4 x s) n r ((w + x 1302) + x 1310) ((o + x 1303) + x 1311))) sD11_fixed_158 sM11_224 sOM15 rfl rfl rfl (by omega) (Nat.le_of_ble_eq_true rfl) (hrec (by omega) ((w + x 1302) + x 1310) ((o + x 1303) + x 1311) (by omega) (by omega)) (fun ho158 => ?_)
                  refine sd_goto (tgt := 166) sD11_fixed_161 (by decide) ?_
                  exact K134 _ (by rw [sd_pC_std]; first | (rw [if_neg (by assumption)]; done) | (rw [if_pos (by assumption)]; done) | (rw [if_pos (by assumption)]; have hr0 : r = 0 := (by omega); rw [hr0]; assumption))
        ·
          refine sd_icmp_ge (tgt := 180) sD11_fixed_172 (by decide) (fun zc172 => ?_) (fun zc172 => ?_)
          ·
            refine sd_iload sD11_fixed_180 rfl ?_
            exact K172 _ (by omega)
          ·
            refine sd_iload sD11_fixed_175 rfl ?_
            refine sd_goto (tgt := 182) sD11_fixed_177 (by decide) ?_
            exact K172 _ (by omega)
      ·
        refine sd_if_ne (tgt := 164) sD11_fixed_134 (by decide) (fun zc134 => ?_) (fun zc134 => ?_)
        ·
          refine sd_iload sD11_fixed_164 rfl ?_
          exact K134 _ (by rw [sd_pC_std]; first | (rw [if_neg (by assumption)]; done) | (rw [if_pos (by assumption)]; done) | (rw [if_pos (by assumption)]; have hr0 : r = 0 := (by omega); rw [hr0]; assumption))
        ·
          refine sd_iload_n sD11_fixed_137 rfl ?_
          refine sd_iconst sD11_fixed_138 (by decide) ?_
          refine sd_iadd (z := ((i : Int) + 1)) sD11_fixed_139 (by omega) (by omega) ?_
          refine sd_aload_n sD11_fixed_140 rfl ?_
          refine sd_getfr sD11_fixed_141 sF11_46 sGM15_21 ?_
          refine sd_iload_n sD11_fixed_144 rfl ?_
          refine sd_ialdx (a := (4254 + s)) (v := x (4254 + s)) hx sD11_fixed_145 sAM12 (by omega) rfl ?_
          refine sd_icmp_ge (tgt := 164) sD11_fixed_146 (by decide) (fun zc146 => ?_) (fun zc146 => ?_)
          ·
            refine sd_iload sD11_fixed_164 rfl ?_
            exact K134 _ (by rw [sd_pC_std]; first | (rw [if_neg (by assumption)]; done) | (rw [if_pos (by assumption)]; done) | (rw [if_pos (by assumption)]; have hr0 : r = 0 := (by omega); rw [hr0]; assumption))
          ·
            refine sd_aload_n sD11_fixed_149 rfl ?_
            refine sd_iload_n sD11_fixed_150 rfl ?_
            refine sd_iload_n sD11_fixed_151 rfl ?_
            refine sd_iconst sD11_fixed_152 (by decide) ?_
            refine sd_iadd (z := ((i : Int) + 1)) sD11_fixed_153 (by omega) (by omega) ?_
            refine sd_iload sD11_fixed_154 rfl ?_
            refine sd_iload sD11_fixed_156 rfl ?_
            refine sd_callVp (as := [.inl (s : Int), .inl ((i : Int) + 1), .inl ((w + x 1302) + x 1308), .inl ((o + x 1303) + x 1309)]) (st := []) (v := .inl (sd_pv x (sd_pl4 x s) n r ((w + x 1302) + x 1308) ((o + x 1303) + x 1309))) sD11_fixed_158 sM11_224 sOM15 rfl rfl rfl (by omega) (Nat.le_of_ble_eq_true rfl) (hrec (by omega) ((w + x 1302) + x 1308) ((o + x 1303) + x 1309) (by omega) (by omega)) (fun ho158 => ?_)
            refine sd_goto (tgt := 166) sD11_fixed_161 (by decide) ?_
            exact K134 _ (by rw [sd_pC_std]; first | (rw [if_neg (by assumption)]; done) | (rw [if_pos (by assumption)]; done) | (rw [if_pos (by assumption)]; have hr0 : r = 0 := (by omega); rw [hr0]; assumption))
    ·
      refine sd_iload sD11_fixed_64 rfl ?_
      refine sd_iretp sD11_fixed_66 rfl ?_
      (rw [eK]; unfold sd_pM; rcases e57 with e57 | e57 | e57 <;> first | (exfalso; omega) | (rw [if_pos (by omega)]; omega) | (rw [if_neg (by omega), if_pos (by omega)]; omega) | (rw [if_neg (by omega), if_neg (by omega), ← b3.2.2.1, ← b3.2.2.2, ← b4.2.2.1, ← b4.2.2.2, ← b5.2.2.1, ← b5.2.2.2]; omega))
  ·
    refine sd_eqs (ls' := [some (.inr 15), some (.inl (s : Int)), some (.inl (i : Int)), some (.inl w), some (.inl o), none, none, none, none, none, none, none, none]) (st' := [.inl 1]) ?_ rfl (by rw [zs11])
    refine sd_istore (ls' := [some (.inr 15), some (.inl (s : Int)), some (.inl (i : Int)), some (.inl w), some (.inl o), some (.inl 1), none, none, none, none, none, none, none]) sD11_fixed_11 (by decide) rfl ?_
    have eK := sd_fix1 x s i r n hn h9 (k := 1) (by decide) zs11 w o
    simp only [Nat.reduceMul, Nat.reduceAdd, Nat.mul_zero, Nat.add_zero] at eK
    refine sd_iload_n sD11_fixed_13 rfl ?_
    refine sd_aload_n sD11_fixed_14 rfl ?_
    refine sd_getfr sD11_fixed_15 sF11_7 sGM15_0 ?_
    refine sd_sipush sD11_fixed_18 rfl (by decide) ?_
    refine sd_iconst sD11_fixed_21 (by decide) ?_
    refine sd_iload sD11_fixed_22 rfl ?_
    refine sd_imul (z := 2) sD11_fixed_24 (by omega) (by omega) ?_
    refine sd_iadd (z := 1304) sD11_fixed_25 (by omega) (by omega) ?_
    refine sd_ialdx (a := 1304) (v := x 1304) hx sD11_fixed_26 sAM0 (by omega) rfl ?_
    refine sd_iadd (z := (w + x 1304)) sD11_fixed_27 (by omega) (by omega) ?_
    refine sd_istore (ls' := [some (.inr 15), some (.inl (s : Int)), some (.inl (i : Int)), some (.inl w), some (.inl o), some (.inl 1), some (.inl (w + x 1304)), none, none, none, none, none, none]) sD11_fixed_28 (by decide) rfl ?_
    refine sd_iload sD11_fixed_30 rfl ?_
    refine sd_aload_n sD11_fixed_32 rfl ?_
    refine sd_getfr sD11_fixed_33 sF11_7 sGM15_0 ?_
    refine sd_sipush sD11_fixed_36 rfl (by decide) ?_
    refine sd_iconst sD11_fixed_39 (by decide) ?_
    refine sd_iload sD11_fixed_40 rfl ?_
    refine sd_imul (z := 2) sD11_fixed_42 (by omega) (by omega) ?_
    refine sd_iadd (z := 1304) sD11_fixed_43 (by omega) (by omega) ?_
    refine sd_iconst sD11_fixed_44 (by decide) ?_
    refine sd_iadd (z := 1305) sD11_fixed_45 (by omega) (by omega) ?_
    refine sd_ialdx (a := 1305) (v := x 1305) hx sD11_fixed_46 sAM0 (by omega) rfl ?_
    refine sd_iadd (z := (o + x 1305)) sD11_fixed_47 (by omega) (by omega) ?_
    refine sd_istore (ls' := [some (.inr 15), some (.inl (s : Int)), some (.inl (i : Int)), some (.inl w), some (.inl o), some (.inl 1), some (.inl (w + x 1304)), some (.inl (o + x 1305)), none, none, none, none, none]) sD11_fixed_48 (by decide) rfl ?_
    refine sd_iload sD11_fixed_50 rfl ?_
    refine sd_iload sD11_fixed_52 rfl ?_
    refine sd_callSp (as := [.inl (w + x 1304), .inl (o + x 1305)]) (st := []) (v := .inl (sd_std (w + x 1304) (o + x 1305))) sD11_fixed_54 sM11_211 rfl rfl (by omega) (Nat.le_of_ble_eq_true rfl) (cM_stands (w + x 1304) (o + x 1305) _ m hx  ) (fun ho54 => ?_)
    have e57 := sd_std_cases (w + x 1304) (o + x 1305)
    refine sd_istore (ls' := [some (.inr 15), some (.inl (s : Int)), some (.inl (i : Int)), some (.inl w), some (.inl o), some (.inl 1), some (.inl (w + x 1304)), some (.inl (o + x 1305)), some (.inl (sd_std (w + x 1304) (o + x 1305))), none, none, none, none]) sD11_fixed_57 (by decide) rfl ?_
    refine sd_iload sD11_fixed_59 rfl ?_
    refine sd_if_eq (tgt := 67) sD11_fixed_61 (by decide) (fun zc61 => ?_) (fun zc61 => ?_)
    ·
      have eC0 := sd_pC_rng hgr (w + x 1304 + x 1308) (o + x 1305 + x 1309)
      have eC1 := sd_pC_rng hgr (w + x 1304 + x 1310) (o + x 1305 + x 1311)
      have eC2 := sd_pC_rng hgr (w + x 1304 + x 1312) (o + x 1305 + x 1313)
      refine sd_iconst sD11_fixed_67 (by decide) ?_
      refine sd_istore (ls' := [some (.inr 15), some (.inl (s : Int)), some (.inl (i : Int)), some (.inl w), some (.inl o), some (.inl 1), some (.inl (w + x 1304)), some (.inl (o + x 1305)), some (.inl 1), none, none, none, none]) sD11_fixed_68 (by decide) rfl ?_
      refine sd_iconst sD11_fixed_70 (by decide) ?_
      refine sd_istore (ls' := [some (.inr 15), some (.inl (s : Int)), some (.inl (i : Int)), some (.inl w), some (.inl o), some (.inl 1), some (.inl (w + x 1304)), some (.inl (o + x 1305)), some (.inl 1), some (.inl 0), none, none, none]) sD11_fixed_71 (by decide) rfl ?_
      refine sd_iload sD11_fixed_73 rfl ?_
      refine sd_iconst sD11_fixed_75 (by decide) ?_
      refine sd_icmp_ge (tgt := 190) sD11_fixed_76 (by decide) (fun zc76 => (by exfalso; omega)) (fun zc76 => ?_)
      refine sd_iload sD11_fixed_79 rfl ?_
      refine sd_iconst sD11_fixed_81 (by decide) ?_
      refine sd_icmp_le (tgt := 190) sD11_fixed_82 (by decide) (fun zc82 => (by exfalso; omega)) (fun zc82 => ?_)
      refine sd_iload sD11_fixed_85 rfl ?_
      refine sd_aload_n sD11_fixed_87 rfl ?_
      refine sd_getfr sD11_fixed_88 sF11_7 sGM15_0 ?_
      refine sd_sipush sD11_fixed_91 rfl (by decide) ?_
      refine sd_iconst sD11_fixed_94 (by decide) ?_
      refine sd_iload sD11_fixed_95 rfl ?_
      refine sd_imul (z := 0) sD11_fixed_97 (by omega) (by omega) ?_
      refine sd_iadd (z := 1308) sD11_fixed_98 (by omega) (by omega) ?_
      refine sd_ialdx (a := 1308) (v := x 1308) hx sD11_fixed_99 sAM0 (by omega) rfl ?_
      refine sd_iadd (z := ((w + x 1304) + x 1308)) sD11_fixed_100 (by omega) (by omega) ?_
      refine sd_istore (ls' := [some (.inr 15), some (.inl (s : Int)), some (.inl (i : Int)), some (.inl w), some (.inl o), some (.inl 1), some (.inl (w + x 1304)), some (.inl (o + x 1305)), some (.inl 1), some (.inl 0), some (.inl ((w + x 1304) + x 1308)), none, none]) sD11_fixed_101 (by decide) rfl ?_
      refine sd_iload sD11_fixed_103 rfl ?_
      refine sd_aload_n sD11_fixed_105 rfl ?_
      refine sd_getfr sD11_fixed_106 sF11_7 sGM15_0 ?_
      refine sd_sipush sD11_fixed_109 rfl (by decide) ?_
      refine sd_iconst sD11_fixed_112 (by decide) ?_
      refine sd_iload sD11_fixed_113 rfl ?_
      refine sd_imul (z := 0) sD11_fixed_115 (by omega) (by omega) ?_
      refine sd_iadd (z := 1308) sD11_fixed_116 (by omega) (by omega) ?_
      refine sd_iconst sD11_fixed_117 (by decide) ?_
      refine sd_iadd (z := 1309) sD11_fixed_118 (by omega) (by omega) ?_
      refine sd_ialdx (a := 1309) (v := x 1309) hx sD11_fixed_119 sAM0 (by omega) rfl ?_
      refine sd_iadd (z := ((o + x 1305) + x 1309)) sD11_fixed_120 (by omega) (by omega) ?_
      refine sd_istore (ls' := [some (.inr 15), some (.inl (s : Int)), some (.inl (i : Int)), some (.inl w), some (.inl o), some (.inl 1), some (.inl (w + x 1304)), some (.inl (o + x 1305)), some (.inl 1), some (.inl 0), some (.inl ((w + x 1304) + x 1308)), some (.inl ((o + x 1305) + x 1309)), none]) sD11_fixed_121 (by decide) rfl ?_
      refine sd_iload sD11_fixed_123 rfl ?_
      refine sd_iload sD11_fixed_125 rfl ?_
      refine sd_callSp (as := [.inl ((w + x 1304) + x 1308), .inl ((o + x 1305) + x 1309)]) (st := []) (v := .inl (sd_std ((w + x 1304) + x 1308) ((o + x 1305) + x 1309))) sD11_fixed_127 sM11_211 rfl rfl (by omega) (Nat.le_of_ble_eq_true rfl) (cM_stands ((w + x 1304) + x 1308) ((o + x 1305) + x 1309) _ m hx  ) (fun ho127 => ?_)
      refine sd_istore (ls' := [some (.inr 15), some (.inl (s : Int)), some (.inl (i : Int)), some (.inl w), some (.inl o), some (.inl 1), some (.inl (w + x 1304)), some (.inl (o + x 1305)), some (.inl 1), some (.inl 0), some (.inl ((w + x 1304) + x 1308)), some (.inl ((o + x 1305) + x 1309)), some (.inl (sd_std ((w + x 1304) + x 1308) ((o + x 1305) + x 1309)))]) sD11_fixed_130 (by decide) rfl ?_
      refine sd_iload sD11_fixed_132 rfl ?_
      refine sd_cut (J := 166) (ls := [some (.inr 15), some (.inl (s : Int)), some (.inl (i : Int)), some (.inl w), some (.inl o), some (.inl 1), some (.inl (w + x 1304)), some (.inl (o + x 1305)), some (.inl 1), some (.inl 0), some (.inl ((w + x 1304) + x 1308)), some (.inl ((o + x 1305) + x 1309)), some (.inl (sd_std ((w + x 1304) + x 1308) ((o + x 1305) + x 1309)))]) (st := []) (fun zv => zv = (sd_pC (sd_pv x (sd_pl4 x s) n r) ((w + x 1304) + x 1308) ((o + x 1305) + x 1309))) (fun zv hzv => ?_) (fun K134 => ?_)
      ·
        subst hzv
        refine sd_istore (ls' := [some (.inr 15), some (.inl (s : Int)), some (.inl (i : Int)), some (.inl w), some (.inl o), some (.inl 1), some (.inl (w + x 1304)), some (.inl (o + x 1305)), some (.inl 1), some (.inl 0), some (.inl ((w + x 1304) + x 1308)), some (.inl ((o + x 1305) + x 1309)), some (.inl (sd_pC (sd_pv x (sd_pl4 x s) n r) ((w + x 1304) + x 1308) ((o + x 1305) + x 1309)))]) sD11_fixed_166 (by decide) rfl ?_
        refine sd_iload sD11_fixed_168 rfl ?_
        refine sd_iload sD11_fixed_170 rfl ?_
        refine sd_cut (J := 182) (ls := [some (.inr 15), some (.inl (s : Int)), some (.inl (i : Int)), some (.inl w), some (.inl o), some (.inl 1), some (.inl (w + x 1304)), some (.inl (o + x 1305)), some (.inl 1), some (.inl 0), some (.inl ((w + x 1304) + x 1308)), some (.inl ((o + x 1305) + x 1309)), some (.inl (sd_pC (sd_pv x (sd_pl4 x s) n r) ((w + x 1304) + x 1308) ((o + x 1305) + x 1309)))]) (st := []) (fun zv => zv = (min 1 (sd_pC (sd_pv x (sd_pl4 x s) n r) ((w + x 1304) + x 1308) ((o + x 1305) + x 1309)))) (fun zv hzv => ?_) (fun K172 => ?_)
        ·
          subst hzv
          refine sd_istore (ls' := [some (.inr 15), some (.inl (s : Int)), some (.inl (i : Int)), some (.inl w), some (.inl o), some (.inl 1), some (.inl (w + x 1304)), some (.inl (o + x 1305)), some (.inl (min 1 (sd_pC (sd_pv x (sd_pl4 x s) n r) ((w + x 1304) + x 1308) ((o + x 1305) + x 1309)))), some (.inl 0), some (.inl ((w + x 1304) + x 1308)), some (.inl ((o + x 1305) + x 1309)), some (.inl (sd_pC (sd_pv x (sd_pl4 x s) n r) ((w + x 1304) + x 1308) ((o + x 1305) + x 1309)))]) sD11_fixed_182 (by decide) rfl ?_
          refine sd_iinc (y := 1) (ls' := [some (.inr 15), some (.inl (s : Int)), some (.inl (i : Int)), some (.inl w), some (.inl o), some (.inl 1), some (.inl (w + x 1304)), some (.inl (o + x 1305)), some (.inl (min 1 (sd_pC (sd_pv x (sd_pl4 x s) n r) ((w + x 1304) + x 1308) ((o + x 1305) + x 1309)))), some (.inl 1), some (.inl ((w + x 1304) + x 1308)), some (.inl ((o + x 1305) + x 1309)), some (.inl (sd_pC (sd_pv x (sd_pl4 x s) n r) ((w + x 1304) + x 1308) ((o + x 1305) + x 1309)))]) sD11_fixed_184 rfl (by omega) (by omega) (by decide) rfl ?_
          refine sd_goto (tgt := 73) sD11_fixed_187 (by decide) ?_
          refine sd_iload sD11_fixed_73 rfl ?_
          refine sd_iconst sD11_fixed_75 (by decide) ?_
          refine sd_icmp_ge (tgt := 190) sD11_fixed_76 (by decide) (fun zc76 => (by exfalso; omega)) (fun zc76 => ?_)
          refine sd_iload sD11_fixed_79 rfl ?_
          refine sd_iconst sD11_fixed_81 (by decide) ?_
          refine sd_icmp_le (tgt := 190) sD11_fixed_82 (by decide) (fun zc82 => ?_) (fun zc82 => ?_)
          ·
            refine sd_iload sD11_fixed_190 rfl ?_
            refine sd_iretp sD11_fixed_192 rfl ?_
            (rw [eK]; unfold sd_pM; rcases e57 with e57 | e57 | e57 <;> first | (exfalso; omega) | (rw [if_pos (by omega)]; omega) | (rw [if_neg (by omega), if_pos (by omega)]; omega) | (rw [if_neg (by omega), if_neg (by omega), ← b3.2.2.1, ← b3.2.2.2, ← b4.2.2.1, ← b4.2.2.2, ← b5.2.2.1, ← b5.2.2.2]; omega))
          ·
            refine sd_iload sD11_fixed_85 rfl ?_
            refine sd_aload_n sD11_fixed_87 rfl ?_
            refine sd_getfr sD11_fixed_88 sF11_7 sGM15_0 ?_
            refine sd_sipush sD11_fixed_91 rfl (by decide) ?_
            refine sd_iconst sD11_fixed_94 (by decide) ?_
            refine sd_iload sD11_fixed_95 rfl ?_
            refine sd_imul (z := 2) sD11_fixed_97 (by omega) (by omega) ?_
            refine sd_iadd (z := 1310) sD11_fixed_98 (by omega) (by omega) ?_
            refine sd_ialdx (a := 1310) (v := x 1310) hx sD11_fixed_99 sAM0 (by omega) rfl ?_
            refine sd_iadd (z := ((w + x 1304) + x 1310)) sD11_fixed_100 (by omega) (by omega) ?_
            refine sd_istore (ls' := [some (.inr 15), some (.inl (s : Int)), some (.inl (i : Int)), some (.inl w), some (.inl o), some (.inl 1), some (.inl (w + x 1304)), some (.inl (o + x 1305)), some (.inl (min 1 (sd_pC (sd_pv x (sd_pl4 x s) n r) ((w + x 1304) + x 1308) ((o + x 1305) + x 1309)))), some (.inl 1), some (.inl ((w + x 1304) + x 1310)), some (.inl ((o + x 1305) + x 1309)), some (.inl (sd_pC (sd_pv x (sd_pl4 x s) n r) ((w + x 1304) + x 1308) ((o + x 1305) + x 1309)))]) sD11_fixed_101 (by decide) rfl ?_
            refine sd_iload sD11_fixed_103 rfl ?_
            refine sd_aload_n sD11_fixed_105 rfl ?_
            refine sd_getfr sD11_fixed_106 sF11_7 sGM15_0 ?_
            refine sd_sipush sD11_fixed_109 rfl (by decide) ?_
            refine sd_iconst sD11_fixed_112 (by decide) ?_
            refine sd_iload sD11_fixed_113 rfl ?_
            refine sd_imul (z := 2) sD11_fixed_115 (by omega) (by omega) ?_
            refine sd_iadd (z := 1310) sD11_fixed_116 (by omega) (by omega) ?_
            refine sd_iconst sD11_fixed_117 (by decide) ?_
            refine sd_iadd (z := 1311) sD11_fixed_118 (by omega) (by omega) ?_
            refine sd_ialdx (a := 1311) (v := x 1311) hx sD11_fixed_119 sAM0 (by omega) rfl ?_
            refine sd_iadd (z := ((o + x 1305) + x 1311)) sD11_fixed_120 (by omega) (by omega) ?_
            refine sd_istore (ls' := [some (.inr 15), some (.inl (s : Int)), some (.inl (i : Int)), some (.inl w), some (.inl o), some (.inl 1), some (.inl (w + x 1304)), some (.inl (o + x 1305)), some (.inl (min 1 (sd_pC (sd_pv x (sd_pl4 x s) n r) ((w + x 1304) + x 1308) ((o + x 1305) + x 1309)))), some (.inl 1), some (.inl ((w + x 1304) + x 1310)), some (.inl ((o + x 1305) + x 1311)), some (.inl (sd_pC (sd_pv x (sd_pl4 x s) n r) ((w + x 1304) + x 1308) ((o + x 1305) + x 1309)))]) sD11_fixed_121 (by decide) rfl ?_
            refine sd_iload sD11_fixed_123 rfl ?_
            refine sd_iload sD11_fixed_125 rfl ?_
            refine sd_callSp (as := [.inl ((w + x 1304) + x 1310), .inl ((o + x 1305) + x 1311)]) (st := []) (v := .inl (sd_std ((w + x 1304) + x 1310) ((o + x 1305) + x 1311))) sD11_fixed_127 sM11_211 rfl rfl (by omega) (Nat.le_of_ble_eq_true rfl) (cM_stands ((w + x 1304) + x 1310) ((o + x 1305) + x 1311) _ m hx  ) (fun ho127 => ?_)
            refine sd_istore (ls' := [some (.inr 15), some (.inl (s : Int)), some (.inl (i : Int)), some (.inl w), some (.inl o), some (.inl 1), some (.inl (w + x 1304)), some (.inl (o + x 1305)), some (.inl (min 1 (sd_pC (sd_pv x (sd_pl4 x s) n r) ((w + x 1304) + x 1308) ((o + x 1305) + x 1309)))), some (.inl 1), some (.inl ((w + x 1304) + x 1310)), some (.inl ((o + x 1305) + x 1311)), some (.inl (sd_std ((w + x 1304) + x 1310) ((o + x 1305) + x 1311)))]) sD11_fixed_130 (by decide) rfl ?_
            refine sd_iload sD11_fixed_132 rfl ?_
            refine sd_cut (J := 166) (ls := [some (.inr 15), some (.inl (s : Int)), some (.inl (i : Int)), some (.inl w), some (.inl o), some (.inl 1), some (.inl (w + x 1304)), some (.inl (o + x 1305)), some (.inl (min 1 (sd_pC (sd_pv x (sd_pl4 x s) n r) ((w + x 1304) + x 1308) ((o + x 1305) + x 1309)))), some (.inl 1), some (.inl ((w + x 1304) + x 1310)), some (.inl ((o + x 1305) + x 1311)), some (.inl (sd_std ((w + x 1304) + x 1310) ((o + x 1305) + x 1311)))]) (st := []) (fun zv => zv = (sd_pC (sd_pv x (sd_pl4 x s) n r) ((w + x 1304) + x 1310) ((o + x 1305) + x 1311))) (fun zv hzv => ?_) (fun K134 => ?_)
            ·
              subst hzv
              refine sd_istore (ls' := [some (.inr 15), some (.inl (s : Int)), some (.inl (i : Int)), some (.inl w), some (.inl o), some (.inl 1), some (.inl (w + x 1304)), some (.inl (o + x 1305)), some (.inl (min 1 (sd_pC (sd_pv x (sd_pl4 x s) n r) ((w + x 1304) + x 1308) ((o + x 1305) + x 1309)))), some (.inl 1), some (.inl ((w + x 1304) + x 1310)), some (.inl ((o + x 1305) + x 1311)), some (.inl (sd_pC (sd_pv x (sd_pl4 x s) n r) ((w + x 1304) + x 1310) ((o + x 1305) + x 1311)))]) sD11_fixed_166 (by decide) rfl ?_
              refine sd_iload sD11_fixed_168 rfl ?_
              refine sd_iload sD11_fixed_170 rfl ?_
              refine sd_cut (J := 182) (ls := [some (.inr 15), some (.inl (s : Int)), some (.inl (i : Int)), some (.inl w), some (.inl o), some (.inl 1), some (.inl (w + x 1304)), some (.inl (o + x 1305)), some (.inl (min 1 (sd_pC (sd_pv x (sd_pl4 x s) n r) ((w + x 1304) + x 1308) ((o + x 1305) + x 1309)))), some (.inl 1), some (.inl ((w + x 1304) + x 1310)), some (.inl ((o + x 1305) + x 1311)), some (.inl (sd_pC (sd_pv x (sd_pl4 x s) n r) ((w + x 1304) + x 1310) ((o + x 1305) + x 1311)))]) (st := []) (fun zv => zv = (min (min 1 (sd_pC (sd_pv x (sd_pl4 x s) n r) ((w + x 1304) + x 1308) ((o + x 1305) + x 1309))) (sd_pC (sd_pv x (sd_pl4 x s) n r) ((w + x 1304) + x 1310) ((o + x 1305) + x 1311)))) (fun zv hzv => ?_) (fun K172 => ?_)
              ·
                subst hzv
                refine sd_istore (ls' := [some (.inr 15), some (.inl (s : Int)), some (.inl (i : Int)), some (.inl w), some (.inl o), some (.inl 1), some (.inl (w + x 1304)), some (.inl (o + x 1305)), some (.inl (min (min 1 (sd_pC (sd_pv x (sd_pl4 x s) n r) ((w + x 1304) + x 1308) ((o + x 1305) + x 1309))) (sd_pC (sd_pv x (sd_pl4 x s) n r) ((w + x 1304) + x 1310) ((o + x 1305) + x 1311)))), some (.inl 1), some (.inl ((w + x 1304) + x 1310)), some (.inl ((o + x 1305) + x 1311)), some (.inl (sd_pC (sd_pv x (sd_pl4 x s) n r) ((w + x 1304) + x 1310) ((o + x 1305) + x 1311)))]) sD11_fixed_182 (by decide) rfl ?_
                refine sd_iinc (y := 2) (ls' := [some (.inr 15), some (.inl (s : Int)), some (.inl (i : Int)), some (.inl w), some (.inl o), some (.inl 1), some (.inl (w + x 1304)), some (.inl (o + x 1305)), some (.inl (min (min 1 (sd_pC (sd_pv x (sd_pl4 x s) n r) ((w + x 1304) + x 1308) ((o + x 1305) + x 1309))) (sd_pC (sd_pv x (sd_pl4 x s) n r) ((w + x 1304) + x 1310) ((o + x 1305) + x 1311)))), some (.inl 2), some (.inl ((w + x 1304) + x 1310)), some (.inl ((o + x 1305) + x 1311)), some (.inl (sd_pC (sd_pv x (sd_pl4 x s) n r) ((w + x 1304) + x 1310) ((o + x 1305) + x 1311)))]) sD11_fixed_184 rfl (by omega) (by omega) (by decide) rfl ?_
                refine sd_goto (tgt := 73) sD11_fixed_187 (by decide) ?_
                refine sd_iload sD11_fixed_73 rfl ?_
                refine sd_iconst sD11_fixed_75 (by decide) ?_
                refine sd_icmp_ge (tgt := 190) sD11_fixed_76 (by decide) (fun zc76 => (by exfalso; omega)) (fun zc76 => ?_)
                refine sd_iload sD11_fixed_79 rfl ?_
                refine sd_iconst sD11_fixed_81 (by decide) ?_
                refine sd_icmp_le (tgt := 190) sD11_fixed_82 (by decide) (fun zc82 => ?_) (fun zc82 => ?_)
                ·
                  refine sd_iload sD11_fixed_190 rfl ?_
                  refine sd_iretp sD11_fixed_192 rfl ?_
                  (rw [eK]; unfold sd_pM; rcases e57 with e57 | e57 | e57 <;> first | (exfalso; omega) | (rw [if_pos (by omega)]; omega) | (rw [if_neg (by omega), if_pos (by omega)]; omega) | (rw [if_neg (by omega), if_neg (by omega), ← b3.2.2.1, ← b3.2.2.2, ← b4.2.2.1, ← b4.2.2.2, ← b5.2.2.1, ← b5.2.2.2]; omega))
                ·
                  refine sd_iload sD11_fixed_85 rfl ?_
                  refine sd_aload_n sD11_fixed_87 rfl ?_
                  refine sd_getfr sD11_fixed_88 sF11_7 sGM15_0 ?_
                  refine sd_sipush sD11_fixed_91 rfl (by decide) ?_
                  refine sd_iconst sD11_fixed_94 (by decide) ?_
                  refine sd_iload sD11_fixed_95 rfl ?_
                  refine sd_imul (z := 4) sD11_fixed_97 (by omega) (by omega) ?_
                  refine sd_iadd (z := 1312) sD11_fixed_98 (by omega) (by omega) ?_
                  refine sd_ialdx (a := 1312) (v := x 1312) hx sD11_fixed_99 sAM0 (by omega) rfl ?_
                  refine sd_iadd (z := ((w + x 1304) + x 1312)) sD11_fixed_100 (by omega) (by omega) ?_
                  refine sd_istore (ls' := [some (.inr 15), some (.inl (s : Int)), some (.inl (i : Int)), some (.inl w), some (.inl o), some (.inl 1), some (.inl (w + x 1304)), some (.inl (o + x 1305)), some (.inl (min (min 1 (sd_pC (sd_pv x (sd_pl4 x s) n r) ((w + x 1304) + x 1308) ((o + x 1305) + x 1309))) (sd_pC (sd_pv x (sd_pl4 x s) n r) ((w + x 1304) + x 1310) ((o + x 1305) + x 1311)))), some (.inl 2), some (.inl ((w + x 1304) + x 1312)), some (.inl ((o + x 1305) + x 1311)), some (.inl (sd_pC (sd_pv x (sd_pl4 x s) n r) ((w + x 1304) + x 1310) ((o + x 1305) + x 1311)))]) sD11_fixed_101 (by decide) rfl ?_
                  refine sd_iload sD11_fixed_103 rfl ?_
                  refine sd_aload_n sD11_fixed_105 rfl ?_
                  refine sd_getfr sD11_fixed_106 sF11_7 sGM15_0 ?_
                  refine sd_sipush sD11_fixed_109 rfl (by decide) ?_
                  refine sd_iconst sD11_fixed_112 (by decide) ?_
                  refine sd_iload sD11_fixed_113 rfl ?_
                  refine sd_imul (z := 4) sD11_fixed_115 (by omega) (by omega) ?_
                  refine sd_iadd (z := 1312) sD11_fixed_116 (by omega) (by omega) ?_
                  refine sd_iconst sD11_fixed_117 (by decide) ?_
                  refine sd_iadd (z := 1313) sD11_fixed_118 (by omega) (by omega) ?_
                  refine sd_ialdx (a := 1313) (v := x 1313) hx sD11_fixed_119 sAM0 (by omega) rfl ?_
                  refine sd_iadd (z := ((o + x 1305) + x 1313)) sD11_fixed_120 (by omega) (by omega) ?_
                  refine sd_istore (ls' := [some (.inr 15), some (.inl (s : Int)), some (.inl (i : Int)), some (.inl w), some (.inl o), some (.inl 1), some (.inl (w + x 1304)), some (.inl (o + x 1305)), some (.inl (min (min 1 (sd_pC (sd_pv x (sd_pl4 x s) n r) ((w + x 1304) + x 1308) ((o + x 1305) + x 1309))) (sd_pC (sd_pv x (sd_pl4 x s) n r) ((w + x 1304) + x 1310) ((o + x 1305) + x 1311)))), some (.inl 2), some (.inl ((w + x 1304) + x 1312)), some (.inl ((o + x 1305) + x 1313)), some (.inl (sd_pC (sd_pv x (sd_pl4 x s) n r) ((w + x 1304) + x 1310) ((o + x 1305) + x 1311)))]) sD11_fixed_121 (by decide) rfl ?_
                  refine sd_iload sD11_fixed_123 rfl ?_
                  refine sd_iload sD11_fixed_125 rfl ?_
                  refine sd_callSp (as := [.inl ((w + x 1304) + x 1312), .inl ((o + x 1305) + x 1313)]) (st := []) (v := .inl (sd_std ((w + x 1304) + x 1312) ((o + x 1305) + x 1313))) sD11_fixed_127 sM11_211 rfl rfl (by omega) (Nat.le_of_ble_eq_true rfl) (cM_stands ((w + x 1304) + x 1312) ((o + x 1305) + x 1313) _ m hx  ) (fun ho127 => ?_)
                  refine sd_istore (ls' := [some (.inr 15), some (.inl (s : Int)), some (.inl (i : Int)), some (.inl w), some (.inl o), some (.inl 1), some (.inl (w + x 1304)), some (.inl (o + x 1305)), some (.inl (min (min 1 (sd_pC (sd_pv x (sd_pl4 x s) n r) ((w + x 1304) + x 1308) ((o + x 1305) + x 1309))) (sd_pC (sd_pv x (sd_pl4 x s) n r) ((w + x 1304) + x 1310) ((o + x 1305) + x 1311)))), some (.inl 2), some (.inl ((w + x 1304) + x 1312)), some (.inl ((o + x 1305) + x 1313)), some (.inl (sd_std ((w + x 1304) + x 1312) ((o + x 1305) + x 1313)))]) sD11_fixed_130 (by decide) rfl ?_
                  refine sd_iload sD11_fixed_132 rfl ?_
                  refine sd_cut (J := 166) (ls := [some (.inr 15), some (.inl (s : Int)), some (.inl (i : Int)), some (.inl w), some (.inl o), some (.inl 1), some (.inl (w + x 1304)), some (.inl (o + x 1305)), some (.inl (min (min 1 (sd_pC (sd_pv x (sd_pl4 x s) n r) ((w + x 1304) + x 1308) ((o + x 1305) + x 1309))) (sd_pC (sd_pv x (sd_pl4 x s) n r) ((w + x 1304) + x 1310) ((o + x 1305) + x 1311)))), some (.inl 2), some (.inl ((w + x 1304) + x 1312)), some (.inl ((o + x 1305) + x 1313)), some (.inl (sd_std ((w + x 1304) + x 1312) ((o + x 1305) + x 1313)))]) (st := []) (fun zv => zv = (sd_pC (sd_pv x (sd_pl4 x s) n r) ((w + x 1304) + x 1312) ((o + x 1305) + x 1313))) (fun zv hzv => ?_) (fun K134 => ?_)
                  ·
                    subst hzv
                    refine sd_istore (ls' := [some (.inr 15), some (.inl (s : Int)), some (.inl (i : Int)), some (.inl w), some (.inl o), some (.inl 1), some (.inl (w + x 1304)), some (.inl (o + x 1305)), some (.inl (min (min 1 (sd_pC (sd_pv x (sd_pl4 x s) n r) ((w + x 1304) + x 1308) ((o + x 1305) + x 1309))) (sd_pC (sd_pv x (sd_pl4 x s) n r) ((w + x 1304) + x 1310) ((o + x 1305) + x 1311)))), some (.inl 2), some (.inl ((w + x 1304) + x 1312)), some (.inl ((o + x 1305) + x 1313)), some (.inl (sd_pC (sd_pv x (sd_pl4 x s) n r) ((w + x 1304) + x 1312) ((o + x 1305) + x 1313)))]) sD11_fixed_166 (by decide) rfl ?_
                    refine sd_iload sD11_fixed_168 rfl ?_
                    refine sd_iload sD11_fixed_170 rfl ?_
                    refine sd_cut (J := 182) (ls := [some (.inr 15), some (.inl (s : Int)), some (.inl (i : Int)), some (.inl w), some (.inl o), some (.inl 1), some (.inl (w + x 1304)), some (.inl (o + x 1305)), some (.inl (min (min 1 (sd_pC (sd_pv x (sd_pl4 x s) n r) ((w + x 1304) + x 1308) ((o + x 1305) + x 1309))) (sd_pC (sd_pv x (sd_pl4 x s) n r) ((w + x 1304) + x 1310) ((o + x 1305) + x 1311)))), some (.inl 2), some (.inl ((w + x 1304) + x 1312)), some (.inl ((o + x 1305) + x 1313)), some (.inl (sd_pC (sd_pv x (sd_pl4 x s) n r) ((w + x 1304) + x 1312) ((o + x 1305) + x 1313)))]) (st := []) (fun zv => zv = (min (min (min 1 (sd_pC (sd_pv x (sd_pl4 x s) n r) ((w + x 1304) + x 1308) ((o + x 1305) + x 1309))) (sd_pC (sd_pv x (sd_pl4 x s) n r) ((w + x 1304) + x 1310) ((o + x 1305) + x 1311))) (sd_pC (sd_pv x (sd_pl4 x s) n r) ((w + x 1304) + x 1312) ((o + x 1305) + x 1313)))) (fun zv hzv => ?_) (fun K172 => ?_)
                    ·
                      subst hzv
                      refine sd_istore (ls' := [some (.inr 15), some (.inl (s : Int)), some (.inl (i : Int)), some (.inl w), some (.inl o), some (.inl 1), some (.inl (w + x 1304)), some (.inl (o + x 1305)), some (.inl (min (min (min 1 (sd_pC (sd_pv x (sd_pl4 x s) n r) ((w + x 1304) + x 1308) ((o + x 1305) + x 1309))) (sd_pC (sd_pv x (sd_pl4 x s) n r) ((w + x 1304) + x 1310) ((o + x 1305) + x 1311))) (sd_pC (sd_pv x (sd_pl4 x s) n r) ((w + x 1304) + x 1312) ((o + x 1305) + x 1313)))), some (.inl 2), some (.inl ((w + x 1304) + x 1312)), some (.inl ((o + x 1305) + x 1313)), some (.inl (sd_pC (sd_pv x (sd_pl4 x s) n r) ((w + x 1304) + x 1312) ((o + x 1305) + x 1313)))]) sD11_fixed_182 (by decide) rfl ?_
                      refine sd_iinc (y := 3) (ls' := [some (.inr 15), some (.inl (s : Int)), some (.inl (i : Int)), some (.inl w), some (.inl o), some (.inl 1), some (.inl (w + x 1304)), some (.inl (o + x 1305)), some (.inl (min (min (min 1 (sd_pC (sd_pv x (sd_pl4 x s) n r) ((w + x 1304) + x 1308) ((o + x 1305) + x 1309))) (sd_pC (sd_pv x (sd_pl4 x s) n r) ((w + x 1304) + x 1310) ((o + x 1305) + x 1311))) (sd_pC (sd_pv x (sd_pl4 x s) n r) ((w + x 1304) + x 1312) ((o + x 1305) + x 1313)))), some (.inl 3), some (.inl ((w + x 1304) + x 1312)), some (.inl ((o + x 1305) + x 1313)), some (.inl (sd_pC (sd_pv x (sd_pl4 x s) n r) ((w + x 1304) + x 1312) ((o + x 1305) + x 1313)))]) sD11_fixed_184 rfl (by omega) (by omega) (by decide) rfl ?_
                      refine sd_goto (tgt := 73) sD11_fixed_187 (by decide) ?_
                      refine sd_iload sD11_fixed_73 rfl ?_
                      refine sd_iconst sD11_fixed_75 (by decide) ?_
                      refine sd_icmp_ge (tgt := 190) sD11_fixed_76 (by decide) (fun zc76 => ?_) (fun zc76 => (by exfalso; omega))
                      refine sd_iload sD11_fixed_190 rfl ?_
                      refine sd_iretp sD11_fixed_192 rfl ?_
                      (rw [eK]; unfold sd_pM; rcases e57 with e57 | e57 | e57 <;> first | (exfalso; omega) | (rw [if_pos (by omega)]; omega) | (rw [if_neg (by omega), if_pos (by omega)]; omega) | (rw [if_neg (by omega), if_neg (by omega), ← b3.2.2.1, ← b3.2.2.2, ← b4.2.2.1, ← b4.2.2.2, ← b5.2.2.1, ← b5.2.2.2]; omega))
                    ·
                      refine sd_icmp_ge (tgt := 180) sD11_fixed_172 (by decide) (fun zc172 => ?_) (fun zc172 => ?_)
                      ·
                        refine sd_iload sD11_fixed_180 rfl ?_
                        exact K172 _ (by omega)
                      ·
                        refine sd_iload sD11_fixed_175 rfl ?_
                        refine sd_goto (tgt := 182) sD11_fixed_177 (by decide) ?_
                        exact K172 _ (by omega)
                  ·
                    refine sd_if_ne (tgt := 164) sD11_fixed_134 (by decide) (fun zc134 => ?_) (fun zc134 => ?_)
                    ·
                      refine sd_iload sD11_fixed_164 rfl ?_
                      exact K134 _ (by rw [sd_pC_std]; first | (rw [if_neg (by assumption)]; done) | (rw [if_pos (by assumption)]; done) | (rw [if_pos (by assumption)]; have hr0 : r = 0 := (by omega); rw [hr0]; assumption))
                    ·
                      refine sd_iload_n sD11_fixed_137 rfl ?_
                      refine sd_iconst sD11_fixed_138 (by decide) ?_
                      refine sd_iadd (z := ((i : Int) + 1)) sD11_fixed_139 (by omega) (by omega) ?_
                      refine sd_aload_n sD11_fixed_140 rfl ?_
                      refine sd_getfr sD11_fixed_141 sF11_46 sGM15_21 ?_
                      refine sd_iload_n sD11_fixed_144 rfl ?_
                      refine sd_ialdx (a := (4254 + s)) (v := x (4254 + s)) hx sD11_fixed_145 sAM12 (by omega) rfl ?_
                      refine sd_icmp_ge (tgt := 164) sD11_fixed_146 (by decide) (fun zc146 => ?_) (fun zc146 => ?_)
                      ·
                        refine sd_iload sD11_fixed_164 rfl ?_
                        exact K134 _ (by rw [sd_pC_std]; first | (rw [if_neg (by assumption)]; done) | (rw [if_pos (by assumption)]; done) | (rw [if_pos (by assumption)]; have hr0 : r = 0 := (by omega); rw [hr0]; assumption))
                      ·
                        refine sd_aload_n sD11_fixed_149 rfl ?_
                        refine sd_iload_n sD11_fixed_150 rfl ?_
                        refine sd_iload_n sD11_fixed_151 rfl ?_
                        refine sd_iconst sD11_fixed_152 (by decide) ?_
                        refine sd_iadd (z := ((i : Int) + 1)) sD11_fixed_153 (by omega) (by omega) ?_
                        refine sd_iload sD11_fixed_154 rfl ?_
                        refine sd_iload sD11_fixed_156 rfl ?_
                        refine sd_callVp (as := [.inl (s : Int), .inl ((i : Int) + 1), .inl ((w + x 1304) + x 1312), .inl ((o + x 1305) + x 1313)]) (st := []) (v := .inl (sd_pv x (sd_pl4 x s) n r ((w + x 1304) + x 1312) ((o + x 1305) + x 1313))) sD11_fixed_158 sM11_224 sOM15 rfl rfl rfl (by omega) (Nat.le_of_ble_eq_true rfl) (hrec (by omega) ((w + x 1304) + x 1312) ((o + x 1305) + x 1313) (by omega) (by omega)) (fun ho158 => ?_)
                        refine sd_goto (tgt := 166) sD11_fixed_161 (by decide) ?_
                        exact K134 _ (by rw [sd_pC_std]; first | (rw [if_neg (by assumption)]; done) | (rw [if_pos (by assumption)]; done) | (rw [if_pos (by assumption)]; have hr0 : r = 0 := (by omega); rw [hr0]; assumption))
              ·
                refine sd_icmp_ge (tgt := 180) sD11_fixed_172 (by decide) (fun zc172 => ?_) (fun zc172 => ?_)
                ·
                  refine sd_iload sD11_fixed_180 rfl ?_
                  exact K172 _ (by omega)
                ·
                  refine sd_iload sD11_fixed_175 rfl ?_
                  refine sd_goto (tgt := 182) sD11_fixed_177 (by decide) ?_
                  exact K172 _ (by omega)
            ·
              refine sd_if_ne (tgt := 164) sD11_fixed_134 (by decide) (fun zc134 => ?_) (fun zc134 => ?_)
              ·
                refine sd_iload sD11_fixed_164 rfl ?_
                exact K134 _ (by rw [sd_pC_std]; first | (rw [if_neg (by assumption)]; done) | (rw [if_pos (by assumption)]; done) | (rw [if_pos (by assumption)]; have hr0 : r = 0 := (by omega); rw [hr0]; assumption))
              ·
                refine sd_iload_n sD11_fixed_137 rfl ?_
                refine sd_iconst sD11_fixed_138 (by decide) ?_
                refine sd_iadd (z := ((i : Int) + 1)) sD11_fixed_139 (by omega) (by omega) ?_
                refine sd_aload_n sD11_fixed_140 rfl ?_
                refine sd_getfr sD11_fixed_141 sF11_46 sGM15_21 ?_
                refine sd_iload_n sD11_fixed_144 rfl ?_
                refine sd_ialdx (a := (4254 + s)) (v := x (4254 + s)) hx sD11_fixed_145 sAM12 (by omega) rfl ?_
                refine sd_icmp_ge (tgt := 164) sD11_fixed_146 (by decide) (fun zc146 => ?_) (fun zc146 => ?_)
                ·
                  refine sd_iload sD11_fixed_164 rfl ?_
                  exact K134 _ (by rw [sd_pC_std]; first | (rw [if_neg (by assumption)]; done) | (rw [if_pos (by assumption)]; done) | (rw [if_pos (by assumption)]; have hr0 : r = 0 := (by omega); rw [hr0]; assumption))
                ·
                  refine sd_aload_n sD11_fixed_149 rfl ?_
                  refine sd_iload_n sD11_fixed_150 rfl ?_
                  refine sd_iload_n sD11_fixed_151 rfl ?_
                  refine sd_iconst sD11_fixed_152 (by decide) ?_
                  refine sd_iadd (z := ((i : Int) + 1)) sD11_fixed_153 (by omega) (by omega) ?_
                  refine sd_iload sD11_fixed_154 rfl ?_
                  refine sd_iload sD11_fixed_156 rfl ?_
                  refine sd_callVp (as := [.inl (s : Int), .inl ((i : Int) + 1), .inl ((w + x 1304) + x 1310), .inl ((o + x 1305) + x 1311)]) (st := []) (v := .inl (sd_pv x (sd_pl4 x s) n r ((w + x 1304) + x 1310) ((o + x 1305) + x 1311))) sD11_fixed_158 sM11_224 sOM15 rfl rfl rfl (by omega) (Nat.le_of_ble_eq_true rfl) (hrec (by omega) ((w + x 1304) + x 1310) ((o + x 1305) + x 1311) (by omega) (by omega)) (fun ho158 => ?_)
                  refine sd_goto (tgt := 166) sD11_fixed_161 (by decide) ?_
                  exact K134 _ (by rw [sd_pC_std]; first | (rw [if_neg (by assumption)]; done) | (rw [if_pos (by assumption)]; done) | (rw [if_pos (by assumption)]; have hr0 : r = 0 := (by omega); rw [hr0]; assumption))
        ·
          refine sd_icmp_ge (tgt := 180) sD11_fixed_172 (by decide) (fun zc172 => ?_) (fun zc172 => ?_)
          ·
            refine sd_iload sD11_fixed_180 rfl ?_
            exact K172 _ (by omega)
          ·
            refine sd_iload sD11_fixed_175 rfl ?_
            refine sd_goto (tgt := 182) sD11_fixed_177 (by decide) ?_
            exact K172 _ (by omega)
      ·
        refine sd_if_ne (tgt := 164) sD11_fixed_134 (by decide) (fun zc134 => ?_) (fun zc134 => ?_)
        ·
          refine sd_iload sD11_fixed_164 rfl ?_
          exact K134 _ (by rw [sd_pC_std]; first | (rw [if_neg (by assumption)]; done) | (rw [if_pos (by assumption)]; done) | (rw [if_pos (by assumption)]; have hr0 : r = 0 := (by omega); rw [hr0]; assumption))
        ·
          refine sd_iload_n sD11_fixed_137 rfl ?_
          refine sd_iconst sD11_fixed_138 (by decide) ?_
          refine sd_iadd (z := ((i : Int) + 1)) sD11_fixed_139 (by omega) (by omega) ?_
          refine sd_aload_n sD11_fixed_140 rfl ?_
          refine sd_getfr sD11_fixed_141 sF11_46 sGM15_21 ?_
          refine sd_iload_n sD11_fixed_144 rfl ?_
          refine sd_ialdx (a := (4254 + s)) (v := x (4254 + s)) hx sD11_fixed_145 sAM12 (by omega) rfl ?_
          refine sd_icmp_ge (tgt := 164) sD11_fixed_146 (by decide) (fun zc146 => ?_) (fun zc146 => ?_)
          ·
            refine sd_iload sD11_fixed_164 rfl ?_
            exact K134 _ (by rw [sd_pC_std]; first | (rw [if_neg (by assumption)]; done) | (rw [if_pos (by assumption)]; done) | (rw [if_pos (by assumption)]; have hr0 : r = 0 := (by omega); rw [hr0]; assumption))
          ·
            refine sd_aload_n sD11_fixed_149 rfl ?_
            refine sd_iload_n sD11_fixed_150 rfl ?_
            refine sd_iload_n sD11_fixed_151 rfl ?_
            refine sd_iconst sD11_fixed_152 (by decide) ?_
            refine sd_iadd (z := ((i : Int) + 1)) sD11_fixed_153 (by omega) (by omega) ?_
            refine sd_iload sD11_fixed_154 rfl ?_
            refine sd_iload sD11_fixed_156 rfl ?_
            refine sd_callVp (as := [.inl (s : Int), .inl ((i : Int) + 1), .inl ((w + x 1304) + x 1308), .inl ((o + x 1305) + x 1309)]) (st := []) (v := .inl (sd_pv x (sd_pl4 x s) n r ((w + x 1304) + x 1308) ((o + x 1305) + x 1309))) sD11_fixed_158 sM11_224 sOM15 rfl rfl rfl (by omega) (Nat.le_of_ble_eq_true rfl) (hrec (by omega) ((w + x 1304) + x 1308) ((o + x 1305) + x 1309) (by omega) (by omega)) (fun ho158 => ?_)
            refine sd_goto (tgt := 166) sD11_fixed_161 (by decide) ?_
            exact K134 _ (by rw [sd_pC_std]; first | (rw [if_neg (by assumption)]; done) | (rw [if_pos (by assumption)]; done) | (rw [if_pos (by assumption)]; have hr0 : r = 0 := (by omega); rw [hr0]; assumption))
    ·
      refine sd_iload sD11_fixed_64 rfl ?_
      refine sd_iretp sD11_fixed_66 rfl ?_
      (rw [eK]; unfold sd_pM; rcases e57 with e57 | e57 | e57 <;> first | (exfalso; omega) | (rw [if_pos (by omega)]; omega) | (rw [if_neg (by omega), if_pos (by omega)]; omega) | (rw [if_neg (by omega), if_neg (by omega), ← b3.2.2.1, ← b3.2.2.2, ← b4.2.2.1, ← b4.2.2.2, ← b5.2.2.1, ← b5.2.2.2]; omega))
  ·
    refine sd_eqs (ls' := [some (.inr 15), some (.inl (s : Int)), some (.inl (i : Int)), some (.inl w), some (.inl o), none, none, none, none, none, none, none, none]) (st' := [.inl 2]) ?_ rfl (by rw [zs11])
    refine sd_istore (ls' := [some (.inr 15), some (.inl (s : Int)), some (.inl (i : Int)), some (.inl w), some (.inl o), some (.inl 2), none, none, none, none, none, none, none]) sD11_fixed_11 (by decide) rfl ?_
    have eK := sd_fix1 x s i r n hn h9 (k := 2) (by decide) zs11 w o
    simp only [Nat.reduceMul, Nat.reduceAdd, Nat.mul_zero, Nat.add_zero] at eK
    refine sd_iload_n sD11_fixed_13 rfl ?_
    refine sd_aload_n sD11_fixed_14 rfl ?_
    refine sd_getfr sD11_fixed_15 sF11_7 sGM15_0 ?_
    refine sd_sipush sD11_fixed_18 rfl (by decide) ?_
    refine sd_iconst sD11_fixed_21 (by decide) ?_
    refine sd_iload sD11_fixed_22 rfl ?_
    refine sd_imul (z := 4) sD11_fixed_24 (by omega) (by omega) ?_
    refine sd_iadd (z := 1306) sD11_fixed_25 (by omega) (by omega) ?_
    refine sd_ialdx (a := 1306) (v := x 1306) hx sD11_fixed_26 sAM0 (by omega) rfl ?_
    refine sd_iadd (z := (w + x 1306)) sD11_fixed_27 (by omega) (by omega) ?_
    refine sd_istore (ls' := [some (.inr 15), some (.inl (s : Int)), some (.inl (i : Int)), some (.inl w), some (.inl o), some (.inl 2), some (.inl (w + x 1306)), none, none, none, none, none, none]) sD11_fixed_28 (by decide) rfl ?_
    refine sd_iload sD11_fixed_30 rfl ?_
    refine sd_aload_n sD11_fixed_32 rfl ?_
    refine sd_getfr sD11_fixed_33 sF11_7 sGM15_0 ?_
    refine sd_sipush sD11_fixed_36 rfl (by decide) ?_
    refine sd_iconst sD11_fixed_39 (by decide) ?_
    refine sd_iload sD11_fixed_40 rfl ?_
    refine sd_imul (z := 4) sD11_fixed_42 (by omega) (by omega) ?_
    refine sd_iadd (z := 1306) sD11_fixed_43 (by omega) (by omega) ?_
    refine sd_iconst sD11_fixed_44 (by decide) ?_
    refine sd_iadd (z := 1307) sD11_fixed_45 (by omega) (by omega) ?_
    refine sd_ialdx (a := 1307) (v := x 1307) hx sD11_fixed_46 sAM0 (by omega) rfl ?_
    refine sd_iadd (z := (o + x 1307)) sD11_fixed_47 (by omega) (by omega) ?_
    refine sd_istore (ls' := [some (.inr 15), some (.inl (s : Int)), some (.inl (i : Int)), some (.inl w), some (.inl o), some (.inl 2), some (.inl (w + x 1306)), some (.inl (o + x 1307)), none, none, none, none, none]) sD11_fixed_48 (by decide) rfl ?_
    refine sd_iload sD11_fixed_50 rfl ?_
    refine sd_iload sD11_fixed_52 rfl ?_
    refine sd_callSp (as := [.inl (w + x 1306), .inl (o + x 1307)]) (st := []) (v := .inl (sd_std (w + x 1306) (o + x 1307))) sD11_fixed_54 sM11_211 rfl rfl (by omega) (Nat.le_of_ble_eq_true rfl) (cM_stands (w + x 1306) (o + x 1307) _ m hx  ) (fun ho54 => ?_)
    have e57 := sd_std_cases (w + x 1306) (o + x 1307)
    refine sd_istore (ls' := [some (.inr 15), some (.inl (s : Int)), some (.inl (i : Int)), some (.inl w), some (.inl o), some (.inl 2), some (.inl (w + x 1306)), some (.inl (o + x 1307)), some (.inl (sd_std (w + x 1306) (o + x 1307))), none, none, none, none]) sD11_fixed_57 (by decide) rfl ?_
    refine sd_iload sD11_fixed_59 rfl ?_
    refine sd_if_eq (tgt := 67) sD11_fixed_61 (by decide) (fun zc61 => ?_) (fun zc61 => ?_)
    ·
      have eC0 := sd_pC_rng hgr (w + x 1306 + x 1308) (o + x 1307 + x 1309)
      have eC1 := sd_pC_rng hgr (w + x 1306 + x 1310) (o + x 1307 + x 1311)
      have eC2 := sd_pC_rng hgr (w + x 1306 + x 1312) (o + x 1307 + x 1313)
      refine sd_iconst sD11_fixed_67 (by decide) ?_
      refine sd_istore (ls' := [some (.inr 15), some (.inl (s : Int)), some (.inl (i : Int)), some (.inl w), some (.inl o), some (.inl 2), some (.inl (w + x 1306)), some (.inl (o + x 1307)), some (.inl 1), none, none, none, none]) sD11_fixed_68 (by decide) rfl ?_
      refine sd_iconst sD11_fixed_70 (by decide) ?_
      refine sd_istore (ls' := [some (.inr 15), some (.inl (s : Int)), some (.inl (i : Int)), some (.inl w), some (.inl o), some (.inl 2), some (.inl (w + x 1306)), some (.inl (o + x 1307)), some (.inl 1), some (.inl 0), none, none, none]) sD11_fixed_71 (by decide) rfl ?_
      refine sd_iload sD11_fixed_73 rfl ?_
      refine sd_iconst sD11_fixed_75 (by decide) ?_
      refine sd_icmp_ge (tgt := 190) sD11_fixed_76 (by decide) (fun zc76 => (by exfalso; omega)) (fun zc76 => ?_)
      refine sd_iload sD11_fixed_79 rfl ?_
      refine sd_iconst sD11_fixed_81 (by decide) ?_
      refine sd_icmp_le (tgt := 190) sD11_fixed_82 (by decide) (fun zc82 => (by exfalso; omega)) (fun zc82 => ?_)
      refine sd_iload sD11_fixed_85 rfl ?_
      refine sd_aload_n sD11_fixed_87 rfl ?_
      refine sd_getfr sD11_fixed_88 sF11_7 sGM15_0 ?_
      refine sd_sipush sD11_fixed_91 rfl (by decide) ?_
      refine sd_iconst sD11_fixed_94 (by decide) ?_
      refine sd_iload sD11_fixed_95 rfl ?_
      refine sd_imul (z := 0) sD11_fixed_97 (by omega) (by omega) ?_
      refine sd_iadd (z := 1308) sD11_fixed_98 (by omega) (by omega) ?_
      refine sd_ialdx (a := 1308) (v := x 1308) hx sD11_fixed_99 sAM0 (by omega) rfl ?_
      refine sd_iadd (z := ((w + x 1306) + x 1308)) sD11_fixed_100 (by omega) (by omega) ?_
      refine sd_istore (ls' := [some (.inr 15), some (.inl (s : Int)), some (.inl (i : Int)), some (.inl w), some (.inl o), some (.inl 2), some (.inl (w + x 1306)), some (.inl (o + x 1307)), some (.inl 1), some (.inl 0), some (.inl ((w + x 1306) + x 1308)), none, none]) sD11_fixed_101 (by decide) rfl ?_
      refine sd_iload sD11_fixed_103 rfl ?_
      refine sd_aload_n sD11_fixed_105 rfl ?_
      refine sd_getfr sD11_fixed_106 sF11_7 sGM15_0 ?_
      refine sd_sipush sD11_fixed_109 rfl (by decide) ?_
      refine sd_iconst sD11_fixed_112 (by decide) ?_
      refine sd_iload sD11_fixed_113 rfl ?_
      refine sd_imul (z := 0) sD11_fixed_115 (by omega) (by omega) ?_
      refine sd_iadd (z := 1308) sD11_fixed_116 (by omega) (by omega) ?_
      refine sd_iconst sD11_fixed_117 (by decide) ?_
      refine sd_iadd (z := 1309) sD11_fixed_118 (by omega) (by omega) ?_
      refine sd_ialdx (a := 1309) (v := x 1309) hx sD11_fixed_119 sAM0 (by omega) rfl ?_
      refine sd_iadd (z := ((o + x 1307) + x 1309)) sD11_fixed_120 (by omega) (by omega) ?_
      refine sd_istore (ls' := [some (.inr 15), some (.inl (s : Int)), some (.inl (i : Int)), some (.inl w), some (.inl o), some (.inl 2), some (.inl (w + x 1306)), some (.inl (o + x 1307)), some (.inl 1), some (.inl 0), some (.inl ((w + x 1306) + x 1308)), some (.inl ((o + x 1307) + x 1309)), none]) sD11_fixed_121 (by decide) rfl ?_
      refine sd_iload sD11_fixed_123 rfl ?_
      refine sd_iload sD11_fixed_125 rfl ?_
      refine sd_callSp (as := [.inl ((w + x 1306) + x 1308), .inl ((o + x 1307) + x 1309)]) (st := []) (v := .inl (sd_std ((w + x 1306) + x 1308) ((o + x 1307) + x 1309))) sD11_fixed_127 sM11_211 rfl rfl (by omega) (Nat.le_of_ble_eq_true rfl) (cM_stands ((w + x 1306) + x 1308) ((o + x 1307) + x 1309) _ m hx  ) (fun ho127 => ?_)
      refine sd_istore (ls' := [some (.inr 15), some (.inl (s : Int)), some (.inl (i : Int)), some (.inl w), some (.inl o), some (.inl 2), some (.inl (w + x 1306)), some (.inl (o + x 1307)), some (.inl 1), some (.inl 0), some (.inl ((w + x 1306) + x 1308)), some (.inl ((o + x 1307) + x 1309)), some (.inl (sd_std ((w + x 1306) + x 1308) ((o + x 1307) + x 1309)))]) sD11_fixed_130 (by decide) rfl ?_
      refine sd_iload sD11_fixed_132 rfl ?_
      refine sd_cut (J := 166) (ls := [some (.inr 15), some (.inl (s : Int)), some (.inl (i : Int)), some (.inl w), some (.inl o), some (.inl 2), some (.inl (w + x 1306)), some (.inl (o + x 1307)), some (.inl 1), some (.inl 0), some (.inl ((w + x 1306) + x 1308)), some (.inl ((o + x 1307) + x 1309)), some (.inl (sd_std ((w + x 1306) + x 1308) ((o + x 1307) + x 1309)))]) (st := []) (fun zv => zv = (sd_pC (sd_pv x (sd_pl4 x s) n r) ((w + x 1306) + x 1308) ((o + x 1307) + x 1309))) (fun zv hzv => ?_) (fun K134 => ?_)
      ·
        subst hzv
        refine sd_istore (ls' := [some (.inr 15), some (.inl (s : Int)), some (.inl (i : Int)), some (.inl w), some (.inl o), some (.inl 2), some (.inl (w + x 1306)), some (.inl (o + x 1307)), some (.inl 1), some (.inl 0), some (.inl ((w + x 1306) + x 1308)), some (.inl ((o + x 1307) + x 1309)), some (.inl (sd_pC (sd_pv x (sd_pl4 x s) n r) ((w + x 1306) + x 1308) ((o + x 1307) + x 1309)))]) sD11_fixed_166 (by decide) rfl ?_
        refine sd_iload sD11_fixed_168 rfl ?_
        refine sd_iload sD11_fixed_170 rfl ?_
        refine sd_cut (J := 182) (ls := [some (.inr 15), some (.inl (s : Int)), some (.inl (i : Int)), some (.inl w), some (.inl o), some (.inl 2), some (.inl (w + x 1306)), some (.inl (o + x 1307)), some (.inl 1), some (.inl 0), some (.inl ((w + x 1306) + x 1308)), some (.inl ((o + x 1307) + x 1309)), some (.inl (sd_pC (sd_pv x (sd_pl4 x s) n r) ((w + x 1306) + x 1308) ((o + x 1307) + x 1309)))]) (st := []) (fun zv => zv = (min 1 (sd_pC (sd_pv x (sd_pl4 x s) n r) ((w + x 1306) + x 1308) ((o + x 1307) + x 1309)))) (fun zv hzv => ?_) (fun K172 => ?_)
        ·
          subst hzv
          refine sd_istore (ls' := [some (.inr 15), some (.inl (s : Int)), some (.inl (i : Int)), some (.inl w), some (.inl o), some (.inl 2), some (.inl (w + x 1306)), some (.inl (o + x 1307)), some (.inl (min 1 (sd_pC (sd_pv x (sd_pl4 x s) n r) ((w + x 1306) + x 1308) ((o + x 1307) + x 1309)))), some (.inl 0), some (.inl ((w + x 1306) + x 1308)), some (.inl ((o + x 1307) + x 1309)), some (.inl (sd_pC (sd_pv x (sd_pl4 x s) n r) ((w + x 1306) + x 1308) ((o + x 1307) + x 1309)))]) sD11_fixed_182 (by decide) rfl ?_
          refine sd_iinc (y := 1) (ls' := [some (.inr 15), some (.inl (s : Int)), some (.inl (i : Int)), some (.inl w), some (.inl o), some (.inl 2), some (.inl (w + x 1306)), some (.inl (o + x 1307)), some (.inl (min 1 (sd_pC (sd_pv x (sd_pl4 x s) n r) ((w + x 1306) + x 1308) ((o + x 1307) + x 1309)))), some (.inl 1), some (.inl ((w + x 1306) + x 1308)), some (.inl ((o + x 1307) + x 1309)), some (.inl (sd_pC (sd_pv x (sd_pl4 x s) n r) ((w + x 1306) + x 1308) ((o + x 1307) + x 1309)))]) sD11_fixed_184 rfl (by omega) (by omega) (by decide) rfl ?_
          refine sd_goto (tgt := 73) sD11_fixed_187 (by decide) ?_
          refine sd_iload sD11_fixed_73 rfl ?_
          refine sd_iconst sD11_fixed_75 (by decide) ?_
          refine sd_icmp_ge (tgt := 190) sD11_fixed_76 (by decide) (fun zc76 => (by exfalso; omega)) (fun zc76 => ?_)
          refine sd_iload sD11_fixed_79 rfl ?_
          refine sd_iconst sD11_fixed_81 (by decide) ?_
          refine sd_icmp_le (tgt := 190) sD11_fixed_82 (by decide) (fun zc82 => ?_) (fun zc82 => ?_)
          ·
            refine sd_iload sD11_fixed_190 rfl ?_
            refine sd_iretp sD11_fixed_192 rfl ?_
            (rw [eK]; unfold sd_pM; rcases e57 with e57 | e57 | e57 <;> first | (exfalso; omega) | (rw [if_pos (by omega)]; omega) | (rw [if_neg (by omega), if_pos (by omega)]; omega) | (rw [if_neg (by omega), if_neg (by omega), ← b3.2.2.1, ← b3.2.2.2, ← b4.2.2.1, ← b4.2.2.2, ← b5.2.2.1, ← b5.2.2.2]; omega))
          ·
            refine sd_iload sD11_fixed_85 rfl ?_
            refine sd_aload_n sD11_fixed_87 rfl ?_
            refine sd_getfr sD11_fixed_88 sF11_7 sGM15_0 ?_
            refine sd_sipush sD11_fixed_91 rfl (by decide) ?_
            refine sd_iconst sD11_fixed_94 (by decide) ?_
            refine sd_iload sD11_fixed_95 rfl ?_
            refine sd_imul (z := 2) sD11_fixed_97 (by omega) (by omega) ?_
            refine sd_iadd (z := 1310) sD11_fixed_98 (by omega) (by omega) ?_
            refine sd_ialdx (a := 1310) (v := x 1310) hx sD11_fixed_99 sAM0 (by omega) rfl ?_
            refine sd_iadd (z := ((w + x 1306) + x 1310)) sD11_fixed_100 (by omega) (by omega) ?_
            refine sd_istore (ls' := [some (.inr 15), some (.inl (s : Int)), some (.inl (i : Int)), some (.inl w), some (.inl o), some (.inl 2), some (.inl (w + x 1306)), some (.inl (o + x 1307)), some (.inl (min 1 (sd_pC (sd_pv x (sd_pl4 x s) n r) ((w + x 1306) + x 1308) ((o + x 1307) + x 1309)))), some (.inl 1), some (.inl ((w + x 1306) + x 1310)), some (.inl ((o + x 1307) + x 1309)), some (.inl (sd_pC (sd_pv x (sd_pl4 x s) n r) ((w + x 1306) + x 1308) ((o + x 1307) + x 1309)))]) sD11_fixed_101 (by decide) rfl ?_
            refine sd_iload sD11_fixed_103 rfl ?_
            refine sd_aload_n sD11_fixed_105 rfl ?_
            refine sd_getfr sD11_fixed_106 sF11_7 sGM15_0 ?_
            refine sd_sipush sD11_fixed_109 rfl (by decide) ?_
            refine sd_iconst sD11_fixed_112 (by decide) ?_
            refine sd_iload sD11_fixed_113 rfl ?_
            refine sd_imul (z := 2) sD11_fixed_115 (by omega) (by omega) ?_
            refine sd_iadd (z := 1310) sD11_fixed_116 (by omega) (by omega) ?_
            refine sd_iconst sD11_fixed_117 (by decide) ?_
            refine sd_iadd (z := 1311) sD11_fixed_118 (by omega) (by omega) ?_
            refine sd_ialdx (a := 1311) (v := x 1311) hx sD11_fixed_119 sAM0 (by omega) rfl ?_
            refine sd_iadd (z := ((o + x 1307) + x 1311)) sD11_fixed_120 (by omega) (by omega) ?_
            refine sd_istore (ls' := [some (.inr 15), some (.inl (s : Int)), some (.inl (i : Int)), some (.inl w), some (.inl o), some (.inl 2), some (.inl (w + x 1306)), some (.inl (o + x 1307)), some (.inl (min 1 (sd_pC (sd_pv x (sd_pl4 x s) n r) ((w + x 1306) + x 1308) ((o + x 1307) + x 1309)))), some (.inl 1), some (.inl ((w + x 1306) + x 1310)), some (.inl ((o + x 1307) + x 1311)), some (.inl (sd_pC (sd_pv x (sd_pl4 x s) n r) ((w + x 1306) + x 1308) ((o + x 1307) + x 1309)))]) sD11_fixed_121 (by decide) rfl ?_
            refine sd_iload sD11_fixed_123 rfl ?_
            refine sd_iload sD11_fixed_125 rfl ?_
            refine sd_callSp (as := [.inl ((w + x 1306) + x 1310), .inl ((o + x 1307) + x 1311)]) (st := []) (v := .inl (sd_std ((w + x 1306) + x 1310) ((o + x 1307) + x 1311))) sD11_fixed_127 sM11_211 rfl rfl (by omega) (Nat.le_of_ble_eq_true rfl) (cM_stands ((w + x 1306) + x 1310) ((o + x 1307) + x 1311) _ m hx  ) (fun ho127 => ?_)
            refine sd_istore (ls' := [some (.inr 15), some (.inl (s : Int)), some (.inl (i : Int)), some (.inl w), some (.inl o), some (.inl 2), some (.inl (w + x 1306)), some (.inl (o + x 1307)), some (.inl (min 1 (sd_pC (sd_pv x (sd_pl4 x s) n r) ((w + x 1306) + x 1308) ((o + x 1307) + x 1309)))), some (.inl 1), some (.inl ((w + x 1306) + x 1310)), some (.inl ((o + x 1307) + x 1311)), some (.inl (sd_std ((w + x 1306) + x 1310) ((o + x 1307) + x 1311)))]) sD11_fixed_130 (by decide) rfl ?_
            refine sd_iload sD11_fixed_132 rfl ?_
            refine sd_cut (J := 166) (ls := [some (.inr 15), some (.inl (s : Int)), some (.inl (i : Int)), some (.inl w), some (.inl o), some (.inl 2), some (.inl (w + x 1306)), some (.inl (o + x 1307)), some (.inl (min 1 (sd_pC (sd_pv x (sd_pl4 x s) n r) ((w + x 1306) + x 1308) ((o + x 1307) + x 1309)))), some (.inl 1), some (.inl ((w + x 1306) + x 1310)), some (.inl ((o + x 1307) + x 1311)), some (.inl (sd_std ((w + x 1306) + x 1310) ((o + x 1307) + x 1311)))]) (st := []) (fun zv => zv = (sd_pC (sd_pv x (sd_pl4 x s) n r) ((w + x 1306) + x 1310) ((o + x 1307) + x 1311))) (fun zv hzv => ?_) (fun K134 => ?_)
            ·
              subst hzv
              refine sd_istore (ls' := [some (.inr 15), some (.inl (s : Int)), some (.inl (i : Int)), some (.inl w), some (.inl o), some (.inl 2), some (.inl (w + x 1306)), some (.inl (o + x 1307)), some (.inl (min 1 (sd_pC (sd_pv x (sd_pl4 x s) n r) ((w + x 1306) + x 1308) ((o + x 1307) + x 1309)))), some (.inl 1), some (.inl ((w + x 1306) + x 1310)), some (.inl ((o + x 1307) + x 1311)), some (.inl (sd_pC (sd_pv x (sd_pl4 x s) n r) ((w + x 1306) + x 1310) ((o + x 1307) + x 1311)))]) sD11_fixed_166 (by decide) rfl ?_
              refine sd_iload sD11_fixed_168 rfl ?_
              refine sd_iload sD11_fixed_170 rfl ?_
              refine sd_cut (J := 182) (ls := [some (.inr 15), some (.inl (s : Int)), some (.inl (i : Int)), some (.inl w), some (.inl o), some (.inl 2), some (.inl (w + x 1306)), some (.inl (o + x 1307)), some (.inl (min 1 (sd_pC (sd_pv x (sd_pl4 x s) n r) ((w + x 1306) + x 1308) ((o + x 1307) + x 1309)))), some (.inl 1), some (.inl ((w + x 1306) + x 1310)), some (.inl ((o + x 1307) + x 1311)), some (.inl (sd_pC (sd_pv x (sd_pl4 x s) n r) ((w + x 1306) + x 1310) ((o + x 1307) + x 1311)))]) (st := []) (fun zv => zv = (min (min 1 (sd_pC (sd_pv x (sd_pl4 x s) n r) ((w + x 1306) + x 1308) ((o + x 1307) + x 1309))) (sd_pC (sd_pv x (sd_pl4 x s) n r) ((w + x 1306) + x 1310) ((o + x 1307) + x 1311)))) (fun zv hzv => ?_) (fun K172 => ?_)
              ·
                subst hzv
                refine sd_istore (ls' := [some (.inr 15), some (.inl (s : Int)), some (.inl (i : Int)), some (.inl w), some (.inl o), some (.inl 2), some (.inl (w + x 1306)), some (.inl (o + x 1307)), some (.inl (min (min 1 (sd_pC (sd_pv x (sd_pl4 x s) n r) ((w + x 1306) + x 1308) ((o + x 1307) + x 1309))) (sd_pC (sd_pv x (sd_pl4 x s) n r) ((w + x 1306) + x 1310) ((o + x 1307) + x 1311)))), some (.inl 1), some (.inl ((w + x 1306) + x 1310)), some (.inl ((o + x 1307) + x 1311)), some (.inl (sd_pC (sd_pv x (sd_pl4 x s) n r) ((w + x 1306) + x 1310) ((o + x 1307) + x 1311)))]) sD11_fixed_182 (by decide) rfl ?_
                refine sd_iinc (y := 2) (ls' := [some (.inr 15), some (.inl (s : Int)), some (.inl (i : Int)), some (.inl w), some (.inl o), some (.inl 2), some (.inl (w + x 1306)), some (.inl (o + x 1307)), some (.inl (min (min 1 (sd_pC (sd_pv x (sd_pl4 x s) n r) ((w + x 1306) + x 1308) ((o + x 1307) + x 1309))) (sd_pC (sd_pv x (sd_pl4 x s) n r) ((w + x 1306) + x 1310) ((o + x 1307) + x 1311)))), some (.inl 2), some (.inl ((w + x 1306) + x 1310)), some (.inl ((o + x 1307) + x 1311)), some (.inl (sd_pC (sd_pv x (sd_pl4 x s) n r) ((w + x 1306) + x 1310) ((o + x 1307) + x 1311)))]) sD11_fixed_184 rfl (by omega) (by omega) (by decide) rfl ?_
                refine sd_goto (tgt := 73) sD11_fixed_187 (by decide) ?_
                refine sd_iload sD11_fixed_73 rfl ?_
                refine sd_iconst sD11_fixed_75 (by decide) ?_
                refine sd_icmp_ge (tgt := 190) sD11_fixed_76 (by decide) (fun zc76 => (by exfalso; omega)) (fun zc76 => ?_)
                refine sd_iload sD11_fixed_79 rfl ?_
                refine sd_iconst sD11_fixed_81 (by decide) ?_
                refine sd_icmp_le (tgt := 190) sD11_fixed_82 (by decide) (fun zc82 => ?_) (fun zc82 => ?_)
                ·
                  refine sd_iload sD11_fixed_190 rfl ?_
                  refine sd_iretp sD11_fixed_192 rfl ?_
                  (rw [eK]; unfold sd_pM; rcases e57 with e57 | e57 | e57 <;> first | (exfalso; omega) | (rw [if_pos (by omega)]; omega) | (rw [if_neg (by omega), if_pos (by omega)]; omega) | (rw [if_neg (by omega), if_neg (by omega), ← b3.2.2.1, ← b3.2.2.2, ← b4.2.2.1, ← b4.2.2.2, ← b5.2.2.1, ← b5.2.2.2]; omega))
                ·
                  refine sd_iload sD11_fixed_85 rfl ?_
                  refine sd_aload_n sD11_fixed_87 rfl ?_
                  refine sd_getfr sD11_fixed_88 sF11_7 sGM15_0 ?_
                  refine sd_sipush sD11_fixed_91 rfl (by decide) ?_
                  refine sd_iconst sD11_fixed_94 (by decide) ?_
                  refine sd_iload sD11_fixed_95 rfl ?_
                  refine sd_imul (z := 4) sD11_fixed_97 (by omega) (by omega) ?_
                  refine sd_iadd (z := 1312) sD11_fixed_98 (by omega) (by omega) ?_
                  refine sd_ialdx (a := 1312) (v := x 1312) hx sD11_fixed_99 sAM0 (by omega) rfl ?_
                  refine sd_iadd (z := ((w + x 1306) + x 1312)) sD11_fixed_100 (by omega) (by omega) ?_
                  refine sd_istore (ls' := [some (.inr 15), some (.inl (s : Int)), some (.inl (i : Int)), some (.inl w), some (.inl o), some (.inl 2), some (.inl (w + x 1306)), some (.inl (o + x 1307)), some (.inl (min (min 1 (sd_pC (sd_pv x (sd_pl4 x s) n r) ((w + x 1306) + x 1308) ((o + x 1307) + x 1309))) (sd_pC (sd_pv x (sd_pl4 x s) n r) ((w + x 1306) + x 1310) ((o + x 1307) + x 1311)))), some (.inl 2), some (.inl ((w + x 1306) + x 1312)), some (.inl ((o + x 1307) + x 1311)), some (.inl (sd_pC (sd_pv x (sd_pl4 x s) n r) ((w + x 1306) + x 1310) ((o + x 1307) + x 1311)))]) sD11_fixed_101 (by decide) rfl ?_
                  refine sd_iload sD11_fixed_103 rfl ?_
                  refine sd_aload_n sD11_fixed_105 rfl ?_
                  refine sd_getfr sD11_fixed_106 sF11_7 sGM15_0 ?_
                  refine sd_sipush sD11_fixed_109 rfl (by decide) ?_
                  refine sd_iconst sD11_fixed_112 (by decide) ?_
                  refine sd_iload sD11_fixed_113 rfl ?_
                  refine sd_imul (z := 4) sD11_fixed_115 (by omega) (by omega) ?_
                  refine sd_iadd (z := 1312) sD11_fixed_116 (by omega) (by omega) ?_
                  refine sd_iconst sD11_fixed_117 (by decide) ?_
                  refine sd_iadd (z := 1313) sD11_fixed_118 (by omega) (by omega) ?_
                  refine sd_ialdx (a := 1313) (v := x 1313) hx sD11_fixed_119 sAM0 (by omega) rfl ?_
                  refine sd_iadd (z := ((o + x 1307) + x 1313)) sD11_fixed_120 (by omega) (by omega) ?_
                  refine sd_istore (ls' := [some (.inr 15), some (.inl (s : Int)), some (.inl (i : Int)), some (.inl w), some (.inl o), some (.inl 2), some (.inl (w + x 1306)), some (.inl (o + x 1307)), some (.inl (min (min 1 (sd_pC (sd_pv x (sd_pl4 x s) n r) ((w + x 1306) + x 1308) ((o + x 1307) + x 1309))) (sd_pC (sd_pv x (sd_pl4 x s) n r) ((w + x 1306) + x 1310) ((o + x 1307) + x 1311)))), some (.inl 2), some (.inl ((w + x 1306) + x 1312)), some (.inl ((o + x 1307) + x 1313)), some (.inl (sd_pC (sd_pv x (sd_pl4 x s) n r) ((w + x 1306) + x 1310) ((o + x 1307) + x 1311)))]) sD11_fixed_121 (by decide) rfl ?_
                  refine sd_iload sD11_fixed_123 rfl ?_
                  refine sd_iload sD11_fixed_125 rfl ?_
                  refine sd_callSp (as := [.inl ((w + x 1306) + x 1312), .inl ((o + x 1307) + x 1313)]) (st := []) (v := .inl (sd_std ((w + x 1306) + x 1312) ((o + x 1307) + x 1313))) sD11_fixed_127 sM11_211 rfl rfl (by omega) (Nat.le_of_ble_eq_true rfl) (cM_stands ((w + x 1306) + x 1312) ((o + x 1307) + x 1313) _ m hx  ) (fun ho127 => ?_)
                  refine sd_istore (ls' := [some (.inr 15), some (.inl (s : Int)), some (.inl (i : Int)), some (.inl w), some (.inl o), some (.inl 2), some (.inl (w + x 1306)), some (.inl (o + x 1307)), some (.inl (min (min 1 (sd_pC (sd_pv x (sd_pl4 x s) n r) ((w + x 1306) + x 1308) ((o + x 1307) + x 1309))) (sd_pC (sd_pv x (sd_pl4 x s) n r) ((w + x 1306) + x 1310) ((o + x 1307) + x 1311)))), some (.inl 2), some (.inl ((w + x 1306) + x 1312)), some (.inl ((o + x 1307) + x 1313)), some (.inl (sd_std ((w + x 1306) + x 1312) ((o + x 1307) + x 1313)))]) sD11_fixed_130 (by decide) rfl ?_
                  refine sd_iload sD11_fixed_132 rfl ?_
                  refine sd_cut (J := 166) (ls := [some (.inr 15), some (.inl (s : Int)), some (.inl (i : Int)), some (.inl w), some (.inl o), some (.inl 2), some (.inl (w + x 1306)), some (.inl (o + x 1307)), some (.inl (min (min 1 (sd_pC (sd_pv x (sd_pl4 x s) n r) ((w + x 1306) + x 1308) ((o + x 1307) + x 1309))) (sd_pC (sd_pv x (sd_pl4 x s) n r) ((w + x 1306) + x 1310) ((o + x 1307) + x 1311)))), some (.inl 2), some (.inl ((w + x 1306) + x 1312)), some (.inl ((o + x 1307) + x 1313)), some (.inl (sd_std ((w + x 1306) + x 1312) ((o + x 1307) + x 1313)))]) (st := []) (fun zv => zv = (sd_pC (sd_pv x (sd_pl4 x s) n r) ((w + x 1306) + x 1312) ((o + x 1307) + x 1313))) (fun zv hzv => ?_) (fun K134 => ?_)
                  ·
                    subst hzv
                    refine sd_istore (ls' := [some (.inr 15), some (.inl (s : Int)), some (.inl (i : Int)), some (.inl w), some (.inl o), some (.inl 2), some (.inl (w + x 1306)), some (.inl (o + x 1307)), some (.inl (min (min 1 (sd_pC (sd_pv x (sd_pl4 x s) n r) ((w + x 1306) + x 1308) ((o + x 1307) + x 1309))) (sd_pC (sd_pv x (sd_pl4 x s) n r) ((w + x 1306) + x 1310) ((o + x 1307) + x 1311)))), some (.inl 2), some (.inl ((w + x 1306) + x 1312)), some (.inl ((o + x 1307) + x 1313)), some (.inl (sd_pC (sd_pv x (sd_pl4 x s) n r) ((w + x 1306) + x 1312) ((o + x 1307) + x 1313)))]) sD11_fixed_166 (by decide) rfl ?_
                    refine sd_iload sD11_fixed_168 rfl ?_
                    refine sd_iload sD11_fixed_170 rfl ?_
                    refine sd_cut (J := 182) (ls := [some (.inr 15), some (.inl (s : Int)), some (.inl (i : Int)), some (.inl w), some (.inl o), some (.inl 2), some (.inl (w + x 1306)), some (.inl (o + x 1307)), some (.inl (min (min 1 (sd_pC (sd_pv x (sd_pl4 x s) n r) ((w + x 1306) + x 1308) ((o + x 1307) + x 1309))) (sd_pC (sd_pv x (sd_pl4 x s) n r) ((w + x 1306) + x 1310) ((o + x 1307) + x 1311)))), some (.inl 2), some (.inl ((w + x 1306) + x 1312)), some (.inl ((o + x 1307) + x 1313)), some (.inl (sd_pC (sd_pv x (sd_pl4 x s) n r) ((w + x 1306) + x 1312) ((o + x 1307) + x 1313)))]) (st := []) (fun zv => zv = (min (min (min 1 (sd_pC (sd_pv x (sd_pl4 x s) n r) ((w + x 1306) + x 1308) ((o + x 1307) + x 1309))) (sd_pC (sd_pv x (sd_pl4 x s) n r) ((w + x 1306) + x 1310) ((o + x 1307) + x 1311))) (sd_pC (sd_pv x (sd_pl4 x s) n r) ((w + x 1306) + x 1312) ((o + x 1307) + x 1313)))) (fun zv hzv => ?_) (fun K172 => ?_)
                    ·
                      subst hzv
                      refine sd_istore (ls' := [some (.inr 15), some (.inl (s : Int)), some (.inl (i : Int)), some (.inl w), some (.inl o), some (.inl 2), some (.inl (w + x 1306)), some (.inl (o + x 1307)), some (.inl (min (min (min 1 (sd_pC (sd_pv x (sd_pl4 x s) n r) ((w + x 1306) + x 1308) ((o + x 1307) + x 1309))) (sd_pC (sd_pv x (sd_pl4 x s) n r) ((w + x 1306) + x 1310) ((o + x 1307) + x 1311))) (sd_pC (sd_pv x (sd_pl4 x s) n r) ((w + x 1306) + x 1312) ((o + x 1307) + x 1313)))), some (.inl 2), some (.inl ((w + x 1306) + x 1312)), some (.inl ((o + x 1307) + x 1313)), some (.inl (sd_pC (sd_pv x (sd_pl4 x s) n r) ((w + x 1306) + x 1312) ((o + x 1307) + x 1313)))]) sD11_fixed_182 (by decide) rfl ?_
                      refine sd_iinc (y := 3) (ls' := [some (.inr 15), some (.inl (s : Int)), some (.inl (i : Int)), some (.inl w), some (.inl o), some (.inl 2), some (.inl (w + x 1306)), some (.inl (o + x 1307)), some (.inl (min (min (min 1 (sd_pC (sd_pv x (sd_pl4 x s) n r) ((w + x 1306) + x 1308) ((o + x 1307) + x 1309))) (sd_pC (sd_pv x (sd_pl4 x s) n r) ((w + x 1306) + x 1310) ((o + x 1307) + x 1311))) (sd_pC (sd_pv x (sd_pl4 x s) n r) ((w + x 1306) + x 1312) ((o + x 1307) + x 1313)))), some (.inl 3), some (.inl ((w + x 1306) + x 1312)), some (.inl ((o + x 1307) + x 1313)), some (.inl (sd_pC (sd_pv x (sd_pl4 x s) n r) ((w + x 1306) + x 1312) ((o + x 1307) + x 1313)))]) sD11_fixed_184 rfl (by omega) (by omega) (by decide) rfl ?_
                      refine sd_goto (tgt := 73) sD11_fixed_187 (by decide) ?_
                      refine sd_iload sD11_fixed_73 rfl ?_
                      refine sd_iconst sD11_fixed_75 (by decide) ?_
                      refine sd_icmp_ge (tgt := 190) sD11_fixed_76 (by decide) (fun zc76 => ?_) (fun zc76 => (by exfalso; omega))
                      refine sd_iload sD11_fixed_190 rfl ?_
                      refine sd_iretp sD11_fixed_192 rfl ?_
                      (rw [eK]; unfold sd_pM; rcases e57 with e57 | e57 | e57 <;> first | (exfalso; omega) | (rw [if_pos (by omega)]; omega) | (rw [if_neg (by omega), if_pos (by omega)]; omega) | (rw [if_neg (by omega), if_neg (by omega), ← b3.2.2.1, ← b3.2.2.2, ← b4.2.2.1, ← b4.2.2.2, ← b5.2.2.1, ← b5.2.2.2]; omega))
                    ·
                      refine sd_icmp_ge (tgt := 180) sD11_fixed_172 (by decide) (fun zc172 => ?_) (fun zc172 => ?_)
                      ·
                        refine sd_iload sD11_fixed_180 rfl ?_
                        exact K172 _ (by omega)
                      ·
                        refine sd_iload sD11_fixed_175 rfl ?_
                        refine sd_goto (tgt := 182) sD11_fixed_177 (by decide) ?_
                        exact K172 _ (by omega)
                  ·
                    refine sd_if_ne (tgt := 164) sD11_fixed_134 (by decide) (fun zc134 => ?_) (fun zc134 => ?_)
                    ·
                      refine sd_iload sD11_fixed_164 rfl ?_
                      exact K134 _ (by rw [sd_pC_std]; first | (rw [if_neg (by assumption)]; done) | (rw [if_pos (by assumption)]; done) | (rw [if_pos (by assumption)]; have hr0 : r = 0 := (by omega); rw [hr0]; assumption))
                    ·
                      refine sd_iload_n sD11_fixed_137 rfl ?_
                      refine sd_iconst sD11_fixed_138 (by decide) ?_
                      refine sd_iadd (z := ((i : Int) + 1)) sD11_fixed_139 (by omega) (by omega) ?_
                      refine sd_aload_n sD11_fixed_140 rfl ?_
                      refine sd_getfr sD11_fixed_141 sF11_46 sGM15_21 ?_
                      refine sd_iload_n sD11_fixed_144 rfl ?_
                      refine sd_ialdx (a := (4254 + s)) (v := x (4254 + s)) hx sD11_fixed_145 sAM12 (by omega) rfl ?_
                      refine sd_icmp_ge (tgt := 164) sD11_fixed_146 (by decide) (fun zc146 => ?_) (fun zc146 => ?_)
                      ·
                        refine sd_iload sD11_fixed_164 rfl ?_
                        exact K134 _ (by rw [sd_pC_std]; first | (rw [if_neg (by assumption)]; done) | (rw [if_pos (by assumption)]; done) | (rw [if_pos (by assumption)]; have hr0 : r = 0 := (by omega); rw [hr0]; assumption))
                      ·
                        refine sd_aload_n sD11_fixed_149 rfl ?_
                        refine sd_iload_n sD11_fixed_150 rfl ?_
                        refine sd_iload_n sD11_fixed_151 rfl ?_
                        refine sd_iconst sD11_fixed_152 (by decide) ?_
                        refine sd_iadd (z := ((i : Int) + 1)) sD11_fixed_153 (by omega) (by omega) ?_
                        refine sd_iload sD11_fixed_154 rfl ?_
                        refine sd_iload sD11_fixed_156 rfl ?_
                        refine sd_callVp (as := [.inl (s : Int), .inl ((i : Int) + 1), .inl ((w + x 1306) + x 1312), .inl ((o + x 1307) + x 1313)]) (st := []) (v := .inl (sd_pv x (sd_pl4 x s) n r ((w + x 1306) + x 1312) ((o + x 1307) + x 1313))) sD11_fixed_158 sM11_224 sOM15 rfl rfl rfl (by omega) (Nat.le_of_ble_eq_true rfl) (hrec (by omega) ((w + x 1306) + x 1312) ((o + x 1307) + x 1313) (by omega) (by omega)) (fun ho158 => ?_)
                        refine sd_goto (tgt := 166) sD11_fixed_161 (by decide) ?_
                        exact K134 _ (by rw [sd_pC_std]; first | (rw [if_neg (by assumption)]; done) | (rw [if_pos (by assumption)]; done) | (rw [if_pos (by assumption)]; have hr0 : r = 0 := (by omega); rw [hr0]; assumption))
              ·
                refine sd_icmp_ge (tgt := 180) sD11_fixed_172 (by decide) (fun zc172 => ?_) (fun zc172 => ?_)
                ·
                  refine sd_iload sD11_fixed_180 rfl ?_
                  exact K172 _ (by omega)
                ·
                  refine sd_iload sD11_fixed_175 rfl ?_
                  refine sd_goto (tgt := 182) sD11_fixed_177 (by decide) ?_
                  exact K172 _ (by omega)
            ·
              refine sd_if_ne (tgt := 164) sD11_fixed_134 (by decide) (fun zc134 => ?_) (fun zc134 => ?_)
              ·
                refine sd_iload sD11_fixed_164 rfl ?_
                exact K134 _ (by rw [sd_pC_std]; first | (rw [if_neg (by assumption)]; done) | (rw [if_pos (by assumption)]; done) | (rw [if_pos (by assumption)]; have hr0 : r = 0 := (by omega); rw [hr0]; assumption))
              ·
                refine sd_iload_n sD11_fixed_137 rfl ?_
                refine sd_iconst sD11_fixed_138 (by decide) ?_
                refine sd_iadd (z := ((i : Int) + 1)) sD11_fixed_139 (by omega) (by omega) ?_
                refine sd_aload_n sD11_fixed_140 rfl ?_
                refine sd_getfr sD11_fixed_141 sF11_46 sGM15_21 ?_
                refine sd_iload_n sD11_fixed_144 rfl ?_
                refine sd_ialdx (a := (4254 + s)) (v := x (4254 + s)) hx sD11_fixed_145 sAM12 (by omega) rfl ?_
                refine sd_icmp_ge (tgt := 164) sD11_fixed_146 (by decide) (fun zc146 => ?_) (fun zc146 => ?_)
                ·
                  refine sd_iload sD11_fixed_164 rfl ?_
                  exact K134 _ (by rw [sd_pC_std]; first | (rw [if_neg (by assumption)]; done) | (rw [if_pos (by assumption)]; done) | (rw [if_pos (by assumption)]; have hr0 : r = 0 := (by omega); rw [hr0]; assumption))
                ·
                  refine sd_aload_n sD11_fixed_149 rfl ?_
                  refine sd_iload_n sD11_fixed_150 rfl ?_
                  refine sd_iload_n sD11_fixed_151 rfl ?_
                  refine sd_iconst sD11_fixed_152 (by decide) ?_
                  refine sd_iadd (z := ((i : Int) + 1)) sD11_fixed_153 (by omega) (by omega) ?_
                  refine sd_iload sD11_fixed_154 rfl ?_
                  refine sd_iload sD11_fixed_156 rfl ?_
                  refine sd_callVp (as := [.inl (s : Int), .inl ((i : Int) + 1), .inl ((w + x 1306) + x 1310), .inl ((o + x 1307) + x 1311)]) (st := []) (v := .inl (sd_pv x (sd_pl4 x s) n r ((w + x 1306) + x 1310) ((o + x 1307) + x 1311))) sD11_fixed_158 sM11_224 sOM15 rfl rfl rfl (by omega) (Nat.le_of_ble_eq_true rfl) (hrec (by omega) ((w + x 1306) + x 1310) ((o + x 1307) + x 1311) (by omega) (by omega)) (fun ho158 => ?_)
                  refine sd_goto (tgt := 166) sD11_fixed_161 (by decide) ?_
                  exact K134 _ (by rw [sd_pC_std]; first | (rw [if_neg (by assumption)]; done) | (rw [if_pos (by assumption)]; done) | (rw [if_pos (by assumption)]; have hr0 : r = 0 := (by omega); rw [hr0]; assumption))
        ·
          refine sd_icmp_ge (tgt := 180) sD11_fixed_172 (by decide) (fun zc172 => ?_) (fun zc172 => ?_)
          ·
            refine sd_iload sD11_fixed_180 rfl ?_
            exact K172 _ (by omega)
          ·
            refine sd_iload sD11_fixed_175 rfl ?_
            refine sd_goto (tgt := 182) sD11_fixed_177 (by decide) ?_
            exact K172 _ (by omega)
      ·
        refine sd_if_ne (tgt := 164) sD11_fixed_134 (by decide) (fun zc134 => ?_) (fun zc134 => ?_)
        ·
          refine sd_iload sD11_fixed_164 rfl ?_
          exact K134 _ (by rw [sd_pC_std]; first | (rw [if_neg (by assumption)]; done) | (rw [if_pos (by assumption)]; done) | (rw [if_pos (by assumption)]; have hr0 : r = 0 := (by omega); rw [hr0]; assumption))
        ·
          refine sd_iload_n sD11_fixed_137 rfl ?_
          refine sd_iconst sD11_fixed_138 (by decide) ?_
          refine sd_iadd (z := ((i : Int) + 1)) sD11_fixed_139 (by omega) (by omega) ?_
          refine sd_aload_n sD11_fixed_140 rfl ?_
          refine sd_getfr sD11_fixed_141 sF11_46 sGM15_21 ?_
          refine sd_iload_n sD11_fixed_144 rfl ?_
          refine sd_ialdx (a := (4254 + s)) (v := x (4254 + s)) hx sD11_fixed_145 sAM12 (by omega) rfl ?_
          refine sd_icmp_ge (tgt := 164) sD11_fixed_146 (by decide) (fun zc146 => ?_) (fun zc146 => ?_)
          ·
            refine sd_iload sD11_fixed_164 rfl ?_
            exact K134 _ (by rw [sd_pC_std]; first | (rw [if_neg (by assumption)]; done) | (rw [if_pos (by assumption)]; done) | (rw [if_pos (by assumption)]; have hr0 : r = 0 := (by omega); rw [hr0]; assumption))
          ·
            refine sd_aload_n sD11_fixed_149 rfl ?_
            refine sd_iload_n sD11_fixed_150 rfl ?_
            refine sd_iload_n sD11_fixed_151 rfl ?_
            refine sd_iconst sD11_fixed_152 (by decide) ?_
            refine sd_iadd (z := ((i : Int) + 1)) sD11_fixed_153 (by omega) (by omega) ?_
            refine sd_iload sD11_fixed_154 rfl ?_
            refine sd_iload sD11_fixed_156 rfl ?_
            refine sd_callVp (as := [.inl (s : Int), .inl ((i : Int) + 1), .inl ((w + x 1306) + x 1308), .inl ((o + x 1307) + x 1309)]) (st := []) (v := .inl (sd_pv x (sd_pl4 x s) n r ((w + x 1306) + x 1308) ((o + x 1307) + x 1309))) sD11_fixed_158 sM11_224 sOM15 rfl rfl rfl (by omega) (Nat.le_of_ble_eq_true rfl) (hrec (by omega) ((w + x 1306) + x 1308) ((o + x 1307) + x 1309) (by omega) (by omega)) (fun ho158 => ?_)
            refine sd_goto (tgt := 166) sD11_fixed_161 (by decide) ?_
            exact K134 _ (by rw [sd_pC_std]; first | (rw [if_neg (by assumption)]; done) | (rw [if_pos (by assumption)]; done) | (rw [if_pos (by assumption)]; have hr0 : r = 0 := (by omega); rw [hr0]; assumption))
    ·
      refine sd_iload sD11_fixed_64 rfl ?_
      refine sd_iretp sD11_fixed_66 rfl ?_
      (rw [eK]; unfold sd_pM; rcases e57 with e57 | e57 | e57 <;> first | (exfalso; omega) | (rw [if_pos (by omega)]; omega) | (rw [if_neg (by omega), if_pos (by omega)]; omega) | (rw [if_neg (by omega), if_neg (by omega), ← b3.2.2.1, ← b3.2.2.2, ← b4.2.2.1, ← b4.2.2.2, ← b5.2.2.1, ← b5.2.2.2]; omega))
