theorem bC_11 : sd_Bc sY11_init 1 15 3405 11 [.null, .null, .int 0, .null, .int 0, .null, .null, .null, .null, .null, .int 0, .int 0, .int 0, .int 0, .null, .int 0, .int 0, .int 0, .null, .null, .null, .null, .null, .null] (sd_yPo sd_SM) := by
  refine sd_ybc rfl rfl (by decide) rfl (fun g h0 sz => ?_)
  refine bw_al (j := 0) sD11_init_0 rfl ?_
  refine bw_obj sD11_init_1 (sd_in5_ (i := 238) rfl rfl) (by decide) ?_
  refine bw_al (j := 0) sD11_init_4 rfl ?_
  refine bw_push (Or.inr (Or.inr ⟨sD11_init_5, by decide⟩)) ?_
  refine bw_na (n := 1554) (v := sd_fk 1268 (fun i => sd_x0 (0 + i))) sD11_init_8 rfl (by decide) (fun i _ => sd_fkd i) (cells' := 1) (slots' := 1554) rfl rfl (Nat.le_of_ble_eq_true rfl) (Nat.le_of_ble_eq_true rfl) (fun q0 => ?_)
  refine bw_pf sD11_init_10 sF11_7 rfl rfl rfl (Nat.le_of_ble_eq_true rfl) (fs' := [.ref q0, .null, .int 0, .null, .int 0, .null, .null, .null, .null, .null, .int 0, .int 0, .int 0, .int 0, .null, .int 0, .int 0, .int 0, .null, .null, .null, .null, .null, .null]) rfl ?_
  refine bw_al (j := 0) sD11_init_13 rfl ?_
  refine bw_push (Or.inr (Or.inr ⟨sD11_init_14, by decide⟩)) ?_
  refine bw_na (n := 1554) (v := fun i => sd_x0 (2000 + i)) sD11_init_17 rfl (by decide) (fun i hi => sd_x0z (by omega) (by omega) (by omega)) (cells' := 2) (slots' := 3108) rfl rfl (Nat.le_of_ble_eq_true rfl) (Nat.le_of_ble_eq_true rfl) (fun q1 => ?_)
  refine bw_pf sD11_init_19 sF11_13 rfl rfl rfl (Nat.le_of_ble_eq_true rfl) (fs' := [.ref q0, .ref q1, .int 0, .null, .int 0, .null, .null, .null, .null, .null, .int 0, .int 0, .int 0, .int 0, .null, .int 0, .int 0, .int 0, .null, .null, .null, .null, .null, .null]) rfl ?_
  refine bw_al (j := 0) sD11_init_22 rfl ?_
  refine bw_push (Or.inr (Or.inl ⟨sD11_init_23, by decide⟩)) ?_
  refine bw_na (n := 100) (v := fun i => sd_x0 (4000 + i)) sD11_init_25 rfl (by decide) (fun i hi => sd_x0z (by omega) (by omega) (by omega)) (cells' := 3) (slots' := 3208) rfl rfl (Nat.le_of_ble_eq_true rfl) (Nat.le_of_ble_eq_true rfl) (fun q2 => ?_)
  refine bw_pf sD11_init_27 sF11_16 rfl rfl rfl (Nat.le_of_ble_eq_true rfl) (fs' := [.ref q0, .ref q1, .int 0, .ref q2, .int 0, .null, .null, .null, .null, .null, .int 0, .int 0, .int 0, .int 0, .null, .int 0, .int 0, .int 0, .null, .null, .null, .null, .null, .null]) rfl ?_
  refine bw_al (j := 0) sD11_init_30 rfl ?_
  refine bw_push (Or.inr (Or.inl ⟨sD11_init_31, by decide⟩)) ?_
  refine bw_na (n := 7) (v := fun i => sd_x0 (4101 + i)) sD11_init_33 rfl (by decide) (fun i hi => sd_x0z (by omega) (by omega) (by omega)) (cells' := 4) (slots' := 3215) rfl rfl (Nat.le_of_ble_eq_true rfl) (Nat.le_of_ble_eq_true rfl) (fun q3 => ?_)
  refine bw_pf sD11_init_35 sF11_19 rfl rfl rfl (Nat.le_of_ble_eq_true rfl) (fs' := [.ref q0, .ref q1, .int 0, .ref q2, .int 0, .ref q3, .null, .null, .null, .null, .int 0, .int 0, .int 0, .int 0, .null, .int 0, .int 0, .int 0, .null, .null, .null, .null, .null, .null]) rfl ?_
  refine bw_al (j := 0) sD11_init_38 rfl ?_
  refine bw_push (Or.inr (Or.inl ⟨sD11_init_39, by decide⟩)) ?_
  refine bw_na (n := 6) (v := fun i => sd_x0 (5400 + i)) sD11_init_41 rfl (by decide) (fun i hi => sd_x0z (by omega) (by omega) (by omega)) (cells' := 5) (slots' := 3221) rfl rfl (Nat.le_of_ble_eq_true rfl) (Nat.le_of_ble_eq_true rfl) (fun q4 => ?_)
  refine bw_pf sD11_init_43 sF11_22 rfl rfl rfl (Nat.le_of_ble_eq_true rfl) (fs' := [.ref q0, .ref q1, .int 0, .ref q2, .int 0, .ref q3, .ref q4, .null, .null, .null, .int 0, .int 0, .int 0, .int 0, .null, .int 0, .int 0, .int 0, .null, .null, .null, .null, .null, .null]) rfl ?_
  refine bw_al (j := 0) sD11_init_46 rfl ?_
  refine bw_push (Or.inr (Or.inl ⟨sD11_init_47, by decide⟩)) ?_
  refine bw_na (n := 6) (v := fun i => sd_x0 (5410 + i)) sD11_init_49 rfl (by decide) (fun i hi => sd_x0z (by omega) (by omega) (by omega)) (cells' := 6) (slots' := 3227) rfl rfl (Nat.le_of_ble_eq_true rfl) (Nat.le_of_ble_eq_true rfl) (fun q5 => ?_)
  refine bw_pf sD11_init_51 sF11_25 rfl rfl rfl (Nat.le_of_ble_eq_true rfl) (fs' := [.ref q0, .ref q1, .int 0, .ref q2, .int 0, .ref q3, .ref q4, .ref q5, .null, .null, .int 0, .int 0, .int 0, .int 0, .null, .int 0, .int 0, .int 0, .null, .null, .null, .null, .null, .null]) rfl ?_
  refine bw_al (j := 0) sD11_init_54 rfl ?_
  refine bw_push (Or.inr (Or.inl ⟨sD11_init_55, by decide⟩)) ?_
  refine bw_na (n := 6) (v := fun i => sd_x0 (5420 + i)) sD11_init_57 rfl (by decide) (fun i hi => sd_x0z (by omega) (by omega) (by omega)) (cells' := 7) (slots' := 3233) rfl rfl (Nat.le_of_ble_eq_true rfl) (Nat.le_of_ble_eq_true rfl) (fun q6 => ?_)
  refine bw_pf sD11_init_59 sF11_28 rfl rfl rfl (Nat.le_of_ble_eq_true rfl) (fs' := [.ref q0, .ref q1, .int 0, .ref q2, .int 0, .ref q3, .ref q4, .ref q5, .ref q6, .null, .int 0, .int 0, .int 0, .int 0, .null, .int 0, .int 0, .int 0, .null, .null, .null, .null, .null, .null]) rfl ?_
  refine bw_al (j := 0) sD11_init_62 rfl ?_
  refine bw_push (Or.inr (Or.inl ⟨sD11_init_63, by decide⟩)) ?_
  refine bw_na (n := 52) (v := sd_fk 0 (fun i => sd_x0 (8000 + i))) sD11_init_65 rfl (by decide) (fun i _ => sd_fk0 _ i) (cells' := 8) (slots' := 3285) rfl rfl (Nat.le_of_ble_eq_true rfl) (Nat.le_of_ble_eq_true rfl) (fun q7 => ?_)
  refine bw_pm (List.perm_append_singleton _ _) ?_
  refine bw_dup sD11_init_67 rfl ?_
  refine bw_push (Or.inl sD11_init_68) ?_
  refine bw_push (Or.inr (Or.inl ⟨sD11_init_69, by decide⟩)) ?_
  refine bw_ia (k := 0) (v' := sd_fk 1 (fun i => sd_x0 (8000 + i))) sD11_init_71 rfl (by decide) (by decide) rfl (fun j hj => sd_fk2 _ hj) ?_
  refine bw_dup sD11_init_72 rfl ?_
  refine bw_push (Or.inl sD11_init_73) ?_
  refine bw_push (Or.inr (Or.inl ⟨sD11_init_74, by decide⟩)) ?_
  refine bw_ia (k := 1) (v' := sd_fk 2 (fun i => sd_x0 (8000 + i))) sD11_init_76 rfl (by decide) (by decide) rfl (fun j hj => sd_fk2 _ hj) ?_
  refine bw_dup sD11_init_77 rfl ?_
  refine bw_push (Or.inl sD11_init_78) ?_
  refine bw_push (Or.inr (Or.inl ⟨sD11_init_79, by decide⟩)) ?_
  refine bw_ia (k := 2) (v' := sd_fk 3 (fun i => sd_x0 (8000 + i))) sD11_init_81 rfl (by decide) (by decide) rfl (fun j hj => sd_fk2 _ hj) ?_
  refine bw_dup sD11_init_82 rfl ?_
  refine bw_push (Or.inl sD11_init_83) ?_
  refine bw_push (Or.inl sD11_init_84) ?_
  refine bw_ia (k := 3) (v' := sd_fk 4 (fun i => sd_x0 (8000 + i))) sD11_init_85 rfl (by decide) (by decide) rfl (fun j hj => sd_fk2 _ hj) ?_
  refine bw_dup sD11_init_86 rfl ?_
  refine bw_push (Or.inl sD11_init_87) ?_
  refine bw_push (Or.inr (Or.inl ⟨sD11_init_88, by decide⟩)) ?_
  refine bw_ia (k := 4) (v' := sd_fk 5 (fun i => sd_x0 (8000 + i))) sD11_init_90 rfl (by decide) (by decide) rfl (fun j hj => sd_fk2 _ hj) ?_
  refine bw_dup sD11_init_91 rfl ?_
  refine bw_push (Or.inl sD11_init_92) ?_
  refine bw_push (Or.inr (Or.inl ⟨sD11_init_93, by decide⟩)) ?_
  refine bw_ia (k := 5) (v' := sd_fk 6 (fun i => sd_x0 (8000 + i))) sD11_init_95 rfl (by decide) (by decide) rfl (fun j hj => sd_fk2 _ hj) ?_
  refine bw_dup sD11_init_96 rfl ?_
  refine bw_push (Or.inr (Or.inl ⟨sD11_init_97, by decide⟩)) ?_
  refine bw_push (Or.inr (Or.inl ⟨sD11_init_99, by decide⟩)) ?_
  refine bw_ia (k := 6) (v' := sd_fk 7 (fun i => sd_x0 (8000 + i))) sD11_init_101 rfl (by decide) (by decide) rfl (fun j hj => sd_fk2 _ hj) ?_
  refine bw_dup sD11_init_102 rfl ?_
  refine bw_push (Or.inr (Or.inl ⟨sD11_init_103, by decide⟩)) ?_
  refine bw_push (Or.inl sD11_init_105) ?_
  refine bw_ia (k := 7) (v' := sd_fk 8 (fun i => sd_x0 (8000 + i))) sD11_init_106 rfl (by decide) (by decide) rfl (fun j hj => sd_fk2 _ hj) ?_
  refine bw_dup sD11_init_107 rfl ?_
  refine bw_push (Or.inr (Or.inl ⟨sD11_init_108, by decide⟩)) ?_
  refine bw_push (Or.inr (Or.inl ⟨sD11_init_110, by decide⟩)) ?_
  refine bw_ia (k := 8) (v' := sd_fk 9 (fun i => sd_x0 (8000 + i))) sD11_init_112 rfl (by decide) (by decide) rfl (fun j hj => sd_fk2 _ hj) ?_
  refine bw_dup sD11_init_113 rfl ?_
  refine bw_push (Or.inr (Or.inl ⟨sD11_init_114, by decide⟩)) ?_
  refine bw_push (Or.inr (Or.inl ⟨sD11_init_116, by decide⟩)) ?_
  refine bw_ia (k := 9) (v' := sd_fk 10 (fun i => sd_x0 (8000 + i))) sD11_init_118 rfl (by decide) (by decide) rfl (fun j hj => sd_fk2 _ hj) ?_
  refine bw_dup sD11_init_119 rfl ?_
  refine bw_push (Or.inr (Or.inl ⟨sD11_init_120, by decide⟩)) ?_
  refine bw_push (Or.inr (Or.inl ⟨sD11_init_122, by decide⟩)) ?_
  refine bw_ia (k := 10) (v' := sd_fk 11 (fun i => sd_x0 (8000 + i))) sD11_init_124 rfl (by decide) (by decide) rfl (fun j hj => sd_fk2 _ hj) ?_
  refine bw_dup sD11_init_125 rfl ?_
  refine bw_push (Or.inr (Or.inl ⟨sD11_init_126, by decide⟩)) ?_
  refine bw_push (Or.inr (Or.inl ⟨sD11_init_128, by decide⟩)) ?_
  refine bw_ia (k := 11) (v' := sd_fk 12 (fun i => sd_x0 (8000 + i))) sD11_init_130 rfl (by decide) (by decide) rfl (fun j hj => sd_fk2 _ hj) ?_
  refine bw_dup sD11_init_131 rfl ?_
  refine bw_push (Or.inr (Or.inl ⟨sD11_init_132, by decide⟩)) ?_
  refine bw_push (Or.inr (Or.inl ⟨sD11_init_134, by decide⟩)) ?_
  refine bw_ia (k := 12) (v' := sd_fk 13 (fun i => sd_x0 (8000 + i))) sD11_init_136 rfl (by decide) (by decide) rfl (fun j hj => sd_fk2 _ hj) ?_
  refine bw_dup sD11_init_137 rfl ?_
  refine bw_push (Or.inr (Or.inl ⟨sD11_init_138, by decide⟩)) ?_
  refine bw_push (Or.inl sD11_init_140) ?_
  refine bw_ia (k := 13) (v' := sd_fk 14 (fun i => sd_x0 (8000 + i))) sD11_init_141 rfl (by decide) (by decide) rfl (fun j hj => sd_fk2 _ hj) ?_
  refine bw_dup sD11_init_142 rfl ?_
  refine bw_push (Or.inr (Or.inl ⟨sD11_init_143, by decide⟩)) ?_
  refine bw_push (Or.inr (Or.inl ⟨sD11_init_145, by decide⟩)) ?_
  refine bw_ia (k := 14) (v' := sd_fk 15 (fun i => sd_x0 (8000 + i))) sD11_init_147 rfl (by decide) (by decide) rfl (fun j hj => sd_fk2 _ hj) ?_
  refine bw_dup sD11_init_148 rfl ?_
  refine bw_push (Or.inr (Or.inl ⟨sD11_init_149, by decide⟩)) ?_
  refine bw_push (Or.inr (Or.inl ⟨sD11_init_151, by decide⟩)) ?_
  refine bw_ia (k := 15) (v' := sd_fk 16 (fun i => sd_x0 (8000 + i))) sD11_init_153 rfl (by decide) (by decide) rfl (fun j hj => sd_fk2 _ hj) ?_
  refine bw_dup sD11_init_154 rfl ?_
  refine bw_push (Or.inr (Or.inl ⟨sD11_init_155, by decide⟩)) ?_
  refine bw_push (Or.inr (Or.inl ⟨sD11_init_157, by decide⟩)) ?_
  refine bw_ia (k := 16) (v' := sd_fk 17 (fun i => sd_x0 (8000 + i))) sD11_init_159 rfl (by decide) (by decide) rfl (fun j hj => sd_fk2 _ hj) ?_
  refine bw_dup sD11_init_160 rfl ?_
  refine bw_push (Or.inr (Or.inl ⟨sD11_init_161, by decide⟩)) ?_
  refine bw_push (Or.inr (Or.inl ⟨sD11_init_163, by decide⟩)) ?_
  refine bw_ia (k := 17) (v' := sd_fk 18 (fun i => sd_x0 (8000 + i))) sD11_init_165 rfl (by decide) (by decide) rfl (fun j hj => sd_fk2 _ hj) ?_
  refine bw_dup sD11_init_166 rfl ?_
  refine bw_push (Or.inr (Or.inl ⟨sD11_init_167, by decide⟩)) ?_
  refine bw_push (Or.inl sD11_init_169) ?_
  refine bw_ia (k := 18) (v' := sd_fk 19 (fun i => sd_x0 (8000 + i))) sD11_init_170 rfl (by decide) (by decide) rfl (fun j hj => sd_fk2 _ hj) ?_
  refine bw_dup sD11_init_171 rfl ?_
  refine bw_push (Or.inr (Or.inl ⟨sD11_init_172, by decide⟩)) ?_
  refine bw_push (Or.inr (Or.inl ⟨sD11_init_174, by decide⟩)) ?_
  refine bw_ia (k := 19) (v' := sd_fk 20 (fun i => sd_x0 (8000 + i))) sD11_init_176 rfl (by decide) (by decide) rfl (fun j hj => sd_fk2 _ hj) ?_
  refine bw_dup sD11_init_177 rfl ?_
  refine bw_push (Or.inr (Or.inl ⟨sD11_init_178, by decide⟩)) ?_
  refine bw_push (Or.inr (Or.inl ⟨sD11_init_180, by decide⟩)) ?_
  refine bw_ia (k := 20) (v' := sd_fk 21 (fun i => sd_x0 (8000 + i))) sD11_init_182 rfl (by decide) (by decide) rfl (fun j hj => sd_fk2 _ hj) ?_
  refine bw_dup sD11_init_183 rfl ?_
  refine bw_push (Or.inr (Or.inl ⟨sD11_init_184, by decide⟩)) ?_
  refine bw_push (Or.inr (Or.inl ⟨sD11_init_186, by decide⟩)) ?_
  refine bw_ia (k := 21) (v' := sd_fk 22 (fun i => sd_x0 (8000 + i))) sD11_init_188 rfl (by decide) (by decide) rfl (fun j hj => sd_fk2 _ hj) ?_
  refine bw_dup sD11_init_189 rfl ?_
  refine bw_push (Or.inr (Or.inl ⟨sD11_init_190, by decide⟩)) ?_
  refine bw_push (Or.inr (Or.inl ⟨sD11_init_192, by decide⟩)) ?_
  refine bw_ia (k := 22) (v' := sd_fk 23 (fun i => sd_x0 (8000 + i))) sD11_init_194 rfl (by decide) (by decide) rfl (fun j hj => sd_fk2 _ hj) ?_
  refine bw_dup sD11_init_195 rfl ?_
  refine bw_push (Or.inr (Or.inl ⟨sD11_init_196, by decide⟩)) ?_
  refine bw_push (Or.inl sD11_init_198) ?_
  refine bw_ia (k := 23) (v' := sd_fk 24 (fun i => sd_x0 (8000 + i))) sD11_init_199 rfl (by decide) (by decide) rfl (fun j hj => sd_fk2 _ hj) ?_
  refine bw_dup sD11_init_200 rfl ?_
  refine bw_push (Or.inr (Or.inl ⟨sD11_init_201, by decide⟩)) ?_
  refine bw_push (Or.inr (Or.inl ⟨sD11_init_203, by decide⟩)) ?_
  refine bw_ia (k := 24) (v' := sd_fk 25 (fun i => sd_x0 (8000 + i))) sD11_init_205 rfl (by decide) (by decide) rfl (fun j hj => sd_fk2 _ hj) ?_
  refine bw_dup sD11_init_206 rfl ?_
  refine bw_push (Or.inr (Or.inl ⟨sD11_init_207, by decide⟩)) ?_
  refine bw_push (Or.inr (Or.inl ⟨sD11_init_209, by decide⟩)) ?_
  refine bw_ia (k := 25) (v' := sd_fk 26 (fun i => sd_x0 (8000 + i))) sD11_init_211 rfl (by decide) (by decide) rfl (fun j hj => sd_fk2 _ hj) ?_
  refine bw_dup sD11_init_212 rfl ?_
  refine bw_push (Or.inr (Or.inl ⟨sD11_init_213, by decide⟩)) ?_
  refine bw_push (Or.inr (Or.inl ⟨sD11_init_215, by decide⟩)) ?_
  refine bw_ia (k := 26) (v' := sd_fk 27 (fun i => sd_x0 (8000 + i))) sD11_init_217 rfl (by decide) (by decide) rfl (fun j hj => sd_fk2 _ hj) ?_
  refine bw_dup sD11_init_218 rfl ?_
  refine bw_push (Or.inr (Or.inl ⟨sD11_init_219, by decide⟩)) ?_
  refine bw_push (Or.inr (Or.inl ⟨sD11_init_221, by decide⟩)) ?_
  refine bw_ia (k := 27) (v' := sd_fk 28 (fun i => sd_x0 (8000 + i))) sD11_init_223 rfl (by decide) (by decide) rfl (fun j hj => sd_fk2 _ hj) ?_
  refine bw_dup sD11_init_224 rfl ?_
  refine bw_push (Or.inr (Or.inl ⟨sD11_init_225, by decide⟩)) ?_
  refine bw_push (Or.inl sD11_init_227) ?_
  refine bw_ia (k := 28) (v' := sd_fk 29 (fun i => sd_x0 (8000 + i))) sD11_init_228 rfl (by decide) (by decide) rfl (fun j hj => sd_fk2 _ hj) ?_
  refine bw_dup sD11_init_229 rfl ?_
  refine bw_push (Or.inr (Or.inl ⟨sD11_init_230, by decide⟩)) ?_
  refine bw_push (Or.inr (Or.inl ⟨sD11_init_232, by decide⟩)) ?_
  refine bw_ia (k := 29) (v' := sd_fk 30 (fun i => sd_x0 (8000 + i))) sD11_init_234 rfl (by decide) (by decide) rfl (fun j hj => sd_fk2 _ hj) ?_
  refine bw_dup sD11_init_235 rfl ?_
  refine bw_push (Or.inr (Or.inl ⟨sD11_init_236, by decide⟩)) ?_
  refine bw_push (Or.inr (Or.inl ⟨sD11_init_238, by decide⟩)) ?_
  refine bw_ia (k := 30) (v' := sd_fk 31 (fun i => sd_x0 (8000 + i))) sD11_init_240 rfl (by decide) (by decide) rfl (fun j hj => sd_fk2 _ hj) ?_
  refine bw_dup sD11_init_241 rfl ?_
  refine bw_push (Or.inr (Or.inl ⟨sD11_init_242, by decide⟩)) ?_
  refine bw_push (Or.inr (Or.inl ⟨sD11_init_244, by decide⟩)) ?_
  refine bw_ia (k := 31) (v' := sd_fk 32 (fun i => sd_x0 (8000 + i))) sD11_init_246 rfl (by decide) (by decide) rfl (fun j hj => sd_fk2 _ hj) ?_
  refine bw_dup sD11_init_247 rfl ?_
  refine bw_push (Or.inr (Or.inl ⟨sD11_init_248, by decide⟩)) ?_
  refine bw_push (Or.inr (Or.inl ⟨sD11_init_250, by decide⟩)) ?_
  refine bw_ia (k := 32) (v' := sd_fk 33 (fun i => sd_x0 (8000 + i))) sD11_init_252 rfl (by decide) (by decide) rfl (fun j hj => sd_fk2 _ hj) ?_
  refine bw_dup sD11_init_253 rfl ?_
  refine bw_push (Or.inr (Or.inl ⟨sD11_init_254, by decide⟩)) ?_
  refine bw_push (Or.inl sD11_init_256) ?_
  refine bw_ia (k := 33) (v' := sd_fk 34 (fun i => sd_x0 (8000 + i))) sD11_init_257 rfl (by decide) (by decide) rfl (fun j hj => sd_fk2 _ hj) ?_
  refine bw_dup sD11_init_258 rfl ?_
  refine bw_push (Or.inr (Or.inl ⟨sD11_init_259, by decide⟩)) ?_
  refine bw_push (Or.inr (Or.inl ⟨sD11_init_261, by decide⟩)) ?_
  refine bw_ia (k := 34) (v' := sd_fk 35 (fun i => sd_x0 (8000 + i))) sD11_init_263 rfl (by decide) (by decide) rfl (fun j hj => sd_fk2 _ hj) ?_
  refine bw_dup sD11_init_264 rfl ?_
  refine bw_push (Or.inr (Or.inl ⟨sD11_init_265, by decide⟩)) ?_
  refine bw_push (Or.inr (Or.inl ⟨sD11_init_267, by decide⟩)) ?_
  refine bw_ia (k := 35) (v' := sd_fk 36 (fun i => sd_x0 (8000 + i))) sD11_init_269 rfl (by decide) (by decide) rfl (fun j hj => sd_fk2 _ hj) ?_
  refine bw_dup sD11_init_270 rfl ?_
  refine bw_push (Or.inr (Or.inl ⟨sD11_init_271, by decide⟩)) ?_
  refine bw_push (Or.inr (Or.inl ⟨sD11_init_273, by decide⟩)) ?_
  refine bw_ia (k := 36) (v' := sd_fk 37 (fun i => sd_x0 (8000 + i))) sD11_init_275 rfl (by decide) (by decide) rfl (fun j hj => sd_fk2 _ hj) ?_
  refine bw_dup sD11_init_276 rfl ?_
  refine bw_push (Or.inr (Or.inl ⟨sD11_init_277, by decide⟩)) ?_
  refine bw_push (Or.inl sD11_init_279) ?_
  refine bw_ia (k := 37) (v' := sd_fk 38 (fun i => sd_x0 (8000 + i))) sD11_init_280 rfl (by decide) (by decide) rfl (fun j hj => sd_fk2 _ hj) ?_
  refine bw_dup sD11_init_281 rfl ?_
  refine bw_push (Or.inr (Or.inl ⟨sD11_init_282, by decide⟩)) ?_
  refine bw_push (Or.inr (Or.inl ⟨sD11_init_284, by decide⟩)) ?_
  refine bw_ia (k := 38) (v' := sd_fk 39 (fun i => sd_x0 (8000 + i))) sD11_init_286 rfl (by decide) (by decide) rfl (fun j hj => sd_fk2 _ hj) ?_
  refine bw_dup sD11_init_287 rfl ?_
  refine bw_push (Or.inr (Or.inl ⟨sD11_init_288, by decide⟩)) ?_
  refine bw_push (Or.inr (Or.inl ⟨sD11_init_290, by decide⟩)) ?_
  refine bw_ia (k := 39) (v' := sd_fk 40 (fun i => sd_x0 (8000 + i))) sD11_init_292 rfl (by decide) (by decide) rfl (fun j hj => sd_fk2 _ hj) ?_
  refine bw_dup sD11_init_293 rfl ?_
  refine bw_push (Or.inr (Or.inl ⟨sD11_init_294, by decide⟩)) ?_
  refine bw_push (Or.inr (Or.inl ⟨sD11_init_296, by decide⟩)) ?_
  refine bw_ia (k := 40) (v' := sd_fk 41 (fun i => sd_x0 (8000 + i))) sD11_init_298 rfl (by decide) (by decide) rfl (fun j hj => sd_fk2 _ hj) ?_
  refine bw_dup sD11_init_299 rfl ?_
  refine bw_push (Or.inr (Or.inl ⟨sD11_init_300, by decide⟩)) ?_
  refine bw_push (Or.inr (Or.inl ⟨sD11_init_302, by decide⟩)) ?_
  refine bw_ia (k := 41) (v' := sd_fk 42 (fun i => sd_x0 (8000 + i))) sD11_init_304 rfl (by decide) (by decide) rfl (fun j hj => sd_fk2 _ hj) ?_
  refine bw_dup sD11_init_305 rfl ?_
  refine bw_push (Or.inr (Or.inl ⟨sD11_init_306, by decide⟩)) ?_
  refine bw_push (Or.inl sD11_init_308) ?_
  refine bw_ia (k := 42) (v' := sd_fk 43 (fun i => sd_x0 (8000 + i))) sD11_init_309 rfl (by decide) (by decide) rfl (fun j hj => sd_fk2 _ hj) ?_
  refine bw_dup sD11_init_310 rfl ?_
  refine bw_push (Or.inr (Or.inl ⟨sD11_init_311, by decide⟩)) ?_
  refine bw_push (Or.inr (Or.inl ⟨sD11_init_313, by decide⟩)) ?_
  refine bw_ia (k := 43) (v' := sd_fk 44 (fun i => sd_x0 (8000 + i))) sD11_init_315 rfl (by decide) (by decide) rfl (fun j hj => sd_fk2 _ hj) ?_
  refine bw_dup sD11_init_316 rfl ?_
  refine bw_push (Or.inr (Or.inl ⟨sD11_init_317, by decide⟩)) ?_
  refine bw_push (Or.inr (Or.inl ⟨sD11_init_319, by decide⟩)) ?_
  refine bw_ia (k := 44) (v' := sd_fk 45 (fun i => sd_x0 (8000 + i))) sD11_init_321 rfl (by decide) (by decide) rfl (fun j hj => sd_fk2 _ hj) ?_
  refine bw_dup sD11_init_322 rfl ?_
  refine bw_push (Or.inr (Or.inl ⟨sD11_init_323, by decide⟩)) ?_
  refine bw_push (Or.inr (Or.inl ⟨sD11_init_325, by decide⟩)) ?_
  refine bw_ia (k := 45) (v' := sd_fk 46 (fun i => sd_x0 (8000 + i))) sD11_init_327 rfl (by decide) (by decide) rfl (fun j hj => sd_fk2 _ hj) ?_
  refine bw_dup sD11_init_328 rfl ?_
  refine bw_push (Or.inr (Or.inl ⟨sD11_init_329, by decide⟩)) ?_
  refine bw_push (Or.inl sD11_init_331) ?_
  refine bw_ia (k := 46) (v' := sd_fk 47 (fun i => sd_x0 (8000 + i))) sD11_init_332 rfl (by decide) (by decide) rfl (fun j hj => sd_fk2 _ hj) ?_
  refine bw_dup sD11_init_333 rfl ?_
  refine bw_push (Or.inr (Or.inl ⟨sD11_init_334, by decide⟩)) ?_
  refine bw_push (Or.inr (Or.inl ⟨sD11_init_336, by decide⟩)) ?_
  refine bw_ia (k := 47) (v' := sd_fk 48 (fun i => sd_x0 (8000 + i))) sD11_init_338 rfl (by decide) (by decide) rfl (fun j hj => sd_fk2 _ hj) ?_
  refine bw_dup sD11_init_339 rfl ?_
  refine bw_push (Or.inr (Or.inl ⟨sD11_init_340, by decide⟩)) ?_
  refine bw_push (Or.inr (Or.inl ⟨sD11_init_342, by decide⟩)) ?_
  refine bw_ia (k := 48) (v' := sd_fk 49 (fun i => sd_x0 (8000 + i))) sD11_init_344 rfl (by decide) (by decide) rfl (fun j hj => sd_fk2 _ hj) ?_
  refine bw_dup sD11_init_345 rfl ?_
  refine bw_push (Or.inr (Or.inl ⟨sD11_init_346, by decide⟩)) ?_
  refine bw_push (Or.inr (Or.inl ⟨sD11_init_348, by decide⟩)) ?_
  refine bw_ia (k := 49) (v' := sd_fk 50 (fun i => sd_x0 (8000 + i))) sD11_init_350 rfl (by decide) (by decide) rfl (fun j hj => sd_fk2 _ hj) ?_
  refine bw_dup sD11_init_351 rfl ?_
  refine bw_push (Or.inr (Or.inl ⟨sD11_init_352, by decide⟩)) ?_
  refine bw_push (Or.inr (Or.inl ⟨sD11_init_354, by decide⟩)) ?_
  refine bw_ia (k := 50) (v' := sd_fk 51 (fun i => sd_x0 (8000 + i))) sD11_init_356 rfl (by decide) (by decide) rfl (fun j hj => sd_fk2 _ hj) ?_
  refine bw_dup sD11_init_357 rfl ?_
  refine bw_push (Or.inr (Or.inl ⟨sD11_init_358, by decide⟩)) ?_
  refine bw_push (Or.inl sD11_init_360) ?_
  refine bw_ia (k := 51) (v' := sd_fk 52 (fun i => sd_x0 (8000 + i))) sD11_init_361 rfl (by decide) (by decide) rfl (fun j hj => sd_fk2 _ hj) ?_
  refine bw_pm (sd_frB) ?_
  refine bw_pf sD11_init_362 sF11_31 rfl rfl rfl (Nat.le_of_ble_eq_true rfl) (fs' := [.ref q0, .ref q1, .int 0, .ref q2, .int 0, .ref q3, .ref q4, .ref q5, .ref q6, .ref q7, .int 0, .int 0, .int 0, .int 0, .null, .int 0, .int 0, .int 0, .null, .null, .null, .null, .null, .null]) rfl ?_
  refine bw_al (j := 0) sD11_init_365 rfl ?_
  refine bw_push (Or.inl sD11_init_366) ?_
  refine bw_na (n := 4) (v := fun i => sd_x0 (5504 + i)) sD11_init_367 rfl (by decide) (fun i hi => sd_x0z (by omega) (by omega) (by omega)) (cells' := 9) (slots' := 3289) rfl rfl (Nat.le_of_ble_eq_true rfl) (Nat.le_of_ble_eq_true rfl) (fun q8 => ?_)
  refine bw_pf sD11_init_369 sF11_34 rfl rfl rfl (Nat.le_of_ble_eq_true rfl) (fs' := [.ref q0, .ref q1, .int 0, .ref q2, .int 0, .ref q3, .ref q4, .ref q5, .ref q6, .ref q7, .int 0, .int 0, .int 0, .int 0, .ref q8, .int 0, .int 0, .int 0, .null, .null, .null, .null, .null, .null]) rfl ?_
  refine bw_al (j := 0) sD11_init_372 rfl ?_
  refine bw_push (Or.inr (Or.inl ⟨sD11_init_373, by decide⟩)) ?_
  refine bw_na (n := 24) (v := fun i => sd_x0 (5520 + i)) sD11_init_375 rfl (by decide) (fun i hi => sd_x0z (by omega) (by omega) (by omega)) (cells' := 10) (slots' := 3313) rfl rfl (Nat.le_of_ble_eq_true rfl) (Nat.le_of_ble_eq_true rfl) (fun q9 => ?_)
  refine bw_pf sD11_init_377 sF11_37 rfl rfl rfl (Nat.le_of_ble_eq_true rfl) (fs' := [.ref q0, .ref q1, .int 0, .ref q2, .int 0, .ref q3, .ref q4, .ref q5, .ref q6, .ref q7, .int 0, .int 0, .int 0, .int 0, .ref q8, .int 0, .int 0, .int 0, .ref q9, .null, .null, .null, .null, .null]) rfl ?_
  refine bw_al (j := 0) sD11_init_380 rfl ?_
  refine bw_push (Or.inr (Or.inl ⟨sD11_init_381, by decide⟩)) ?_
  refine bw_na (n := 24) (v := fun i => sd_x0 (5550 + i)) sD11_init_383 rfl (by decide) (fun i hi => sd_x0z (by omega) (by omega) (by omega)) (cells' := 11) (slots' := 3337) rfl rfl (Nat.le_of_ble_eq_true rfl) (Nat.le_of_ble_eq_true rfl) (fun q10 => ?_)
  refine bw_pf sD11_init_385 sF11_40 rfl rfl rfl (Nat.le_of_ble_eq_true rfl) (fs' := [.ref q0, .ref q1, .int 0, .ref q2, .int 0, .ref q3, .ref q4, .ref q5, .ref q6, .ref q7, .int 0, .int 0, .int 0, .int 0, .ref q8, .int 0, .int 0, .int 0, .ref q9, .ref q10, .null, .null, .null, .null]) rfl ?_
  refine bw_al (j := 0) sD11_init_388 rfl ?_
  refine bw_push (Or.inl sD11_init_389) ?_
  refine bw_na (n := 4) (v := fun i => sd_x0 (4250 + i)) sD11_init_390 rfl (by decide) (fun i hi => sd_x0z (by omega) (by omega) (by omega)) (cells' := 12) (slots' := 3341) rfl rfl (Nat.le_of_ble_eq_true rfl) (Nat.le_of_ble_eq_true rfl) (fun q11 => ?_)
  refine bw_pf sD11_init_392 sF11_43 rfl rfl rfl (Nat.le_of_ble_eq_true rfl) (fs' := [.ref q0, .ref q1, .int 0, .ref q2, .int 0, .ref q3, .ref q4, .ref q5, .ref q6, .ref q7, .int 0, .int 0, .int 0, .int 0, .ref q8, .int 0, .int 0, .int 0, .ref q9, .ref q10, .ref q11, .null, .null, .null]) rfl ?_
  refine bw_al (j := 0) sD11_init_395 rfl ?_
  refine bw_push (Or.inl sD11_init_396) ?_
  refine bw_na (n := 4) (v := fun i => sd_x0 (4254 + i)) sD11_init_397 rfl (by decide) (fun i hi => sd_x0z (by omega) (by omega) (by omega)) (cells' := 13) (slots' := 3345) rfl rfl (Nat.le_of_ble_eq_true rfl) (Nat.le_of_ble_eq_true rfl) (fun q12 => ?_)
  refine bw_pf sD11_init_399 sF11_46 rfl rfl rfl (Nat.le_of_ble_eq_true rfl) (fs' := [.ref q0, .ref q1, .int 0, .ref q2, .int 0, .ref q3, .ref q4, .ref q5, .ref q6, .ref q7, .int 0, .int 0, .int 0, .int 0, .ref q8, .int 0, .int 0, .int 0, .ref q9, .ref q10, .ref q11, .ref q12, .null, .null]) rfl ?_
  refine bw_al (j := 0) sD11_init_402 rfl ?_
  refine bw_push (Or.inr (Or.inl ⟨sD11_init_403, by decide⟩)) ?_
  refine bw_na (n := 48) (v := fun i => sd_x0 (4200 + i)) sD11_init_405 rfl (by decide) (fun i hi => sd_x0z (by omega) (by omega) (by omega)) (cells' := 14) (slots' := 3393) rfl rfl (Nat.le_of_ble_eq_true rfl) (Nat.le_of_ble_eq_true rfl) (fun q13 => ?_)
  refine bw_pf sD11_init_407 sF11_49 rfl rfl rfl (Nat.le_of_ble_eq_true rfl) (fs' := [.ref q0, .ref q1, .int 0, .ref q2, .int 0, .ref q3, .ref q4, .ref q5, .ref q6, .ref q7, .int 0, .int 0, .int 0, .int 0, .ref q8, .int 0, .int 0, .int 0, .ref q9, .ref q10, .ref q11, .ref q12, .ref q13, .null]) rfl ?_
  refine bw_al (j := 0) sD11_init_410 rfl ?_
  refine bw_push (Or.inr (Or.inl ⟨sD11_init_411, by decide⟩)) ?_
  refine bw_na (n := 12) (v := fun i => sd_x0 (5580 + i)) sD11_init_413 rfl (by decide) (fun i hi => sd_x0z (by omega) (by omega) (by omega)) (cells' := 15) (slots' := 3405) rfl rfl (Nat.le_of_ble_eq_true rfl) (Nat.le_of_ble_eq_true rfl) (fun q14 => ?_)
  refine bw_pf sD11_init_415 sF11_52 rfl rfl rfl (Nat.le_of_ble_eq_true rfl) (fs' := [.ref q0, .ref q1, .int 0, .ref q2, .int 0, .ref q3, .ref q4, .ref q5, .ref q6, .ref q7, .int 0, .int 0, .int 0, .int 0, .ref q8, .int 0, .int 0, .int 0, .ref q9, .ref q10, .ref q11, .ref q12, .ref q13, .ref q14]) rfl ?_
  refine bw_pm (w' := [(q0, sd_ia g 1554 (sd_fk 1268 (fun i => sd_x0 (0 + i)))), (q1, sd_ia g 1554 (fun i => sd_x0 (2000 + i))), (q2, sd_ia g 100 (fun i => sd_x0 (4000 + i))), (q3, sd_ia g 7 (fun i => sd_x0 (4101 + i))), (q4, sd_ia g 6 (fun i => sd_x0 (5400 + i))), (q5, sd_ia g 6 (fun i => sd_x0 (5410 + i))), (q6, sd_ia g 6 (fun i => sd_x0 (5420 + i))), (q7, sd_ia g 52 (fun i => sd_x0 (8000 + i))), (q8, sd_ia g 4 (fun i => sd_x0 (5504 + i))), (q9, sd_ia g 24 (fun i => sd_x0 (5520 + i))), (q10, sd_ia g 24 (fun i => sd_x0 (5550 + i))), (q11, sd_ia g 4 (fun i => sd_x0 (4250 + i))), (q12, sd_ia g 4 (fun i => sd_x0 (4254 + i))), (q13, sd_ia g 48 (fun i => sd_x0 (4200 + i))), (q14, sd_ia g 12 (fun i => sd_x0 (5580 + i)))]) (List.Perm.refl _) ?_
  refine bw_push (Or.inl sD11_init_418) ?_
  refine bw_is sD11_init_419 (by decide) (lv' := [(1, .int (Int32.ofInt 0)), (0, .ref h0)]) rfl ?_
  refine bw_il (j := 0) sD11_init_420 rfl ?_
  refine bw_push (Or.inl sD11_init_421) ?_
  refine bw_geF (tgt := 442) sD11_init_422 (by decide) (by decide) ?_
  refine bw_al (j := 1) sD11_init_425 rfl ?_
  refine bw_gf sD11_init_426 sF11_7 rfl ?_
  refine bw_push (Or.inr (Or.inr ⟨sD11_init_429, by decide⟩)) ?_
  refine bw_il (j := 0) sD11_init_432 rfl ?_
  refine bw_ad (z := Int32.ofInt 1268) sD11_init_433 (by decide) ?_
  refine bw_push (Or.inl sD11_init_434) ?_
  refine bw_ia (k := 1268) (v' := sd_fk 1269 (fun i => sd_x0 (0 + i))) sD11_init_435 rfl (by decide) (by decide) (by decide) (fun j hj => sd_fk2 _ hj) ?_
  refine bw_ii (j := 0) (y := Int32.ofInt 1) sD11_init_436 (by decide) rfl (by decide) (lv' := [(1, .int (Int32.ofInt 1)), (0, .ref h0)]) rfl ?_
  refine bw_go (tgt := 420) sD11_init_439 (by decide) ?_
  refine bw_il (j := 0) sD11_init_420 rfl ?_
  refine bw_push (Or.inl sD11_init_421) ?_
  refine bw_geF (tgt := 442) sD11_init_422 (by decide) (by decide) ?_
  refine bw_al (j := 1) sD11_init_425 rfl ?_
  refine bw_gf sD11_init_426 sF11_7 rfl ?_
  refine bw_push (Or.inr (Or.inr ⟨sD11_init_429, by decide⟩)) ?_
  refine bw_il (j := 0) sD11_init_432 rfl ?_
  refine bw_ad (z := Int32.ofInt 1269) sD11_init_433 (by decide) ?_
  refine bw_push (Or.inl sD11_init_434) ?_
  refine bw_ia (k := 1269) (v' := sd_fk 1270 (fun i => sd_x0 (0 + i))) sD11_init_435 rfl (by decide) (by decide) (by decide) (fun j hj => sd_fk2 _ hj) ?_
  refine bw_ii (j := 0) (y := Int32.ofInt 2) sD11_init_436 (by decide) rfl (by decide) (lv' := [(1, .int (Int32.ofInt 2)), (0, .ref h0)]) rfl ?_
  refine bw_go (tgt := 420) sD11_init_439 (by decide) ?_
  refine bw_il (j := 0) sD11_init_420 rfl ?_
  refine bw_push (Or.inl sD11_init_421) ?_
  refine bw_geF (tgt := 442) sD11_init_422 (by decide) (by decide) ?_
  refine bw_al (j := 1) sD11_init_425 rfl ?_
  refine bw_gf sD11_init_426 sF11_7 rfl ?_
  refine bw_push (Or.inr (Or.inr ⟨sD11_init_429, by decide⟩)) ?_
  refine bw_il (j := 0) sD11_init_432 rfl ?_
  refine bw_ad (z := Int32.ofInt 1270) sD11_init_433 (by decide) ?_
  refine bw_push (Or.inl sD11_init_434) ?_
  refine bw_ia (k := 1270) (v' := sd_fk 1271 (fun i => sd_x0 (0 + i))) sD11_init_435 rfl (by decide) (by decide) (by decide) (fun j hj => sd_fk2 _ hj) ?_
  refine bw_ii (j := 0) (y := Int32.ofInt 3) sD11_init_436 (by decide) rfl (by decide) (lv' := [(1, .int (Int32.ofInt 3)), (0, .ref h0)]) rfl ?_
  refine bw_go (tgt := 420) sD11_init_439 (by decide) ?_
  refine bw_il (j := 0) sD11_init_420 rfl ?_
  refine bw_push (Or.inl sD11_init_421) ?_
  refine bw_geF (tgt := 442) sD11_init_422 (by decide) (by decide) ?_
  refine bw_al (j := 1) sD11_init_425 rfl ?_
  refine bw_gf sD11_init_426 sF11_7 rfl ?_
  refine bw_push (Or.inr (Or.inr ⟨sD11_init_429, by decide⟩)) ?_
  refine bw_il (j := 0) sD11_init_432 rfl ?_
  refine bw_ad (z := Int32.ofInt 1271) sD11_init_433 (by decide) ?_
  refine bw_push (Or.inl sD11_init_434) ?_
  refine bw_ia (k := 1271) (v' := sd_fk 1272 (fun i => sd_x0 (0 + i))) sD11_init_435 rfl (by decide) (by decide) (by decide) (fun j hj => sd_fk2 _ hj) ?_
  refine bw_ii (j := 0) (y := Int32.ofInt 4) sD11_init_436 (by decide) rfl (by decide) (lv' := [(1, .int (Int32.ofInt 4)), (0, .ref h0)]) rfl ?_
  refine bw_go (tgt := 420) sD11_init_439 (by decide) ?_
  refine bw_il (j := 0) sD11_init_420 rfl ?_
  refine bw_push (Or.inl sD11_init_421) ?_
  refine bw_geT (tgt := 442) sD11_init_422 (by decide) (by decide) ?_
  refine bw_ret sD11_init_442 (Nat.le_of_ble_eq_true rfl) (Nat.le_of_ble_eq_true rfl) ⟨fun k => [q0, q1, q2, q3, q4, q5, q6, q7, q8, q9, q10, q11, q12, q13, q14, h0].getD k 0, rfl, ?_⟩
  rw [sd_iad]
  exact (List.perm_append_singleton (h0, .inr (11, [.ref q0, .ref q1, .int 0, .ref q2, .int 0, .ref q3, .ref q4, .ref q5, .ref q6, .ref q7, .int 0, .int 0, .int 0, .int 0, .ref q8, .int 0, .int 0, .int 0, .ref q9, .ref q10, .ref q11, .ref q12, .ref q13, .ref q14])) [(q0, sd_ia g 1554 ((fun i => sd_x0 (0 + i)))), (q1, sd_ia g 1554 (fun i => sd_x0 (2000 + i))), (q2, sd_ia g 100 (fun i => sd_x0 (4000 + i))), (q3, sd_ia g 7 (fun i => sd_x0 (4101 + i))), (q4, sd_ia g 6 (fun i => sd_x0 (5400 + i))), (q5, sd_ia g 6 (fun i => sd_x0 (5410 + i))), (q6, sd_ia g 6 (fun i => sd_x0 (5420 + i))), (q7, sd_ia g 52 (fun i => sd_x0 (8000 + i))), (q8, sd_ia g 4 (fun i => sd_x0 (5504 + i))), (q9, sd_ia g 24 (fun i => sd_x0 (5520 + i))), (q10, sd_ia g 24 (fun i => sd_x0 (5550 + i))), (q11, sd_ia g 4 (fun i => sd_x0 (4250 + i))), (q12, sd_ia g 4 (fun i => sd_x0 (4254 + i))), (q13, sd_ia g 48 (fun i => sd_x0 (4200 + i))), (q14, sd_ia g 12 (fun i => sd_x0 (5580 + i)))]).symm
