theorem lw_case_28 {p : Program} {l : Launch} {e : Env} {s : State} {m : MethodId} {below : List Frame} {meth : Method} {c : Code} {b L : Nat} {xs : Nat → Int32} {gC gM : sd_G} {cells slots : Nat} {N i : Nat} {x mC mM : sd_M} (F : sd_LF p s m meth c b L xs gC gM cells slots) (hi : i + 6 ≤ L) (hN : N ≤ 1000000) (hA : sd_At N x mC mM) (kk : ∀ x' mC' mM', sd_At (N + 1) x' mC' mM' → sd_Lw p l e s m below meth c b gC gM cells slots 2008 [some (.inr 0), some (.inr 1), some (.inr 2), some (.inl (i : Int))] [] mC' mM') : sd_Lw p l e s m below meth c b gC gM cells slots 1108 [some (.inr 0), some (.inr 1), some (.inr 2), some (.inl (i : Int))] [] mC mM := by
  obtain ⟨hI, hC, hM⟩ := hA
  obtain ⟨⟨hJ, hc, h8, h9, hn⟩, hp, hB, hf, hk⟩ := id hI
  obtain ⟨h1, h2, h3, h4, h5, h6, h7, hR, hT, hL⟩ := id hJ
  have hF : ∀ k : Nat, k < 7 → 0 ≤ x (4101 + k) ∧ x (4101 + k) ≤ 1000000 := fun k q => by have := hf k q; omega
  have hk01 : x 4260 = 0 ∨ x 4260 = 1 := by rcases hk with q | q; exact Or.inl q; exact Or.inr q.1
  have h60 : 0 ≤ x 6004 := by rw [hn.1]; exact (sd_cnt_le _ _).1
  refine lw_R (fun R0 => ?_)
  have hRx : ∀ j, (j < 5000 ∨ 6000 ≤ j) → sd_R (x j) := fun j hj => by rw [← hC j hj]; exact R0 j
  refine lw_aload_n F sDL_1108 rfl ?_
  refine lw_arg (k := 1) F sDL_1109 sDL_1110 sDL_1111 sDL_1112 sDL_1113 rfl (by omega) ?_
  refine lw_callC (st := []) [(xs (i + 1)).toInt] F sDL_1114 sML_130 rfl rfl rfl (Nat.le_of_ble_eq_true (n := 2) rfl) (by decide) (pC_between ((xs (i + 1)).toInt) x _ hC h1 h6 hF) (fun rC mC' qC RC => ?_) sd_Qp_int
  refine lw_aload_n F sDL_1117 rfl ?_
  refine lw_arg (k := 1) F sDL_1118 sDL_1119 sDL_1120 sDL_1121 sDL_1122 rfl (by omega) ?_
  refine lw_callM (st := (rC.toList ++ [])) [(xs (i + 1)).toInt] F sDL_1123 sML_133 rfl rfl rfl (Nat.le_of_ble_eq_true (n := 2) rfl) (sd_len1 rC) (pM_between ((xs (i + 1)).toInt) x _ hM h1 h6 hF) (fun rM mM' qM RM => ?_) sd_Qp_int
  obtain ⟨v, X, rfl, rfl, hX, eC, eM, hRX⟩ := (sd_Go.one (sN_between hI ((xs (i + 1)).toInt))) rC rM mC' mM' qC qM RC RM hRx
  exact lw_icmp_eq (st := []) F sDL_1126 (by decide) (lw_fin F hX eC eM hRX kk)
theorem lw_case_29 {p : Program} {l : Launch} {e : Env} {s : State} {m : MethodId} {below : List Frame} {meth : Method} {c : Code} {b L : Nat} {xs : Nat → Int32} {gC gM : sd_G} {cells slots : Nat} {N i : Nat} {x mC mM : sd_M} (F : sd_LF p s m meth c b L xs gC gM cells slots) (hi : i + 6 ≤ L) (hN : N ≤ 1000000) (hA : sd_At N x mC mM) (kk : ∀ x' mC' mM', sd_At (N + 1) x' mC' mM' → sd_Lw p l e s m below meth c b gC gM cells slots 2008 [some (.inr 0), some (.inr 1), some (.inr 2), some (.inl (i : Int))] [] mC' mM') : sd_Lw p l e s m below meth c b gC gM cells slots 1131 [some (.inr 0), some (.inr 1), some (.inr 2), some (.inl (i : Int))] [] mC mM := by
  obtain ⟨hI, hC, hM⟩ := hA
  obtain ⟨⟨hJ, hc, h8, h9, hn⟩, hp, hB, hf, hk⟩ := id hI
  obtain ⟨h1, h2, h3, h4, h5, h6, h7, hR, hT, hL⟩ := id hJ
  have hF : ∀ k : Nat, k < 7 → 0 ≤ x (4101 + k) ∧ x (4101 + k) ≤ 1000000 := fun k q => by have := hf k q; omega
  have hk01 : x 4260 = 0 ∨ x 4260 = 1 := by rcases hk with q | q; exact Or.inl q; exact Or.inr q.1
  have h60 : 0 ≤ x 6004 := by rw [hn.1]; exact (sd_cnt_le _ _).1
  refine lw_R (fun R0 => ?_)
  have hRx : ∀ j, (j < 5000 ∨ 6000 ≤ j) → sd_R (x j) := fun j hj => by rw [← hC j hj]; exact R0 j
  refine lw_aload_n F sDL_1131 rfl ?_
  refine lw_arg (k := 1) F sDL_1132 sDL_1133 sDL_1134 sDL_1135 sDL_1136 rfl (by omega) ?_
  refine lw_arg (k := 2) F sDL_1137 sDL_1138 sDL_1139 sDL_1140 sDL_1141 rfl (by omega) ?_
  refine lw_callC (st := []) [(xs (i + 1)).toInt, (xs (i + 2)).toInt] F sDL_1142 sML_134 rfl rfl rfl (Nat.le_of_ble_eq_true (n := 3) rfl) (by decide) (pC_barred ((xs (i + 1)).toInt) ((xs (i + 2)).toInt) x _ hC h1 h2 h4 h6 hR hF) (fun rC mC' qC RC => ?_) sd_Qp_int
  refine lw_aload_n F sDL_1145 rfl ?_
  refine lw_arg (k := 1) F sDL_1146 sDL_1147 sDL_1148 sDL_1149 sDL_1150 rfl (by omega) ?_
  refine lw_arg (k := 2) F sDL_1151 sDL_1152 sDL_1153 sDL_1154 sDL_1155 rfl (by omega) ?_
  refine lw_callM (st := (rC.toList ++ [])) [(xs (i + 1)).toInt, (xs (i + 2)).toInt] F sDL_1156 sML_137 rfl rfl rfl (Nat.le_of_ble_eq_true (n := 6) rfl) (sd_len1 rC) (pM_barred ((xs (i + 1)).toInt) ((xs (i + 2)).toInt) x _ hM h1 h2 h4 h6 hR hT hL hF) (fun rM mM' qM RM => ?_) sd_Qp_int
  obtain ⟨v, X, rfl, rfl, hX, eC, eM, hRX⟩ := (sd_Go.one (sN_barred hI ((xs (i + 1)).toInt) ((xs (i + 2)).toInt))) rC rM mC' mM' qC qM RC RM hRx
  exact lw_icmp_eq (st := []) F sDL_1159 (by decide) (lw_fin F hX eC eM hRX kk)
theorem lw_case_30 {p : Program} {l : Launch} {e : Env} {s : State} {m : MethodId} {below : List Frame} {meth : Method} {c : Code} {b L : Nat} {xs : Nat → Int32} {gC gM : sd_G} {cells slots : Nat} {N i : Nat} {x mC mM : sd_M} (F : sd_LF p s m meth c b L xs gC gM cells slots) (hi : i + 6 ≤ L) (hN : N ≤ 1000000) (hA : sd_At N x mC mM) (kk : ∀ x' mC' mM', sd_At (N + 1) x' mC' mM' → sd_Lw p l e s m below meth c b gC gM cells slots 2008 [some (.inr 0), some (.inr 1), some (.inr 2), some (.inl (i : Int))] [] mC' mM') : sd_Lw p l e s m below meth c b gC gM cells slots 1164 [some (.inr 0), some (.inr 1), some (.inr 2), some (.inl (i : Int))] [] mC mM := by
  obtain ⟨hI, hC, hM⟩ := hA
  obtain ⟨⟨hJ, hc, h8, h9, hn⟩, hp, hB, hf, hk⟩ := id hI
  obtain ⟨h1, h2, h3, h4, h5, h6, h7, hR, hT, hL⟩ := id hJ
  have hF : ∀ k : Nat, k < 7 → 0 ≤ x (4101 + k) ∧ x (4101 + k) ≤ 1000000 := fun k q => by have := hf k q; omega
  have hk01 : x 4260 = 0 ∨ x 4260 = 1 := by rcases hk with q | q; exact Or.inl q; exact Or.inr q.1
  have h60 : 0 ≤ x 6004 := by rw [hn.1]; exact (sd_cnt_le _ _).1
  refine lw_R (fun R0 => ?_)
  have hRx : ∀ j, (j < 5000 ∨ 6000 ≤ j) → sd_R (x j) := fun j hj => by rw [← hC j hj]; exact R0 j
  refine lw_aload_n F sDL_1164 rfl ?_
  refine lw_arg (k := 1) F sDL_1165 sDL_1166 sDL_1167 sDL_1168 sDL_1169 rfl (by omega) ?_
  refine lw_arg (k := 2) F sDL_1170 sDL_1171 sDL_1172 sDL_1173 sDL_1174 rfl (by omega) ?_
  refine lw_callC (st := []) [(xs (i + 1)).toInt, (xs (i + 2)).toInt] F sDL_1175 sML_138 rfl rfl rfl (Nat.le_of_ble_eq_true (n := 3) rfl) (by decide) (pC_why ((xs (i + 1)).toInt) ((xs (i + 2)).toInt) x _ hC h1 h2 h4 h6 hR hF) (fun rC mC' qC RC => ?_) sd_Qp_int
  refine lw_aload_n F sDL_1178 rfl ?_
  refine lw_arg (k := 1) F sDL_1179 sDL_1180 sDL_1181 sDL_1182 sDL_1183 rfl (by omega) ?_
  refine lw_arg (k := 2) F sDL_1184 sDL_1185 sDL_1186 sDL_1187 sDL_1188 rfl (by omega) ?_
  refine lw_callM (st := (rC.toList ++ [])) [(xs (i + 1)).toInt, (xs (i + 2)).toInt] F sDL_1189 sML_141 rfl rfl rfl (Nat.le_of_ble_eq_true (n := 6) rfl) (sd_len1 rC) (pM_why ((xs (i + 1)).toInt) ((xs (i + 2)).toInt) x _ hM h1 h2 h4 h6 hR hT hL hF) (fun rM mM' qM RM => ?_) sd_Qp_int
  obtain ⟨v, X, rfl, rfl, hX, eC, eM, hRX⟩ := (sd_Go.one (sN_why hI ((xs (i + 1)).toInt) ((xs (i + 2)).toInt))) rC rM mC' mM' qC qM RC RM hRx
  exact lw_icmp_eq (st := []) F sDL_1192 (by decide) (lw_fin F hX eC eM hRX kk)
theorem lw_case_31 {p : Program} {l : Launch} {e : Env} {s : State} {m : MethodId} {below : List Frame} {meth : Method} {c : Code} {b L : Nat} {xs : Nat → Int32} {gC gM : sd_G} {cells slots : Nat} {N i : Nat} {x mC mM : sd_M} (F : sd_LF p s m meth c b L xs gC gM cells slots) (hi : i + 6 ≤ L) (hN : N ≤ 1000000) (hA : sd_At N x mC mM) (kk : ∀ x' mC' mM', sd_At (N + 1) x' mC' mM' → sd_Lw p l e s m below meth c b gC gM cells slots 2008 [some (.inr 0), some (.inr 1), some (.inr 2), some (.inl (i : Int))] [] mC' mM') : sd_Lw p l e s m below meth c b gC gM cells slots 1197 [some (.inr 0), some (.inr 1), some (.inr 2), some (.inl (i : Int))] [] mC mM := by
  obtain ⟨hI, hC, hM⟩ := hA
  obtain ⟨⟨hJ, hc, h8, h9, hn⟩, hp, hB, hf, hk⟩ := id hI
  obtain ⟨h1, h2, h3, h4, h5, h6, h7, hR, hT, hL⟩ := id hJ
  have hF : ∀ k : Nat, k < 7 → 0 ≤ x (4101 + k) ∧ x (4101 + k) ≤ 1000000 := fun k q => by have := hf k q; omega
  have hk01 : x 4260 = 0 ∨ x 4260 = 1 := by rcases hk with q | q; exact Or.inl q; exact Or.inr q.1
  have h60 : 0 ≤ x 6004 := by rw [hn.1]; exact (sd_cnt_le _ _).1
  refine lw_R (fun R0 => ?_)
  have hRx : ∀ j, (j < 5000 ∨ 6000 ≤ j) → sd_R (x j) := fun j hj => by rw [← hC j hj]; exact R0 j
  refine lw_aload_n F sDL_1197 rfl ?_
  refine lw_arg (k := 1) F sDL_1198 sDL_1199 sDL_1200 sDL_1201 sDL_1202 rfl (by omega) ?_
  refine lw_arg (k := 2) F sDL_1203 sDL_1204 sDL_1205 sDL_1206 sDL_1207 rfl (by omega) ?_
  refine lw_callC (st := []) [(xs (i + 1)).toInt, (xs (i + 2)).toInt] F sDL_1208 sML_142 rfl rfl rfl (Nat.le_of_ble_eq_true (n := 3) rfl) (by decide) (pC_rumour ((xs (i + 1)).toInt) ((xs (i + 2)).toInt) x _ hC h1 h2 hF) (fun rC mC' qC RC => ?_) sd_Qp_int
  refine lw_aload_n F sDL_1211 rfl ?_
  refine lw_arg (k := 1) F sDL_1212 sDL_1213 sDL_1214 sDL_1215 sDL_1216 rfl (by omega) ?_
  refine lw_arg (k := 2) F sDL_1217 sDL_1218 sDL_1219 sDL_1220 sDL_1221 rfl (by omega) ?_
  refine lw_callM (st := (rC.toList ++ [])) [(xs (i + 1)).toInt, (xs (i + 2)).toInt] F sDL_1222 sML_145 rfl rfl rfl (Nat.le_of_ble_eq_true (n := 3) rfl) (sd_len1 rC) (pM_rumour ((xs (i + 1)).toInt) ((xs (i + 2)).toInt) x _ hM h1 h2 hF) (fun rM mM' qM RM => ?_) sd_Qp_int
  obtain ⟨v, X, rfl, rfl, hX, eC, eM, hRX⟩ := (sd_Go.one (sN_rumour hI ((xs (i + 1)).toInt) ((xs (i + 2)).toInt))) rC rM mC' mM' qC qM RC RM hRx
  exact lw_icmp_eq (st := []) F sDL_1225 (by decide) (lw_fin F hX eC eM hRX kk)
theorem lw_case_32 {p : Program} {l : Launch} {e : Env} {s : State} {m : MethodId} {below : List Frame} {meth : Method} {c : Code} {b L : Nat} {xs : Nat → Int32} {gC gM : sd_G} {cells slots : Nat} {N i : Nat} {x mC mM : sd_M} (F : sd_LF p s m meth c b L xs gC gM cells slots) (hi : i + 6 ≤ L) (hN : N ≤ 1000000) (hA : sd_At N x mC mM) (kk : ∀ x' mC' mM', sd_At (N + 1) x' mC' mM' → sd_Lw p l e s m below meth c b gC gM cells slots 2008 [some (.inr 0), some (.inr 1), some (.inr 2), some (.inl (i : Int))] [] mC' mM') : sd_Lw p l e s m below meth c b gC gM cells slots 1230 [some (.inr 0), some (.inr 1), some (.inr 2), some (.inl (i : Int))] [] mC mM := by
  obtain ⟨hI, hC, hM⟩ := hA
  obtain ⟨⟨hJ, hc, h8, h9, hn⟩, hp, hB, hf, hk⟩ := id hI
  obtain ⟨h1, h2, h3, h4, h5, h6, h7, hR, hT, hL⟩ := id hJ
  have hF : ∀ k : Nat, k < 7 → 0 ≤ x (4101 + k) ∧ x (4101 + k) ≤ 1000000 := fun k q => by have := hf k q; omega
  have hk01 : x 4260 = 0 ∨ x 4260 = 1 := by rcases hk with q | q; exact Or.inl q; exact Or.inr q.1
  have h60 : 0 ≤ x 6004 := by rw [hn.1]; exact (sd_cnt_le _ _).1
  refine lw_R (fun R0 => ?_)
  have hRx : ∀ j, (j < 5000 ∨ 6000 ≤ j) → sd_R (x j) := fun j hj => by rw [← hC j hj]; exact R0 j
  refine lw_aload_n F sDL_1230 rfl ?_
  refine lw_arg (k := 1) F sDL_1231 sDL_1232 sDL_1233 sDL_1234 sDL_1235 rfl (by omega) ?_
  refine lw_arg (k := 2) F sDL_1236 sDL_1237 sDL_1238 sDL_1239 sDL_1240 rfl (by omega) ?_
  refine lw_b F sDL_1241 (by decide) sDL_1244 sDL_1245 (by decide) sDL_1248 ?_
  refine lw_callC (st := []) [(xs (i + 1)).toInt, sd_b (¬ (xs (i + 2)).toInt = 0)] F sDL_1249 sML_146 rfl rfl rfl (Nat.le_of_ble_eq_true (n := 2) rfl) (by decide) (pC_out ((xs (i + 1)).toInt) (¬ (xs (i + 2)).toInt = 0) x _ hC h1 hF) (fun rC mC' qC RC => ?_) sd_Qp_int
  refine lw_aload_n F sDL_1252 rfl ?_
  refine lw_arg (k := 1) F sDL_1253 sDL_1254 sDL_1255 sDL_1256 sDL_1257 rfl (by omega) ?_
  refine lw_arg (k := 2) F sDL_1258 sDL_1259 sDL_1260 sDL_1261 sDL_1262 rfl (by omega) ?_
  refine lw_b F sDL_1263 (by decide) sDL_1266 sDL_1267 (by decide) sDL_1270 ?_
  refine lw_callM (st := (rC.toList ++ [])) [(xs (i + 1)).toInt, sd_b (¬ (xs (i + 2)).toInt = 0)] F sDL_1271 sML_149 rfl rfl rfl (Nat.le_of_ble_eq_true (n := 2) rfl) (sd_len1 rC) (pM_out ((xs (i + 1)).toInt) (¬ (xs (i + 2)).toInt = 0) x _ hM h1 hF) (fun rM mM' qM RM => ?_) sd_Qp_int
  obtain ⟨v, X, rfl, rfl, hX, eC, eM, hRX⟩ := (sd_Go.one (sN_out hI ((xs (i + 1)).toInt) (¬ (xs (i + 2)).toInt = 0))) rC rM mC' mM' qC qM RC RM hRx
  exact lw_icmp_eq (st := []) F sDL_1274 (by decide) (lw_fin F hX eC eM hRX kk)
theorem lw_case_33 {p : Program} {l : Launch} {e : Env} {s : State} {m : MethodId} {below : List Frame} {meth : Method} {c : Code} {b L : Nat} {xs : Nat → Int32} {gC gM : sd_G} {cells slots : Nat} {N i : Nat} {x mC mM : sd_M} (F : sd_LF p s m meth c b L xs gC gM cells slots) (hi : i + 6 ≤ L) (hN : N ≤ 1000000) (hA : sd_At N x mC mM) (kk : ∀ x' mC' mM', sd_At (N + 1) x' mC' mM' → sd_Lw p l e s m below meth c b gC gM cells slots 2008 [some (.inr 0), some (.inr 1), some (.inr 2), some (.inl (i : Int))] [] mC' mM') : sd_Lw p l e s m below meth c b gC gM cells slots 1279 [some (.inr 0), some (.inr 1), some (.inr 2), some (.inl (i : Int))] [] mC mM := by
  obtain ⟨hI, hC, hM⟩ := hA
  obtain ⟨⟨hJ, hc, h8, h9, hn⟩, hp, hB, hf, hk⟩ := id hI
  obtain ⟨h1, h2, h3, h4, h5, h6, h7, hR, hT, hL⟩ := id hJ
  have hF : ∀ k : Nat, k < 7 → 0 ≤ x (4101 + k) ∧ x (4101 + k) ≤ 1000000 := fun k q => by have := hf k q; omega
  have hk01 : x 4260 = 0 ∨ x 4260 = 1 := by rcases hk with q | q; exact Or.inl q; exact Or.inr q.1
  have h60 : 0 ≤ x 6004 := by rw [hn.1]; exact (sd_cnt_le _ _).1
  refine lw_R (fun R0 => ?_)
  have hRx : ∀ j, (j < 5000 ∨ 6000 ≤ j) → sd_R (x j) := fun j hj => by rw [← hC j hj]; exact R0 j
  refine lw_aload_n F sDL_1279 rfl ?_
  refine lw_arg (k := 1) F sDL_1280 sDL_1281 sDL_1282 sDL_1283 sDL_1284 rfl (by omega) ?_
  refine lw_callC (st := []) [(xs (i + 1)).toInt] F sDL_1285 sML_150 rfl rfl rfl (Nat.le_of_ble_eq_true (n := 2) rfl) (by decide) (pC_squads ((xs (i + 1)).toInt) x _ hC h1 hF) (fun rC mC' qC RC => ?_) sd_Qp_int
  refine lw_aload_n F sDL_1288 rfl ?_
  refine lw_arg (k := 1) F sDL_1289 sDL_1290 sDL_1291 sDL_1292 sDL_1293 rfl (by omega) ?_
  refine lw_callM (st := (rC.toList ++ [])) [(xs (i + 1)).toInt] F sDL_1294 sML_153 rfl rfl rfl (Nat.le_of_ble_eq_true (n := 1) rfl) (sd_len1 rC) (pM_squads ((xs (i + 1)).toInt) x _ hM h1 hF) (fun rM mM' qM RM => ?_) sd_Qp_int
  obtain ⟨v, X, rfl, rfl, hX, eC, eM, hRX⟩ := (sd_Go.one (sN_squads hI ((xs (i + 1)).toInt))) rC rM mC' mM' qC qM RC RM hRx
  exact lw_icmp_eq (st := []) F sDL_1297 (by decide) (lw_fin F hX eC eM hRX kk)
theorem lw_case_34 {p : Program} {l : Launch} {e : Env} {s : State} {m : MethodId} {below : List Frame} {meth : Method} {c : Code} {b L : Nat} {xs : Nat → Int32} {gC gM : sd_G} {cells slots : Nat} {N i : Nat} {x mC mM : sd_M} (F : sd_LF p s m meth c b L xs gC gM cells slots) (hi : i + 6 ≤ L) (hN : N ≤ 1000000) (hA : sd_At N x mC mM) (kk : ∀ x' mC' mM', sd_At (N + 1) x' mC' mM' → sd_Lw p l e s m below meth c b gC gM cells slots 2008 [some (.inr 0), some (.inr 1), some (.inr 2), some (.inl (i : Int))] [] mC' mM') : sd_Lw p l e s m below meth c b gC gM cells slots 1302 [some (.inr 0), some (.inr 1), some (.inr 2), some (.inl (i : Int))] [] mC mM := by
  obtain ⟨hI, hC, hM⟩ := hA
  obtain ⟨⟨hJ, hc, h8, h9, hn⟩, hp, hB, hf, hk⟩ := id hI
  obtain ⟨h1, h2, h3, h4, h5, h6, h7, hR, hT, hL⟩ := id hJ
  have hF : ∀ k : Nat, k < 7 → 0 ≤ x (4101 + k) ∧ x (4101 + k) ≤ 1000000 := fun k q => by have := hf k q; omega
  have hk01 : x 4260 = 0 ∨ x 4260 = 1 := by rcases hk with q | q; exact Or.inl q; exact Or.inr q.1
  have h60 : 0 ≤ x 6004 := by rw [hn.1]; exact (sd_cnt_le _ _).1
  refine lw_R (fun R0 => ?_)
  have hRx : ∀ j, (j < 5000 ∨ 6000 ≤ j) → sd_R (x j) := fun j hj => by rw [← hC j hj]; exact R0 j
  refine lw_aload_n F sDL_1302 rfl ?_
  refine lw_callC (st := []) [] F sDL_1303 sML_154 rfl rfl rfl (Nat.le_of_ble_eq_true (n := 3) rfl) (by decide) (pC_believe x _ hC h1 h2 h7 hF) (fun rC mC' qC RC => ?_) sd_Qp_int
  refine lw_aload_n F sDL_1306 rfl ?_
  refine lw_callM (st := (rC.toList ++ [])) [] F sDL_1307 sML_157 rfl rfl rfl (Nat.le_of_ble_eq_true (n := 2) rfl) (sd_len1 rC) (pM_believe x _ hM h1 h2 h7 hF) (fun rM mM' qM RM => ?_) sd_Qp_int
  obtain ⟨v, X, rfl, rfl, hX, eC, eM, hRX⟩ := (sd_Go.one (sN_believe hI )) rC rM mC' mM' qC qM RC RM hRx
  exact lw_icmp_eq (st := []) F sDL_1310 (by decide) (lw_fin F hX eC eM hRX kk)
