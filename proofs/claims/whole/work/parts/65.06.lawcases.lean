theorem lw_case_35 {p : Program} {l : Launch} {e : Env} {s : State} {m : MethodId} {below : List Frame} {meth : Method} {c : Code} {b L : Nat} {xs : Nat → Int32} {gC gM : sd_G} {cells slots : Nat} {N i : Nat} {x mC mM : sd_M} (F : sd_LF p s m meth c b L xs gC gM cells slots) (hi : i + 6 ≤ L) (hN : N ≤ 1000000) (hA : sd_At N x mC mM) (kk : ∀ x' mC' mM', sd_At (N + 1) x' mC' mM' → sd_Lw p l e s m below meth c b gC gM cells slots 2008 [some (.inr 0), some (.inr 1), some (.inr 2), some (.inl (i : Int))] [] mC' mM') : sd_Lw p l e s m below meth c b gC gM cells slots 1315 [some (.inr 0), some (.inr 1), some (.inr 2), some (.inl (i : Int))] [] mC mM := by
  obtain ⟨hI, hC, hM⟩ := hA
  obtain ⟨⟨hJ, hc, h8, h9, hn⟩, hp, hB, hf, hk⟩ := id hI
  obtain ⟨h1, h2, h3, h4, h5, h6, h7, hR, hT, hL⟩ := id hJ
  have hF : ∀ k : Nat, k < 7 → 0 ≤ x (4101 + k) ∧ x (4101 + k) ≤ 1000000 := fun k q => by have := hf k q; omega
  have hk01 : x 4260 = 0 ∨ x 4260 = 1 := by rcases hk with q | q; exact Or.inl q; exact Or.inr q.1
  have h60 : 0 ≤ x 6004 := by rw [hn.1]; exact (sd_cnt_le _ _).1
  refine lw_R (fun R0 => ?_)
  have hRx : ∀ j, (j < 5000 ∨ 6000 ≤ j) → sd_R (x j) := fun j hj => by rw [← hC j hj]; exact R0 j
  refine lw_aload_n F sDL_1315 rfl ?_
  refine lw_arg (k := 1) F sDL_1316 sDL_1317 sDL_1318 sDL_1319 sDL_1320 rfl (by omega) ?_
  refine lw_callC (st := []) [(xs (i + 1)).toInt] F sDL_1321 sML_158 rfl rfl rfl (Nat.le_of_ble_eq_true (n := 5) rfl) (by decide) (pC_feint ((xs (i + 1)).toInt) x _ hC h1 h2 h3 h4 h7 hF) (fun rC mC' qC RC => ?_) sd_Qp_int
  refine lw_aload_n F sDL_1324 rfl ?_
  refine lw_arg (k := 1) F sDL_1325 sDL_1326 sDL_1327 sDL_1328 sDL_1329 rfl (by omega) ?_
  refine lw_callM (st := (rC.toList ++ [])) [(xs (i + 1)).toInt] F sDL_1330 sML_161 rfl rfl rfl (Nat.le_of_ble_eq_true (n := 4) rfl) (sd_len1 rC) (pM_feint ((xs (i + 1)).toInt) x _ hM h1 h2 h3 h4 h7 hF) (fun rM mM' qM RM => ?_) sd_Qp_int
  obtain ⟨v, X, rfl, rfl, hX, eC, eM, hRX⟩ := (sd_Go.one (sN_feint hI ((xs (i + 1)).toInt))) rC rM mC' mM' qC qM RC RM hRx
  exact lw_icmp_eq (st := []) F sDL_1333 (by decide) (lw_fin F hX eC eM hRX kk)
theorem lw_case_36 {p : Program} {l : Launch} {e : Env} {s : State} {m : MethodId} {below : List Frame} {meth : Method} {c : Code} {b L : Nat} {xs : Nat → Int32} {gC gM : sd_G} {cells slots : Nat} {N i : Nat} {x mC mM : sd_M} (F : sd_LF p s m meth c b L xs gC gM cells slots) (hi : i + 6 ≤ L) (hN : N ≤ 1000000) (hA : sd_At N x mC mM) (kk : ∀ x' mC' mM', sd_At (N + 1) x' mC' mM' → sd_Lw p l e s m below meth c b gC gM cells slots 2008 [some (.inr 0), some (.inr 1), some (.inr 2), some (.inl (i : Int))] [] mC' mM') : sd_Lw p l e s m below meth c b gC gM cells slots 1338 [some (.inr 0), some (.inr 1), some (.inr 2), some (.inl (i : Int))] [] mC mM := by
  obtain ⟨hI, hC, hM⟩ := hA
  obtain ⟨⟨hJ, hc, h8, h9, hn⟩, hp, hB, hf, hk⟩ := id hI
  obtain ⟨h1, h2, h3, h4, h5, h6, h7, hR, hT, hL⟩ := id hJ
  have hF : ∀ k : Nat, k < 7 → 0 ≤ x (4101 + k) ∧ x (4101 + k) ≤ 1000000 := fun k q => by have := hf k q; omega
  have hk01 : x 4260 = 0 ∨ x 4260 = 1 := by rcases hk with q | q; exact Or.inl q; exact Or.inr q.1
  have h60 : 0 ≤ x 6004 := by rw [hn.1]; exact (sd_cnt_le _ _).1
  refine lw_R (fun R0 => ?_)
  have hRx : ∀ j, (j < 5000 ∨ 6000 ≤ j) → sd_R (x j) := fun j hj => by rw [← hC j hj]; exact R0 j
  refine lw_aload_n F sDL_1338 rfl ?_
  refine lw_arg (k := 1) F sDL_1339 sDL_1340 sDL_1341 sDL_1342 sDL_1343 rfl (by omega) ?_
  refine lw_arg (k := 2) F sDL_1344 sDL_1345 sDL_1346 sDL_1347 sDL_1348 rfl (by omega) ?_
  refine lw_arg (k := 3) F sDL_1349 sDL_1350 sDL_1351 sDL_1352 sDL_1353 rfl (by omega) ?_
  refine lw_callC (st := []) [(xs (i + 1)).toInt, (xs (i + 2)).toInt, (xs (i + 3)).toInt] F sDL_1354 sML_162 rfl rfl rfl (Nat.le_of_ble_eq_true (n := 3) rfl) (by decide) (pC_copyTerm ((xs (i + 1)).toInt) ((xs (i + 2)).toInt) ((xs (i + 3)).toInt) x _ hC h1 h2 hF) (fun rC mC' qC RC => ?_) sd_Qp_int
  refine lw_aload_n F sDL_1357 rfl ?_
  refine lw_arg (k := 1) F sDL_1358 sDL_1359 sDL_1360 sDL_1361 sDL_1362 rfl (by omega) ?_
  refine lw_arg (k := 2) F sDL_1363 sDL_1364 sDL_1365 sDL_1366 sDL_1367 rfl (by omega) ?_
  refine lw_arg (k := 3) F sDL_1368 sDL_1369 sDL_1370 sDL_1371 sDL_1372 rfl (by omega) ?_
  refine lw_callM (st := (rC.toList ++ [])) [(xs (i + 1)).toInt, (xs (i + 2)).toInt, (xs (i + 3)).toInt] F sDL_1373 sML_165 rfl rfl rfl (Nat.le_of_ble_eq_true (n := 3) rfl) (sd_len1 rC) (pM_copyTerm ((xs (i + 1)).toInt) ((xs (i + 2)).toInt) ((xs (i + 3)).toInt) x _ hM h1 h2 hF) (fun rM mM' qM RM => ?_) sd_Qp_int
  obtain ⟨v, X, rfl, rfl, hX, eC, eM, hRX⟩ := (sd_Go.one (sN_copyTerm hI ((xs (i + 1)).toInt) ((xs (i + 2)).toInt) ((xs (i + 3)).toInt))) rC rM mC' mM' qC qM RC RM hRx
  exact lw_icmp_eq (st := []) F sDL_1376 (by decide) (lw_fin F hX eC eM hRX kk)
theorem lw_case_37 {p : Program} {l : Launch} {e : Env} {s : State} {m : MethodId} {below : List Frame} {meth : Method} {c : Code} {b L : Nat} {xs : Nat → Int32} {gC gM : sd_G} {cells slots : Nat} {N i : Nat} {x mC mM : sd_M} (F : sd_LF p s m meth c b L xs gC gM cells slots) (hi : i + 6 ≤ L) (hN : N ≤ 1000000) (hA : sd_At N x mC mM) (kk : ∀ x' mC' mM', sd_At (N + 1) x' mC' mM' → sd_Lw p l e s m below meth c b gC gM cells slots 2008 [some (.inr 0), some (.inr 1), some (.inr 2), some (.inl (i : Int))] [] mC' mM') : sd_Lw p l e s m below meth c b gC gM cells slots 1381 [some (.inr 0), some (.inr 1), some (.inr 2), some (.inl (i : Int))] [] mC mM := by
  obtain ⟨hI, hC, hM⟩ := hA
  obtain ⟨⟨hJ, hc, h8, h9, hn⟩, hp, hB, hf, hk⟩ := id hI
  obtain ⟨h1, h2, h3, h4, h5, h6, h7, hR, hT, hL⟩ := id hJ
  have hF : ∀ k : Nat, k < 7 → 0 ≤ x (4101 + k) ∧ x (4101 + k) ≤ 1000000 := fun k q => by have := hf k q; omega
  have hk01 : x 4260 = 0 ∨ x 4260 = 1 := by rcases hk with q | q; exact Or.inl q; exact Or.inr q.1
  have h60 : 0 ≤ x 6004 := by rw [hn.1]; exact (sd_cnt_le _ _).1
  refine lw_R (fun R0 => ?_)
  have hRx : ∀ j, (j < 5000 ∨ 6000 ≤ j) → sd_R (x j) := fun j hj => by rw [← hC j hj]; exact R0 j
  refine lw_aload_n F sDL_1381 rfl ?_
  refine lw_callC (st := []) [] F sDL_1382 sML_166 rfl rfl rfl (Nat.le_of_ble_eq_true (n := 2) rfl) (by decide) (pC_unlike x _ hC h1 hF) (fun rC mC' qC RC => ?_) sd_Qp_int
  refine lw_aload_n F sDL_1385 rfl ?_
  refine lw_callM (st := (rC.toList ++ [])) [] F sDL_1386 sML_169 rfl rfl rfl (Nat.le_of_ble_eq_true (n := 2) rfl) (sd_len1 rC) (pM_unlike x _ hM h1 hF) (fun rM mM' qM RM => ?_) sd_Qp_int
  obtain ⟨v, X, rfl, rfl, hX, eC, eM, hRX⟩ := (sd_Go.one (sN_unlike hI )) rC rM mC' mM' qC qM RC RM hRx
  exact lw_icmp_eq (st := []) F sDL_1389 (by decide) (lw_fin F hX eC eM hRX kk)
theorem lw_case_38 {p : Program} {l : Launch} {e : Env} {s : State} {m : MethodId} {below : List Frame} {meth : Method} {c : Code} {b L : Nat} {xs : Nat → Int32} {gC gM : sd_G} {cells slots : Nat} {N i : Nat} {x mC mM : sd_M} (F : sd_LF p s m meth c b L xs gC gM cells slots) (hi : i + 6 ≤ L) (hN : N ≤ 1000000) (hA : sd_At N x mC mM) (kk : ∀ x' mC' mM', sd_At (N + 1) x' mC' mM' → sd_Lw p l e s m below meth c b gC gM cells slots 2008 [some (.inr 0), some (.inr 1), some (.inr 2), some (.inl (i : Int))] [] mC' mM') : sd_Lw p l e s m below meth c b gC gM cells slots 1394 [some (.inr 0), some (.inr 1), some (.inr 2), some (.inl (i : Int))] [] mC mM := by
  obtain ⟨hI, hC, hM⟩ := hA
  obtain ⟨⟨hJ, hc, h8, h9, hn⟩, hp, hB, hf, hk⟩ := id hI
  obtain ⟨h1, h2, h3, h4, h5, h6, h7, hR, hT, hL⟩ := id hJ
  have hF : ∀ k : Nat, k < 7 → 0 ≤ x (4101 + k) ∧ x (4101 + k) ≤ 1000000 := fun k q => by have := hf k q; omega
  have hk01 : x 4260 = 0 ∨ x 4260 = 1 := by rcases hk with q | q; exact Or.inl q; exact Or.inr q.1
  have h60 : 0 ≤ x 6004 := by rw [hn.1]; exact (sd_cnt_le _ _).1
  refine lw_R (fun R0 => ?_)
  have hRx : ∀ j, (j < 5000 ∨ 6000 ≤ j) → sd_R (x j) := fun j hj => by rw [← hC j hj]; exact R0 j
  refine lw_aload_n F sDL_1394 rfl ?_
  refine lw_arg (k := 1) F sDL_1395 sDL_1396 sDL_1397 sDL_1398 sDL_1399 rfl (by omega) ?_
  refine lw_arg (k := 2) F sDL_1400 sDL_1401 sDL_1402 sDL_1403 sDL_1404 rfl (by omega) ?_
  refine lw_arg (k := 3) F sDL_1405 sDL_1406 sDL_1407 sDL_1408 sDL_1409 rfl (by omega) ?_
  refine lw_callC (st := []) [(xs (i + 1)).toInt, (xs (i + 2)).toInt, (xs (i + 3)).toInt] F sDL_1410 sML_170 rfl rfl rfl (Nat.le_of_ble_eq_true (n := 4) rfl) (by decide) (pC_sign ((xs (i + 1)).toInt) ((xs (i + 2)).toInt) ((xs (i + 3)).toInt) x _ hC h1 h2 hF) (fun rC mC' qC RC => ?_) sd_Qp_int
  refine lw_aload_n F sDL_1413 rfl ?_
  refine lw_arg (k := 1) F sDL_1414 sDL_1415 sDL_1416 sDL_1417 sDL_1418 rfl (by omega) ?_
  refine lw_arg (k := 2) F sDL_1419 sDL_1420 sDL_1421 sDL_1422 sDL_1423 rfl (by omega) ?_
  refine lw_arg (k := 3) F sDL_1424 sDL_1425 sDL_1426 sDL_1427 sDL_1428 rfl (by omega) ?_
  refine lw_callM (st := (rC.toList ++ [])) [(xs (i + 1)).toInt, (xs (i + 2)).toInt, (xs (i + 3)).toInt] F sDL_1429 sML_173 rfl rfl rfl (Nat.le_of_ble_eq_true (n := 3) rfl) (sd_len1 rC) (pM_sign ((xs (i + 1)).toInt) ((xs (i + 2)).toInt) ((xs (i + 3)).toInt) x _ hM h1 h2 hF) (fun rM mM' qM RM => ?_) sd_Qp_int
  obtain ⟨v, X, rfl, rfl, hX, eC, eM, hRX⟩ := (sd_Go.one (sN_sign hI ((xs (i + 1)).toInt) ((xs (i + 2)).toInt) ((xs (i + 3)).toInt))) rC rM mC' mM' qC qM RC RM hRx
  exact lw_icmp_eq (st := []) F sDL_1432 (by decide) (lw_fin F hX eC eM hRX kk)
theorem lw_case_39 {p : Program} {l : Launch} {e : Env} {s : State} {m : MethodId} {below : List Frame} {meth : Method} {c : Code} {b L : Nat} {xs : Nat → Int32} {gC gM : sd_G} {cells slots : Nat} {N i : Nat} {x mC mM : sd_M} (F : sd_LF p s m meth c b L xs gC gM cells slots) (hi : i + 6 ≤ L) (hN : N ≤ 1000000) (hA : sd_At N x mC mM) (kk : ∀ x' mC' mM', sd_At (N + 1) x' mC' mM' → sd_Lw p l e s m below meth c b gC gM cells slots 2008 [some (.inr 0), some (.inr 1), some (.inr 2), some (.inl (i : Int))] [] mC' mM') : sd_Lw p l e s m below meth c b gC gM cells slots 1437 [some (.inr 0), some (.inr 1), some (.inr 2), some (.inl (i : Int))] [] mC mM := by
  obtain ⟨hI, hC, hM⟩ := hA
  obtain ⟨⟨hJ, hc, h8, h9, hn⟩, hp, hB, hf, hk⟩ := id hI
  obtain ⟨h1, h2, h3, h4, h5, h6, h7, hR, hT, hL⟩ := id hJ
  have hF : ∀ k : Nat, k < 7 → 0 ≤ x (4101 + k) ∧ x (4101 + k) ≤ 1000000 := fun k q => by have := hf k q; omega
  have hk01 : x 4260 = 0 ∨ x 4260 = 1 := by rcases hk with q | q; exact Or.inl q; exact Or.inr q.1
  have h60 : 0 ≤ x 6004 := by rw [hn.1]; exact (sd_cnt_le _ _).1
  refine lw_R (fun R0 => ?_)
  have hRx : ∀ j, (j < 5000 ∨ 6000 ≤ j) → sd_R (x j) := fun j hj => by rw [← hC j hj]; exact R0 j
  refine lw_aload_n F sDL_1437 rfl ?_
  refine lw_arg (k := 1) F sDL_1438 sDL_1439 sDL_1440 sDL_1441 sDL_1442 rfl (by omega) ?_
  refine lw_arg (k := 2) F sDL_1443 sDL_1444 sDL_1445 sDL_1446 sDL_1447 rfl (by omega) ?_
  refine lw_arg (k := 3) F sDL_1448 sDL_1449 sDL_1450 sDL_1451 sDL_1452 rfl (by omega) ?_
  refine lw_callC (st := []) [(xs (i + 1)).toInt, (xs (i + 2)).toInt, (xs (i + 3)).toInt] F sDL_1453 sML_174 rfl rfl rfl (Nat.le_of_ble_eq_true (n := 2) rfl) (by decide) (pC_list ((xs (i + 1)).toInt) ((xs (i + 2)).toInt) ((xs (i + 3)).toInt) x _ hC hF) (fun rC mC' qC RC => ?_) sd_Qp_int
  refine lw_aload_n F sDL_1456 rfl ?_
  refine lw_arg (k := 1) F sDL_1457 sDL_1458 sDL_1459 sDL_1460 sDL_1461 rfl (by omega) ?_
  refine lw_arg (k := 2) F sDL_1462 sDL_1463 sDL_1464 sDL_1465 sDL_1466 rfl (by omega) ?_
  refine lw_arg (k := 3) F sDL_1467 sDL_1468 sDL_1469 sDL_1470 sDL_1471 rfl (by omega) ?_
  refine lw_callM (st := (rC.toList ++ [])) [(xs (i + 1)).toInt, (xs (i + 2)).toInt, (xs (i + 3)).toInt] F sDL_1472 sML_177 rfl rfl rfl (Nat.le_of_ble_eq_true (n := 2) rfl) (sd_len1 rC) (pM_list ((xs (i + 1)).toInt) ((xs (i + 2)).toInt) ((xs (i + 3)).toInt) x _ hM hF) (fun rM mM' qM RM => ?_) sd_Qp_int
  obtain ⟨v, X, rfl, rfl, hX, eC, eM, hRX⟩ := ((sK_list hI ((xs (i + 1)).toInt) ((xs (i + 2)).toInt) ((xs (i + 3)).toInt)).go) rC rM mC' mM' qC qM RC RM hRx
  exact lw_icmp_eq (st := []) F sDL_1475 (by decide) (lw_fin F hX eC eM hRX kk)
theorem lw_case_40 {p : Program} {l : Launch} {e : Env} {s : State} {m : MethodId} {below : List Frame} {meth : Method} {c : Code} {b L : Nat} {xs : Nat → Int32} {gC gM : sd_G} {cells slots : Nat} {N i : Nat} {x mC mM : sd_M} (F : sd_LF p s m meth c b L xs gC gM cells slots) (hi : i + 6 ≤ L) (hN : N ≤ 1000000) (hA : sd_At N x mC mM) (kk : ∀ x' mC' mM', sd_At (N + 1) x' mC' mM' → sd_Lw p l e s m below meth c b gC gM cells slots 2008 [some (.inr 0), some (.inr 1), some (.inr 2), some (.inl (i : Int))] [] mC' mM') : sd_Lw p l e s m below meth c b gC gM cells slots 1480 [some (.inr 0), some (.inr 1), some (.inr 2), some (.inl (i : Int))] [] mC mM := by
  obtain ⟨hI, hC, hM⟩ := hA
  obtain ⟨⟨hJ, hc, h8, h9, hn⟩, hp, hB, hf, hk⟩ := id hI
  obtain ⟨h1, h2, h3, h4, h5, h6, h7, hR, hT, hL⟩ := id hJ
  have hF : ∀ k : Nat, k < 7 → 0 ≤ x (4101 + k) ∧ x (4101 + k) ≤ 1000000 := fun k q => by have := hf k q; omega
  have hk01 : x 4260 = 0 ∨ x 4260 = 1 := by rcases hk with q | q; exact Or.inl q; exact Or.inr q.1
  have h60 : 0 ≤ x 6004 := by rw [hn.1]; exact (sd_cnt_le _ _).1
  refine lw_R (fun R0 => ?_)
  have hRx : ∀ j, (j < 5000 ∨ 6000 ≤ j) → sd_R (x j) := fun j hj => by rw [← hC j hj]; exact R0 j
  refine lw_aload_n F sDL_1480 rfl ?_
  refine lw_arg (k := 1) F sDL_1481 sDL_1482 sDL_1483 sDL_1484 sDL_1485 rfl (by omega) ?_
  refine lw_callC (st := []) [(xs (i + 1)).toInt] F sDL_1486 sML_178 rfl rfl rfl (Nat.le_of_ble_eq_true (n := 2) rfl) (by decide) (pC_want ((xs (i + 1)).toInt) x _ hC h8 hF) (fun rC mC' qC RC => ?_) sd_Qp_int
  refine lw_aload_n F sDL_1489 rfl ?_
  refine lw_arg (k := 1) F sDL_1490 sDL_1491 sDL_1492 sDL_1493 sDL_1494 rfl (by omega) ?_
  refine lw_callM (st := (rC.toList ++ [])) [(xs (i + 1)).toInt] F sDL_1495 sML_181 rfl rfl rfl (Nat.le_of_ble_eq_true (n := 2) rfl) (sd_len1 rC) (pM_want ((xs (i + 1)).toInt) x _ hM h8 hF) (fun rM mM' qM RM => ?_) sd_Qp_int
  obtain ⟨v, X, rfl, rfl, hX, eC, eM, hRX⟩ := (sd_Go.one (sN_want hI ((xs (i + 1)).toInt))) rC rM mC' mM' qC qM RC RM hRx
  exact lw_icmp_eq (st := []) F sDL_1498 (by decide) (lw_fin F hX eC eM hRX kk)
theorem lw_case_41 {p : Program} {l : Launch} {e : Env} {s : State} {m : MethodId} {below : List Frame} {meth : Method} {c : Code} {b L : Nat} {xs : Nat → Int32} {gC gM : sd_G} {cells slots : Nat} {N i : Nat} {x mC mM : sd_M} (F : sd_LF p s m meth c b L xs gC gM cells slots) (hi : i + 6 ≤ L) (hN : N ≤ 1000000) (hA : sd_At N x mC mM) (kk : ∀ x' mC' mM', sd_At (N + 1) x' mC' mM' → sd_Lw p l e s m below meth c b gC gM cells slots 2008 [some (.inr 0), some (.inr 1), some (.inr 2), some (.inl (i : Int))] [] mC' mM') : sd_Lw p l e s m below meth c b gC gM cells slots 1503 [some (.inr 0), some (.inr 1), some (.inr 2), some (.inl (i : Int))] [] mC mM := by
  obtain ⟨hI, hC, hM⟩ := hA
  obtain ⟨⟨hJ, hc, h8, h9, hn⟩, hp, hB, hf, hk⟩ := id hI
  obtain ⟨h1, h2, h3, h4, h5, h6, h7, hR, hT, hL⟩ := id hJ
  have hF : ∀ k : Nat, k < 7 → 0 ≤ x (4101 + k) ∧ x (4101 + k) ≤ 1000000 := fun k q => by have := hf k q; omega
  have hk01 : x 4260 = 0 ∨ x 4260 = 1 := by rcases hk with q | q; exact Or.inl q; exact Or.inr q.1
  have h60 : 0 ≤ x 6004 := by rw [hn.1]; exact (sd_cnt_le _ _).1
  refine lw_R (fun R0 => ?_)
  have hRx : ∀ j, (j < 5000 ∨ 6000 ≤ j) → sd_R (x j) := fun j hj => by rw [← hC j hj]; exact R0 j
  refine lw_aload_n F sDL_1503 rfl ?_
  refine lw_arg (k := 1) F sDL_1504 sDL_1505 sDL_1506 sDL_1507 sDL_1508 rfl (by omega) ?_
  refine lw_arg (k := 2) F sDL_1509 sDL_1510 sDL_1511 sDL_1512 sDL_1513 rfl (by omega) ?_
  refine lw_arg (k := 3) F sDL_1514 sDL_1515 sDL_1516 sDL_1517 sDL_1518 rfl (by omega) ?_
  refine lw_arg (k := 4) F sDL_1519 sDL_1520 sDL_1521 sDL_1522 sDL_1523 rfl (by omega) ?_
  refine lw_callC (st := []) [(xs (i + 1)).toInt, (xs (i + 2)).toInt, (xs (i + 3)).toInt, (xs (i + 4)).toInt] F sDL_1524 sML_182 rfl rfl rfl (Nat.le_of_ble_eq_true (n := 2) rfl) (by decide) (pC_move ((xs (i + 1)).toInt) ((xs (i + 2)).toInt) ((xs (i + 3)).toInt) ((xs (i + 4)).toInt) x _ hC hF) (fun rC mC' qC RC => ?_) sd_Qp_int
  refine lw_aload_n F sDL_1527 rfl ?_
  refine lw_arg (k := 1) F sDL_1528 sDL_1529 sDL_1530 sDL_1531 sDL_1532 rfl (by omega) ?_
  refine lw_arg (k := 2) F sDL_1533 sDL_1534 sDL_1535 sDL_1536 sDL_1537 rfl (by omega) ?_
  refine lw_arg (k := 3) F sDL_1538 sDL_1539 sDL_1540 sDL_1541 sDL_1542 rfl (by omega) ?_
  refine lw_arg (k := 4) F sDL_1543 sDL_1544 sDL_1545 sDL_1546 sDL_1547 rfl (by omega) ?_
  refine lw_callM (st := (rC.toList ++ [])) [(xs (i + 1)).toInt, (xs (i + 2)).toInt, (xs (i + 3)).toInt, (xs (i + 4)).toInt] F sDL_1548 sML_186 rfl rfl rfl (Nat.le_of_ble_eq_true (n := 2) rfl) (sd_len1 rC) (pM_move ((xs (i + 1)).toInt) ((xs (i + 2)).toInt) ((xs (i + 3)).toInt) ((xs (i + 4)).toInt) x _ hM hF) (fun rM mM' qM RM => ?_) sd_Qp_int
  obtain ⟨v, X, rfl, rfl, hX, eC, eM, hRX⟩ := ((sK_move hI ((xs (i + 1)).toInt) ((xs (i + 2)).toInt) ((xs (i + 3)).toInt) ((xs (i + 4)).toInt)).go) rC rM mC' mM' qC qM RC RM hRx
  exact lw_icmp_eq (st := []) F sDL_1551 (by decide) (lw_fin F hX eC eM hRX kk)
