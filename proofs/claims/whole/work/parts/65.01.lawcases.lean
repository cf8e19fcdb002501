theorem lw_case_0 {p : Program} {l : Launch} {e : Env} {s : State} {m : MethodId} {below : List Frame} {meth : Method} {c : Code} {b L : Nat} {xs : Nat → Int32} {gC gM : sd_G} {cells slots : Nat} {N i : Nat} {x mC mM : sd_M} (F : sd_LF p s m meth c b L xs gC gM cells slots) (hi : i + 6 ≤ L) (hN : N ≤ 1000000) (hA : sd_At N x mC mM) (kk : ∀ x' mC' mM', sd_At (N + 1) x' mC' mM' → sd_Lw p l e s m below meth c b gC gM cells slots 2008 [some (.inr 0), some (.inr 1), some (.inr 2), some (.inl (i : Int))] [] mC' mM') : sd_Lw p l e s m below meth c b gC gM cells slots 272 [some (.inr 0), some (.inr 1), some (.inr 2), some (.inl (i : Int))] [] mC mM := by
  obtain ⟨hI, hC, hM⟩ := hA
  obtain ⟨⟨hJ, hc, h8, h9, hn⟩, hp, hB, hf, hk⟩ := id hI
  obtain ⟨h1, h2, h3, h4, h5, h6, h7, hR, hT, hL⟩ := id hJ
  have hF : ∀ k : Nat, k < 7 → 0 ≤ x (4101 + k) ∧ x (4101 + k) ≤ 1000000 := fun k q => by have := hf k q; omega
  have hk01 : x 4260 = 0 ∨ x 4260 = 1 := by rcases hk with q | q; exact Or.inl q; exact Or.inr q.1
  have h60 : 0 ≤ x 6004 := by rw [hn.1]; exact (sd_cnt_le _ _).1
  refine lw_R (fun R0 => ?_)
  have hRx : ∀ j, (j < 5000 ∨ 6000 ≤ j) → sd_R (x j) := fun j hj => by rw [← hC j hj]; exact R0 j
  refine lw_aload_n F sDL_272 rfl ?_
  refine lw_arg (k := 1) F sDL_273 sDL_274 sDL_275 sDL_276 sDL_277 rfl (by omega) ?_
  refine lw_arg (k := 2) F sDL_278 sDL_279 sDL_280 sDL_281 sDL_282 rfl (by omega) ?_
  refine lw_callC (st := []) [(xs (i + 1)).toInt, (xs (i + 2)).toInt] F sDL_283 sML_13 rfl rfl rfl (Nat.le_of_ble_eq_true (n := 3) rfl) (by decide) (pC_hold ((xs (i + 1)).toInt) ((xs (i + 2)).toInt) x _ hC h1 h2 hF ⟨h60, hn.2⟩) (fun rC mC' qC RC => ?_) sd_Qp_int
  refine lw_aload_n F sDL_286 rfl ?_
  refine lw_arg (k := 1) F sDL_287 sDL_288 sDL_289 sDL_290 sDL_291 rfl (by omega) ?_
  refine lw_arg (k := 2) F sDL_292 sDL_293 sDL_294 sDL_295 sDL_296 rfl (by omega) ?_
  refine lw_callM (st := (rC.toList ++ [])) [(xs (i + 1)).toInt, (xs (i + 2)).toInt] F sDL_297 sML_17 rfl rfl rfl (Nat.le_of_ble_eq_true (n := 4) rfl) (sd_len1 rC) (pM_hold ((xs (i + 1)).toInt) ((xs (i + 2)).toInt) x _ hM h1 h2 hF ⟨hn.1, h60, hn.2⟩) (fun rM mM' qM RM => ?_) sd_Qp_int
  obtain ⟨v, X, rfl, rfl, hX, eC, eM, hRX⟩ := ((sK_hold hI ((xs (i + 1)).toInt) ((xs (i + 2)).toInt)).go) rC rM mC' mM' qC qM RC RM hRx
  exact lw_icmp_eq (st := []) F sDL_300 (by decide) (lw_fin F hX eC eM hRX kk)
theorem lw_case_1 {p : Program} {l : Launch} {e : Env} {s : State} {m : MethodId} {below : List Frame} {meth : Method} {c : Code} {b L : Nat} {xs : Nat → Int32} {gC gM : sd_G} {cells slots : Nat} {N i : Nat} {x mC mM : sd_M} (F : sd_LF p s m meth c b L xs gC gM cells slots) (hi : i + 6 ≤ L) (hN : N ≤ 1000000) (hA : sd_At N x mC mM) (kk : ∀ x' mC' mM', sd_At (N + 1) x' mC' mM' → sd_Lw p l e s m below meth c b gC gM cells slots 2008 [some (.inr 0), some (.inr 1), some (.inr 2), some (.inl (i : Int))] [] mC' mM') : sd_Lw p l e s m below meth c b gC gM cells slots 305 [some (.inr 0), some (.inr 1), some (.inr 2), some (.inl (i : Int))] [] mC mM := by
  obtain ⟨hI, hC, hM⟩ := hA
  obtain ⟨⟨hJ, hc, h8, h9, hn⟩, hp, hB, hf, hk⟩ := id hI
  obtain ⟨h1, h2, h3, h4, h5, h6, h7, hR, hT, hL⟩ := id hJ
  have hF : ∀ k : Nat, k < 7 → 0 ≤ x (4101 + k) ∧ x (4101 + k) ≤ 1000000 := fun k q => by have := hf k q; omega
  have hk01 : x 4260 = 0 ∨ x 4260 = 1 := by rcases hk with q | q; exact Or.inl q; exact Or.inr q.1
  have h60 : 0 ≤ x 6004 := by rw [hn.1]; exact (sd_cnt_le _ _).1
  refine lw_R (fun R0 => ?_)
  have hRx : ∀ j, (j < 5000 ∨ 6000 ≤ j) → sd_R (x j) := fun j hj => by rw [← hC j hj]; exact R0 j
  refine lw_aload_n F sDL_305 rfl ?_
  refine lw_arg (k := 1) F sDL_306 sDL_307 sDL_308 sDL_309 sDL_310 rfl (by omega) ?_
  refine lw_arg (k := 2) F sDL_311 sDL_312 sDL_313 sDL_314 sDL_315 rfl (by omega) ?_
  refine lw_callC (st := []) [(xs (i + 1)).toInt, (xs (i + 2)).toInt] F sDL_316 sML_18 rfl rfl rfl (Nat.le_of_ble_eq_true (n := 3) rfl) (by decide) (pC_as ((xs (i + 1)).toInt) ((xs (i + 2)).toInt) x _ hC h1 h2 hF) (fun rC mC' qC RC => ?_) sd_Qp_int
  refine lw_aload_n F sDL_319 rfl ?_
  refine lw_arg (k := 1) F sDL_320 sDL_321 sDL_322 sDL_323 sDL_324 rfl (by omega) ?_
  refine lw_arg (k := 2) F sDL_325 sDL_326 sDL_327 sDL_328 sDL_329 rfl (by omega) ?_
  refine lw_callM (st := (rC.toList ++ [])) [(xs (i + 1)).toInt, (xs (i + 2)).toInt] F sDL_330 sML_21 rfl rfl rfl (Nat.le_of_ble_eq_true (n := 2) rfl) (sd_len1 rC) (pM_as ((xs (i + 1)).toInt) ((xs (i + 2)).toInt) x _ hM h1 h2 hF) (fun rM mM' qM RM => ?_) sd_Qp_int
  obtain ⟨v, X, rfl, rfl, hX, eC, eM, hRX⟩ := (sd_Go.one (sN_as hI ((xs (i + 1)).toInt) ((xs (i + 2)).toInt))) rC rM mC' mM' qC qM RC RM hRx
  exact lw_icmp_eq (st := []) F sDL_333 (by decide) (lw_fin F hX eC eM hRX kk)
theorem lw_case_2 {p : Program} {l : Launch} {e : Env} {s : State} {m : MethodId} {below : List Frame} {meth : Method} {c : Code} {b L : Nat} {xs : Nat → Int32} {gC gM : sd_G} {cells slots : Nat} {N i : Nat} {x mC mM : sd_M} (F : sd_LF p s m meth c b L xs gC gM cells slots) (hi : i + 6 ≤ L) (hN : N ≤ 1000000) (hA : sd_At N x mC mM) (kk : ∀ x' mC' mM', sd_At (N + 1) x' mC' mM' → sd_Lw p l e s m below meth c b gC gM cells slots 2008 [some (.inr 0), some (.inr 1), some (.inr 2), some (.inl (i : Int))] [] mC' mM') : sd_Lw p l e s m below meth c b gC gM cells slots 338 [some (.inr 0), some (.inr 1), some (.inr 2), some (.inl (i : Int))] [] mC mM := by
  obtain ⟨hI, hC, hM⟩ := hA
  obtain ⟨⟨hJ, hc, h8, h9, hn⟩, hp, hB, hf, hk⟩ := id hI
  obtain ⟨h1, h2, h3, h4, h5, h6, h7, hR, hT, hL⟩ := id hJ
  have hF : ∀ k : Nat, k < 7 → 0 ≤ x (4101 + k) ∧ x (4101 + k) ≤ 1000000 := fun k q => by have := hf k q; omega
  have hk01 : x 4260 = 0 ∨ x 4260 = 1 := by rcases hk with q | q; exact Or.inl q; exact Or.inr q.1
  have h60 : 0 ≤ x 6004 := by rw [hn.1]; exact (sd_cnt_le _ _).1
  refine lw_R (fun R0 => ?_)
  have hRx : ∀ j, (j < 5000 ∨ 6000 ≤ j) → sd_R (x j) := fun j hj => by rw [← hC j hj]; exact R0 j
  refine lw_aload_n F sDL_338 rfl ?_
  refine lw_arg (k := 1) F sDL_339 sDL_340 sDL_341 sDL_342 sDL_343 rfl (by omega) ?_
  refine lw_arg (k := 2) F sDL_344 sDL_345 sDL_346 sDL_347 sDL_348 rfl (by omega) ?_
  refine lw_callC (st := []) [(xs (i + 1)).toInt, (xs (i + 2)).toInt] F sDL_349 sML_22 rfl rfl rfl (Nat.le_of_ble_eq_true (n := 4) rfl) (by decide) (pC_of ((xs (i + 1)).toInt) ((xs (i + 2)).toInt) x _ hC h1 h2 h4 h6 hR hF) (fun rC mC' qC RC => ?_) sd_Qp_int
  refine lw_aload_n F sDL_352 rfl ?_
  refine lw_arg (k := 1) F sDL_353 sDL_354 sDL_355 sDL_356 sDL_357 rfl (by omega) ?_
  refine lw_arg (k := 2) F sDL_358 sDL_359 sDL_360 sDL_361 sDL_362 rfl (by omega) ?_
  refine lw_callM (st := (rC.toList ++ [])) [(xs (i + 1)).toInt, (xs (i + 2)).toInt] F sDL_363 sML_25 rfl rfl rfl (Nat.le_of_ble_eq_true (n := 7) rfl) (sd_len1 rC) (pM_of ((xs (i + 1)).toInt) ((xs (i + 2)).toInt) x _ hM h1 h2 h3 h4 h6 hR hT hL hF) (fun rM mM' qM RM => ?_) sd_Qp_int
  obtain ⟨v, X, rfl, rfl, hX, eC, eM, hRX⟩ := (sd_Go.one (sN_of hI ((xs (i + 1)).toInt) ((xs (i + 2)).toInt))) rC rM mC' mM' qC qM RC RM hRx
  exact lw_icmp_eq (st := []) F sDL_366 (by decide) (lw_fin F hX eC eM hRX kk)
theorem lw_case_3 {p : Program} {l : Launch} {e : Env} {s : State} {m : MethodId} {below : List Frame} {meth : Method} {c : Code} {b L : Nat} {xs : Nat → Int32} {gC gM : sd_G} {cells slots : Nat} {N i : Nat} {x mC mM : sd_M} (F : sd_LF p s m meth c b L xs gC gM cells slots) (hi : i + 6 ≤ L) (hN : N ≤ 1000000) (hA : sd_At N x mC mM) (kk : ∀ x' mC' mM', sd_At (N + 1) x' mC' mM' → sd_Lw p l e s m below meth c b gC gM cells slots 2008 [some (.inr 0), some (.inr 1), some (.inr 2), some (.inl (i : Int))] [] mC' mM') : sd_Lw p l e s m below meth c b gC gM cells slots 371 [some (.inr 0), some (.inr 1), some (.inr 2), some (.inl (i : Int))] [] mC mM := by
  obtain ⟨hI, hC, hM⟩ := hA
  obtain ⟨⟨hJ, hc, h8, h9, hn⟩, hp, hB, hf, hk⟩ := id hI
  obtain ⟨h1, h2, h3, h4, h5, h6, h7, hR, hT, hL⟩ := id hJ
  have hF : ∀ k : Nat, k < 7 → 0 ≤ x (4101 + k) ∧ x (4101 + k) ≤ 1000000 := fun k q => by have := hf k q; omega
  have hk01 : x 4260 = 0 ∨ x 4260 = 1 := by rcases hk with q | q; exact Or.inl q; exact Or.inr q.1
  have h60 : 0 ≤ x 6004 := by rw [hn.1]; exact (sd_cnt_le _ _).1
  refine lw_R (fun R0 => ?_)
  have hRx : ∀ j, (j < 5000 ∨ 6000 ≤ j) → sd_R (x j) := fun j hj => by rw [← hC j hj]; exact R0 j
  refine lw_aload_n F sDL_371 rfl ?_
  refine lw_arg (k := 1) F sDL_372 sDL_373 sDL_374 sDL_375 sDL_376 rfl (by omega) ?_
  refine lw_arg (k := 2) F sDL_377 sDL_378 sDL_379 sDL_380 sDL_381 rfl (by omega) ?_
  refine lw_b F sDL_382 (by decide) sDL_385 sDL_386 (by decide) sDL_389 ?_
  refine lw_callC (st := []) [(xs (i + 1)).toInt, sd_b (¬ (xs (i + 2)).toInt = 0)] F sDL_390 sML_26 rfl rfl rfl (Nat.le_of_ble_eq_true (n := 3) rfl) (by decide) (pC_run ((xs (i + 1)).toInt) (¬ (xs (i + 2)).toInt = 0) x _ hC h1 h2 hF) (fun rC mC' qC RC => ?_) sd_Qp_int
  refine lw_aload_n F sDL_393 rfl ?_
  refine lw_arg (k := 1) F sDL_394 sDL_395 sDL_396 sDL_397 sDL_398 rfl (by omega) ?_
  refine lw_arg (k := 2) F sDL_399 sDL_400 sDL_401 sDL_402 sDL_403 rfl (by omega) ?_
  refine lw_b F sDL_404 (by decide) sDL_407 sDL_408 (by decide) sDL_411 ?_
  refine lw_callM (st := (rC.toList ++ [])) [(xs (i + 1)).toInt, sd_b (¬ (xs (i + 2)).toInt = 0)] F sDL_412 sML_30 rfl rfl rfl (Nat.le_of_ble_eq_true (n := 3) rfl) (sd_len1 rC) (pM_run ((xs (i + 1)).toInt) (¬ (xs (i + 2)).toInt = 0) x _ hM h1 h2 hF) (fun rM mM' qM RM => ?_) sd_Qp_int
  obtain ⟨v, X, rfl, rfl, hX, eC, eM, hRX⟩ := (sd_Go.one (sN_run hI ((xs (i + 1)).toInt) (¬ (xs (i + 2)).toInt = 0))) rC rM mC' mM' qC qM RC RM hRx
  exact lw_icmp_eq (st := []) F sDL_415 (by decide) (lw_fin F hX eC eM hRX kk)
theorem lw_case_4 {p : Program} {l : Launch} {e : Env} {s : State} {m : MethodId} {below : List Frame} {meth : Method} {c : Code} {b L : Nat} {xs : Nat → Int32} {gC gM : sd_G} {cells slots : Nat} {N i : Nat} {x mC mM : sd_M} (F : sd_LF p s m meth c b L xs gC gM cells slots) (hi : i + 6 ≤ L) (hN : N ≤ 1000000) (hA : sd_At N x mC mM) (kk : ∀ x' mC' mM', sd_At (N + 1) x' mC' mM' → sd_Lw p l e s m below meth c b gC gM cells slots 2008 [some (.inr 0), some (.inr 1), some (.inr 2), some (.inl (i : Int))] [] mC' mM') : sd_Lw p l e s m below meth c b gC gM cells slots 420 [some (.inr 0), some (.inr 1), some (.inr 2), some (.inl (i : Int))] [] mC mM := by
  obtain ⟨hI, hC, hM⟩ := hA
  obtain ⟨⟨hJ, hc, h8, h9, hn⟩, hp, hB, hf, hk⟩ := id hI
  obtain ⟨h1, h2, h3, h4, h5, h6, h7, hR, hT, hL⟩ := id hJ
  have hF : ∀ k : Nat, k < 7 → 0 ≤ x (4101 + k) ∧ x (4101 + k) ≤ 1000000 := fun k q => by have := hf k q; omega
  have hk01 : x 4260 = 0 ∨ x 4260 = 1 := by rcases hk with q | q; exact Or.inl q; exact Or.inr q.1
  have h60 : 0 ≤ x 6004 := by rw [hn.1]; exact (sd_cnt_le _ _).1
  refine lw_R (fun R0 => ?_)
  have hRx : ∀ j, (j < 5000 ∨ 6000 ≤ j) → sd_R (x j) := fun j hj => by rw [← hC j hj]; exact R0 j
  refine lw_aload_n F sDL_420 rfl ?_
  refine lw_arg (k := 1) F sDL_421 sDL_422 sDL_423 sDL_424 sDL_425 rfl (by omega) ?_
  refine lw_arg (k := 2) F sDL_426 sDL_427 sDL_428 sDL_429 sDL_430 rfl (by omega) ?_
  refine lw_b F sDL_431 (by decide) sDL_434 sDL_435 (by decide) sDL_438 ?_
  refine lw_callC (st := []) [(xs (i + 1)).toInt, sd_b (¬ (xs (i + 2)).toInt = 0)] F sDL_439 sML_31 rfl rfl rfl (Nat.le_of_ble_eq_true (n := 3) rfl) (by decide) (pC_shut ((xs (i + 1)).toInt) (¬ (xs (i + 2)).toInt = 0) x _ hC h1 h2 hF) (fun rC mC' qC RC => ?_) sd_Qp_int
  refine lw_aload_n F sDL_442 rfl ?_
  refine lw_arg (k := 1) F sDL_443 sDL_444 sDL_445 sDL_446 sDL_447 rfl (by omega) ?_
  refine lw_arg (k := 2) F sDL_448 sDL_449 sDL_450 sDL_451 sDL_452 rfl (by omega) ?_
  refine lw_b F sDL_453 (by decide) sDL_456 sDL_457 (by decide) sDL_460 ?_
  refine lw_callM (st := (rC.toList ++ [])) [(xs (i + 1)).toInt, sd_b (¬ (xs (i + 2)).toInt = 0)] F sDL_461 sML_34 rfl rfl rfl (Nat.le_of_ble_eq_true (n := 3) rfl) (sd_len1 rC) (pM_shut ((xs (i + 1)).toInt) (¬ (xs (i + 2)).toInt = 0) x _ hM h1 h2 hF) (fun rM mM' qM RM => ?_) sd_Qp_int
  obtain ⟨v, X, rfl, rfl, hX, eC, eM, hRX⟩ := (sd_Go.one (sN_shut hI ((xs (i + 1)).toInt) (¬ (xs (i + 2)).toInt = 0))) rC rM mC' mM' qC qM RC RM hRx
  exact lw_icmp_eq (st := []) F sDL_464 (by decide) (lw_fin F hX eC eM hRX kk)
theorem lw_case_5 {p : Program} {l : Launch} {e : Env} {s : State} {m : MethodId} {below : List Frame} {meth : Method} {c : Code} {b L : Nat} {xs : Nat → Int32} {gC gM : sd_G} {cells slots : Nat} {N i : Nat} {x mC mM : sd_M} (F : sd_LF p s m meth c b L xs gC gM cells slots) (hi : i + 6 ≤ L) (hN : N ≤ 1000000) (hA : sd_At N x mC mM) (kk : ∀ x' mC' mM', sd_At (N + 1) x' mC' mM' → sd_Lw p l e s m below meth c b gC gM cells slots 2008 [some (.inr 0), some (.inr 1), some (.inr 2), some (.inl (i : Int))] [] mC' mM') : sd_Lw p l e s m below meth c b gC gM cells slots 469 [some (.inr 0), some (.inr 1), some (.inr 2), some (.inl (i : Int))] [] mC mM := by
  obtain ⟨hI, hC, hM⟩ := hA
  obtain ⟨⟨hJ, hc, h8, h9, hn⟩, hp, hB, hf, hk⟩ := id hI
  obtain ⟨h1, h2, h3, h4, h5, h6, h7, hR, hT, hL⟩ := id hJ
  have hF : ∀ k : Nat, k < 7 → 0 ≤ x (4101 + k) ∧ x (4101 + k) ≤ 1000000 := fun k q => by have := hf k q; omega
  have hk01 : x 4260 = 0 ∨ x 4260 = 1 := by rcases hk with q | q; exact Or.inl q; exact Or.inr q.1
  have h60 : 0 ≤ x 6004 := by rw [hn.1]; exact (sd_cnt_le _ _).1
  refine lw_R (fun R0 => ?_)
  have hRx : ∀ j, (j < 5000 ∨ 6000 ≤ j) → sd_R (x j) := fun j hj => by rw [← hC j hj]; exact R0 j
  refine lw_aload_n F sDL_469 rfl ?_
  refine lw_arg (k := 1) F sDL_470 sDL_471 sDL_472 sDL_473 sDL_474 rfl (by omega) ?_
  refine lw_callC (st := []) [(xs (i + 1)).toInt] F sDL_475 sML_35 rfl rfl rfl (Nat.le_of_ble_eq_true (n := 2) rfl) (by decide) (pC_outside ((xs (i + 1)).toInt) x _ hC h1 hF) (fun rC mC' qC RC => ?_) sd_Qp_int
  refine lw_aload_n F sDL_478 rfl ?_
  refine lw_arg (k := 1) F sDL_479 sDL_480 sDL_481 sDL_482 sDL_483 rfl (by omega) ?_
  refine lw_callM (st := (rC.toList ++ [])) [(xs (i + 1)).toInt] F sDL_484 sML_39 rfl rfl rfl (Nat.le_of_ble_eq_true (n := 1) rfl) (sd_len1 rC) (pM_outside ((xs (i + 1)).toInt) x _ hM h1 hF) (fun rM mM' qM RM => ?_) sd_Qp_int
  obtain ⟨v, X, rfl, rfl, hX, eC, eM, hRX⟩ := (sd_Go.one (sN_outside hI ((xs (i + 1)).toInt))) rC rM mC' mM' qC qM RC RM hRx
  exact lw_icmp_eq (st := []) F sDL_487 (by decide) (lw_fin F hX eC eM hRX kk)
theorem lw_case_6 {p : Program} {l : Launch} {e : Env} {s : State} {m : MethodId} {below : List Frame} {meth : Method} {c : Code} {b L : Nat} {xs : Nat → Int32} {gC gM : sd_G} {cells slots : Nat} {N i : Nat} {x mC mM : sd_M} (F : sd_LF p s m meth c b L xs gC gM cells slots) (hi : i + 6 ≤ L) (hN : N ≤ 1000000) (hA : sd_At N x mC mM) (kk : ∀ x' mC' mM', sd_At (N + 1) x' mC' mM' → sd_Lw p l e s m below meth c b gC gM cells slots 2008 [some (.inr 0), some (.inr 1), some (.inr 2), some (.inl (i : Int))] [] mC' mM') : sd_Lw p l e s m below meth c b gC gM cells slots 492 [some (.inr 0), some (.inr 1), some (.inr 2), some (.inl (i : Int))] [] mC mM := by
  obtain ⟨hI, hC, hM⟩ := hA
  obtain ⟨⟨hJ, hc, h8, h9, hn⟩, hp, hB, hf, hk⟩ := id hI
  obtain ⟨h1, h2, h3, h4, h5, h6, h7, hR, hT, hL⟩ := id hJ
  have hF : ∀ k : Nat, k < 7 → 0 ≤ x (4101 + k) ∧ x (4101 + k) ≤ 1000000 := fun k q => by have := hf k q; omega
  have hk01 : x 4260 = 0 ∨ x 4260 = 1 := by rcases hk with q | q; exact Or.inl q; exact Or.inr q.1
  have h60 : 0 ≤ x 6004 := by rw [hn.1]; exact (sd_cnt_le _ _).1
  refine lw_R (fun R0 => ?_)
  have hRx : ∀ j, (j < 5000 ∨ 6000 ≤ j) → sd_R (x j) := fun j hj => by rw [← hC j hj]; exact R0 j
  refine lw_aload_n F sDL_492 rfl ?_
  refine lw_arg (k := 1) F sDL_493 sDL_494 sDL_495 sDL_496 sDL_497 rfl (by omega) ?_
  refine lw_arg (k := 2) F sDL_498 sDL_499 sDL_500 sDL_501 sDL_502 rfl (by omega) ?_
  refine lw_callC (st := []) [(xs (i + 1)).toInt, (xs (i + 2)).toInt] F sDL_503 sML_40 rfl rfl rfl (Nat.le_of_ble_eq_true (n := 3) rfl) (by decide) (pC_cold ((xs (i + 1)).toInt) ((xs (i + 2)).toInt) x _ hC h1 h2 hF) (fun rC mC' qC RC => ?_) sd_Qp_int
  refine lw_aload_n F sDL_506 rfl ?_
  refine lw_arg (k := 1) F sDL_507 sDL_508 sDL_509 sDL_510 sDL_511 rfl (by omega) ?_
  refine lw_arg (k := 2) F sDL_512 sDL_513 sDL_514 sDL_515 sDL_516 rfl (by omega) ?_
  refine lw_callM (st := (rC.toList ++ [])) [(xs (i + 1)).toInt, (xs (i + 2)).toInt] F sDL_517 sML_43 rfl rfl rfl (Nat.le_of_ble_eq_true (n := 3) rfl) (sd_len1 rC) (pM_cold ((xs (i + 1)).toInt) ((xs (i + 2)).toInt) x _ hM h1 h2 hF) (fun rM mM' qM RM => ?_) sd_Qp_int
  obtain ⟨v, X, rfl, rfl, hX, eC, eM, hRX⟩ := (sd_Go.one (sN_cold hI ((xs (i + 1)).toInt) ((xs (i + 2)).toInt))) rC rM mC' mM' qC qM RC RM hRx
  exact lw_icmp_eq (st := []) F sDL_520 (by decide) (lw_fin F hX eC eM hRX kk)
