theorem lw_case_7 {p : Program} {l : Launch} {e : Env} {s : State} {m : MethodId} {below : List Frame} {meth : Method} {c : Code} {b L : Nat} {xs : Nat → Int32} {gC gM : sd_G} {cells slots : Nat} {N i : Nat} {x mC mM : sd_M} (F : sd_LF p s m meth c b L xs gC gM cells slots) (hi : i + 6 ≤ L) (hN : N ≤ 1000000) (hA : sd_At N x mC mM) (kk : ∀ x' mC' mM', sd_At (N + 1) x' mC' mM' → sd_Lw p l e s m below meth c b gC gM cells slots 2008 [some (.inr 0), some (.inr 1), some (.inr 2), some (.inl (i : Int))] [] mC' mM') : sd_Lw p l e s m below meth c b gC gM cells slots 525 [some (.inr 0), some (.inr 1), some (.inr 2), some (.inl (i : Int))] [] mC mM := by
  obtain ⟨hI, hC, hM⟩ := hA
  obtain ⟨⟨hJ, hc, h8, h9, hn⟩, hp, hB, hf, hk⟩ := id hI
  obtain ⟨h1, h2, h3, h4, h5, h6, h7, hR, hT, hL⟩ := id hJ
  have hF : ∀ k : Nat, k < 7 → 0 ≤ x (4101 + k) ∧ x (4101 + k) ≤ 1000000 := fun k q => by have := hf k q; omega
  have hk01 : x 4260 = 0 ∨ x 4260 = 1 := by rcases hk with q | q; exact Or.inl q; exact Or.inr q.1
  have h60 : 0 ≤ x 6004 := by rw [hn.1]; exact (sd_cnt_le _ _).1
  refine lw_R (fun R0 => ?_)
  have hRx : ∀ j, (j < 5000 ∨ 6000 ≤ j) → sd_R (x j) := fun j hj => by rw [← hC j hj]; exact R0 j
  refine lw_aload_n F sDL_525 rfl ?_
  refine lw_arg (k := 1) F sDL_526 sDL_527 sDL_528 sDL_529 sDL_530 rfl (by omega) ?_
  refine lw_arg (k := 2) F sDL_531 sDL_532 sDL_533 sDL_534 sDL_535 rfl (by omega) ?_
  refine lw_callC (st := []) [(xs (i + 1)).toInt, (xs (i + 2)).toInt] F sDL_536 sML_44 rfl rfl rfl (Nat.le_of_ble_eq_true (n := 3) rfl) (by decide) (pC_man ((xs (i + 1)).toInt) ((xs (i + 2)).toInt) x _ hC h1 h2 hF) (fun rC mC' qC RC => ?_) sd_Qp_int
  refine lw_aload_n F sDL_539 rfl ?_
  refine lw_arg (k := 1) F sDL_540 sDL_541 sDL_542 sDL_543 sDL_544 rfl (by omega) ?_
  refine lw_arg (k := 2) F sDL_545 sDL_546 sDL_547 sDL_548 sDL_549 rfl (by omega) ?_
  refine lw_callM (st := (rC.toList ++ [])) [(xs (i + 1)).toInt, (xs (i + 2)).toInt] F sDL_550 sML_47 rfl rfl rfl (Nat.le_of_ble_eq_true (n := 3) rfl) (sd_len1 rC) (pM_man ((xs (i + 1)).toInt) ((xs (i + 2)).toInt) x _ hM h1 h2 hF) (fun rM mM' qM RM => ?_) sd_Qp_int
  obtain ⟨v, X, rfl, rfl, hX, eC, eM, hRX⟩ := (sd_Go.one (sN_man hI ((xs (i + 1)).toInt) ((xs (i + 2)).toInt))) rC rM mC' mM' qC qM RC RM hRx
  exact lw_icmp_eq (st := []) F sDL_553 (by decide) (lw_fin F hX eC eM hRX kk)
theorem lw_case_8 {p : Program} {l : Launch} {e : Env} {s : State} {m : MethodId} {below : List Frame} {meth : Method} {c : Code} {b L : Nat} {xs : Nat → Int32} {gC gM : sd_G} {cells slots : Nat} {N i : Nat} {x mC mM : sd_M} (F : sd_LF p s m meth c b L xs gC gM cells slots) (hi : i + 6 ≤ L) (hN : N ≤ 1000000) (hA : sd_At N x mC mM) (kk : ∀ x' mC' mM', sd_At (N + 1) x' mC' mM' → sd_Lw p l e s m below meth c b gC gM cells slots 2008 [some (.inr 0), some (.inr 1), some (.inr 2), some (.inl (i : Int))] [] mC' mM') : sd_Lw p l e s m below meth c b gC gM cells slots 558 [some (.inr 0), some (.inr 1), some (.inr 2), some (.inl (i : Int))] [] mC mM := by
  obtain ⟨hI, hC, hM⟩ := hA
  obtain ⟨⟨hJ, hc, h8, h9, hn⟩, hp, hB, hf, hk⟩ := id hI
  obtain ⟨h1, h2, h3, h4, h5, h6, h7, hR, hT, hL⟩ := id hJ
  have hF : ∀ k : Nat, k < 7 → 0 ≤ x (4101 + k) ∧ x (4101 + k) ≤ 1000000 := fun k q => by have := hf k q; omega
  have hk01 : x 4260 = 0 ∨ x 4260 = 1 := by rcases hk with q | q; exact Or.inl q; exact Or.inr q.1
  have h60 : 0 ≤ x 6004 := by rw [hn.1]; exact (sd_cnt_le _ _).1
  refine lw_R (fun R0 => ?_)
  have hRx : ∀ j, (j < 5000 ∨ 6000 ≤ j) → sd_R (x j) := fun j hj => by rw [← hC j hj]; exact R0 j
  refine lw_aload_n F sDL_558 rfl ?_
  refine lw_arg (k := 1) F sDL_559 sDL_560 sDL_561 sDL_562 sDL_563 rfl (by omega) ?_
  refine lw_arg (k := 2) F sDL_564 sDL_565 sDL_566 sDL_567 sDL_568 rfl (by omega) ?_
  refine lw_callC (st := []) [(xs (i + 1)).toInt, (xs (i + 2)).toInt] F sDL_569 sML_48 rfl rfl rfl (Nat.le_of_ble_eq_true (n := 2) rfl) (by decide) (pC_where ((xs (i + 1)).toInt) ((xs (i + 2)).toInt) x _ hC h1 hF) (fun rC mC' qC RC => ?_) sd_Qp_int
  refine lw_aload_n F sDL_572 rfl ?_
  refine lw_arg (k := 1) F sDL_573 sDL_574 sDL_575 sDL_576 sDL_577 rfl (by omega) ?_
  refine lw_arg (k := 2) F sDL_578 sDL_579 sDL_580 sDL_581 sDL_582 rfl (by omega) ?_
  refine lw_callM (st := (rC.toList ++ [])) [(xs (i + 1)).toInt, (xs (i + 2)).toInt] F sDL_583 sML_51 rfl rfl rfl (Nat.le_of_ble_eq_true (n := 2) rfl) (sd_len1 rC) (pM_where ((xs (i + 1)).toInt) ((xs (i + 2)).toInt) x _ hM h1 hF) (fun rM mM' qM RM => ?_) sd_Qp_int
  obtain ⟨v, X, rfl, rfl, hX, eC, eM, hRX⟩ := (sd_Go.one (sN_where hI ((xs (i + 1)).toInt) ((xs (i + 2)).toInt))) rC rM mC' mM' qC qM RC RM hRx
  exact lw_icmp_eq (st := []) F sDL_586 (by decide) (lw_fin F hX eC eM hRX kk)
theorem lw_case_9 {p : Program} {l : Launch} {e : Env} {s : State} {m : MethodId} {below : List Frame} {meth : Method} {c : Code} {b L : Nat} {xs : Nat → Int32} {gC gM : sd_G} {cells slots : Nat} {N i : Nat} {x mC mM : sd_M} (F : sd_LF p s m meth c b L xs gC gM cells slots) (hi : i + 6 ≤ L) (hN : N ≤ 1000000) (hA : sd_At N x mC mM) (kk : ∀ x' mC' mM', sd_At (N + 1) x' mC' mM' → sd_Lw p l e s m below meth c b gC gM cells slots 2008 [some (.inr 0), some (.inr 1), some (.inr 2), some (.inl (i : Int))] [] mC' mM') : sd_Lw p l e s m below meth c b gC gM cells slots 591 [some (.inr 0), some (.inr 1), some (.inr 2), some (.inl (i : Int))] [] mC mM := by
  obtain ⟨hI, hC, hM⟩ := hA
  obtain ⟨⟨hJ, hc, h8, h9, hn⟩, hp, hB, hf, hk⟩ := id hI
  obtain ⟨h1, h2, h3, h4, h5, h6, h7, hR, hT, hL⟩ := id hJ
  have hF : ∀ k : Nat, k < 7 → 0 ≤ x (4101 + k) ∧ x (4101 + k) ≤ 1000000 := fun k q => by have := hf k q; omega
  have hk01 : x 4260 = 0 ∨ x 4260 = 1 := by rcases hk with q | q; exact Or.inl q; exact Or.inr q.1
  have h60 : 0 ≤ x 6004 := by rw [hn.1]; exact (sd_cnt_le _ _).1
  refine lw_R (fun R0 => ?_)
  have hRx : ∀ j, (j < 5000 ∨ 6000 ≤ j) → sd_R (x j) := fun j hj => by rw [← hC j hj]; exact R0 j
  refine lw_aload_n F sDL_591 rfl ?_
  refine lw_arg (k := 1) F sDL_592 sDL_593 sDL_594 sDL_595 sDL_596 rfl (by omega) ?_
  refine lw_arg (k := 2) F sDL_597 sDL_598 sDL_599 sDL_600 sDL_601 rfl (by omega) ?_
  refine lw_callC (st := []) [(xs (i + 1)).toInt, (xs (i + 2)).toInt] F sDL_602 sML_52 rfl rfl rfl (Nat.le_of_ble_eq_true (n := 3) rfl) (by decide) (pC_go ((xs (i + 1)).toInt) ((xs (i + 2)).toInt) x _ hC h1 h2 h3 h4 hF) (fun rC mC' qC RC => ?_) sd_Qp_int
  refine lw_aload_n F sDL_605 rfl ?_
  refine lw_arg (k := 1) F sDL_606 sDL_607 sDL_608 sDL_609 sDL_610 rfl (by omega) ?_
  refine lw_arg (k := 2) F sDL_611 sDL_612 sDL_613 sDL_614 sDL_615 rfl (by omega) ?_
  refine lw_callM (st := (rC.toList ++ [])) [(xs (i + 1)).toInt, (xs (i + 2)).toInt] F sDL_616 sML_55 rfl rfl rfl (Nat.le_of_ble_eq_true (n := 3) rfl) (sd_len1 rC) (pM_go ((xs (i + 1)).toInt) ((xs (i + 2)).toInt) x _ hM h1 h2 h3 h4 hF) (fun rM mM' qM RM => ?_) sd_Qp_int
  obtain ⟨v, X, rfl, rfl, hX, eC, eM, hRX⟩ := (sd_Go.one (sN_go hI ((xs (i + 1)).toInt) ((xs (i + 2)).toInt))) rC rM mC' mM' qC qM RC RM hRx
  exact lw_icmp_eq (st := []) F sDL_619 (by decide) (lw_fin F hX eC eM hRX kk)
theorem lw_case_10 {p : Program} {l : Launch} {e : Env} {s : State} {m : MethodId} {below : List Frame} {meth : Method} {c : Code} {b L : Nat} {xs : Nat → Int32} {gC gM : sd_G} {cells slots : Nat} {N i : Nat} {x mC mM : sd_M} (F : sd_LF p s m meth c b L xs gC gM cells slots) (hi : i + 6 ≤ L) (hN : N ≤ 1000000) (hA : sd_At N x mC mM) (kk : ∀ x' mC' mM', sd_At (N + 1) x' mC' mM' → sd_Lw p l e s m below meth c b gC gM cells slots 2008 [some (.inr 0), some (.inr 1), some (.inr 2), some (.inl (i : Int))] [] mC' mM') : sd_Lw p l e s m below meth c b gC gM cells slots 624 [some (.inr 0), some (.inr 1), some (.inr 2), some (.inl (i : Int))] [] mC mM := by
  obtain ⟨hI, hC, hM⟩ := hA
  obtain ⟨⟨hJ, hc, h8, h9, hn⟩, hp, hB, hf, hk⟩ := id hI
  obtain ⟨h1, h2, h3, h4, h5, h6, h7, hR, hT, hL⟩ := id hJ
  have hF : ∀ k : Nat, k < 7 → 0 ≤ x (4101 + k) ∧ x (4101 + k) ≤ 1000000 := fun k q => by have := hf k q; omega
  have hk01 : x 4260 = 0 ∨ x 4260 = 1 := by rcases hk with q | q; exact Or.inl q; exact Or.inr q.1
  have h60 : 0 ≤ x 6004 := by rw [hn.1]; exact (sd_cnt_le _ _).1
  refine lw_R (fun R0 => ?_)
  have hRx : ∀ j, (j < 5000 ∨ 6000 ≤ j) → sd_R (x j) := fun j hj => by rw [← hC j hj]; exact R0 j
  refine lw_aload_n F sDL_624 rfl ?_
  refine lw_arg (k := 1) F sDL_625 sDL_626 sDL_627 sDL_628 sDL_629 rfl (by omega) ?_
  refine lw_arg (k := 2) F sDL_630 sDL_631 sDL_632 sDL_633 sDL_634 rfl (by omega) ?_
  refine lw_callC (st := []) [(xs (i + 1)).toInt, (xs (i + 2)).toInt] F sDL_635 sML_56 rfl rfl rfl (Nat.le_of_ble_eq_true (n := 3) rfl) (by decide) (pC_hear ((xs (i + 1)).toInt) ((xs (i + 2)).toInt) x _ hC h1 h4 hF) (fun rC mC' qC RC => ?_) sd_Qp_int
  refine lw_aload_n F sDL_638 rfl ?_
  refine lw_arg (k := 1) F sDL_639 sDL_640 sDL_641 sDL_642 sDL_643 rfl (by omega) ?_
  refine lw_arg (k := 2) F sDL_644 sDL_645 sDL_646 sDL_647 sDL_648 rfl (by omega) ?_
  refine lw_callM (st := (rC.toList ++ [])) [(xs (i + 1)).toInt, (xs (i + 2)).toInt] F sDL_649 sML_59 rfl rfl rfl (Nat.le_of_ble_eq_true (n := 3) rfl) (sd_len1 rC) (pM_hear ((xs (i + 1)).toInt) ((xs (i + 2)).toInt) x _ hM h1 h4 hF) (fun rM mM' qM RM => ?_) sd_Qp_int
  obtain ⟨v, X, rfl, rfl, hX, eC, eM, hRX⟩ := (sd_Go.one (sN_hear hI ((xs (i + 1)).toInt) ((xs (i + 2)).toInt))) rC rM mC' mM' qC qM RC RM hRx
  exact lw_icmp_eq (st := []) F sDL_652 (by decide) (lw_fin F hX eC eM hRX kk)
theorem lw_case_11 {p : Program} {l : Launch} {e : Env} {s : State} {m : MethodId} {below : List Frame} {meth : Method} {c : Code} {b L : Nat} {xs : Nat → Int32} {gC gM : sd_G} {cells slots : Nat} {N i : Nat} {x mC mM : sd_M} (F : sd_LF p s m meth c b L xs gC gM cells slots) (hi : i + 6 ≤ L) (hN : N ≤ 1000000) (hA : sd_At N x mC mM) (kk : ∀ x' mC' mM', sd_At (N + 1) x' mC' mM' → sd_Lw p l e s m below meth c b gC gM cells slots 2008 [some (.inr 0), some (.inr 1), some (.inr 2), some (.inl (i : Int))] [] mC' mM') : sd_Lw p l e s m below meth c b gC gM cells slots 657 [some (.inr 0), some (.inr 1), some (.inr 2), some (.inl (i : Int))] [] mC mM := by
  obtain ⟨hI, hC, hM⟩ := hA
  obtain ⟨⟨hJ, hc, h8, h9, hn⟩, hp, hB, hf, hk⟩ := id hI
  obtain ⟨h1, h2, h3, h4, h5, h6, h7, hR, hT, hL⟩ := id hJ
  have hF : ∀ k : Nat, k < 7 → 0 ≤ x (4101 + k) ∧ x (4101 + k) ≤ 1000000 := fun k q => by have := hf k q; omega
  have hk01 : x 4260 = 0 ∨ x 4260 = 1 := by rcases hk with q | q; exact Or.inl q; exact Or.inr q.1
  have h60 : 0 ≤ x 6004 := by rw [hn.1]; exact (sd_cnt_le _ _).1
  refine lw_R (fun R0 => ?_)
  have hRx : ∀ j, (j < 5000 ∨ 6000 ≤ j) → sd_R (x j) := fun j hj => by rw [← hC j hj]; exact R0 j
  refine lw_aload_n F sDL_657 rfl ?_
  refine lw_arg (k := 1) F sDL_658 sDL_659 sDL_660 sDL_661 sDL_662 rfl (by omega) ?_
  refine lw_callC (st := []) [(xs (i + 1)).toInt] F sDL_663 sML_60 rfl rfl rfl (Nat.le_of_ble_eq_true (n := 3) rfl) (by decide) (pC_stay ((xs (i + 1)).toInt) x _ hC h1 h2 h4 hF) (fun rC mC' qC RC => ?_) sd_Qp_int
  refine lw_aload_n F sDL_666 rfl ?_
  refine lw_arg (k := 1) F sDL_667 sDL_668 sDL_669 sDL_670 sDL_671 rfl (by omega) ?_
  refine lw_callM (st := (rC.toList ++ [])) [(xs (i + 1)).toInt] F sDL_672 sML_63 rfl rfl rfl (Nat.le_of_ble_eq_true (n := 3) rfl) (sd_len1 rC) (pM_stay ((xs (i + 1)).toInt) x _ hM h1 h2 h4 hF) (fun rM mM' qM RM => ?_) sd_Qp_int
  obtain ⟨v, X, rfl, rfl, hX, eC, eM, hRX⟩ := (sd_Go.one (sN_stay hI ((xs (i + 1)).toInt))) rC rM mC' mM' qC qM RC RM hRx
  exact lw_icmp_eq (st := []) F sDL_675 (by decide) (lw_fin F hX eC eM hRX kk)
theorem lw_case_12 {p : Program} {l : Launch} {e : Env} {s : State} {m : MethodId} {below : List Frame} {meth : Method} {c : Code} {b L : Nat} {xs : Nat → Int32} {gC gM : sd_G} {cells slots : Nat} {N i : Nat} {x mC mM : sd_M} (F : sd_LF p s m meth c b L xs gC gM cells slots) (hi : i + 6 ≤ L) (hN : N ≤ 1000000) (hA : sd_At N x mC mM) (kk : ∀ x' mC' mM', sd_At (N + 1) x' mC' mM' → sd_Lw p l e s m below meth c b gC gM cells slots 2008 [some (.inr 0), some (.inr 1), some (.inr 2), some (.inl (i : Int))] [] mC' mM') : sd_Lw p l e s m below meth c b gC gM cells slots 680 [some (.inr 0), some (.inr 1), some (.inr 2), some (.inl (i : Int))] [] mC mM := by
  obtain ⟨hI, hC, hM⟩ := hA
  obtain ⟨⟨hJ, hc, h8, h9, hn⟩, hp, hB, hf, hk⟩ := id hI
  obtain ⟨h1, h2, h3, h4, h5, h6, h7, hR, hT, hL⟩ := id hJ
  have hF : ∀ k : Nat, k < 7 → 0 ≤ x (4101 + k) ∧ x (4101 + k) ≤ 1000000 := fun k q => by have := hf k q; omega
  have hk01 : x 4260 = 0 ∨ x 4260 = 1 := by rcases hk with q | q; exact Or.inl q; exact Or.inr q.1
  have h60 : 0 ≤ x 6004 := by rw [hn.1]; exact (sd_cnt_le _ _).1
  refine lw_R (fun R0 => ?_)
  have hRx : ∀ j, (j < 5000 ∨ 6000 ≤ j) → sd_R (x j) := fun j hj => by rw [← hC j hj]; exact R0 j
  refine lw_aload_n F sDL_680 rfl ?_
  refine lw_arg (k := 1) F sDL_681 sDL_682 sDL_683 sDL_684 sDL_685 rfl (by omega) ?_
  refine lw_arg (k := 2) F sDL_686 sDL_687 sDL_688 sDL_689 sDL_690 rfl (by omega) ?_
  refine lw_callC (st := []) [(xs (i + 1)).toInt, (xs (i + 2)).toInt] F sDL_691 sML_64 rfl rfl rfl (Nat.le_of_ble_eq_true (n := 4) rfl) (by decide) (pC_pass ((xs (i + 1)).toInt) ((xs (i + 2)).toInt) x _ hC h1 h2 h4 h6 hR hF) (fun rC mC' qC RC => ?_) sd_Qp_int
  refine lw_aload_n F sDL_694 rfl ?_
  refine lw_arg (k := 1) F sDL_695 sDL_696 sDL_697 sDL_698 sDL_699 rfl (by omega) ?_
  refine lw_arg (k := 2) F sDL_700 sDL_701 sDL_702 sDL_703 sDL_704 rfl (by omega) ?_
  refine lw_callM (st := (rC.toList ++ [])) [(xs (i + 1)).toInt, (xs (i + 2)).toInt] F sDL_705 sML_67 rfl rfl rfl (Nat.le_of_ble_eq_true (n := 6) rfl) (sd_len1 rC) (pM_pass ((xs (i + 1)).toInt) ((xs (i + 2)).toInt) x _ hM h1 h2 h4 h6 hR hT hL hF) (fun rM mM' qM RM => ?_) sd_Qp_int
  obtain ⟨v, X, rfl, rfl, hX, eC, eM, hRX⟩ := (sd_Go.one (sN_pass hI ((xs (i + 1)).toInt) ((xs (i + 2)).toInt))) rC rM mC' mM' qC qM RC RM hRx
  exact lw_icmp_eq (st := []) F sDL_708 (by decide) (lw_fin F hX eC eM hRX kk)
theorem lw_case_13 {p : Program} {l : Launch} {e : Env} {s : State} {m : MethodId} {below : List Frame} {meth : Method} {c : Code} {b L : Nat} {xs : Nat → Int32} {gC gM : sd_G} {cells slots : Nat} {N i : Nat} {x mC mM : sd_M} (F : sd_LF p s m meth c b L xs gC gM cells slots) (hi : i + 6 ≤ L) (hN : N ≤ 1000000) (hA : sd_At N x mC mM) (kk : ∀ x' mC' mM', sd_At (N + 1) x' mC' mM' → sd_Lw p l e s m below meth c b gC gM cells slots 2008 [some (.inr 0), some (.inr 1), some (.inr 2), some (.inl (i : Int))] [] mC' mM') : sd_Lw p l e s m below meth c b gC gM cells slots 713 [some (.inr 0), some (.inr 1), some (.inr 2), some (.inl (i : Int))] [] mC mM := by
  obtain ⟨hI, hC, hM⟩ := hA
  obtain ⟨⟨hJ, hc, h8, h9, hn⟩, hp, hB, hf, hk⟩ := id hI
  obtain ⟨h1, h2, h3, h4, h5, h6, h7, hR, hT, hL⟩ := id hJ
  have hF : ∀ k : Nat, k < 7 → 0 ≤ x (4101 + k) ∧ x (4101 + k) ≤ 1000000 := fun k q => by have := hf k q; omega
  have hk01 : x 4260 = 0 ∨ x 4260 = 1 := by rcases hk with q | q; exact Or.inl q; exact Or.inr q.1
  have h60 : 0 ≤ x 6004 := by rw [hn.1]; exact (sd_cnt_le _ _).1
  refine lw_R (fun R0 => ?_)
  have hRx : ∀ j, (j < 5000 ∨ 6000 ≤ j) → sd_R (x j) := fun j hj => by rw [← hC j hj]; exact R0 j
  refine lw_aload_n F sDL_713 rfl ?_
  refine lw_arg (k := 1) F sDL_714 sDL_715 sDL_716 sDL_717 sDL_718 rfl (by omega) ?_
  refine lw_callC (st := []) [(xs (i + 1)).toInt] F sDL_719 sML_68 rfl rfl rfl (Nat.le_of_ble_eq_true (n := 3) rfl) (by decide) (pC_food ((xs (i + 1)).toInt) x _ hC h1 h2 h3 h4 hF) (fun rC mC' qC RC => ?_) sd_Qp_int
  refine lw_aload_n F sDL_722 rfl ?_
  refine lw_arg (k := 1) F sDL_723 sDL_724 sDL_725 sDL_726 sDL_727 rfl (by omega) ?_
  refine lw_callM (st := (rC.toList ++ [])) [(xs (i + 1)).toInt] F sDL_728 sML_71 rfl rfl rfl (Nat.le_of_ble_eq_true (n := 3) rfl) (sd_len1 rC) (pM_food ((xs (i + 1)).toInt) x _ hM h1 h2 h3 h4 hF) (fun rM mM' qM RM => ?_) sd_Qp_int
  obtain ⟨v, X, rfl, rfl, hX, eC, eM, hRX⟩ := (sd_Go.one (sN_food hI ((xs (i + 1)).toInt))) rC rM mC' mM' qC qM RC RM hRx
  exact lw_icmp_eq (st := []) F sDL_731 (by decide) (lw_fin F hX eC eM hRX kk)
