theorem lw_case_42 {p : Program} {l : Launch} {e : Env} {s : State} {m : MethodId} {below : List Frame} {meth : Method} {c : Code} {b L : Nat} {xs : Nat → Int32} {gC gM : sd_G} {cells slots : Nat} {N i : Nat} {x mC mM : sd_M} (F : sd_LF p s m meth c b L xs gC gM cells slots) (hi : i + 6 ≤ L) (hN : N ≤ 1000000) (hA : sd_At N x mC mM) (kk : ∀ x' mC' mM', sd_At (N + 1) x' mC' mM' → sd_Lw p l e s m below meth c b gC gM cells slots 2008 [some (.inr 0), some (.inr 1), some (.inr 2), some (.inl (i : Int))] [] mC' mM') : sd_Lw p l e s m below meth c b gC gM cells slots 1556 [some (.inr 0), some (.inr 1), some (.inr 2), some (.inl (i : Int))] [] mC mM := by
  obtain ⟨hI, hC, hM⟩ := hA
  obtain ⟨⟨hJ, hc, h8, h9, hn⟩, hp, hB, hf, hk⟩ := id hI
  obtain ⟨h1, h2, h3, h4, h5, h6, h7, hR, hT, hL⟩ := id hJ
  have hF : ∀ k : Nat, k < 7 → 0 ≤ x (4101 + k) ∧ x (4101 + k) ≤ 1000000 := fun k q => by have := hf k q; omega
  have hk01 : x 4260 = 0 ∨ x 4260 = 1 := by rcases hk with q | q; exact Or.inl q; exact Or.inr q.1
  have h60 : 0 ≤ x 6004 := by rw [hn.1]; exact (sd_cnt_le _ _).1
  refine lw_R (fun R0 => ?_)
  have hRx : ∀ j, (j < 5000 ∨ 6000 ≤ j) → sd_R (x j) := fun j hj => by rw [← hC j hj]; exact R0 j
  refine lw_aload_n F sDL_1556 rfl ?_
  refine lw_arg (k := 1) F sDL_1557 sDL_1558 sDL_1559 sDL_1560 sDL_1561 rfl (by omega) ?_
  refine lw_arg (k := 2) F sDL_1562 sDL_1563 sDL_1564 sDL_1565 sDL_1566 rfl (by omega) ?_
  refine lw_arg (k := 3) F sDL_1567 sDL_1568 sDL_1569 sDL_1570 sDL_1571 rfl (by omega) ?_
  refine lw_callC (st := []) [(xs (i + 1)).toInt, (xs (i + 2)).toInt, (xs (i + 3)).toInt] F sDL_1572 sML_187 rfl rfl rfl (Nat.le_of_ble_eq_true (n := 18) rfl) (by decide) (pC_play ((xs (i + 1)).toInt) ((xs (i + 2)).toInt) ((xs (i + 3)).toInt) x _ hC h9 hF) (fun rC mC' qC RC => ?_) sd_Qp_int
  refine lw_aload_n F sDL_1575 rfl ?_
  refine lw_arg (k := 1) F sDL_1576 sDL_1577 sDL_1578 sDL_1579 sDL_1580 rfl (by omega) ?_
  refine lw_arg (k := 2) F sDL_1581 sDL_1582 sDL_1583 sDL_1584 sDL_1585 rfl (by omega) ?_
  refine lw_arg (k := 3) F sDL_1586 sDL_1587 sDL_1588 sDL_1589 sDL_1590 rfl (by omega) ?_
  refine lw_callM (st := (rC.toList ++ [])) [(xs (i + 1)).toInt, (xs (i + 2)).toInt, (xs (i + 3)).toInt] F sDL_1591 sML_190 rfl rfl rfl (Nat.le_of_ble_eq_true (n := 23) rfl) (sd_len1 rC) (pM_play ((xs (i + 1)).toInt) ((xs (i + 2)).toInt) ((xs (i + 3)).toInt) x _ hM h9 hF) (fun rM mM' qM RM => ?_) sd_Qp_int
  obtain ⟨v, X, rfl, rfl, hX, eC, eM, hRX⟩ := (sd_Go.one (sN_play hI ((xs (i + 1)).toInt) ((xs (i + 2)).toInt) ((xs (i + 3)).toInt))) rC rM mC' mM' qC qM RC RM hRx
  exact lw_icmp_eq (st := []) F sDL_1594 (by decide) (lw_fin F hX eC eM hRX kk)
theorem lw_case_43 {p : Program} {l : Launch} {e : Env} {s : State} {m : MethodId} {below : List Frame} {meth : Method} {c : Code} {b L : Nat} {xs : Nat → Int32} {gC gM : sd_G} {cells slots : Nat} {N i : Nat} {x mC mM : sd_M} (F : sd_LF p s m meth c b L xs gC gM cells slots) (hi : i + 6 ≤ L) (hN : N ≤ 1000000) (hA : sd_At N x mC mM) (kk : ∀ x' mC' mM', sd_At (N + 1) x' mC' mM' → sd_Lw p l e s m below meth c b gC gM cells slots 2008 [some (.inr 0), some (.inr 1), some (.inr 2), some (.inl (i : Int))] [] mC' mM') : sd_Lw p l e s m below meth c b gC gM cells slots 1599 [some (.inr 0), some (.inr 1), some (.inr 2), some (.inl (i : Int))] [] mC mM := by
  obtain ⟨hI, hC, hM⟩ := hA
  obtain ⟨⟨hJ, hc, h8, h9, hn⟩, hp, hB, hf, hk⟩ := id hI
  obtain ⟨h1, h2, h3, h4, h5, h6, h7, hR, hT, hL⟩ := id hJ
  have hF : ∀ k : Nat, k < 7 → 0 ≤ x (4101 + k) ∧ x (4101 + k) ≤ 1000000 := fun k q => by have := hf k q; omega
  have hk01 : x 4260 = 0 ∨ x 4260 = 1 := by rcases hk with q | q; exact Or.inl q; exact Or.inr q.1
  have h60 : 0 ≤ x 6004 := by rw [hn.1]; exact (sd_cnt_le _ _).1
  refine lw_R (fun R0 => ?_)
  have hRx : ∀ j, (j < 5000 ∨ 6000 ≤ j) → sd_R (x j) := fun j hj => by rw [← hC j hj]; exact R0 j
  refine lw_aload_n F sDL_1599 rfl ?_
  refine lw_arg (k := 1) F sDL_1600 sDL_1601 sDL_1602 sDL_1603 sDL_1604 rfl (by omega) ?_
  refine lw_arg (k := 2) F sDL_1605 sDL_1606 sDL_1607 sDL_1608 sDL_1609 rfl (by omega) ?_
  refine lw_arg (k := 3) F sDL_1610 sDL_1611 sDL_1612 sDL_1613 sDL_1614 rfl (by omega) ?_
  refine lw_callC (st := []) [(xs (i + 1)).toInt, (xs (i + 2)).toInt, (xs (i + 3)).toInt] F sDL_1615 sML_191 rfl rfl rfl (Nat.le_of_ble_eq_true (n := 18) rfl) (by decide) (pC_best ((xs (i + 1)).toInt) ((xs (i + 2)).toInt) ((xs (i + 3)).toInt) x _ hC h9 hF) (fun rC mC' qC RC => ?_) sd_Qp_int
  refine lw_aload_n F sDL_1618 rfl ?_
  refine lw_arg (k := 1) F sDL_1619 sDL_1620 sDL_1621 sDL_1622 sDL_1623 rfl (by omega) ?_
  refine lw_arg (k := 2) F sDL_1624 sDL_1625 sDL_1626 sDL_1627 sDL_1628 rfl (by omega) ?_
  refine lw_arg (k := 3) F sDL_1629 sDL_1630 sDL_1631 sDL_1632 sDL_1633 rfl (by omega) ?_
  refine lw_callM (st := (rC.toList ++ [])) [(xs (i + 1)).toInt, (xs (i + 2)).toInt, (xs (i + 3)).toInt] F sDL_1634 sML_194 rfl rfl rfl (Nat.le_of_ble_eq_true (n := 23) rfl) (sd_len1 rC) (pM_best ((xs (i + 1)).toInt) ((xs (i + 2)).toInt) ((xs (i + 3)).toInt) x _ hM h9 hF) (fun rM mM' qM RM => ?_) sd_Qp_int
  obtain ⟨v, X, rfl, rfl, hX, eC, eM, hRX⟩ := (sd_Go.one (sN_best hI ((xs (i + 1)).toInt) ((xs (i + 2)).toInt) ((xs (i + 3)).toInt))) rC rM mC' mM' qC qM RC RM hRx
  exact lw_icmp_eq (st := []) F sDL_1637 (by decide) (lw_fin F hX eC eM hRX kk)
theorem lw_case_44 {p : Program} {l : Launch} {e : Env} {s : State} {m : MethodId} {below : List Frame} {meth : Method} {c : Code} {b L : Nat} {xs : Nat → Int32} {gC gM : sd_G} {cells slots : Nat} {N i : Nat} {x mC mM : sd_M} (F : sd_LF p s m meth c b L xs gC gM cells slots) (hi : i + 6 ≤ L) (hN : N ≤ 1000000) (hA : sd_At N x mC mM) (kk : ∀ x' mC' mM', sd_At (N + 1) x' mC' mM' → sd_Lw p l e s m below meth c b gC gM cells slots 2008 [some (.inr 0), some (.inr 1), some (.inr 2), some (.inl (i : Int))] [] mC' mM') : sd_Lw p l e s m below meth c b gC gM cells slots 1642 [some (.inr 0), some (.inr 1), some (.inr 2), some (.inl (i : Int))] [] mC mM := by
  obtain ⟨hI, hC, hM⟩ := hA
  obtain ⟨⟨hJ, hc, h8, h9, hn⟩, hp, hB, hf, hk⟩ := id hI
  obtain ⟨h1, h2, h3, h4, h5, h6, h7, hR, hT, hL⟩ := id hJ
  have hF : ∀ k : Nat, k < 7 → 0 ≤ x (4101 + k) ∧ x (4101 + k) ≤ 1000000 := fun k q => by have := hf k q; omega
  have hk01 : x 4260 = 0 ∨ x 4260 = 1 := by rcases hk with q | q; exact Or.inl q; exact Or.inr q.1
  have h60 : 0 ≤ x 6004 := by rw [hn.1]; exact (sd_cnt_le _ _).1
  refine lw_R (fun R0 => ?_)
  have hRx : ∀ j, (j < 5000 ∨ 6000 ≤ j) → sd_R (x j) := fun j hj => by rw [← hC j hj]; exact R0 j
  refine lw_aload_n F sDL_1642 rfl ?_
  refine lw_arg (k := 1) F sDL_1643 sDL_1644 sDL_1645 sDL_1646 sDL_1647 rfl (by omega) ?_
  refine lw_arg (k := 2) F sDL_1648 sDL_1649 sDL_1650 sDL_1651 sDL_1652 rfl (by omega) ?_
  refine lw_arg (k := 3) F sDL_1653 sDL_1654 sDL_1655 sDL_1656 sDL_1657 rfl (by omega) ?_
  refine lw_callC (st := []) [(xs (i + 1)).toInt, (xs (i + 2)).toInt, (xs (i + 3)).toInt] F sDL_1658 sML_195 rfl rfl rfl (Nat.le_of_ble_eq_true (n := 17) rfl) (by decide) (pC_judge ((xs (i + 1)).toInt) ((xs (i + 2)).toInt) ((xs (i + 3)).toInt) x _ hC h9 hF hB) (fun rC mC' qC RC => ?_) sd_Qp_int
  refine lw_aload_n F sDL_1661 rfl ?_
  refine lw_arg (k := 1) F sDL_1662 sDL_1663 sDL_1664 sDL_1665 sDL_1666 rfl (by omega) ?_
  refine lw_arg (k := 2) F sDL_1667 sDL_1668 sDL_1669 sDL_1670 sDL_1671 rfl (by omega) ?_
  refine lw_arg (k := 3) F sDL_1672 sDL_1673 sDL_1674 sDL_1675 sDL_1676 rfl (by omega) ?_
  refine lw_callM (st := (rC.toList ++ [])) [(xs (i + 1)).toInt, (xs (i + 2)).toInt, (xs (i + 3)).toInt] F sDL_1677 sML_198 rfl rfl rfl (Nat.le_of_ble_eq_true (n := 6) rfl) (sd_len1 rC) (pM_judge ((xs (i + 1)).toInt) ((xs (i + 2)).toInt) ((xs (i + 3)).toInt) x _ hM h9 hF hB) (fun rM mM' qM RM => ?_) sd_Qp_int
  obtain ⟨v, X, rfl, rfl, hX, eC, eM, hRX⟩ := (sd_Go.one (sN_judge hI ((xs (i + 1)).toInt) ((xs (i + 2)).toInt) ((xs (i + 3)).toInt))) rC rM mC' mM' qC qM RC RM hRx
  exact lw_icmp_eq (st := []) F sDL_1680 (by decide) (lw_fin F hX eC eM hRX kk)
theorem lw_case_45 {p : Program} {l : Launch} {e : Env} {s : State} {m : MethodId} {below : List Frame} {meth : Method} {c : Code} {b L : Nat} {xs : Nat → Int32} {gC gM : sd_G} {cells slots : Nat} {N i : Nat} {x mC mM : sd_M} (F : sd_LF p s m meth c b L xs gC gM cells slots) (hi : i + 6 ≤ L) (hN : N ≤ 1000000) (hA : sd_At N x mC mM) (kk : ∀ x' mC' mM', sd_At (N + 1) x' mC' mM' → sd_Lw p l e s m below meth c b gC gM cells slots 2008 [some (.inr 0), some (.inr 1), some (.inr 2), some (.inl (i : Int))] [] mC' mM') : sd_Lw p l e s m below meth c b gC gM cells slots 1685 [some (.inr 0), some (.inr 1), some (.inr 2), some (.inl (i : Int))] [] mC mM := by
  obtain ⟨hI, hC, hM⟩ := hA
  obtain ⟨⟨hJ, hc, h8, h9, hn⟩, hp, hB, hf, hk⟩ := id hI
  obtain ⟨h1, h2, h3, h4, h5, h6, h7, hR, hT, hL⟩ := id hJ
  have hF : ∀ k : Nat, k < 7 → 0 ≤ x (4101 + k) ∧ x (4101 + k) ≤ 1000000 := fun k q => by have := hf k q; omega
  have hk01 : x 4260 = 0 ∨ x 4260 = 1 := by rcases hk with q | q; exact Or.inl q; exact Or.inr q.1
  have h60 : 0 ≤ x 6004 := by rw [hn.1]; exact (sd_cnt_le _ _).1
  refine lw_R (fun R0 => ?_)
  have hRx : ∀ j, (j < 5000 ∨ 6000 ≤ j) → sd_R (x j) := fun j hj => by rw [← hC j hj]; exact R0 j
  refine lw_aload_n F sDL_1685 rfl ?_
  refine lw_arg (k := 1) F sDL_1686 sDL_1687 sDL_1688 sDL_1689 sDL_1690 rfl (by omega) ?_
  refine lw_callC (st := []) [(xs (i + 1)).toInt] F sDL_1691 sML_199 rfl rfl rfl (Nat.le_of_ble_eq_true (n := 6) rfl) (by decide) (pC_tick ((xs (i + 1)).toInt) x _ hC hF hJ hc) (fun rC mC' qC RC => ?_) sd_Qp_int
  refine lw_aload_n F sDL_1694 rfl ?_
  refine lw_arg (k := 1) F sDL_1695 sDL_1696 sDL_1697 sDL_1698 sDL_1699 rfl (by omega) ?_
  refine lw_callM (st := (rC.toList ++ [])) [(xs (i + 1)).toInt] F sDL_1700 sML_202 rfl rfl rfl (Nat.le_of_ble_eq_true (n := 9) rfl) (sd_len1 rC) (pM_tick ((xs (i + 1)).toInt) x _ hM hF hJ hc) (fun rM mM' qM RM => ?_) sd_Qp_int
  obtain ⟨v, X, rfl, rfl, hX, eC, eM, hRX⟩ := (sd_Go.one (sN_tick hI ((xs (i + 1)).toInt))) rC rM mC' mM' qC qM RC RM hRx
  exact lw_icmp_eq (st := []) F sDL_1703 (by decide) (lw_fin F hX eC eM hRX kk)
theorem lw_case_46 {p : Program} {l : Launch} {e : Env} {s : State} {m : MethodId} {below : List Frame} {meth : Method} {c : Code} {b L : Nat} {xs : Nat → Int32} {gC gM : sd_G} {cells slots : Nat} {N i : Nat} {x mC mM : sd_M} (F : sd_LF p s m meth c b L xs gC gM cells slots) (hi : i + 6 ≤ L) (hN : N ≤ 1000000) (hA : sd_At N x mC mM) (kk : ∀ x' mC' mM', sd_At (N + 1) x' mC' mM' → sd_Lw p l e s m below meth c b gC gM cells slots 2008 [some (.inr 0), some (.inr 1), some (.inr 2), some (.inl (i : Int))] [] mC' mM') : sd_Lw p l e s m below meth c b gC gM cells slots 1708 [some (.inr 0), some (.inr 1), some (.inr 2), some (.inl (i : Int))] [] mC mM := by
  obtain ⟨hI, hC, hM⟩ := hA
  obtain ⟨⟨hJ, hc, h8, h9, hn⟩, hp, hB, hf, hk⟩ := id hI
  obtain ⟨h1, h2, h3, h4, h5, h6, h7, hR, hT, hL⟩ := id hJ
  have hF : ∀ k : Nat, k < 7 → 0 ≤ x (4101 + k) ∧ x (4101 + k) ≤ 1000000 := fun k q => by have := hf k q; omega
  have hk01 : x 4260 = 0 ∨ x 4260 = 1 := by rcases hk with q | q; exact Or.inl q; exact Or.inr q.1
  have h60 : 0 ≤ x 6004 := by rw [hn.1]; exact (sd_cnt_le _ _).1
  refine lw_R (fun R0 => ?_)
  have hRx : ∀ j, (j < 5000 ∨ 6000 ≤ j) → sd_R (x j) := fun j hj => by rw [← hC j hj]; exact R0 j
  refine lw_aload_n F sDL_1708 rfl ?_
  refine lw_arg (k := 1) F sDL_1709 sDL_1710 sDL_1711 sDL_1712 sDL_1713 rfl (by omega) ?_
  refine lw_arg (k := 2) F sDL_1714 sDL_1715 sDL_1716 sDL_1717 sDL_1718 rfl (by omega) ?_
  refine lw_callC (st := []) [(xs (i + 1)).toInt, (xs (i + 2)).toInt] F sDL_1719 sML_203 rfl rfl rfl (Nat.le_of_ble_eq_true (n := 2) rfl) (by decide) (pC_book ((xs (i + 1)).toInt) ((xs (i + 2)).toInt) x _ hC h1 hF) (fun rC mC' qC RC => ?_) sd_Qp_int
  refine lw_aload_n F sDL_1722 rfl ?_
  refine lw_arg (k := 1) F sDL_1723 sDL_1724 sDL_1725 sDL_1726 sDL_1727 rfl (by omega) ?_
  refine lw_arg (k := 2) F sDL_1728 sDL_1729 sDL_1730 sDL_1731 sDL_1732 rfl (by omega) ?_
  refine lw_callM (st := (rC.toList ++ [])) [(xs (i + 1)).toInt, (xs (i + 2)).toInt] F sDL_1733 sML_206 rfl rfl rfl (Nat.le_of_ble_eq_true (n := 2) rfl) (sd_len1 rC) (pM_book ((xs (i + 1)).toInt) ((xs (i + 2)).toInt) x _ hM h1 hF) (fun rM mM' qM RM => ?_) sd_Qp_int
  obtain ⟨v, X, rfl, rfl, hX, eC, eM, hRX⟩ := (sd_Go.one (sN_book hI ((xs (i + 1)).toInt) ((xs (i + 2)).toInt))) rC rM mC' mM' qC qM RC RM hRx
  exact lw_icmp_eq (st := []) F sDL_1736 (by decide) (lw_fin F hX eC eM hRX kk)
theorem lw_case_47 {p : Program} {l : Launch} {e : Env} {s : State} {m : MethodId} {below : List Frame} {meth : Method} {c : Code} {b L : Nat} {xs : Nat → Int32} {gC gM : sd_G} {cells slots : Nat} {N i : Nat} {x mC mM : sd_M} (F : sd_LF p s m meth c b L xs gC gM cells slots) (hi : i + 6 ≤ L) (hN : N ≤ 1000000) (hA : sd_At N x mC mM) (kk : ∀ x' mC' mM', sd_At (N + 1) x' mC' mM' → sd_Lw p l e s m below meth c b gC gM cells slots 2008 [some (.inr 0), some (.inr 1), some (.inr 2), some (.inl (i : Int))] [] mC' mM') : sd_Lw p l e s m below meth c b gC gM cells slots 1741 [some (.inr 0), some (.inr 1), some (.inr 2), some (.inl (i : Int))] [] mC mM := by
  obtain ⟨hI, hC, hM⟩ := hA
  obtain ⟨⟨hJ, hc, h8, h9, hn⟩, hp, hB, hf, hk⟩ := id hI
  obtain ⟨h1, h2, h3, h4, h5, h6, h7, hR, hT, hL⟩ := id hJ
  have hF : ∀ k : Nat, k < 7 → 0 ≤ x (4101 + k) ∧ x (4101 + k) ≤ 1000000 := fun k q => by have := hf k q; omega
  have hk01 : x 4260 = 0 ∨ x 4260 = 1 := by rcases hk with q | q; exact Or.inl q; exact Or.inr q.1
  have h60 : 0 ≤ x 6004 := by rw [hn.1]; exact (sd_cnt_le _ _).1
  refine lw_R (fun R0 => ?_)
  have hRx : ∀ j, (j < 5000 ∨ 6000 ≤ j) → sd_R (x j) := fun j hj => by rw [← hC j hj]; exact R0 j
  refine lw_aload_n F sDL_1741 rfl ?_
  refine lw_arg (k := 1) F sDL_1742 sDL_1743 sDL_1744 sDL_1745 sDL_1746 rfl (by omega) ?_
  refine lw_arg (k := 2) F sDL_1747 sDL_1748 sDL_1749 sDL_1750 sDL_1751 rfl (by omega) ?_
  refine lw_callC (st := []) [(xs (i + 1)).toInt, (xs (i + 2)).toInt] F sDL_1752 sML_207 rfl rfl rfl (Nat.le_of_ble_eq_true (n := 2) rfl) (by decide) (pC_check ((xs (i + 1)).toInt) ((xs (i + 2)).toInt) x _ hC h1 hF hB) (fun rC mC' qC RC => ?_) sd_Qp_int
  refine lw_aload_n F sDL_1755 rfl ?_
  refine lw_arg (k := 1) F sDL_1756 sDL_1757 sDL_1758 sDL_1759 sDL_1760 rfl (by omega) ?_
  refine lw_arg (k := 2) F sDL_1761 sDL_1762 sDL_1763 sDL_1764 sDL_1765 rfl (by omega) ?_
  refine lw_callM (st := (rC.toList ++ [])) [(xs (i + 1)).toInt, (xs (i + 2)).toInt] F sDL_1766 sML_210 rfl rfl rfl (Nat.le_of_ble_eq_true (n := 2) rfl) (sd_len1 rC) (pM_check ((xs (i + 1)).toInt) ((xs (i + 2)).toInt) x _ hM h1 hF hB) (fun rM mM' qM RM => ?_) sd_Qp_int
  obtain ⟨v, X, rfl, rfl, hX, eC, eM, hRX⟩ := (sd_Go.one (sN_check hI ((xs (i + 1)).toInt) ((xs (i + 2)).toInt))) rC rM mC' mM' qC qM RC RM hRx
  exact lw_icmp_eq (st := []) F sDL_1769 (by decide) (lw_fin F hX eC eM hRX kk)
theorem lw_case_48 {p : Program} {l : Launch} {e : Env} {s : State} {m : MethodId} {below : List Frame} {meth : Method} {c : Code} {b L : Nat} {xs : Nat → Int32} {gC gM : sd_G} {cells slots : Nat} {N i : Nat} {x mC mM : sd_M} (F : sd_LF p s m meth c b L xs gC gM cells slots) (hi : i + 6 ≤ L) (hN : N ≤ 1000000) (hA : sd_At N x mC mM) (kk : ∀ x' mC' mM', sd_At (N + 1) x' mC' mM' → sd_Lw p l e s m below meth c b gC gM cells slots 2008 [some (.inr 0), some (.inr 1), some (.inr 2), some (.inl (i : Int))] [] mC' mM') : sd_Lw p l e s m below meth c b gC gM cells slots 1774 [some (.inr 0), some (.inr 1), some (.inr 2), some (.inl (i : Int))] [] mC mM := by
  obtain ⟨hI, hC, hM⟩ := hA
  obtain ⟨⟨hJ, hc, h8, h9, hn⟩, hp, hB, hf, hk⟩ := id hI
  obtain ⟨h1, h2, h3, h4, h5, h6, h7, hR, hT, hL⟩ := id hJ
  have hF : ∀ k : Nat, k < 7 → 0 ≤ x (4101 + k) ∧ x (4101 + k) ≤ 1000000 := fun k q => by have := hf k q; omega
  have hk01 : x 4260 = 0 ∨ x 4260 = 1 := by rcases hk with q | q; exact Or.inl q; exact Or.inr q.1
  have h60 : 0 ≤ x 6004 := by rw [hn.1]; exact (sd_cnt_le _ _).1
  refine lw_R (fun R0 => ?_)
  have hRx : ∀ j, (j < 5000 ∨ 6000 ≤ j) → sd_R (x j) := fun j hj => by rw [← hC j hj]; exact R0 j
  refine lw_aload_n F sDL_1774 rfl ?_
  refine lw_arg (k := 1) F sDL_1775 sDL_1776 sDL_1777 sDL_1778 sDL_1779 rfl (by omega) ?_
  refine lw_arg (k := 2) F sDL_1780 sDL_1781 sDL_1782 sDL_1783 sDL_1784 rfl (by omega) ?_
  refine lw_arg (k := 3) F sDL_1785 sDL_1786 sDL_1787 sDL_1788 sDL_1789 rfl (by omega) ?_
  refine lw_callC (st := []) [(xs (i + 1)).toInt, (xs (i + 2)).toInt, (xs (i + 3)).toInt] F sDL_1790 sML_211 rfl rfl rfl (Nat.le_of_ble_eq_true (n := 2) rfl) (by decide) (pC_sheet ((xs (i + 1)).toInt) ((xs (i + 2)).toInt) ((xs (i + 3)).toInt) x _ hC hF) (fun rC mC' qC RC => ?_) sd_Qp_int
  refine lw_aload_n F sDL_1793 rfl ?_
  refine lw_arg (k := 1) F sDL_1794 sDL_1795 sDL_1796 sDL_1797 sDL_1798 rfl (by omega) ?_
  refine lw_arg (k := 2) F sDL_1799 sDL_1800 sDL_1801 sDL_1802 sDL_1803 rfl (by omega) ?_
  refine lw_arg (k := 3) F sDL_1804 sDL_1805 sDL_1806 sDL_1807 sDL_1808 rfl (by omega) ?_
  refine lw_callM (st := (rC.toList ++ [])) [(xs (i + 1)).toInt, (xs (i + 2)).toInt, (xs (i + 3)).toInt] F sDL_1809 sML_214 rfl rfl rfl (Nat.le_of_ble_eq_true (n := 2) rfl) (sd_len1 rC) (pM_sheet ((xs (i + 1)).toInt) ((xs (i + 2)).toInt) ((xs (i + 3)).toInt) x _ hM hF) (fun rM mM' qM RM => ?_) sd_Qp_int
  obtain ⟨v, X, rfl, rfl, hX, eC, eM, hRX⟩ := ((sK_sheet hI ((xs (i + 1)).toInt) ((xs (i + 2)).toInt) ((xs (i + 3)).toInt)).go) rC rM mC' mM' qC qM RC RM hRx
  exact lw_icmp_eq (st := []) F sDL_1812 (by decide) (lw_fin F hX eC eM hRX kk)
