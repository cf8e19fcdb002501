theorem lw_case_49 {p : Program} {l : Launch} {e : Env} {s : State} {m : MethodId} {below : List Frame} {meth : Method} {c : Code} {b L : Nat} {xs : Nat → Int32} {gC gM : sd_G} {cells slots : Nat} {N i : Nat} {x mC mM : sd_M} (F : sd_LF p s m meth c b L xs gC gM cells slots) (hi : i + 6 ≤ L) (hN : N ≤ 1000000) (hA : sd_At N x mC mM) (kk : ∀ x' mC' mM', sd_At (N + 1) x' mC' mM' → sd_Lw p l e s m below meth c b gC gM cells slots 2008 [some (.inr 0), some (.inr 1), some (.inr 2), some (.inl (i : Int))] [] mC' mM') : sd_Lw p l e s m below meth c b gC gM cells slots 1817 [some (.inr 0), some (.inr 1), some (.inr 2), some (.inl (i : Int))] [] mC mM := by
  obtain ⟨hI, hC, hM⟩ := hA
  obtain ⟨⟨hJ, hc, h8, h9, hn⟩, hp, hB, hf, hk⟩ := id hI
  obtain ⟨h1, h2, h3, h4, h5, h6, h7, hR, hT, hL⟩ := id hJ
  have hF : ∀ k : Nat, k < 7 → 0 ≤ x (4101 + k) ∧ x (4101 + k) ≤ 1000000 := fun k q => by have := hf k q; omega
  have hk01 : x 4260 = 0 ∨ x 4260 = 1 := by rcases hk with q | q; exact Or.inl q; exact Or.inr q.1
  have h60 : 0 ≤ x 6004 := by rw [hn.1]; exact (sd_cnt_le _ _).1
  refine lw_R (fun R0 => ?_)
  have hRx : ∀ j, (j < 5000 ∨ 6000 ≤ j) → sd_R (x j) := fun j hj => by rw [← hC j hj]; exact R0 j
  refine lw_aload_n F sDL_1817 rfl ?_
  refine lw_arg (k := 1) F sDL_1818 sDL_1819 sDL_1820 sDL_1821 sDL_1822 rfl (by omega) ?_
  refine lw_arg (k := 2) F sDL_1823 sDL_1824 sDL_1825 sDL_1826 sDL_1827 rfl (by omega) ?_
  refine lw_arg (k := 3) F sDL_1828 sDL_1829 sDL_1830 sDL_1831 sDL_1832 rfl (by omega) ?_
  refine lw_callC (st := []) [(xs (i + 1)).toInt, (xs (i + 2)).toInt, (xs (i + 3)).toInt] F sDL_1833 sML_215 rfl rfl rfl (Nat.le_of_ble_eq_true (n := 2) rfl) (by decide) (pC_write ((xs (i + 1)).toInt) ((xs (i + 2)).toInt) ((xs (i + 3)).toInt) x _ hC hF hB) (fun rC mC' qC RC => ?_) sd_Qp_int
  refine lw_aload_n F sDL_1836 rfl ?_
  refine lw_arg (k := 1) F sDL_1837 sDL_1838 sDL_1839 sDL_1840 sDL_1841 rfl (by omega) ?_
  refine lw_arg (k := 2) F sDL_1842 sDL_1843 sDL_1844 sDL_1845 sDL_1846 rfl (by omega) ?_
  refine lw_arg (k := 3) F sDL_1847 sDL_1848 sDL_1849 sDL_1850 sDL_1851 rfl (by omega) ?_
  refine lw_callM (st := (rC.toList ++ [])) [(xs (i + 1)).toInt, (xs (i + 2)).toInt, (xs (i + 3)).toInt] F sDL_1852 sML_218 rfl rfl rfl (Nat.le_of_ble_eq_true (n := 2) rfl) (sd_len1 rC) (pM_write ((xs (i + 1)).toInt) ((xs (i + 2)).toInt) ((xs (i + 3)).toInt) x _ hM hF hB) (fun rM mM' qM RM => ?_) sd_Qp_int
  obtain ⟨v, X, rfl, rfl, hX, eC, eM, hRX⟩ := ((sK_write hI ((xs (i + 1)).toInt) ((xs (i + 2)).toInt) ((xs (i + 3)).toInt)).go) rC rM mC' mM' qC qM RC RM hRx
  exact lw_icmp_eq (st := []) F sDL_1855 (by decide) (lw_fin F hX eC eM hRX kk)
theorem lw_case_50 {p : Program} {l : Launch} {e : Env} {s : State} {m : MethodId} {below : List Frame} {meth : Method} {c : Code} {b L : Nat} {xs : Nat → Int32} {gC gM : sd_G} {cells slots : Nat} {N i : Nat} {x mC mM : sd_M} (F : sd_LF p s m meth c b L xs gC gM cells slots) (hi : i + 6 ≤ L) (hN : N ≤ 1000000) (hA : sd_At N x mC mM) (kk : ∀ x' mC' mM', sd_At (N + 1) x' mC' mM' → sd_Lw p l e s m below meth c b gC gM cells slots 2008 [some (.inr 0), some (.inr 1), some (.inr 2), some (.inl (i : Int))] [] mC' mM') : sd_Lw p l e s m below meth c b gC gM cells slots 1860 [some (.inr 0), some (.inr 1), some (.inr 2), some (.inl (i : Int))] [] mC mM := by
  obtain ⟨hI, hC, hM⟩ := hA
  obtain ⟨⟨hJ, hc, h8, h9, hn⟩, hp, hB, hf, hk⟩ := id hI
  obtain ⟨h1, h2, h3, h4, h5, h6, h7, hR, hT, hL⟩ := id hJ
  have hF : ∀ k : Nat, k < 7 → 0 ≤ x (4101 + k) ∧ x (4101 + k) ≤ 1000000 := fun k q => by have := hf k q; omega
  have hk01 : x 4260 = 0 ∨ x 4260 = 1 := by rcases hk with q | q; exact Or.inl q; exact Or.inr q.1
  have h60 : 0 ≤ x 6004 := by rw [hn.1]; exact (sd_cnt_le _ _).1
  refine lw_R (fun R0 => ?_)
  have hRx : ∀ j, (j < 5000 ∨ 6000 ≤ j) → sd_R (x j) := fun j hj => by rw [← hC j hj]; exact R0 j
  refine lw_aload_n F sDL_1860 rfl ?_
  refine lw_arg (k := 1) F sDL_1861 sDL_1862 sDL_1863 sDL_1864 sDL_1865 rfl (by omega) ?_
  refine lw_arg (k := 2) F sDL_1866 sDL_1867 sDL_1868 sDL_1869 sDL_1870 rfl (by omega) ?_
  refine lw_arg (k := 3) F sDL_1871 sDL_1872 sDL_1873 sDL_1874 sDL_1875 rfl (by omega) ?_
  refine lw_arg (k := 4) F sDL_1876 sDL_1877 sDL_1878 sDL_1879 sDL_1880 rfl (by omega) ?_
  refine lw_arg (k := 5) F sDL_1881 sDL_1882 sDL_1883 sDL_1884 sDL_1885 rfl (by omega) ?_
  refine lw_callC (st := []) [(xs (i + 1)).toInt, (xs (i + 2)).toInt, (xs (i + 3)).toInt, (xs (i + 4)).toInt, (xs (i + 5)).toInt] F sDL_1886 sML_219 rfl rfl rfl (Nat.le_of_ble_eq_true (n := 2) rfl) (by decide) (pC_copy ((xs (i + 1)).toInt) ((xs (i + 2)).toInt) ((xs (i + 3)).toInt) ((xs (i + 4)).toInt) ((xs (i + 5)).toInt) x _ hC hF hB) (fun rC mC' qC RC => ?_) sd_Qp_int
  refine lw_aload_n F sDL_1889 rfl ?_
  refine lw_arg (k := 1) F sDL_1890 sDL_1891 sDL_1892 sDL_1893 sDL_1894 rfl (by omega) ?_
  refine lw_arg (k := 2) F sDL_1895 sDL_1896 sDL_1897 sDL_1898 sDL_1899 rfl (by omega) ?_
  refine lw_arg (k := 3) F sDL_1900 sDL_1901 sDL_1902 sDL_1903 sDL_1904 rfl (by omega) ?_
  refine lw_arg (k := 4) F sDL_1905 sDL_1906 sDL_1907 sDL_1908 sDL_1909 rfl (by omega) ?_
  refine lw_arg (k := 5) F sDL_1910 sDL_1911 sDL_1912 sDL_1913 sDL_1914 rfl (by omega) ?_
  refine lw_callM (st := (rC.toList ++ [])) [(xs (i + 1)).toInt, (xs (i + 2)).toInt, (xs (i + 3)).toInt, (xs (i + 4)).toInt, (xs (i + 5)).toInt] F sDL_1915 sML_223 rfl rfl rfl (Nat.le_of_ble_eq_true (n := 2) rfl) (sd_len1 rC) (pM_copy ((xs (i + 1)).toInt) ((xs (i + 2)).toInt) ((xs (i + 3)).toInt) ((xs (i + 4)).toInt) ((xs (i + 5)).toInt) x _ hM hF hB) (fun rM mM' qM RM => ?_) sd_Qp_int
  obtain ⟨v, X, rfl, rfl, hX, eC, eM, hRX⟩ := ((sK_copy hI ((xs (i + 1)).toInt) ((xs (i + 2)).toInt) ((xs (i + 3)).toInt) ((xs (i + 4)).toInt) ((xs (i + 5)).toInt)).go) rC rM mC' mM' qC qM RC RM hRx
  exact lw_icmp_eq (st := []) F sDL_1918 (by decide) (lw_fin F hX eC eM hRX kk)
theorem lw_case_51 {p : Program} {l : Launch} {e : Env} {s : State} {m : MethodId} {below : List Frame} {meth : Method} {c : Code} {b L : Nat} {xs : Nat → Int32} {gC gM : sd_G} {cells slots : Nat} {N i : Nat} {x mC mM : sd_M} (F : sd_LF p s m meth c b L xs gC gM cells slots) (hi : i + 6 ≤ L) (hN : N ≤ 1000000) (hA : sd_At N x mC mM) (kk : ∀ x' mC' mM', sd_At (N + 1) x' mC' mM' → sd_Lw p l e s m below meth c b gC gM cells slots 2008 [some (.inr 0), some (.inr 1), some (.inr 2), some (.inl (i : Int))] [] mC' mM') : sd_Lw p l e s m below meth c b gC gM cells slots 1923 [some (.inr 0), some (.inr 1), some (.inr 2), some (.inl (i : Int))] [] mC mM := by
  obtain ⟨hI, hC, hM⟩ := hA
  obtain ⟨⟨hJ, hc, h8, h9, hn⟩, hp, hB, hf, hk⟩ := id hI
  obtain ⟨h1, h2, h3, h4, h5, h6, h7, hR, hT, hL⟩ := id hJ
  have hF : ∀ k : Nat, k < 7 → 0 ≤ x (4101 + k) ∧ x (4101 + k) ≤ 1000000 := fun k q => by have := hf k q; omega
  have hk01 : x 4260 = 0 ∨ x 4260 = 1 := by rcases hk with q | q; exact Or.inl q; exact Or.inr q.1
  have h60 : 0 ≤ x 6004 := by rw [hn.1]; exact (sd_cnt_le _ _).1
  refine lw_R (fun R0 => ?_)
  have hRx : ∀ j, (j < 5000 ∨ 6000 ≤ j) → sd_R (x j) := fun j hj => by rw [← hC j hj]; exact R0 j
  refine lw_aload_n F sDL_1923 rfl ?_
  refine lw_callC (st := []) [] F sDL_1924 sML_224 rfl rfl rfl (Nat.le_of_ble_eq_true (n := 4) rfl) (by decide) (pC_image x _ hC hF) (fun rC mC' qC RC => ?_) sd_Qp_int
  refine lw_aload_n F sDL_1927 rfl ?_
  refine lw_callM (st := (rC.toList ++ [])) [] F sDL_1928 sML_227 rfl rfl rfl (Nat.le_of_ble_eq_true (n := 1) rfl) (sd_len1 rC) (pM_image x _ hM hF hk01) (fun rM mM' qM RM => ?_) sd_Qp_int
  obtain ⟨v, X, rfl, rfl, hX, eC, eM, hRX⟩ := ((sK_image hI ).go) rC rM mC' mM' qC qM RC RM hRx
  exact lw_icmp_eq (st := []) F sDL_1931 (by decide) (lw_fin F hX eC eM hRX kk)
theorem lw_case_52 {p : Program} {l : Launch} {e : Env} {s : State} {m : MethodId} {below : List Frame} {meth : Method} {c : Code} {b L : Nat} {xs : Nat → Int32} {gC gM : sd_G} {cells slots : Nat} {N i : Nat} {x mC mM : sd_M} (F : sd_LF p s m meth c b L xs gC gM cells slots) (hi : i + 6 ≤ L) (hN : N ≤ 1000000) (hA : sd_At N x mC mM) (kk : ∀ x' mC' mM', sd_At (N + 1) x' mC' mM' → sd_Lw p l e s m below meth c b gC gM cells slots 2008 [some (.inr 0), some (.inr 1), some (.inr 2), some (.inl (i : Int))] [] mC' mM') : sd_Lw p l e s m below meth c b gC gM cells slots 1936 [some (.inr 0), some (.inr 1), some (.inr 2), some (.inl (i : Int))] [] mC mM := by
  obtain ⟨hI, hC, hM⟩ := hA
  obtain ⟨⟨hJ, hc, h8, h9, hn⟩, hp, hB, hf, hk⟩ := id hI
  obtain ⟨h1, h2, h3, h4, h5, h6, h7, hR, hT, hL⟩ := id hJ
  have hF : ∀ k : Nat, k < 7 → 0 ≤ x (4101 + k) ∧ x (4101 + k) ≤ 1000000 := fun k q => by have := hf k q; omega
  have hk01 : x 4260 = 0 ∨ x 4260 = 1 := by rcases hk with q | q; exact Or.inl q; exact Or.inr q.1
  have h60 : 0 ≤ x 6004 := by rw [hn.1]; exact (sd_cnt_le _ _).1
  refine lw_R (fun R0 => ?_)
  have hRx : ∀ j, (j < 5000 ∨ 6000 ≤ j) → sd_R (x j) := fun j hj => by rw [← hC j hj]; exact R0 j
  refine lw_aload_n F sDL_1936 rfl ?_
  refine lw_callC (st := []) [] F sDL_1937 sML_228 rfl rfl rfl (Nat.le_of_ble_eq_true (n := 4) rfl) (by decide) (pC_undo x _ hC hF hk01) (fun rC mC' qC RC => ?_) sd_Qp_int
  refine lw_aload_n F sDL_1940 rfl ?_
  refine lw_callM (st := (rC.toList ++ [])) [] F sDL_1941 sML_231 rfl rfl rfl (Nat.le_of_ble_eq_true (n := 1) rfl) (sd_len1 rC) (pM_undo x _ hM hF hk01) (fun rM mM' qM RM => ?_) sd_Qp_int
  obtain ⟨v, X, rfl, rfl, hX, eC, eM, hRX⟩ := ((sK_undo hI ).go) rC rM mC' mM' qC qM RC RM hRx
  exact lw_icmp_eq (st := []) F sDL_1944 (by decide) (lw_fin F hX eC eM hRX kk)
theorem lw_case_53 {p : Program} {l : Launch} {e : Env} {s : State} {m : MethodId} {below : List Frame} {meth : Method} {c : Code} {b L : Nat} {xs : Nat → Int32} {gC gM : sd_G} {cells slots : Nat} {N i : Nat} {x mC mM : sd_M} (F : sd_LF p s m meth c b L xs gC gM cells slots) (hi : i + 6 ≤ L) (hN : N ≤ 1000000) (hA : sd_At N x mC mM) (kk : ∀ x' mC' mM', sd_At (N + 1) x' mC' mM' → sd_Lw p l e s m below meth c b gC gM cells slots 2008 [some (.inr 0), some (.inr 1), some (.inr 2), some (.inl (i : Int))] [] mC' mM') : sd_Lw p l e s m below meth c b gC gM cells slots 1949 [some (.inr 0), some (.inr 1), some (.inr 2), some (.inl (i : Int))] [] mC mM := by
  obtain ⟨hI, hC, hM⟩ := hA
  obtain ⟨⟨hJ, hc, h8, h9, hn⟩, hp, hB, hf, hk⟩ := id hI
  obtain ⟨h1, h2, h3, h4, h5, h6, h7, hR, hT, hL⟩ := id hJ
  have hF : ∀ k : Nat, k < 7 → 0 ≤ x (4101 + k) ∧ x (4101 + k) ≤ 1000000 := fun k q => by have := hf k q; omega
  have hk01 : x 4260 = 0 ∨ x 4260 = 1 := by rcases hk with q | q; exact Or.inl q; exact Or.inr q.1
  have h60 : 0 ≤ x 6004 := by rw [hn.1]; exact (sd_cnt_le _ _).1
  refine lw_R (fun R0 => ?_)
  have hRx : ∀ j, (j < 5000 ∨ 6000 ≤ j) → sd_R (x j) := fun j hj => by rw [← hC j hj]; exact R0 j
  refine lw_aload_n F sDL_1949 rfl ?_
  refine lw_callC (st := []) [] F sDL_1950 sML_232 rfl rfl rfl (Nat.le_of_ble_eq_true (n := 1) rfl) (by decide) (pC_tear x _ hC hF hk01) (fun rC mC' qC RC => ?_) sd_Qp_int
  refine lw_aload_n F sDL_1953 rfl ?_
  refine lw_callM (st := (rC.toList ++ [])) [] F sDL_1954 sML_235 rfl rfl rfl (Nat.le_of_ble_eq_true (n := 1) rfl) (sd_len1 rC) (pM_tear x _ hM hF hk01) (fun rM mM' qM RM => ?_) sd_Qp_int
  obtain ⟨v, X, rfl, rfl, hX, eC, eM, hRX⟩ := (sd_Go.one (sN_tear hI )) rC rM mC' mM' qC qM RC RM hRx
  exact lw_icmp_eq (st := []) F sDL_1957 (by decide) (lw_fin F hX eC eM hRX kk)
theorem lw_case_54 {p : Program} {l : Launch} {e : Env} {s : State} {m : MethodId} {below : List Frame} {meth : Method} {c : Code} {b L : Nat} {xs : Nat → Int32} {gC gM : sd_G} {cells slots : Nat} {N i : Nat} {x mC mM : sd_M} (F : sd_LF p s m meth c b L xs gC gM cells slots) (hi : i + 6 ≤ L) (hN : N ≤ 1000000) (hA : sd_At N x mC mM) (kk : ∀ x' mC' mM', sd_At (N + 1) x' mC' mM' → sd_Lw p l e s m below meth c b gC gM cells slots 2008 [some (.inr 0), some (.inr 1), some (.inr 2), some (.inl (i : Int))] [] mC' mM') : sd_Lw p l e s m below meth c b gC gM cells slots 1962 [some (.inr 0), some (.inr 1), some (.inr 2), some (.inl (i : Int))] [] mC mM := by
  obtain ⟨hI, hC, hM⟩ := hA
  obtain ⟨⟨hJ, hc, h8, h9, hn⟩, hp, hB, hf, hk⟩ := id hI
  obtain ⟨h1, h2, h3, h4, h5, h6, h7, hR, hT, hL⟩ := id hJ
  have hF : ∀ k : Nat, k < 7 → 0 ≤ x (4101 + k) ∧ x (4101 + k) ≤ 1000000 := fun k q => by have := hf k q; omega
  have hk01 : x 4260 = 0 ∨ x 4260 = 1 := by rcases hk with q | q; exact Or.inl q; exact Or.inr q.1
  have h60 : 0 ≤ x 6004 := by rw [hn.1]; exact (sd_cnt_le _ _).1
  refine lw_R (fun R0 => ?_)
  have hRx : ∀ j, (j < 5000 ∨ 6000 ≤ j) → sd_R (x j) := fun j hj => by rw [← hC j hj]; exact R0 j
  refine lw_aload_n F sDL_1962 rfl ?_
  refine lw_arg (k := 1) F sDL_1963 sDL_1964 sDL_1965 sDL_1966 sDL_1967 rfl (by omega) ?_
  refine lw_callC (st := []) [(xs (i + 1)).toInt] F sDL_1968 sML_236 rfl rfl rfl (Nat.le_of_ble_eq_true (n := 5) rfl) (by decide) (pC_count ((xs (i + 1)).toInt) x _ hC h1 h2 h3 h4 h6 hR hF) (fun rC mC' qC RC => ?_) sd_Qp_int
  refine lw_aload_n F sDL_1971 rfl ?_
  refine lw_arg (k := 1) F sDL_1972 sDL_1973 sDL_1974 sDL_1975 sDL_1976 rfl (by omega) ?_
  refine lw_callM (st := (rC.toList ++ [])) [(xs (i + 1)).toInt] F sDL_1977 sML_239 rfl rfl rfl (Nat.le_of_ble_eq_true (n := 8) rfl) (sd_len1 rC) (pM_count ((xs (i + 1)).toInt) x _ hM h1 h2 h3 h4 h6 hR hT hL hF hn.1) (fun rM mM' qM RM => ?_) sd_Qp_int
  obtain ⟨v, X, rfl, rfl, hX, eC, eM, hRX⟩ := (sd_Go.one (sN_count hI ((xs (i + 1)).toInt))) rC rM mC' mM' qC qM RC RM hRx
  exact lw_icmp_eq (st := []) F sDL_1980 (by decide) (lw_fin F hX eC eM hRX kk)
theorem lw_case_55 {p : Program} {l : Launch} {e : Env} {s : State} {m : MethodId} {below : List Frame} {meth : Method} {c : Code} {b L : Nat} {xs : Nat → Int32} {gC gM : sd_G} {cells slots : Nat} {N i : Nat} {x mC mM : sd_M} (F : sd_LF p s m meth c b L xs gC gM cells slots) (hi : i + 6 ≤ L) (hN : N ≤ 1000000) (hA : sd_At N x mC mM) (kk : ∀ x' mC' mM', sd_At (N + 1) x' mC' mM' → sd_Lw p l e s m below meth c b gC gM cells slots 2008 [some (.inr 0), some (.inr 1), some (.inr 2), some (.inl (i : Int))] [] mC' mM') : sd_Lw p l e s m below meth c b gC gM cells slots 1985 [some (.inr 0), some (.inr 1), some (.inr 2), some (.inl (i : Int))] [] mC mM := by
  obtain ⟨hI, hC, hM⟩ := hA
  obtain ⟨⟨hJ, hc, h8, h9, hn⟩, hp, hB, hf, hk⟩ := id hI
  obtain ⟨h1, h2, h3, h4, h5, h6, h7, hR, hT, hL⟩ := id hJ
  have hF : ∀ k : Nat, k < 7 → 0 ≤ x (4101 + k) ∧ x (4101 + k) ≤ 1000000 := fun k q => by have := hf k q; omega
  have hk01 : x 4260 = 0 ∨ x 4260 = 1 := by rcases hk with q | q; exact Or.inl q; exact Or.inr q.1
  have h60 : 0 ≤ x 6004 := by rw [hn.1]; exact (sd_cnt_le _ _).1
  refine lw_R (fun R0 => ?_)
  have hRx : ∀ j, (j < 5000 ∨ 6000 ≤ j) → sd_R (x j) := fun j hj => by rw [← hC j hj]; exact R0 j
  refine lw_aload_n F sDL_1985 rfl ?_
  refine lw_arg (k := 1) F sDL_1986 sDL_1987 sDL_1988 sDL_1989 sDL_1990 rfl (by omega) ?_
  refine lw_callC (st := []) [(xs (i + 1)).toInt] F sDL_1991 sML_240 rfl rfl rfl (Nat.le_of_ble_eq_true (n := 1) rfl) (by decide) (pC_status ((xs (i + 1)).toInt) x _ hC hF) (fun rC mC' qC RC => ?_) sd_Qp_int
  refine lw_aload_n F sDL_1994 rfl ?_
  refine lw_arg (k := 1) F sDL_1995 sDL_1996 sDL_1997 sDL_1998 sDL_1999 rfl (by omega) ?_
  refine lw_callM (st := (rC.toList ++ [])) [(xs (i + 1)).toInt] F sDL_2000 sML_243 rfl rfl rfl (Nat.le_of_ble_eq_true (n := 1) rfl) (sd_len1 rC) (pM_status ((xs (i + 1)).toInt) x _ hM hF) (fun rM mM' qM RM => ?_) sd_Qp_int
  obtain ⟨v, X, rfl, rfl, hX, eC, eM, hRX⟩ := (sd_Go.one (sN_status hI ((xs (i + 1)).toInt))) rC rM mC' mM' qC qM RC RM hRx
  exact lw_icmp_eq (st := []) F sDL_2003 (by decide) (lw_fin F hX eC eM hRX kk)
