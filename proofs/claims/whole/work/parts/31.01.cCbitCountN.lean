set_option maxRecDepth 100000 in
set_option maxHeartbeats 4000000 in
theorem cC_bitCountN (a b c : Nat) (ha : a < 256) (hb : b < 256) (hc : c < 256) (m : sd_M) : sd_Cp sd_SC 0 sYJ6_bitCount_0f7a4 [.inl ((65536 * c + 256 * b + a : Nat) : Int)] m (.inl (sd_ones ((65536 * c + 256 * b + a : Nat) : Int))) := by
  refine sd_ct rfl (Nat.le_of_ble_eq_true rfl) (fun hok hm => ?_)
  have hga := sd_byt3 ⟨a, ha⟩
  simp only at hga
  have hla := (sd_byt1 ⟨a, ha⟩ 0).2
  simp only at hla
  have hgb := sd_byt3 ⟨b, hb⟩
  simp only at hgb
  have hlb := (sd_byt1 ⟨b, hb⟩ 0).2
  simp only at hlb
  have hgc := sd_byt3 ⟨c, hc⟩
  simp only at hgc
  have hlc := (sd_byt1 ⟨c, hc⟩ 0).2
  simp only at hlc
  show sd_Wp sd_SC 0 sYJ6_bitCount_0f7a4 0 [some (.inl ((65536 * c + 256 * b + a : Nat) : Int))] [] m _
  refine sd_iload_n sDJ6_bitCount_0f7a4_0 rfl ?_
  refine sd_iload_n sDJ6_bitCount_0f7a4_1 rfl ?_
  refine sd_iconst sDJ6_bitCount_0f7a4_2 (by decide) ?_
  refine sd_iushr sDJ6_bitCount_0f7a4_3 ?_
  rw [show sd_ushr ((65536 * c + 256 * b + a : Nat) : Int) 1 = (((65536 * c + 256 * b + a) / 2 : Nat) : Int) from by exact sd_ushr_nat (by omega) 1]
  refine sd_ldcw (z := 1431655765) sDJ6_bitCount_0f7a4_4 sKJ6_265 (by decide) ?_
  refine sd_iand sDJ6_bitCount_0f7a4_7 ?_
  rw [show sd_and (((65536 * c + 256 * b + a) / 2 : Nat) : Int) 1431655765 = ((65536 * (c / 2 &&& 85) + 256 * (b / 2 &&& 85) + (a / 2 &&& 85) : Nat) : Int) from by rw [show (1431655765 : Int) = ((1431655765 : Nat) : Int) from rfl, sd_and_nat (by omega) (by omega), sd_n1 ha hb hc]]
  refine sd_isub (z := ((65536 * sd_g1 c + 256 * sd_g1 b + sd_g1 a : Nat) : Int)) sDJ6_bitCount_0f7a4_8 (by unfold sd_g1; omega) (by constructor <;> omega) ?_
  refine sd_istore_n (ls' := [some (.inl ((65536 * sd_g1 c + 256 * sd_g1 b + sd_g1 a : Nat) : Int))]) sDJ6_bitCount_0f7a4_9 (by decide) rfl ?_
  refine sd_iload_n sDJ6_bitCount_0f7a4_10 rfl ?_
  refine sd_ldcw (z := 858993459) sDJ6_bitCount_0f7a4_11 sKJ6_266 (by decide) ?_
  refine sd_iand sDJ6_bitCount_0f7a4_14 ?_
  rw [show sd_and ((65536 * sd_g1 c + 256 * sd_g1 b + sd_g1 a : Nat) : Int) 858993459 = ((65536 * (sd_g1 c &&& 51) + 256 * (sd_g1 b &&& 51) + (sd_g1 a &&& 51) : Nat) : Int) from by rw [show (858993459 : Int) = ((858993459 : Nat) : Int) from rfl, sd_and_nat (by omega) (by omega), sd_n2a hga.2.2.2.2 hgb.2.2.2.2 hgc.2.2.2.2]]
  refine sd_iload_n sDJ6_bitCount_0f7a4_15 rfl ?_
  refine sd_iconst sDJ6_bitCount_0f7a4_16 (by decide) ?_
  refine sd_iushr sDJ6_bitCount_0f7a4_17 ?_
  rw [show sd_ushr ((65536 * sd_g1 c + 256 * sd_g1 b + sd_g1 a : Nat) : Int) 2 = (((65536 * sd_g1 c + 256 * sd_g1 b + sd_g1 a) / 4 : Nat) : Int) from by exact sd_ushr_nat (by omega) 2]
  refine sd_ldcw (z := 858993459) sDJ6_bitCount_0f7a4_18 sKJ6_266 (by decide) ?_
  refine sd_iand sDJ6_bitCount_0f7a4_21 ?_
  rw [show sd_and (((65536 * sd_g1 c + 256 * sd_g1 b + sd_g1 a) / 4 : Nat) : Int) 858993459 = ((65536 * (sd_g1 c / 4 &&& 51) + 256 * (sd_g1 b / 4 &&& 51) + (sd_g1 a / 4 &&& 51) : Nat) : Int) from by rw [show (858993459 : Int) = ((858993459 : Nat) : Int) from rfl, sd_and_nat (by omega) (by omega), sd_n2b hga.2.2.2.2 hgb.2.2.2.2 hgc.2.2.2.2]]
  refine sd_iadd (z := ((65536 * sd_g2 (sd_g1 c) + 256 * sd_g2 (sd_g1 b) + sd_g2 (sd_g1 a) : Nat) : Int)) sDJ6_bitCount_0f7a4_22 (by unfold sd_g2; omega) (by constructor <;> omega) ?_
  refine sd_istore_n (ls' := [some (.inl ((65536 * sd_g2 (sd_g1 c) + 256 * sd_g2 (sd_g1 b) + sd_g2 (sd_g1 a) : Nat) : Int))]) sDJ6_bitCount_0f7a4_23 (by decide) rfl ?_
  refine sd_iload_n sDJ6_bitCount_0f7a4_24 rfl ?_
  refine sd_iload_n sDJ6_bitCount_0f7a4_25 rfl ?_
  refine sd_iconst sDJ6_bitCount_0f7a4_26 (by decide) ?_
  refine sd_iushr sDJ6_bitCount_0f7a4_27 ?_
  rw [show sd_ushr ((65536 * sd_g2 (sd_g1 c) + 256 * sd_g2 (sd_g1 b) + sd_g2 (sd_g1 a) : Nat) : Int) 4 = (((65536 * sd_g2 (sd_g1 c) + 256 * sd_g2 (sd_g1 b) + sd_g2 (sd_g1 a)) / 16 : Nat) : Int) from by exact sd_ushr_nat (by omega) 4]
  refine sd_iadd (z := ((65536 * sd_g2 (sd_g1 c) + 256 * sd_g2 (sd_g1 b) + sd_g2 (sd_g1 a) + (65536 * sd_g2 (sd_g1 c) + 256 * sd_g2 (sd_g1 b) + sd_g2 (sd_g1 a)) / 16 : Nat) : Int)) sDJ6_bitCount_0f7a4_28 (by omega) (by constructor <;> omega) ?_
  refine sd_ldcw (z := 252645135) sDJ6_bitCount_0f7a4_29 sKJ6_267 (by decide) ?_
  refine sd_iand sDJ6_bitCount_0f7a4_32 ?_
  rw [show sd_and ((65536 * sd_g2 (sd_g1 c) + 256 * sd_g2 (sd_g1 b) + sd_g2 (sd_g1 a) + (65536 * sd_g2 (sd_g1 c) + 256 * sd_g2 (sd_g1 b) + sd_g2 (sd_g1 a)) / 16 : Nat) : Int) 252645135 = ((65536 * sd_p8 c + 256 * sd_p8 b + sd_p8 a : Nat) : Int) from by rw [show (252645135 : Int) = ((252645135 : Nat) : Int) from rfl, sd_and_nat (by omega) (by omega), sd_n3 ⟨hga.1, hga.2.1⟩ ⟨hgb.1, hgb.2.1⟩ ⟨hgc.1, hgc.2.1⟩, hga.2.2.1, hgb.2.2.1, hgc.2.2.1]]
  refine sd_istore_n (ls' := [some (.inl ((65536 * sd_p8 c + 256 * sd_p8 b + sd_p8 a : Nat) : Int))]) sDJ6_bitCount_0f7a4_33 (by decide) rfl ?_
  refine sd_iload_n sDJ6_bitCount_0f7a4_34 rfl ?_
  refine sd_iload_n sDJ6_bitCount_0f7a4_35 rfl ?_
  refine sd_bipush sDJ6_bitCount_0f7a4_36 rfl (by decide) ?_
  refine sd_iushr sDJ6_bitCount_0f7a4_38 ?_
  rw [show sd_ushr ((65536 * sd_p8 c + 256 * sd_p8 b + sd_p8 a : Nat) : Int) 8 = (((65536 * sd_p8 c + 256 * sd_p8 b + sd_p8 a) / 256 : Nat) : Int) from by exact sd_ushr_nat (by omega) 8]
  refine sd_iadd (z := ((65536 * sd_p8 c + 256 * (sd_p8 b + sd_p8 c) + (sd_p8 a + sd_p8 b) : Nat) : Int)) sDJ6_bitCount_0f7a4_39 (by omega) (by constructor <;> omega) ?_
  refine sd_istore_n (ls' := [some (.inl ((65536 * sd_p8 c + 256 * (sd_p8 b + sd_p8 c) + (sd_p8 a + sd_p8 b) : Nat) : Int))]) sDJ6_bitCount_0f7a4_40 (by decide) rfl ?_
  refine sd_iload_n sDJ6_bitCount_0f7a4_41 rfl ?_
  refine sd_iload_n sDJ6_bitCount_0f7a4_42 rfl ?_
  refine sd_bipush sDJ6_bitCount_0f7a4_43 rfl (by decide) ?_
  refine sd_iushr sDJ6_bitCount_0f7a4_45 ?_
  rw [show sd_ushr ((65536 * sd_p8 c + 256 * (sd_p8 b + sd_p8 c) + (sd_p8 a + sd_p8 b) : Nat) : Int) 16 = (((65536 * sd_p8 c + 256 * (sd_p8 b + sd_p8 c) + (sd_p8 a + sd_p8 b)) / 65536 : Nat) : Int) from by exact sd_ushr_nat (by omega) 16]
  refine sd_iadd (z := ((65536 * sd_p8 c + 256 * (sd_p8 b + sd_p8 c) + (sd_p8 a + sd_p8 b + sd_p8 c) : Nat) : Int)) sDJ6_bitCount_0f7a4_46 (by omega) (by constructor <;> omega) ?_
  refine sd_istore_n (ls' := [some (.inl ((65536 * sd_p8 c + 256 * (sd_p8 b + sd_p8 c) + (sd_p8 a + sd_p8 b + sd_p8 c) : Nat) : Int))]) sDJ6_bitCount_0f7a4_47 (by decide) rfl ?_
  refine sd_iload_n sDJ6_bitCount_0f7a4_48 rfl ?_
  refine sd_bipush sDJ6_bitCount_0f7a4_49 rfl (by decide) ?_
  refine sd_iand sDJ6_bitCount_0f7a4_51 ?_
  rw [show sd_and ((65536 * sd_p8 c + 256 * (sd_p8 b + sd_p8 c) + (sd_p8 a + sd_p8 b + sd_p8 c) : Nat) : Int) 63 = ((sd_p8 a + sd_p8 b + sd_p8 c : Nat) : Int) from by rw [show (63 : Int) = ((63 : Nat) : Int) from rfl, sd_and_nat (by omega) (by omega), show (63 : Nat) = 2 ^ 6 - 1 from rfl, Nat.and_two_pow_sub_one_eq_mod]; omega]
  refine sd_iretp sDJ6_bitCount_0f7a4_52 rfl ?_
  exact (sd_ones_nat ha hb hc).symm
