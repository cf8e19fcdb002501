theorem sd_cg {a b : Option sd_V} {l l' : List (Option sd_V)} (h : a = b) (t : l = l') : a :: l = b :: l' := by rw [h, t]
theorem sd_ce {a b : Int} (h : a = b) : (some (Sum.inl a) : Option sd_V) = some (Sum.inl b) := by rw [h]
/-! Numbers of bits: the library's way and the plain one. -/
theorem sd_and8 (a b m n : Nat) (hb : b < 256) (hn : n < 256) : (256 * a + b) &&& (256 * m + n) = 256 * (a &&& m) + (b &&& n) := by
  have hbn : b &&& n < 2 ^ 8 := Nat.and_lt_two_pow b (by omega)
  apply Nat.eq_of_testBit_eq
  intro i
  rw [Nat.testBit_and, show 256 = 2 ^ 8 from rfl, Nat.testBit_two_pow_mul_add a (by omega) i, Nat.testBit_two_pow_mul_add m (by omega) i, Nat.testBit_two_pow_mul_add (a &&& m) hbn i]
  by_cases h : i < 8
  · rw [if_pos h, if_pos h, if_pos h, Nat.testBit_and]
  · rw [if_neg h, if_neg h, if_neg h, Nat.testBit_and]
def sd_g1 (a : Nat) : Nat := a - (a / 2 &&& 85)
def sd_g2 (a : Nat) : Nat := (a &&& 51) + (a / 4 &&& 51)
def sd_g3 (a : Nat) : Nat := (a + a / 16) &&& 15
def sd_p8 (a : Nat) : Nat := a % 2 + a / 2 % 2 + a / 4 % 2 + a / 8 % 2 + a / 16 % 2 + a / 32 % 2 + a / 64 % 2 + a / 128 % 2
set_option maxRecDepth 100000 in
theorem sd_byt1 : ∀ a : Fin 256, ∀ t : Fin 2, ((128 * t.val + a.val / 2) &&& 85) = (a.val / 2 &&& 85) ∧ (a.val / 2 &&& 85) ≤ a.val := by decide +kernel
set_option maxRecDepth 100000 in
theorem sd_byt2 : ∀ a : Fin 256, ∀ t : Fin 4, ((64 * t.val + a.val / 4) &&& 51) = (a.val / 4 &&& 51) := by decide +kernel
set_option maxRecDepth 100000 in
theorem sd_byt3 : ∀ a : Fin 256, sd_g2 (sd_g1 a.val) % 16 ≤ 4 ∧ sd_g2 (sd_g1 a.val) / 16 ≤ 4 ∧ sd_g3 (sd_g2 (sd_g1 a.val)) = sd_p8 a.val ∧ sd_p8 a.val ≤ 8 ∧ sd_g1 a.val < 256 := by decide +kernel
theorem sd_n1 {a b c : Nat} (ha : a < 256) (hb : b < 256) (hc : c < 256) : (65536 * c + 256 * b + a) / 2 &&& 1431655765 = 65536 * (c / 2 &&& 85) + 256 * (b / 2 &&& 85) + (a / 2 &&& 85) := by
  have e1 := (sd_byt1 ⟨a, ha⟩ ⟨b % 2, by omega⟩).1
  have e2 := (sd_byt1 ⟨b, hb⟩ ⟨c % 2, by omega⟩).1
  simp only at e1 e2
  rw [show (65536 * c + 256 * b + a) / 2 = 256 * (256 * (c / 2) + (128 * (c % 2) + b / 2)) + (128 * (b % 2) + a / 2) from by omega, show 1431655765 = 256 * (256 * (256 * 85 + 85) + 85) + 85 from rfl, sd_and8 _ _ _ _ (by omega) (by omega), sd_and8 _ _ _ _ (by omega) (by omega), e1, e2]
  have h4 : c / 2 &&& 256 * 85 + 85 = c / 2 &&& 85 := by
    have := sd_and8 0 (c / 2) 85 85 (by omega) (by omega)
    simpa using this
  rw [h4]
  omega
theorem sd_n2a {a b c : Nat} (ha : a < 256) (hb : b < 256) (hc : c < 256) : (65536 * c + 256 * b + a) &&& 858993459 = 65536 * (c &&& 51) + 256 * (b &&& 51) + (a &&& 51) := by
  rw [show (65536 * c + 256 * b + a) = 256 * (256 * c + b) + a from by omega, show 858993459 = 256 * (256 * (256 * 51 + 51) + 51) + 51 from rfl, sd_and8 _ _ _ _ (by omega) (by omega), sd_and8 _ _ _ _ (by omega) (by omega)]
  have h4 : c &&& 256 * 51 + 51 = c &&& 51 := by
    have := sd_and8 0 c 51 51 (by omega) (by omega)
    simpa using this
  rw [h4]
  omega
theorem sd_n2b {a b c : Nat} (ha : a < 256) (hb : b < 256) (hc : c < 256) : (65536 * c + 256 * b + a) / 4 &&& 858993459 = 65536 * (c / 4 &&& 51) + 256 * (b / 4 &&& 51) + (a / 4 &&& 51) := by
  have e1 := (sd_byt2 ⟨a, ha⟩ ⟨b % 4, by omega⟩)
  have e2 := (sd_byt2 ⟨b, hb⟩ ⟨c % 4, by omega⟩)
  simp only at e1 e2
  rw [show (65536 * c + 256 * b + a) / 4 = 256 * (256 * (c / 4) + (64 * (c % 4) + b / 4)) + (64 * (b % 4) + a / 4) from by omega, show 858993459 = 256 * (256 * (256 * 51 + 51) + 51) + 51 from rfl, sd_and8 _ _ _ _ (by omega) (by omega), sd_and8 _ _ _ _ (by omega) (by omega), e1, e2]
  have h4 : c / 4 &&& 256 * 51 + 51 = c / 4 &&& 51 := by
    have := sd_and8 0 (c / 4) 51 51 (by omega) (by omega)
    simpa using this
  rw [h4]
  omega
theorem sd_and15 (u v : Nat) : (16 * u + v) &&& 15 = v &&& 15 := by
  rw [show 15 = 2 ^ 4 - 1 from rfl, Nat.and_two_pow_sub_one_eq_mod, Nat.and_two_pow_sub_one_eq_mod]
  omega
theorem sd_n3 {a b c : Nat} (ha : a % 16 ≤ 4 ∧ a / 16 ≤ 4) (hb : b % 16 ≤ 4 ∧ b / 16 ≤ 4) (hc : c % 16 ≤ 4 ∧ c / 16 ≤ 4) : (65536 * c + 256 * b + a + (65536 * c + 256 * b + a) / 16) &&& 252645135 = 65536 * sd_g3 c + 256 * sd_g3 b + sd_g3 a := by
  rw [show (65536 * c + 256 * b + a + (65536 * c + 256 * b + a) / 16) = 256 * (256 * (c + c / 16) + (16 * (c % 16) + (b + b / 16))) + (16 * (b % 16) + (a + a / 16)) from by omega, show 252645135 = 256 * (256 * (256 * 15 + 15) + 15) + 15 from rfl, sd_and8 _ _ _ _ (by omega) (by omega), sd_and8 _ _ _ _ (by omega) (by omega), sd_and15, sd_and15]
  have h4 : (c + c / 16) &&& 256 * 15 + 15 = (c + c / 16) &&& 15 := by
    have := sd_and8 0 (c + c / 16) 15 15 (by omega) (by omega)
    simpa using this
  rw [h4]
  unfold sd_g3
  omega
theorem sd_tb_nat {n i : Nat} (hi : i < 32) : sd_tb_ (n : Int) i = n.testBit i := by
  unfold sd_tb_ sd_bv
  have e : (Int32.ofInt (n : Int)).toBitVec = BitVec.ofNat 32 n := by
    show BitVec.ofInt 32 (n : Int) = _
    rw [BitVec.ofInt_natCast]
  rw [e, BitVec.getLsbD_ofNat]
  simp [hi]
theorem sd_and_nat {a b : Nat} (ha : a < 2147483648) (hb : b < 2147483648) : sd_and (a : Int) (b : Int) = ((a &&& b : Nat) : Int) := by
  have hle : a &&& b ≤ a := Nat.and_le_left
  refine sd_ext (sd_R_and _ _) ⟨by omega, by omega⟩ (fun i hi => ?_)
  rw [sd_tb_and, sd_tb_nat hi, sd_tb_nat hi, sd_tb_nat hi, Nat.testBit_and]
theorem sd_ushr_nat {a : Nat} (ha : a < 2147483648) : ∀ k : Fin 32, sd_ushr (a : Int) ((k.val : Nat) : Int) = ((a / 2 ^ k.val : Nat) : Int) := by
  intro k
  have hsm : ((Int32.ofInt ((k.val : Nat) : Int)).toUInt32 &&& Int32.toUInt32 31) = UInt32.ofNat k.val := by
    revert k; decide +kernel
  unfold sd_ushr
  rw [hsm]
  have e1 : ((Int32.ofInt (a : Int)).toUInt32).toNat = a := by
    show (BitVec.ofInt 32 (a : Int)).toNat = a
    rw [BitVec.ofInt_natCast, BitVec.toNat_ofNat]
    omega
  have e2 : ((Int32.ofInt (a : Int)).toUInt32 >>> UInt32.ofNat k.val).toNat = a / 2 ^ k.val := by
    rw [UInt32.toNat_shiftRight, e1, UInt32.toNat_ofNat', Nat.shiftRight_eq_div_pow]
    have h1 := k.isLt
    rw [show k.val % 2 ^ 32 % 32 = k.val from by omega]
  have e3 : a / 2 ^ k.val ≤ a := Nat.div_le_self _ _
  show (BitVec.toInt (((Int32.ofInt (a : Int)).toUInt32 >>> UInt32.ofNat k.val).toBitVec)) = _
  rw [BitVec.toInt_eq_toNat_cond, show ((((Int32.ofInt (a : Int)).toUInt32 >>> UInt32.ofNat k.val).toBitVec)).toNat = a / 2 ^ k.val from e2, if_pos (by omega)]
/-- how many bits: the plain way -/
abbrev sd_Pbt (s : Int) (i : Nat) : Prop := sd_bit s i
def sd_ones (s : Int) : Int := sd_cnt (sd_Pbt s) 30
theorem sd_bit_nat {n i : Nat} (hi : i < 32) : sd_bit (n : Int) (i : Int) ↔ n / 2 ^ i % 2 = 1 := by
  rw [sd_bit_iff _ hi, sd_tb_nat hi, Nat.testBit_eq_decide_div_mod_eq]
  simp
theorem sd_cb {n i : Nat} (hi : i < 32) : (if sd_Pbt (n : Int) i then (1 : Int) else 0) = ((n / 2 ^ i % 2 : Nat) : Int) := by
  by_cases h : n / 2 ^ i % 2 = 1
  · rw [if_pos ((sd_bit_nat hi).mpr h), h]; rfl
  · rw [if_neg (fun q => h ((sd_bit_nat hi).mp q))]
    have : n / 2 ^ i % 2 = 0 := by omega
    rw [this]; rfl
theorem sd_q0 {a b c : Nat} (ha : a < 256) (hb : b < 256) (hc : c < 256) : (65536 * c + 256 * b + a) / 2 ^ 0 % 2 = a % 2 := by omega
theorem sd_q1 {a b c : Nat} (ha : a < 256) (hb : b < 256) (hc : c < 256) : (65536 * c + 256 * b + a) / 2 ^ 1 % 2 = a / 2 % 2 := by omega
theorem sd_q2 {a b c : Nat} (ha : a < 256) (hb : b < 256) (hc : c < 256) : (65536 * c + 256 * b + a) / 2 ^ 2 % 2 = a / 4 % 2 := by omega
theorem sd_q3 {a b c : Nat} (ha : a < 256) (hb : b < 256) (hc : c < 256) : (65536 * c + 256 * b + a) / 2 ^ 3 % 2 = a / 8 % 2 := by omega
theorem sd_q4 {a b c : Nat} (ha : a < 256) (hb : b < 256) (hc : c < 256) : (65536 * c + 256 * b + a) / 2 ^ 4 % 2 = a / 16 % 2 := by omega
theorem sd_q5 {a b c : Nat} (ha : a < 256) (hb : b < 256) (hc : c < 256) : (65536 * c + 256 * b + a) / 2 ^ 5 % 2 = a / 32 % 2 := by omega
theorem sd_q6 {a b c : Nat} (ha : a < 256) (hb : b < 256) (hc : c < 256) : (65536 * c + 256 * b + a) / 2 ^ 6 % 2 = a / 64 % 2 := by omega
theorem sd_q7 {a b c : Nat} (ha : a < 256) (hb : b < 256) (hc : c < 256) : (65536 * c + 256 * b + a) / 2 ^ 7 % 2 = a / 128 % 2 := by omega
theorem sd_q8 {a b c : Nat} (ha : a < 256) (hb : b < 256) (hc : c < 256) : (65536 * c + 256 * b + a) / 2 ^ 8 % 2 = b % 2 := by omega
theorem sd_q9 {a b c : Nat} (ha : a < 256) (hb : b < 256) (hc : c < 256) : (65536 * c + 256 * b + a) / 2 ^ 9 % 2 = b / 2 % 2 := by omega
theorem sd_q10 {a b c : Nat} (ha : a < 256) (hb : b < 256) (hc : c < 256) : (65536 * c + 256 * b + a) / 2 ^ 10 % 2 = b / 4 % 2 := by omega
theorem sd_q11 {a b c : Nat} (ha : a < 256) (hb : b < 256) (hc : c < 256) : (65536 * c + 256 * b + a) / 2 ^ 11 % 2 = b / 8 % 2 := by omega
theorem sd_q12 {a b c : Nat} (ha : a < 256) (hb : b < 256) (hc : c < 256) : (65536 * c + 256 * b + a) / 2 ^ 12 % 2 = b / 16 % 2 := by omega
theorem sd_q13 {a b c : Nat} (ha : a < 256) (hb : b < 256) (hc : c < 256) : (65536 * c + 256 * b + a) / 2 ^ 13 % 2 = b / 32 % 2 := by omega
theorem sd_q14 {a b c : Nat} (ha : a < 256) (hb : b < 256) (hc : c < 256) : (65536 * c + 256 * b + a) / 2 ^ 14 % 2 = b / 64 % 2 := by omega
theorem sd_q15 {a b c : Nat} (ha : a < 256) (hb : b < 256) (hc : c < 256) : (65536 * c + 256 * b + a) / 2 ^ 15 % 2 = b / 128 % 2 := by omega
theorem sd_q16 {a b c : Nat} (ha : a < 256) (hb : b < 256) (hc : c < 256) : (65536 * c + 256 * b + a) / 2 ^ 16 % 2 = c % 2 := by omega
theorem sd_q17 {a b c : Nat} (ha : a < 256) (hb : b < 256) (hc : c < 256) : (65536 * c + 256 * b + a) / 2 ^ 17 % 2 = c / 2 % 2 := by omega
theorem sd_q18 {a b c : Nat} (ha : a < 256) (hb : b < 256) (hc : c < 256) : (65536 * c + 256 * b + a) / 2 ^ 18 % 2 = c / 4 % 2 := by omega
theorem sd_q19 {a b c : Nat} (ha : a < 256) (hb : b < 256) (hc : c < 256) : (65536 * c + 256 * b + a) / 2 ^ 19 % 2 = c / 8 % 2 := by omega
theorem sd_q20 {a b c : Nat} (ha : a < 256) (hb : b < 256) (hc : c < 256) : (65536 * c + 256 * b + a) / 2 ^ 20 % 2 = c / 16 % 2 := by omega
theorem sd_q21 {a b c : Nat} (ha : a < 256) (hb : b < 256) (hc : c < 256) : (65536 * c + 256 * b + a) / 2 ^ 21 % 2 = c / 32 % 2 := by omega
theorem sd_q22 {a b c : Nat} (ha : a < 256) (hb : b < 256) (hc : c < 256) : (65536 * c + 256 * b + a) / 2 ^ 22 % 2 = c / 64 % 2 := by omega
theorem sd_q23 {a b c : Nat} (ha : a < 256) (hb : b < 256) (hc : c < 256) : (65536 * c + 256 * b + a) / 2 ^ 23 % 2 = c / 128 % 2 := by omega
theorem sd_q24 {a b c : Nat} (ha : a < 256) (hb : b < 256) (hc : c < 256) : (65536 * c + 256 * b + a) / 2 ^ 24 % 2 = 0 := by omega
theorem sd_q25 {a b c : Nat} (ha : a < 256) (hb : b < 256) (hc : c < 256) : (65536 * c + 256 * b + a) / 2 ^ 25 % 2 = 0 := by omega
theorem sd_q26 {a b c : Nat} (ha : a < 256) (hb : b < 256) (hc : c < 256) : (65536 * c + 256 * b + a) / 2 ^ 26 % 2 = 0 := by omega
theorem sd_q27 {a b c : Nat} (ha : a < 256) (hb : b < 256) (hc : c < 256) : (65536 * c + 256 * b + a) / 2 ^ 27 % 2 = 0 := by omega
theorem sd_q28 {a b c : Nat} (ha : a < 256) (hb : b < 256) (hc : c < 256) : (65536 * c + 256 * b + a) / 2 ^ 28 % 2 = 0 := by omega
theorem sd_q29 {a b c : Nat} (ha : a < 256) (hb : b < 256) (hc : c < 256) : (65536 * c + 256 * b + a) / 2 ^ 29 % 2 = 0 := by omega
theorem sd_ones_nat {a b c : Nat} (ha : a < 256) (hb : b < 256) (hc : c < 256) : sd_ones ((65536 * c + 256 * b + a : Nat) : Int) = ((sd_p8 a + sd_p8 b + sd_p8 c : Nat) : Int) := by
  unfold sd_ones
  simp only [sd_cnt]
  rw [sd_cb (i := 0) (by decide), sd_cb (i := 1) (by decide), sd_cb (i := 2) (by decide), sd_cb (i := 3) (by decide), sd_cb (i := 4) (by decide), sd_cb (i := 5) (by decide), sd_cb (i := 6) (by decide), sd_cb (i := 7) (by decide), sd_cb (i := 8) (by decide), sd_cb (i := 9) (by decide), sd_cb (i := 10) (by decide), sd_cb (i := 11) (by decide), sd_cb (i := 12) (by decide), sd_cb (i := 13) (by decide), sd_cb (i := 14) (by decide), sd_cb (i := 15) (by decide), sd_cb (i := 16) (by decide), sd_cb (i := 17) (by decide), sd_cb (i := 18) (by decide), sd_cb (i := 19) (by decide), sd_cb (i := 20) (by decide), sd_cb (i := 21) (by decide), sd_cb (i := 22) (by decide), sd_cb (i := 23) (by decide), sd_cb (i := 24) (by decide), sd_cb (i := 25) (by decide), sd_cb (i := 26) (by decide), sd_cb (i := 27) (by decide), sd_cb (i := 28) (by decide), sd_cb (i := 29) (by decide)]
  rw [sd_q0 ha hb hc, sd_q1 ha hb hc, sd_q2 ha hb hc, sd_q3 ha hb hc, sd_q4 ha hb hc, sd_q5 ha hb hc, sd_q6 ha hb hc, sd_q7 ha hb hc, sd_q8 ha hb hc, sd_q9 ha hb hc, sd_q10 ha hb hc, sd_q11 ha hb hc, sd_q12 ha hb hc, sd_q13 ha hb hc, sd_q14 ha hb hc, sd_q15 ha hb hc, sd_q16 ha hb hc, sd_q17 ha hb hc, sd_q18 ha hb hc, sd_q19 ha hb hc, sd_q20 ha hb hc, sd_q21 ha hb hc, sd_q22 ha hb hc, sd_q23 ha hb hc, sd_q24 ha hb hc, sd_q25 ha hb hc, sd_q26 ha hb hc, sd_q27 ha hb hc, sd_q28 ha hb hc, sd_q29 ha hb hc]
  unfold sd_p8
  generalize a / 2 % 2 = z1
  generalize a / 4 % 2 = z2
  generalize a / 8 % 2 = z3
  generalize a / 16 % 2 = z4
  generalize a / 32 % 2 = z5
  generalize a / 64 % 2 = z6
  generalize a / 128 % 2 = z7
  generalize b / 2 % 2 = z9
  generalize b / 4 % 2 = z10
  generalize b / 8 % 2 = z11
  generalize b / 16 % 2 = z12
  generalize b / 32 % 2 = z13
  generalize b / 64 % 2 = z14
  generalize b / 128 % 2 = z15
  generalize c / 2 % 2 = z17
  generalize c / 4 % 2 = z18
  generalize c / 8 % 2 = z19
  generalize c / 16 % 2 = z20
  generalize c / 32 % 2 = z21
  generalize c / 64 % 2 = z22
  generalize c / 128 % 2 = z23
  generalize a % 2 = z0
  generalize b % 2 = z8
  generalize c % 2 = z16
  omega
