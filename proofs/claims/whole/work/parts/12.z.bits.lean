/-! Sets told by bits. -/
abbrev sd_bv (x : Int) : BitVec 32 := (Int32.ofInt x).toBitVec
def sd_tb_ (x : Int) (i : Nat) : Bool := (sd_bv x).getLsbD i
/-- what the code asks: (set >> i & 1) == 1 -/
abbrev sd_bit (s i : Int) : Prop := sd_and (sd_shr s i) 1 = 1
theorem sd_smod : ∀ i : Fin 32, ((Int32.ofInt ((i : Nat) : Int) &&& 31).toBitVec.smod 32) = BitVec.ofNat 32 i := by decide +kernel
theorem sd_bvt (c : Int32) : sd_bv c.toInt = c.toBitVec := by unfold sd_bv; rw [Int32.ofInt_toInt]
theorem sd_shr_bv (s : Int) {i : Nat} (h : i < 32) : sd_bv (sd_shr s i) = (sd_bv s).sshiftRight i := by
  unfold sd_shr
  rw [sd_bvt]
  show BitVec.sshiftRight' (sd_bv s) ((Int32.ofInt (i : Int) &&& 31).toBitVec.smod 32) = _
  rw [sd_smod ⟨i, h⟩, BitVec.sshiftRight'_ofNat_eq_sshiftRight, Nat.mod_eq_of_lt (by show i < 2 ^ 32; omega)]
theorem sd_shl_bv (s : Int) {i : Nat} (h : i < 32) : sd_bv (sd_shl s i) = (sd_bv s) <<< i := by
  unfold sd_shl
  rw [sd_bvt]
  show (sd_bv s) <<< ((Int32.ofInt (i : Int) &&& 31).toBitVec.smod 32) = _
  rw [sd_smod ⟨i, h⟩, BitVec.shiftLeft_eq', BitVec.toNat_ofNat, Nat.mod_eq_of_lt (by omega)]
theorem sd_and_bv (a b : Int) : sd_bv (sd_and a b) = sd_bv a &&& sd_bv b := by
  unfold sd_and
  rw [sd_bvt]
  rfl
theorem sd_or_bv (a b : Int) : sd_bv (sd_or a b) = sd_bv a ||| sd_bv b := by
  unfold sd_or
  rw [sd_bvt]
  rfl
theorem sd_xor_bv (a b : Int) : sd_bv (sd_xor a b) = sd_bv a ^^^ sd_bv b := by
  unfold sd_xor
  rw [sd_bvt]
  rfl
theorem sd_bv_inj {a b : Int} (ha : sd_R a) (hb : sd_R b) (h : sd_bv a = sd_bv b) : a = b := by
  have : Int32.ofInt a = Int32.ofInt b := Int32.toBitVec_inj.mp h
  exact (sd_eq ha hb).mp this
theorem sd_ext {a b : Int} (ha : sd_R a) (hb : sd_R b) (h : ∀ i, i < 32 → sd_tb_ a i = sd_tb_ b i) : a = b := by
  apply sd_bv_inj ha hb
  apply BitVec.eq_of_getLsbD_eq
  intro i hi
  exact h i hi
theorem sd_R_and (a b : Int) : sd_R (sd_and a b) := sd_rt _
theorem sd_R_or (a b : Int) : sd_R (sd_or a b) := sd_rt _
theorem sd_R_xor (a b : Int) : sd_R (sd_xor a b) := sd_rt _
theorem sd_R_shl (a b : Int) : sd_R (sd_shl a b) := sd_rt _
theorem sd_R_shr (a b : Int) : sd_R (sd_shr a b) := sd_rt _
theorem sd_tb_and (a b : Int) (i : Nat) : sd_tb_ (sd_and a b) i = (sd_tb_ a i && sd_tb_ b i) := by unfold sd_tb_; rw [sd_and_bv, BitVec.getLsbD_and]
theorem sd_tb_or (a b : Int) (i : Nat) : sd_tb_ (sd_or a b) i = (sd_tb_ a i || sd_tb_ b i) := by unfold sd_tb_; rw [sd_or_bv, BitVec.getLsbD_or]
theorem sd_tb_xor (a b : Int) (i : Nat) : sd_tb_ (sd_xor a b) i = (sd_tb_ a i ^^ sd_tb_ b i) := by unfold sd_tb_; rw [sd_xor_bv, BitVec.getLsbD_xor]
theorem sd_tb_zero (i : Nat) : sd_tb_ 0 i = false := by
  unfold sd_tb_
  show (0#32).getLsbD i = false
  simp
theorem sd_tb_one (i : Nat) : sd_tb_ 1 i = decide (i = 0) := by
  unfold sd_tb_
  show (1#32).getLsbD i = _
  simp
theorem sd_tb_neg1 {i : Nat} (h : i < 32) : sd_tb_ (-1) i = true := by
  unfold sd_tb_
  rw [show sd_bv (-1) = BitVec.allOnes 32 from by decide, BitVec.getLsbD_allOnes]
  exact decide_eq_true h
theorem sd_tb_shl1 {k i : Nat} (hk : k < 32) (hi : i < 32) : sd_tb_ (sd_shl 1 k) i = decide (i = k) := by
  unfold sd_tb_
  rw [sd_shl_bv 1 hk]
  show ((1#32) <<< k).getLsbD i = _
  rw [BitVec.getLsbD_shiftLeft, BitVec.getLsbD_one]
  by_cases h1 : i = k
  · subst h1; simp [hi]
  · by_cases h2 : i < k
    · simp [h1, h2]
    · have : ¬ i - k = 0 := by omega
      simp [h1, this]
theorem sd_bit_iff (s : Int) {i : Nat} (h : i < 32) : sd_bit s i ↔ sd_tb_ s i = true := by
  unfold sd_bit
  have e : sd_and (sd_shr s i) 1 = 1 ↔ sd_tb_ (sd_and (sd_shr s i) 1) 0 = true := by
    constructor
    · intro h1; rw [h1, sd_tb_one]; rfl
    · intro h1
      refine sd_ext (sd_R_and _ _) ⟨by omega, by omega⟩ (fun j hj => ?_)
      by_cases hj0 : j = 0
      · subst hj0; rw [h1, sd_tb_one]; rfl
      · rw [sd_tb_and, sd_tb_one]; simp [hj0]
  rw [e, sd_tb_and, sd_tb_one]
  unfold sd_tb_
  rw [sd_shr_bv s h, BitVec.getLsbD_sshiftRight]
  have h3 : ¬ 32 ≤ i := by omega
  simp [h, h3]
theorem sd_bit_int (s : Int) {v : Int} (h0 : 0 ≤ v) (h1 : v < 32) : sd_bit s v ↔ sd_tb_ s v.toNat = true := by
  obtain ⟨i, rfl⟩ := Int.eq_ofNat_of_zero_le h0
  exact sd_bit_iff s (by omega)
theorem sd_tb_shl1i {v : Int} (h0 : 0 ≤ v) (h1 : v < 32) {i : Nat} (hi : i < 32) : sd_tb_ (sd_shl 1 v) i = decide (i = v.toNat) := by
  obtain ⟨k, rfl⟩ := Int.eq_ofNat_of_zero_le h0
  exact sd_tb_shl1 (by omega) hi
/-- negative just if bit 31 is set -/
theorem sd_neg_iff {a : Int} (h : sd_R a) : a < 0 ↔ sd_tb_ a 31 = true := by
  unfold sd_tb_
  have h1 : (sd_bv a).toInt = a := sd_ti h
  have h2 : (sd_bv a).msb = (sd_bv a).getLsbD 31 := by rw [BitVec.msb_eq_getLsbD_last]
  rw [← h2, BitVec.msb_eq_toInt, h1]
  simp
theorem sd_or_0 {a : Int} (h : sd_R a) : sd_or a 0 = a := sd_ext (sd_R_or _ _) h (fun i _ => by rw [sd_tb_or, sd_tb_zero, Bool.or_false])
/-- the two ways in which it is asked whether a gate's end is reached -/
theorem sd_and_two (s : Int) {a b : Int} (a0 : 0 ≤ a) (a1 : a < 32) (b0 : 0 ≤ b) (b1 : b < 32) : ¬ sd_and s (sd_or (sd_shl 1 a) (sd_shl 1 b)) = 0 ↔ (sd_bit s a ∨ sd_bit s b) := by
  rw [sd_bit_int s a0 a1, sd_bit_int s b0 b1]
  have hz : sd_and s (sd_or (sd_shl 1 a) (sd_shl 1 b)) = 0 ↔ ∀ i, i < 32 → sd_tb_ (sd_and s (sd_or (sd_shl 1 a) (sd_shl 1 b))) i = false := by
    constructor
    · intro h i _; rw [h, sd_tb_zero]
    · intro h; exact sd_ext (sd_R_and _ _) sd_r0 (fun i hi => by rw [h i hi, sd_tb_zero])
  rw [hz]
  constructor
  · intro h
    have h' := Classical.not_forall.mp h
    obtain ⟨i, hi⟩ := h'
    obtain ⟨hi, h2⟩ := Classical.not_imp.mp hi
    rw [sd_tb_and, sd_tb_or, sd_tb_shl1i a0 a1 hi, sd_tb_shl1i b0 b1 hi] at h2
    simp only [Bool.and_eq_false_iff, Bool.or_eq_false_iff, decide_eq_false_iff_not, not_or, not_and, Classical.not_not] at h2
    obtain ⟨h3, h4⟩ := h2
    have h5 : sd_tb_ s i = true := by simpa using h3
    by_cases hc : i = a.toNat
    · left; rw [← hc]; exact h5
    · right; rw [← h4 hc]; exact h5
  · intro h hall
    rcases h with h | h
    · have := hall a.toNat (by omega)
      rw [sd_tb_and, sd_tb_or, sd_tb_shl1i a0 a1 (by omega), h] at this
      simp at this
    · have := hall b.toNat (by omega)
      rw [sd_tb_and, sd_tb_or, sd_tb_shl1i b0 b1 (by omega), h] at this
      simp at this
