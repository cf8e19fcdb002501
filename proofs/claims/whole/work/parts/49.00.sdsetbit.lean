theorem sd_set_bit (P : Nat → Prop) [DecidablePred P] {n w : Nat} (hn : n ≤ 31) (hw : w < 32) : sd_bit (sd_set P n) (w : Int) ↔ (w < n ∧ P w) := by
  rw [sd_bit_iff _ hw, sd_set_tb P n hn hw]
  simp
theorem sd_mks_A {x : sd_M} (h1 : sd_I1 x) (h3 : sd_I3 x) (h2 : sd_I2 x) {M : Int} (hM : ∀ h : Nat, h < 24 → sd_bit M h → sd_bit (sd_mks x) h) : ∀ h : Nat, (h : Int) < x 2 → sd_bit M h → 0 ≤ x (34 + h) ∧ x (34 + h) < 6 := by
  intro h hh hb
  have i2 := h1.2.2.1
  have e := (sd_set_bit (sd_Pmk x) (n := (x 2).toNat) (w := h) (by omega) (by omega)).mp (hM h (by omega) hb)
  have k1 : x (10 + h) = 1 := by
    have := e.2.1
    rw [Int.toNat_natCast] at this
    exact this
  have a := (h3 h hh).1 k1
  have b := (h2 h (by omega)).2.1
  omega
theorem sd_andn_sub (a b : Int) : ∀ h : Nat, h < 24 → sd_bit (sd_and a (sd_xor b (-1))) h → sd_bit a h := by
  intro h hh hb
  rw [sd_bit_iff _ (by omega)] at hb ⊢
  rw [sd_tb_and] at hb
  simp at hb
  exact hb.1
def sd_lft (x : sd_M) (k : Nat → Int) (W : Int) : Nat → Int
  | 0 => W
  | i + 1 => sd_and (sd_lft x k W i) (sd_xor (sd_set (sd_stW x k (sd_hrk x k i)) (x 4).toNat) (-1))
abbrev sd_all (x : sd_M) (k : Nat → Int) (W : Int) : Prop := ∀ w, w < (x 4).toNat → (sd_and (sd_shr W w) 1 = 0 ∨ ¬ sd_fh x k w = -1)
theorem sd_lft_0 {x : sd_M} {k : Nat → Int} {W : Int} {i : Nat} (h : sd_lft x k W i = 0) : ∀ j, i ≤ j → sd_lft x k W j = 0 := by
  intro j
  induction j with
  | zero => intro hj; rw [show i = 0 by omega] at h; exact h
  | succ j ih =>
    intro hj
    by_cases e : i = j + 1
    · rw [← e]; exact h
    · simp only [sd_lft]
      rw [ih (by omega)]
      refine sd_ext (sd_R_and _ _) sd_r0 (fun q _ => ?_)
      rw [sd_tb_and, sd_tb_zero]
      rfl
theorem sd_lft_tb {x : sd_M} (h1 : sd_I1 x) (k : Nat → Int) (W : Int) {w : Nat} (hw : w < 32) (i : Nat) : sd_tb_ (sd_lft x k W i) w = (sd_tb_ W w && decide (∀ j, j < i → ¬ (w < (x 4).toNat ∧ sd_stA x k w j))) := by
  have i4 := h1.2.2.2.2.1
  induction i with
  | zero => simp [sd_lft]
  | succ i ih =>
    simp only [sd_lft]
    rw [sd_tb_and, ih, sd_tb_xor, sd_tb_neg1 hw, sd_set_tb _ _ (by omega) hw]
    by_cases a : sd_tb_ W w = true
    · rw [a]
      by_cases b : ∀ j, j < i → ¬ (w < (x 4).toNat ∧ sd_stA x k w j)
      · by_cases c : w < (x 4).toNat ∧ sd_stW x k (sd_hrk x k i) w
        · have : ¬ ∀ j, j < i + 1 → ¬ (w < (x 4).toNat ∧ sd_stA x k w j) := fun q => q i (by omega) c
          rw [decide_eq_true b, decide_eq_true c, decide_eq_false this]; rfl
        · have : ∀ j, j < i + 1 → ¬ (w < (x 4).toNat ∧ sd_stA x k w j) := sd_all_succ b c
          rw [decide_eq_true b, decide_eq_false c, decide_eq_true this]; rfl
      · have : ¬ ∀ j, j < i + 1 → ¬ (w < (x 4).toNat ∧ sd_stA x k w j) := fun q => b (fun j hj => q j (by omega))
        rw [decide_eq_false b, decide_eq_false this]; rfl
    · have : sd_tb_ W w = false := by simpa using a
      rw [this]; rfl
theorem sd_lft_all {x : sd_M} (h1 : sd_I1 x) (k : Nat → Int) {W : Int} (hW : 0 ≤ W ∧ W < ((2 ^ (x 4).toNat : Nat) : Int)) : sd_lft x k W 48 = 0 ↔ sd_all x k W := by
  have i4 := h1.2.2.2.2.1
  have p6 : 2 ^ (x 4).toNat ≤ 2 ^ 6 := Nat.pow_le_pow_right (by omega) (by omega)
  obtain ⟨n, rfl⟩ := Int.eq_ofNat_of_zero_le hW.1
  have hR : sd_R (sd_lft x k (n : Int) 48) := sd_R_and _ _
  have hout : ∀ w, w < 32 → ¬ w < (x 4).toNat → sd_tb_ (n : Int) w = false := by
    intro w hw hn
    rw [sd_tb_nat hw]
    apply Nat.testBit_lt_two_pow
    exact Nat.lt_of_lt_of_le (by omega) (Nat.pow_le_pow_right (n := 2) (by omega) (show (x 4).toNat ≤ w by omega))
  constructor
  · intro h w hw
    have e := sd_lft_tb h1 k (n : Int) (w := w) (by omega) 48
    rw [h, sd_tb_zero] at e
    rcases sd_and1 (sd_shr (n : Int) (w : Int)) with q | q
    · exact Or.inl q
    · right
      intro hf
      have hb : sd_tb_ (n : Int) w = true := (sd_bit_iff _ (by omega)).mp q
      have ha := sd_fst_all hf
      rw [hb, decide_eq_true (show ∀ j, j < 48 → ¬ (w < (x 4).toNat ∧ sd_stA x k w j) from fun j hj z => ha j hj z.2)] at e
      cases e
  · intro h
    refine sd_ext hR sd_r0 (fun w hw => ?_)
    rw [sd_lft_tb h1 k _ hw, sd_tb_zero]
    by_cases hn : w < (x 4).toNat
    · rcases h w hn with q | q
      · have : sd_tb_ (n : Int) w = false := by
          cases hb : sd_tb_ (n : Int) w with
          | false => rfl
          | true =>
            have : sd_and (sd_shr (n : Int) (w : Int)) 1 = 1 := (sd_bit_iff _ hw).mpr hb
            omega
        rw [this]; rfl
      · have : ¬ ∀ j, j < 48 → ¬ (w < (x 4).toNat ∧ sd_stA x k w j) := fun z => q (sd_fst_none (P := sd_stA x k w) (fun j hj hp => z j hj ⟨hn, hp⟩))
        rw [decide_eq_false this, Bool.and_false]
    · rw [hout w hw hn]; rfl
def sd_lsS (x : sd_M) (W b s : Int) : Int := if (b = -1 ∨ sd_ones s < sd_ones b) ∧ sd_all x (sd_mka x (sd_and (sd_mks x) (sd_xor s (-1)))) W then s else b
def sd_lss (x : sd_M) (W : Int) : Nat → Int
  | 0 => -1
  | i + 1 => sd_lsS x W (sd_lss x W i) (sd_sq (sd_mks x) i)
def sd_lsv (x : sd_M) (W : Int) : Int := sd_lss x W (sd_sqN (sd_mks x))
theorem sd_lss_rng {x : sd_M} (h1 : sd_I1 x) (W : Int) (i : Nat) : -1 ≤ sd_lss x W i ∧ sd_lss x W i < 16777216 := by
  have m := sd_mks_rng h1
  induction i with
  | zero => simp only [sd_lss]; omega
  | succ i ih =>
    have := sd_sq_rng (S := sd_mks x) (by omega) i
    simp only [sd_lss]
    unfold sd_lsS
    split <;> omega
theorem sd_p4 {x : sd_M} (h1 : sd_I1 x) : 2 ^ (x 4).toNat ≤ 64 ∧ sd_shl 1 (x 4) = ((2 ^ (x 4).toNat : Nat) : Int) := by
  have i4 := h1.2.2.2.2.1
  obtain ⟨k, hk⟩ := Int.eq_ofNat_of_zero_le i4.1
  constructor
  · exact Nat.pow_le_pow_right (n := 2) (by omega) (show (x 4).toNat ≤ 6 by omega)
  · rw [hk, sd_shl1_pow ⟨k, by omega⟩]; rfl
abbrev sd_kN (x : sd_M) : Nat → Int := sd_mka x (sd_mks x)
def sp_last (x : sd_M) (w v : Int) : Int × sd_M := if ¬ (0 ≤ w ∧ w ≤ x 4 - 1) ∨ ¬ (0 ≤ v ∧ v ≤ 1) then sd_Fd x 0 else if sd_fh x (sd_kN x) w.toNat = -1 then sd_Fd x 3 else (if v = 0 then x 0 + sd_fh x (sd_kN x) w.toNat else sd_lkA x (sd_kN x) w.toNat (sd_fh x (sd_kN x) w.toNat).toNat, x)
def sp_least (x : sd_M) (W : Int) : Int × sd_M := if ¬ (1 ≤ W ∧ W < sd_shl 1 (x 4)) then sd_Fd x 0 else if sd_lsv x W = -1 then sd_Fd x 3 else (sd_lsv x W, x)
theorem sd_fh_rng (x : sd_M) (k : Nat → Int) (w : Nat) : sd_fh x k w = -1 ∨ (0 ≤ sd_fh x k w ∧ sd_fh x k w < 48) := by
  rcases sd_fst_rng (sd_stA x k w) 48 with h | h
  · exact Or.inl h
  · exact Or.inr ⟨h.1, h.2.1⟩
