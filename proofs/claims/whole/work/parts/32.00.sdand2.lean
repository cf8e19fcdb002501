/-! Subsets of a set of bits, one after the other. -/
theorem sd_and2 (a b m n : Nat) (hb : b < 2) (hn : n < 2) : (2 * a + b) &&& (2 * m + n) = 2 * (a &&& m) + (b &&& n) := by
  have hbn : b &&& n < 2 ^ 1 := Nat.and_lt_two_pow b (by omega)
  have h1 := fun i => Nat.testBit_two_pow_mul_add a (i := 1) (b := b) (by omega) i
  have h2 := fun i => Nat.testBit_two_pow_mul_add m (i := 1) (b := n) (by omega) i
  have h3 := fun i => Nat.testBit_two_pow_mul_add (a &&& m) hbn i
  simp only [Nat.reducePow] at h1 h2 h3
  apply Nat.eq_of_testBit_eq
  intro i
  rw [Nat.testBit_and, h1, h2, h3]
  by_cases h : i < 1
  · rw [if_pos h, if_pos h, if_pos h, Nat.testBit_and]
  · rw [if_neg h, if_neg h, if_neg h, Nat.testBit_and]
def sd_nxt : Nat → Nat → Nat → Nat
  | 0, _, _ => 0
  | f + 1, S, s => if S % 2 = 0 then 2 * sd_nxt f (S / 2) (s / 2) else if s % 2 = 0 then s + 1 else 2 * sd_nxt f (S / 2) (s / 2)
def sd_rk : Nat → Nat → Nat → Nat
  | 0, _, _ => 0
  | f + 1, S, s => if S % 2 = 0 then sd_rk f (S / 2) (s / 2) else s % 2 + 2 * sd_rk f (S / 2) (s / 2)
def sd_pcn : Nat → Nat → Nat
  | 0, _ => 0
  | f + 1, S => S % 2 + sd_pcn f (S / 2)
theorem sd_sub2 {s S : Nat} (h : s &&& S = s) : (s / 2 &&& S / 2) = s / 2 ∧ (S % 2 = 0 → s % 2 = 0) := by
  have e := sd_and2 (s / 2) (s % 2) (S / 2) (S % 2) (by omega) (by omega)
  rw [show 2 * (s / 2) + s % 2 = s from by omega, show 2 * (S / 2) + S % 2 = S from by omega, h] at e
  rcases (show s % 2 = 0 ∨ s % 2 = 1 by omega) with a | a <;> rcases (show S % 2 = 0 ∨ S % 2 = 1 by omega) with b | b <;> rw [a, b] at e <;> simp at e <;> omega
theorem sd_dif {s S : Nat} (h : s &&& S = s) : s ≤ S := by rw [← h]; exact Nat.and_le_right
theorem sd_cpl (f : Nat) : ∀ (S s w : Nat), S < 2 ^ f → f ≤ w → s &&& S = s → (2 ^ w - 1 - (S - s)) &&& S = s := by
  induction f with
  | zero =>
    intro S s w hS hw h
    have : S = 0 := by omega
    subst this
    have := sd_dif h
    have : s = 0 := by omega
    subst this
    exact Nat.and_zero _
  | succ f ih =>
    intro S s w hS hw h
    obtain ⟨w, rfl⟩ : ∃ v, w = v + 1 := ⟨w - 1, by omega⟩
    have h2 := sd_sub2 h
    have hd := sd_dif h
    have hd2 := sd_dif h2.1
    have hp : 2 ^ f ≤ 2 ^ w := Nat.pow_le_pow_right (by omega) (by omega)
    have i2 := ih (S / 2) (s / 2) w (by rw [Nat.pow_succ] at hS; omega) (by omega) h2.1
    rw [Nat.pow_succ] at hS ⊢
    have e := sd_and2 (2 ^ w - 1 - (S / 2 - s / 2)) (1 - (S % 2 - s % 2)) (S / 2) (S % 2) (by omega) (by omega)
    rw [show 2 * (2 ^ w - 1 - (S / 2 - s / 2)) + (1 - (S % 2 - s % 2)) = 2 ^ w * 2 - 1 - (S - s) from by omega, show 2 * (S / 2) + S % 2 = S from by omega, i2] at e
    rw [e]
    rcases (show s % 2 = 0 ∨ s % 2 = 1 by omega) with a | a <;> rcases (show S % 2 = 0 ∨ S % 2 = 1 by omega) with b | b <;> rw [a, b] <;> simp <;> omega
theorem sd_nx_eq (f : Nat) : ∀ (S s w : Nat), S < 2 ^ f → f ≤ w → s &&& S = s → (2 ^ w + s - S) &&& S = sd_nxt f S s := by
  induction f with
  | zero =>
    intro S s w hS hw h
    have : S = 0 := by omega
    subst this
    exact Nat.and_zero _
  | succ f ih =>
    intro S s w hS hw h
    obtain ⟨w, rfl⟩ : ∃ v, w = v + 1 := ⟨w - 1, by omega⟩
    have h2 := sd_sub2 h
    have hd := sd_dif h
    have hd2 := sd_dif h2.1
    have hp : 2 ^ f ≤ 2 ^ w := Nat.pow_le_pow_right (by omega) (by omega)
    have hS2 : S / 2 < 2 ^ f := by rw [Nat.pow_succ] at hS; omega
    have i2 := ih (S / 2) (s / 2) w hS2 (by omega) h2.1
    have i3 := sd_cpl f (S / 2) (s / 2) w hS2 (by omega) h2.1
    rw [Nat.pow_succ] at hS ⊢
    simp only [sd_nxt]
    by_cases hb : S % 2 = 0
    · rw [if_pos hb]
      have hc := h2.2 hb
      have e := sd_and2 (2 ^ w + s / 2 - S / 2) 0 (S / 2) 0 (by omega) (by omega)
      rw [show 2 * (2 ^ w + s / 2 - S / 2) + 0 = 2 ^ w * 2 + s - S from by omega, show 2 * (S / 2) + 0 = S from by omega, i2] at e
      rw [e]
      simp
    · rw [if_neg hb]
      by_cases hc : s % 2 = 0
      · rw [if_pos hc]
        have e := sd_and2 (2 ^ w - 1 - (S / 2 - s / 2)) 1 (S / 2) 1 (by omega) (by omega)
        rw [show 2 * (2 ^ w - 1 - (S / 2 - s / 2)) + 1 = 2 ^ w * 2 + s - S from by omega, show 2 * (S / 2) + 1 = S from by omega, i3] at e
        rw [e]
        simp
        omega
      · rw [if_neg hc]
        have e := sd_and2 (2 ^ w + s / 2 - S / 2) 0 (S / 2) 1 (by omega) (by omega)
        rw [show 2 * (2 ^ w + s / 2 - S / 2) + 0 = 2 ^ w * 2 + s - S from by omega, show 2 * (S / 2) + 1 = S from by omega, i2] at e
        rw [e]
        simp
theorem sd_rk_lt (f : Nat) : ∀ (S s : Nat), sd_rk f S s < 2 ^ sd_pcn f S := by
  induction f with
  | zero => intro S s; simp [sd_rk, sd_pcn]
  | succ f ih =>
    intro S s
    have i := ih (S / 2) (s / 2)
    simp only [sd_rk, sd_pcn]
    by_cases hb : S % 2 = 0
    · rw [if_pos hb, hb, Nat.zero_add]; exact i
    · rw [if_neg hb, show S % 2 = 1 from by omega, Nat.add_comm 1, Nat.pow_succ]; omega
theorem sd_rk_0 (f : Nat) : ∀ (S s : Nat), s < 2 ^ f → s &&& S = s → (sd_rk f S s = 0 ↔ s = 0) := by
  induction f with
  | zero => intro S s hs _; simp only [sd_rk, true_iff]; omega
  | succ f ih =>
    intro S s hs h
    have h2 := sd_sub2 h
    have i := ih (S / 2) (s / 2) (by rw [Nat.pow_succ] at hs; omega) h2.1
    simp only [sd_rk]
    by_cases hb : S % 2 = 0
    · rw [if_pos hb, i]; have := h2.2 hb; omega
    · rw [if_neg hb]; constructor
      · intro q; have := i.mp (by omega); omega
      · intro q; have := i.mpr (by omega); omega
theorem sd_nx_sub (f : Nat) : ∀ (S s : Nat), S < 2 ^ f → s &&& S = s → sd_nxt f S s &&& S = sd_nxt f S s := by
  intro S s hS h
  rw [← sd_nx_eq f S s f hS (Nat.le_refl f) h, Nat.and_assoc, Nat.and_self]
theorem sd_rk_nx' (f : Nat) : ∀ (S s : Nat), S < 2 ^ f → s &&& S = s → (sd_rk f S s + 1 < 2 ^ sd_pcn f S ∧ sd_rk f S (sd_nxt f S s) = sd_rk f S s + 1) ∨ (¬ sd_rk f S s + 1 < 2 ^ sd_pcn f S ∧ sd_rk f S (sd_nxt f S s) = 0) := by
  induction f with
  | zero => intro S s _ _; simp [sd_rk, sd_pcn, sd_nxt]
  | succ f ih =>
    intro S s hS h
    have h2 := sd_sub2 h
    have i := ih (S / 2) (s / 2) (by rw [Nat.pow_succ] at hS; omega) h2.1
    have l := sd_rk_lt f (S / 2) (s / 2)
    simp only [sd_rk, sd_pcn, sd_nxt]
    by_cases hb : S % 2 = 0
    · rw [if_pos hb, if_pos hb, if_pos hb, hb, Nat.zero_add, show 2 * sd_nxt f (S / 2) (s / 2) / 2 = sd_nxt f (S / 2) (s / 2) from by omega]
      exact i
    · rw [if_neg hb, if_neg hb, if_neg hb, show S % 2 = 1 from by omega, Nat.add_comm 1, Nat.pow_succ]
      by_cases hc : s % 2 = 0
      · rw [if_pos hc, hc, show (s + 1) % 2 = 1 from by omega, show (s + 1) / 2 = s / 2 from by omega]; omega
      · rw [if_neg hc, show s % 2 = 1 from by omega, show 2 * sd_nxt f (S / 2) (s / 2) / 2 = sd_nxt f (S / 2) (s / 2) from by omega, show 2 * sd_nxt f (S / 2) (s / 2) % 2 = 0 from by omega]
        omega
theorem sd_rk_nx (f : Nat) (S s : Nat) (hS : S < 2 ^ f) (h : s &&& S = s) : sd_rk f S (sd_nxt f S s) = if sd_rk f S s + 1 < 2 ^ sd_pcn f S then sd_rk f S s + 1 else 0 := by
  rcases sd_rk_nx' f S s hS h with ⟨a, b⟩ | ⟨a, b⟩
  · rw [if_pos a, b]
  · rw [if_neg a, b]
def sd_itn (S : Nat) : Nat → Nat
  | 0 => 0
  | i + 1 => sd_nxt 30 S (sd_itn S i)
theorem sd_itn_sub {S : Nat} (hS : S < 2 ^ 30) (i : Nat) : sd_itn S i &&& S = sd_itn S i := by
  induction i with
  | zero => exact Nat.zero_and _
  | succ i ih => exact sd_nx_sub 30 S _ hS ih
theorem sd_itn_rk {S : Nat} (hS : S < 2 ^ 30) (i : Nat) (hi : i < 2 ^ sd_pcn 30 S) : sd_rk 30 S (sd_itn S i) = i := by
  induction i with
  | zero => exact (sd_rk_0 30 S 0 (by omega) (Nat.zero_and _)).mpr rfl
  | succ i ih =>
    have e := sd_rk_nx 30 S (sd_itn S i) hS (sd_itn_sub hS i)
    rw [ih (by omega), if_pos hi] at e
    exact e
theorem sd_itn_lt {S : Nat} (hS : S < 2 ^ 30) (i : Nat) : sd_itn S i < 2 ^ 30 := by have := sd_dif (sd_itn_sub hS i); omega
theorem sd_itn_0 {S : Nat} (hS : S < 2 ^ 30) (i : Nat) (hi : i < 2 ^ sd_pcn 30 S) : sd_itn S (i + 1) = 0 ↔ ¬ i + 1 < 2 ^ sd_pcn 30 S := by
  have e := sd_rk_nx 30 S (sd_itn S i) hS (sd_itn_sub hS i)
  rw [sd_itn_rk hS i hi] at e
  rw [← sd_rk_0 30 S (sd_itn S (i + 1)) (sd_itn_lt hS _) (sd_itn_sub hS _)]
  show sd_rk 30 S (sd_nxt 30 S (sd_itn S i)) = 0 ↔ _
  rw [e]
  split <;> omega
theorem sd_pcn_top (k : Nat) : ∀ n : Nat, sd_pcn (k + 1) n = sd_pcn k n + n / 2 ^ k % 2 := by
  induction k with
  | zero => intro n; simp [sd_pcn]
  | succ k ih =>
    intro n
    have e := ih (n / 2)
    rw [Nat.div_div_eq_div_mul, show 2 * 2 ^ k = 2 ^ (k + 1) from by rw [Nat.pow_succ]; omega] at e
    show n % 2 + sd_pcn (k + 1) (n / 2) = (n % 2 + sd_pcn k (n / 2)) + n / 2 ^ (k + 1) % 2
    omega
theorem sd_pcn_cnt (n : Nat) (k : Nat) (hk : k ≤ 32) : sd_cnt (sd_Pbt (n : Int)) k = (sd_pcn k n : Int) := by
  induction k with
  | zero => rfl
  | succ k ih =>
    simp only [sd_cnt]
    rw [ih (by omega), sd_cb (by omega), sd_pcn_top]
    omega
/-- the sequence in the machine's words -/
def sd_sq (S : Int) : Nat → Int
  | 0 => 0
  | i + 1 => sd_and (sd_sq S i - S) S
theorem sd_sub_and {s S : Nat} (hs : s ≤ S) (hS : S < 2 ^ 30) : sd_and ((s : Int) - (S : Int)) (S : Int) = (((2 ^ 32 + s - S) &&& S : Nat) : Int) := by
  have hle : (2 ^ 32 + s - S) &&& S ≤ S := Nat.and_le_right
  refine sd_ext (sd_R_and _ _) ⟨by omega, by omega⟩ (fun i hi => ?_)
  rw [sd_tb_and, sd_tb_nat hi, sd_tb_nat hi, Nat.testBit_and]
  congr 1
  have e : sd_bv ((s : Int) - (S : Int)) = BitVec.ofNat 32 (2 ^ 32 + s - S) := by
    show BitVec.ofInt 32 ((s : Int) - (S : Int)) = _
    apply BitVec.eq_of_toNat_eq
    rw [BitVec.toNat_ofInt, BitVec.toNat_ofNat]
    omega
  unfold sd_tb_
  rw [e, BitVec.getLsbD_ofNat]
  simp [hi]
theorem sd_sq_nat {S : Nat} (hS : S < 2 ^ 30) (i : Nat) : sd_sq (S : Int) i = ((sd_itn S i : Nat) : Int) := by
  induction i with
  | zero => rfl
  | succ i ih =>
    simp only [sd_sq]
    rw [ih, sd_sub_and (sd_dif (sd_itn_sub hS i)) hS, sd_nx_eq 30 S _ 32 hS (by omega) (sd_itn_sub hS i)]
    rfl
def sd_sqN (S : Int) : Nat := 2 ^ (sd_ones S).toNat
theorem sd_sqN_nat (n : Nat) : sd_sqN (n : Int) = 2 ^ sd_pcn 30 n := by
  unfold sd_sqN sd_ones
  rw [sd_pcn_cnt n 30 (by omega)]
  rfl
theorem sd_sq_rng {S : Int} (h : 0 ≤ S ∧ S < 1073741824) (i : Nat) : 0 ≤ sd_sq S i ∧ sd_sq S i ≤ S := by
  obtain ⟨n, rfl⟩ := Int.eq_ofNat_of_zero_le h.1
  have hn : n < 2 ^ 30 := by omega
  rw [sd_sq_nat hn]
  have := sd_dif (sd_itn_sub hn i)
  omega
theorem sd_sq_0 {S : Int} (h : 0 ≤ S ∧ S < 1073741824) (i : Nat) (hi : i < sd_sqN S) : ¬ sd_sq S (i + 1) = 0 ↔ i + 1 < sd_sqN S := by
  obtain ⟨n, rfl⟩ := Int.eq_ofNat_of_zero_le h.1
  have hn : n < 2 ^ 30 := by omega
  rw [sd_sqN_nat] at hi ⊢
  rw [sd_sq_nat hn]
  have := sd_itn_0 hn i hi
  omega
theorem sd_sqN_pos (S : Int) : 0 < sd_sqN S := Nat.two_pow_pos _
theorem sd_sqN_le (S : Int) : sd_sqN S ≤ 1073741824 := by
  have := sd_ones_rng S
  exact Nat.pow_le_pow_right (n := 2) (by omega) (show (sd_ones S).toNat ≤ 30 by omega)
theorem sd_shl1_pow : ∀ k : Fin 31, sd_shl 1 ((k.val : Nat) : Int) = ((2 ^ k.val : Nat) : Int) := by decide +kernel
theorem sd_shl_ones (S : Int) : sd_shl 1 (sd_ones S) = ((sd_sqN S : Nat) : Int) := by
  have h := sd_ones_rng S
  obtain ⟨k, hk⟩ := Int.eq_ofNat_of_zero_le h.1
  unfold sd_sqN
  rw [hk]
  exact sd_shl1_pow ⟨k, by omega⟩
theorem sd_set_tb (P : Nat → Prop) [DecidablePred P] (n : Nat) (hn : n ≤ 31) {i : Nat} (hi : i < 32) : sd_tb_ (sd_set P n) i = decide (i < n ∧ P i) := by
  induction n with
  | zero => rw [show sd_set P 0 = 0 from rfl, sd_tb_zero]; simp
  | succ n ih =>
    have ih := ih (by omega)
    simp only [sd_set]
    by_cases hp : P n
    · rw [if_pos hp, sd_tb_or, ih, sd_tb_shl1 (by omega) hi]
      by_cases he : i = n
      · subst he; simp [hp]
      · have : (i < n + 1) = (i < n) := by apply propext; omega
        simp [he, this]
    · rw [if_neg hp, ih]
      by_cases he : i = n
      · subst he; simp [hp]
      · have : (i < n + 1) = (i < n) := by apply propext; omega
        simp [this]
theorem sd_nn {a : Int} (h : sd_R a) {k : Nat} (hk : k ≤ 31) (hz : ∀ i, k ≤ i → i < 32 → sd_tb_ a i = false) : 0 ≤ a ∧ a < ((2 ^ k : Nat) : Int) := by
  have h0 : 0 ≤ a := by
    rcases Int.lt_or_le a 0 with q | q
    · have := (sd_neg_iff h).mp q
      rw [hz 31 hk (by omega)] at this
      cases this
    · exact q
  obtain ⟨n, rfl⟩ := Int.eq_ofNat_of_zero_le h0
  have : n < 2 ^ k := by
    apply Nat.lt_pow_two_of_testBit
    intro i hi
    by_cases hi2 : i < 32
    · rw [← sd_tb_nat hi2]; exact hz i hi hi2
    · apply Nat.testBit_lt_two_pow
      have : 2 ^ 32 ≤ 2 ^ i := Nat.pow_le_pow_right (by omega) (by omega)
      have := h.2
      omega
  omega
theorem sd_set_rng (P : Nat → Prop) [DecidablePred P] (n : Nat) (hn : n ≤ 24) : 0 ≤ sd_set P n ∧ sd_set P n < 16777216 := by
  refine sd_nn (k := 24) (sd_setR P n) (by omega) (fun i h1 h2 => ?_)
  rw [sd_set_tb P n (by omega) h2]
  simp
  omega
theorem sd_sub_rng {s : Int} (hs : sd_R s) (P : Nat → Prop) [DecidablePred P] {n : Nat} (hn : n ≤ 24) (h : sd_and s (sd_xor (sd_set P n) (-1)) = 0) : 0 ≤ s ∧ s < 16777216 := by
  refine sd_nn (k := 24) hs (by omega) (fun i h1 h2 => ?_)
  have e : sd_tb_ (sd_and s (sd_xor (sd_set P n) (-1))) i = false := by rw [h, sd_tb_zero]
  rw [sd_tb_and, sd_tb_xor, sd_tb_neg1 h2, sd_set_tb P n (by omega) h2] at e
  have : ¬ (i < n ∧ P i) := by omega
  simpa [this] using e
