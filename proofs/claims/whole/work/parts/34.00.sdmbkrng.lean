/-! Squads by rumours. -/
abbrev sd_fg (x : sd_M) (g : Nat) : Prop := x (10 + g) = 3 ∧ x (202 + g) = 0
def sd_fcr (x : sd_M) (O : Int) (g r : Nat) : Int := if (sd_bit O r ∧ sd_fg x (x (1272 + r)).toNat) ∧ (x (1272 + r)).toNat = g then x (1278 + r) else 0
def sd_crk (x : sd_M) (O : Int) (k g : Nat) : Int := sd_sum (sd_fcr x O g) k
abbrev sd_mbP (cr sa : Nat → Int) (b : Int) (k : Nat) : Prop := 0 < cr k ∧ (b = -1 ∨ cr b.toNat * (sa k + 1) < cr k * (sa b.toNat + 1))
def sd_mbk (cr sa : Nat → Int) : Nat → Int
  | 0 => -1
  | k + 1 => if sd_mbP cr sa (sd_mbk cr sa k) k then (k : Int) else sd_mbk cr sa k
def sd_add1 (sa : Nat → Int) (b : Int) : Nat → Int := fun g => if b = -1 then sa g else if g = b.toNat then sa g + 1 else sa g
def sd_sqa (x : sd_M) (cr : Nat → Int) : Nat → Nat → Int
  | 0 => fun _ => 0
  | i + 1 => sd_add1 (sd_sqa x cr i) (sd_mbk cr (sd_sqa x cr i) (x 2).toNat)
def sd_sqd (x : sd_M) (O : Int) : Nat → Int := sd_sqa x (sd_crk x O (x 6).toNat) (x 7).toNat
theorem sd_mbk_rng (cr sa : Nat → Int) (k : Nat) : -1 ≤ sd_mbk cr sa k ∧ sd_mbk cr sa k < k := by
  induction k with
  | zero => simp only [sd_mbk]; omega
  | succ k ih => simp only [sd_mbk]; split <;> omega
theorem sd_mbk_more {cr sa : Nat → Int} {n : Nat} (h : ∀ g, n ≤ g → g < 24 → cr g = 0) : ∀ k, n ≤ k → k ≤ 24 → sd_mbk cr sa k = sd_mbk cr sa n := by
  intro k
  induction k with
  | zero => intro h1 _; rw [show n = 0 by omega]
  | succ k ih =>
    intro h1 h2
    by_cases hk : n = k + 1
    · rw [hk]
    · simp only [sd_mbk]
      rw [if_neg (fun q => by have := q.1; rw [h k (by omega) (by omega)] at this; omega), ih (by omega) (by omega)]
theorem sd_fcr_le {x : sd_M} (h7 : sd_I7 x) (O : Int) (g : Nat) : ∀ r, r < 6 → 0 ≤ sd_fcr x O g r ∧ sd_fcr x O g r ≤ 9 := by
  intro r hr
  have := h7 r hr
  unfold sd_fcr
  split <;> omega
theorem sd_crk_le {x : sd_M} (h7 : sd_I7 x) (O : Int) (g : Nat) (k : Nat) (hk : k ≤ 6) : 0 ≤ sd_crk x O k g ∧ sd_crk x O k g ≤ 54 := by
  have := sd_sum_le (f := sd_fcr x O g) (n := k) (B := 9) (fun i hi => sd_fcr_le h7 O g i (by omega))
  unfold sd_crk
  omega
theorem sd_crk_out {x : sd_M} (h1 : sd_I1 x) (h7 : sd_I7 x) (O : Int) {g : Nat} (hg : (x 2).toNat ≤ g) : sd_crk x O (x 6).toNat g = 0 := by
  have i6 := h1.2.2.2.2.2.2.1
  unfold sd_crk
  have h : ∀ k, k ≤ (x 6).toNat → sd_sum (sd_fcr x O g) k = 0 := by
    intro k
    induction k with
    | zero => intro _; rfl
    | succ k ih =>
      intro hk
      simp only [sd_sum]
      rw [ih (by omega)]
      have e := h7 k (by omega)
      have e2 := e.2.2.2 (by omega)
      unfold sd_fcr
      rw [if_neg (fun q => by have := q.2; omega)]
      rfl
  exact h _ (Nat.le_refl _)
theorem sd_sqa_rng {x : sd_M} {cr : Nat → Int} (i g : Nat) : 0 ≤ sd_sqa x cr i g ∧ sd_sqa x cr i g ≤ i := by
  induction i with
  | zero => simp only [sd_sqa]; omega
  | succ i ih =>
    simp only [sd_sqa, sd_add1]
    split
    · omega
    · split <;> omega
theorem sd_mulb {a b : Int} (ha : 0 ≤ a ∧ a ≤ 54) (hb : 0 ≤ b ∧ b ≤ 9) : 0 ≤ a * (b + 1) ∧ a * (b + 1) ≤ 540 := by
  constructor
  · exact Int.mul_nonneg ha.1 (by omega)
  · exact Int.le_trans (Int.mul_le_mul_of_nonneg_right ha.2 (by omega)) (by omega)
abbrev sd_Po (x : sd_M) (r : Nat) : Prop := x (1284 + r) = 1
def sd_tho (x : sd_M) : Int := sd_set (sd_Po x) (x 6).toNat
theorem sd_shl0 : ∀ k : Fin 32, sd_shl 0 ((k.val : Nat) : Int) = 0 := by decide +kernel
theorem sd_tho_bit {x : sd_M} (h1 : sd_I1 x) (O : Int) {r : Nat} (hr : (r : Int) < x 6) : sd_bit (sd_or (sd_tho x) O) r ↔ (x (1284 + r) = 1 ∨ sd_bit O r) := by
  have i6 := h1.2.2.2.2.2.2.1
  rw [sd_bit_iff _ (by omega), sd_bit_iff _ (by omega), sd_tb_or, show sd_tb_ (sd_tho x) r = _ from sd_set_tb (sd_Po x) (x 6).toNat (by omega) (by omega)]
  have : r < (x 6).toNat := by omega
  simp [this]
theorem sd_tho_rng {x : sd_M} (h1 : sd_I1 x) : 0 ≤ sd_tho x ∧ sd_tho x < 64 := by
  have i6 := h1.2.2.2.2.2.2.1
  refine sd_nn (k := 6) (sd_setR _ _) (by omega) (fun i a b => ?_)
  rw [sd_set_tb (sd_Po x) _ (by omega) b]
  simp
  omega
def sd_gd (x : sd_M) (sa : Nat → Int) (k : Nat) : sd_M := fun j => if (226 ≤ j ∧ j < 226 + k) ∧ sd_fg x (j - 226) then 9 * sa (j - 226) else x j
abbrev sd_Pgd (x : sd_M) (sa : Nat → Int) (g : Nat) : Prop := sd_fg x g ∧ ¬ x (226 + g) = 9 * sa g
def sp_believe (x : sd_M) : Int × sd_M := (sd_cnt (sd_Pgd x (sd_sqd x (sd_tho x))) (x 2).toNat, sd_gd x (sd_sqd x (sd_tho x)) (x 2).toNat)
theorem sd_gd_0 (x : sd_M) (sa : Nat → Int) : sd_gd x sa 0 = x := by
  funext j
  unfold sd_gd
  rw [if_neg (by omega)]
theorem sd_gd_o {x : sd_M} {sa : Nat → Int} {k j : Nat} (h : ¬ (226 ≤ j ∧ j < 226 + k)) : sd_gd x sa k j = x j := by
  unfold sd_gd
  rw [if_neg (fun q => h q.1)]
theorem sd_gd_s1 {x : sd_M} {sa : Nat → Int} {k : Nat} {v : Int} (hv : v = 9 * sa k) (h : sd_fg x k) : ∀ j, sd_up (sd_gd x sa k) (226 + k) v j = sd_gd x sa (k + 1) j := by
  intro j
  unfold sd_up
  by_cases hj : j = 226 + k
  · subst hj
    rw [if_pos rfl]
    unfold sd_gd
    rw [show 226 + k - 226 = k from by omega, if_pos ⟨by omega, h⟩, hv]
  · rw [if_neg hj]
    unfold sd_gd
    apply sd_itec
    constructor
    · intro q; exact ⟨by omega, q.2⟩
    · intro q; exact ⟨by omega, q.2⟩
theorem sd_gd_s0 {x : sd_M} {sa : Nat → Int} {k : Nat} (h : ¬ sd_fg x k ∨ x (226 + k) = 9 * sa k) : ∀ j, sd_gd x sa k j = sd_gd x sa (k + 1) j := by
  intro j
  by_cases hj : j = 226 + k
  · subst hj
    rw [sd_gd_o (by omega)]
    unfold sd_gd
    rw [show 226 + k - 226 = k from by omega]
    rcases h with h | h
    · rw [if_neg (fun q => h q.2)]
    · split
      · exact h
      · rfl
  · unfold sd_gd
    apply sd_itec
    constructor
    · intro q; exact ⟨by omega, q.2⟩
    · intro q; exact ⟨by omega, q.2⟩
/-- a step at one place of a scratch row -/
theorem sd_row_up {m m' : sd_M} {b n k : Nat} {v : Int} {f f' : Nat → Int} (h : ∀ g, g < n → m (b + g) = f g) (e : m' = sd_up m (b + k) v) (hf : ∀ g, g < n → f' g = if g = k then v else f g) : ∀ g, g < n → m' (b + g) = f' g := by
  intro g hg
  rw [e, hf g hg]
  unfold sd_up
  by_cases q : g = k
  · subst q; rw [if_pos rfl, if_pos rfl]
  · rw [if_neg (by omega), if_neg q]; exact h g hg
theorem sd_row_ke {m m' : sd_M} {b n a : Nat} {v : Int} {f : Nat → Int} (h : ∀ g, g < n → m (b + g) = f g) (e : m' = sd_up m a v) (ha : a < b ∨ b + n ≤ a) : ∀ g, g < n → m' (b + g) = f g := by
  intro g hg
  rw [e]
  unfold sd_up
  rw [if_neg (by omega)]
  exact h g hg
