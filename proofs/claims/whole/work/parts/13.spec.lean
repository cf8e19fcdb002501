/-! What a state is: the invariant of canonical memory. y: the site's rows that both hold alike; z: the class's own. -/
abbrev sd_isH (x : sd_M) (h : Int) : Prop := 0 ≤ h ∧ h ≤ x 2 - 1
abbrev sd_shp (y : sd_M) (v : Int) : Prop := 0 ≤ v ∧ v < y 2 ∧ (y (10 + v.toNat) = 1 ∨ y (10 + v.toNat) = 2)
abbrev sd_isK (k0 k : Int) : Prop := k = 0 ∨ k0 = k ∨ (k = 1 ∧ k0 = 2) ∨ (k = 4 ∧ k0 = 5)
abbrev sd_isA (x : sd_M) (h k : Int) : Prop := sd_isH x h ∧ sd_isK (x (10 + h.toNat)) k
def sd_cnt (P : Nat → Prop) [DecidablePred P] : Nat → Int
  | 0 => 0
  | n + 1 => sd_cnt P n + (if P n then 1 else 0)
theorem sd_cnt_le (P : Nat → Prop) [DecidablePred P] (n : Nat) : 0 ≤ sd_cnt P n ∧ sd_cnt P n ≤ n := by
  induction n with
  | zero => exact ⟨Int.le_refl 0, Int.le_refl 0⟩
  | succ n ih =>
    simp only [sd_cnt]
    split <;> constructor <;> omega
theorem sd_cnt_congr {P P' : Nat → Prop} [DecidablePred P] [DecidablePred P'] {n : Nat} (h : ∀ i, i < n → (P i ↔ P' i)) : sd_cnt P n = sd_cnt P' n := by
  induction n with
  | zero => rfl
  | succ n ih =>
    simp only [sd_cnt]
    rw [ih (fun i hi => h i (by omega))]
    congr 1
    by_cases hp : P n
    · rw [if_pos hp, if_pos ((h n (by omega)).mp hp)]
    · rw [if_neg hp, if_neg (fun q => hp ((h n (by omega)).mpr q))]
def sd_sum (f : Nat → Int) : Nat → Int
  | 0 => 0
  | n + 1 => sd_sum f n + f n
theorem sd_sum_le {f : Nat → Int} {n : Nat} {B : Int} (h : ∀ i, i < n → 0 ≤ f i ∧ f i ≤ B) : 0 ≤ sd_sum f n ∧ sd_sum f n ≤ n * B := by
  induction n with
  | zero => simp [sd_sum]
  | succ n ih =>
    have h1 := ih (fun i hi => h i (by omega))
    have h2 := h n (by omega)
    simp only [sd_sum]
    constructor
    · omega
    · rw [show ((n + 1 : Nat) : Int) * B = (n : Int) * B + B by rw [Int.natCast_add, Int.add_mul]; simp]
      omega
theorem sd_sum_congr {f f' : Nat → Int} {n : Nat} (h : ∀ i, i < n → f i = f' i) : sd_sum f n = sd_sum f' n := by
  induction n with
  | zero => rfl
  | succ n ih => simp only [sd_sum]; rw [ih (fun i hi => h i (by omega)), h n (by omega)]
def sd_I1 (y : sd_M) : Prop := (0 ≤ y 0 ∧ y 0 ≤ 959) ∧ (0 ≤ y 1 ∧ y 1 ≤ 9) ∧ (0 ≤ y 2 ∧ y 2 ≤ 24) ∧ (0 ≤ y 3 ∧ y 3 ≤ 16) ∧ (0 ≤ y 4 ∧ y 4 ≤ 6) ∧ (0 ≤ y 5 ∧ y 5 ≤ 8) ∧ (0 ≤ y 6 ∧ y 6 ≤ 6) ∧ (0 ≤ y 7 ∧ y 7 ≤ 9) ∧ (0 ≤ y 8 ∧ y 8 ≤ 6 * y 0 + 6)
def sd_I2 (y : sd_M) : Prop := ∀ i : Nat, i < 24 → (0 ≤ y (10 + i) ∧ y (10 + i) ≤ 6) ∧ (0 ≤ y (34 + i) ∧ y (34 + i) ≤ 99) ∧ (0 ≤ y (58 + i) ∧ y (58 + i) ≤ 99) ∧ (0 ≤ y (82 + i) ∧ y (82 + i) ≤ 20) ∧ (0 ≤ y (106 + i) ∧ y (106 + i) ≤ 1) ∧ (0 ≤ y (130 + i) ∧ y (130 + i) ≤ 1) ∧ (0 ≤ y (154 + i) ∧ y (154 + i) ≤ 99) ∧ (0 ≤ y (178 + i) ∧ y (178 + i) ≤ 9) ∧ (0 ≤ y (202 + i) ∧ y (202 + i) ≤ 1) ∧ (0 ≤ y (226 + i) ∧ y (226 + i) ≤ 99) ∧ (0 ≤ y (250 + i) ∧ y (250 + i) ≤ 1) ∧ (0 ≤ y (274 + i) ∧ y (274 + i) ≤ 99) ∧ (0 ≤ y (298 + i) ∧ y (298 + i) ≤ 99)
def sd_I3 (y : sd_M) : Prop := ∀ i : Nat, (i : Int) < y 2 → (y (10 + i) = 1 → y (34 + i) ≤ 5 ∧ y (58 + i) ≤ 9) ∧ (y (10 + i) = 2 → 1 ≤ y (34 + i) ∧ y (34 + i) ≤ 9) ∧ (y (10 + i) = 3 → sd_shp y (y (34 + i)) ∧ (y (58 + i) = 99 ∨ sd_shp y (y (58 + i)))) ∧ (y (10 + i) = 4 → sd_shp y (y (34 + i)) ∧ y (58 + i) ≤ 1) ∧ (y (10 + i) = 5 → y (34 + i) = 0 ∧ y (58 + i) ≤ 1) ∧ (y (10 + i) ≠ 3 → y (202 + i) = 0)
def sd_I4 (y : sd_M) : Prop := ∀ i : Nat, i < 16 → (-1 ≤ y (322 + i) ∧ y (322 + i) ≤ 23) ∧ (0 ≤ y (338 + i) ∧ y (338 + i) ≤ 99) ∧ (0 ≤ y (354 + i) ∧ y (354 + i) ≤ 99) ∧ (0 ≤ y (370 + i) ∧ y (370 + i) ≤ 99) ∧ ((i : Int) < y 3 → y (322 + i) = -1 ∨ sd_shp y (y (322 + i)))
def sd_I5 (y : sd_M) : Prop := (∀ i : Nat, i < 6 → 0 ≤ y (386 + i) ∧ y (386 + i) ≤ 9999) ∧ ∀ i : Nat, i < 36 → 0 ≤ y (392 + i) ∧ y (392 + i) ≤ 9
def sd_I6 (y : sd_M) : Prop := (∀ i : Nat, i < 8 → (0 ≤ y (428 + i) ∧ y (428 + i) ≤ 3) ∧ (0 ≤ y (436 + i) ∧ y (436 + i) ≤ 959) ∧ (0 ≤ y (444 + i) ∧ y (444 + i) ≤ 959) ∧ (0 ≤ y (452 + i) ∧ y (452 + i) ≤ 959) ∧ ((i : Int) < y 5 → y (452 + i) ≤ y 0)) ∧ ∀ i : Nat, i < 4 → -1 ≤ y (1268 + i) ∧ y (1268 + i) ≤ y 0
def sd_I7 (y : sd_M) : Prop := ∀ i : Nat, i < 6 → (0 ≤ y (1272 + i) ∧ y (1272 + i) ≤ 23) ∧ (0 ≤ y (1278 + i) ∧ y (1278 + i) ≤ 9) ∧ (0 ≤ y (1284 + i) ∧ y (1284 + i) ≤ 1) ∧ ((i : Int) < y 6 → y (1272 + i) < y 2 ∧ y (10 + (y (1272 + i)).toNat) = 3 ∧ 1 ≤ y (1278 + i))
def sd_shops (y : sd_M) : Int := sd_cnt (fun i => y (10 + i) = 1 ∨ y (10 + i) = 2) (y 2).toNat
def sd_I8 (y z : sd_M) : Prop := (z 4 = sd_shops y ∧ z 4 ≤ 8) ∧ (∀ i : Nat, i < 6 → (0 ≤ z (500 + i) ∧ z (500 + i) ≤ 999) ∧ (0 ≤ z (506 + i) ∧ z (506 + i) ≤ z (500 + i)) ∧ y (1290 + 2 * i) = z (500 + i) ∧ y (1291 + 2 * i) = z (506 + i)) ∧ ∀ i : Nat, i < 6 → (-9 ≤ z (520 + i) ∧ z (520 + i) ≤ 9) ∧ (-9 ≤ z (526 + i) ∧ z (526 + i) ≤ 9) ∧ y (1302 + 2 * i) = z (520 + i) ∧ y (1303 + 2 * i) = z (526 + i)
theorem sd_itec {P P' : Prop} [Decidable P] [Decidable P'] {α : Type} {a b : α} (h : P ↔ P') : (if P then a else b) = (if P' then a else b) := by
  by_cases hp : P
  · rw [if_pos hp, if_pos (h.mp hp)]
  · rw [if_neg hp, if_neg (fun q => hp (h.mpr q))]
/-- the first number below n of which P holds, or -1 -/
def sd_fst (P : Nat → Prop) [DecidablePred P] : Nat → Int
  | 0 => -1
  | n + 1 => if sd_fst P n = -1 then (if P n then (n : Int) else -1) else sd_fst P n
theorem sd_fst_none {P : Nat → Prop} [DecidablePred P] {n : Nat} (h : ∀ j, j < n → ¬ P j) : sd_fst P n = -1 := by
  induction n with
  | zero => rfl
  | succ n ih =>
    simp only [sd_fst]
    rw [if_pos (ih (fun j hj => h j (by omega))), if_neg (h n (by omega))]
theorem sd_fst_at {P : Nat → Prop} [DecidablePred P] {n i : Nat} (h : ∀ j, j < i → ¬ P j) (hp : P i) (hi : i < n) : sd_fst P n = (i : Int) := by
  induction n with
  | zero => omega
  | succ n ih =>
    simp only [sd_fst]
    by_cases hin : i = n
    · subst hin
      rw [if_pos (sd_fst_none h), if_pos hp]
    · rw [ih (by omega), if_neg (by omega)]
theorem sd_fst_rng (P : Nat → Prop) [DecidablePred P] (n : Nat) : sd_fst P n = -1 ∨ (0 ≤ sd_fst P n ∧ sd_fst P n < n ∧ P (sd_fst P n).toNat) := by
  induction n with
  | zero => exact Or.inl rfl
  | succ n ih =>
    simp only [sd_fst]
    split
    · split
      · right
        refine ⟨by omega, by omega, ?_⟩
        rw [Int.toNat_natCast]
        assumption
      · left; rfl
    · right
      rcases ih with h | h
      · contradiction
      · exact ⟨h.1, by omega, h.2.2⟩
theorem sd_or_b (A B : Prop) [Decidable A] [Decidable B] : sd_or (sd_b A) (sd_b B) = sd_b (A ∨ B) := by
  unfold sd_b
  by_cases ha : A <;> by_cases hb : B <;> simp [ha, hb] <;> decide
theorem sd_and_b (A B : Prop) [Decidable A] [Decidable B] : sd_and (sd_b A) (sd_b B) = sd_b (A ∧ B) := by
  unfold sd_b
  by_cases ha : A <;> by_cases hb : B <;> simp [ha, hb] <;> decide
section ForH
variable {S : List sd_C} {n : Nat} {Y : sd_Y} {pc : Nat} {ls : List (Option sd_V)} {st : List sd_V} {m : sd_M} {Q : Option sd_V → sd_M → Prop}
theorem sd_forH (N : Nat) (L : Nat → List (Option sd_V)) (H : Nat → Prop) (e1 : ls = L 0) (step : ∀ i, i < N → H i → (H (i + 1) → sd_Wp S n Y pc (L (i + 1)) st m Q) → sd_Wp S n Y pc (L i) st m Q) (last : H N → sd_Wp S n Y pc (L N) st m Q) (h0 : H 0) : sd_Wp S n Y pc ls st m Q := by
  subst e1
  have h : ∀ k, k ≤ N → H (N - k) → sd_Wp S n Y pc (L (N - k)) st m Q := by
    intro k
    induction k with
    | zero => intro _ h; exact last h
    | succ k ih =>
      intro hk hh
      refine step (N - (k + 1)) (by omega) hh (fun h' => ?_)
      rw [show N - (k + 1) + 1 = N - k by omega] at h' ⊢
      exact ih (by omega) h'
  have := h N (Nat.le_refl N)
  rw [Nat.sub_self] at this
  exact this h0
end ForH
theorem sd_all_succ {P : Nat → Prop} {i : Nat} (h : ∀ j, j < i → ¬ P j) (hn : ¬ P i) : ∀ j, j < i + 1 → ¬ P j := by
  intro j hj
  by_cases he : j = i
  · subst he; exact hn
  · exact h j (by omega)
