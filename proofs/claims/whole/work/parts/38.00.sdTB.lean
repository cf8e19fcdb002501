/-! The reading of a text. B: the byte at a place, -1 behind the last. -/
def sd_TB (x : sd_M) (B : Nat → Int) (n : Nat) : Prop := x 4100 = (n : Int) ∧ n ≤ 100 ∧ (∀ q, q < n → x (4000 + q) = B q) ∧ ∀ q, n ≤ q → B q = -1
abbrev sd_Pmm (B : Nat → Int) (p i : Nat) (k : Nat) : Prop := ¬ B (p + k) = sd_wch i k
def sd_ff (B : Nat → Int) (p i : Nat) : Int := sd_fst (sd_Pmm B p i) (sd_len.getD i 0)
def sd_fe (B : Nat → Int) (p i : Nat) : Nat := if sd_ff B p i = -1 then p + sd_len.getD i 0 else p + (sd_ff B p i).toNat
def sd_roA (B : Nat → Int) (p : Nat) : List Nat → Nat → Nat ⊕ (Nat × Nat)
  | [], _ => .inl p
  | i :: ws, j => if (¬ sd_len.getD i 0 = 0) ∧ B p = sd_wch i 0 then (if sd_ff B p i = -1 then .inr (j, sd_fe B p i) else .inl (sd_fe B p i)) else sd_roA B p ws (j + 1)
abbrev sd_dg (v : Int) : Prop := 48 ≤ v ∧ v ≤ 57
def sd_dn (B : Nat → Int) (p : Nat) : Nat := if ¬ sd_dg (B p) then 0 else if ¬ sd_dg (B (p + 1)) then 1 else if ¬ sd_dg (B (p + 2)) then 2 else 3
def sd_nv (B : Nat → Int) (p : Nat) : Nat → Int
  | 0 => -1
  | k + 1 => 10 * max 0 (sd_nv B p k) + B (p + k) - 48
def sd_ts (B : Nat → Int) (p : Nat) : Nat ⊕ ((Nat × Nat × Int) × Nat) :=
  match sd_roA B p [8, 9, 10, 11] 0 with
  | .inl q => .inl q
  | .inr (f, q) => match sd_roA B q [12, 13, 14, 2] 0 with
    | .inl q => .inl q
    | .inr (o, q) => if sd_dn B q = 0 then .inl q else .inr ((f, o, sd_nv B q (sd_dn B q)), q + sd_dn B q)
def sd_tt (B : Nat → Int) : Nat → Nat → Nat ⊕ (List (Nat × Nat × Int) × Nat)
  | 0, p => .inl p
  | k + 1, p => match sd_ts B p with
    | .inl q => .inl q
    | .inr (t, q) => if k = 0 then .inr ([t], q) else if B q = 38 then (match sd_tt B k (q + 1) with
      | .inl e => .inl e
      | .inr (ts, e) => .inr (t :: ts, e)) else .inr ([t], q)
def sd_wd (B : Nat → Int) (p : Nat) : Nat ⊕ ((Nat × Nat) × Nat) :=
  match sd_roA B p [0, 1, 2, 2] 0 with
  | .inl q => .inl q
  | .inr (s, q) => if B q = 32 then (match sd_roA B (q + 1) [3, 4, 5, 6] 0 with
    | .inl q => .inl q
    | .inr (w, q) => .inr ((s, w), q)) else .inl q
abbrev sd_Cl_ : Type := Nat × Nat × List (Nat × Nat × Int)
def sd_cls (B : Nat → Int) (p : Nat) : Nat ⊕ (sd_Cl_ × Nat) :=
  match sd_wd B p with
  | .inl q => .inl q
  | .inr (sw, q) => if B q = 32 then (if sd_ff B (q + 1) 7 = -1 then (match sd_tt B 3 (sd_fe B (q + 1) 7) with
    | .inl e => .inl e
    | .inr (ts, e) => .inr ((sw.1, sw.2, ts), e)) else .inl (sd_fe B (q + 1) 7)) else .inr ((sw.1, sw.2, []), q)
def sd_txt (B : Nat → Int) (n : Nat) : Nat → Nat → Nat ⊕ List sd_Cl_
  | 0, p => .inl p
  | k + 1, p => match sd_cls B p with
    | .inl q => .inl q
    | .inr (c, q) => if q = n then .inr [c] else if k = 0 then .inl q else if B q = 59 then (match sd_txt B n k (q + 1) with
      | .inl e => .inl e
      | .inr cs => .inr (c :: cs)) else .inl q
/-- what is read stands in the class's rows -/
abbrev sd_rT (X : sd_M) (i : Nat) (t : Nat × Nat × Int) : Prop := X (6140 + i) = (t.1 : Int) ∧ X (6260 + i) = (t.2.1 : Int) - 1 ∧ X (6380 + i) = t.2.2
def sd_rC (X : sd_M) (c : Nat) (cl : sd_Cl_) : Prop := X (6020 + c) = (cl.1 : Int) ∧ X (6060 + c) = (cl.2.1 : Int) ∧ X (6100 + c) = (cl.2.2.length : Int) ∧ ∀ (k : Nat) (t : Nat × Nat × Int), cl.2.2[k]? = some t → sd_rT X (3 * c + k) t
theorem sd_TB.byte {x : sd_M} {B : Nat → Int} {n : Nat} (h : sd_TB x B n) (p : Nat) {c : Int} (hc : ¬ c = -1) : B p = c ↔ (p < n ∧ x (4000 + p) = c) := by
  obtain ⟨h1, h2, h3, h4⟩ := h
  by_cases hp : p < n
  · rw [h3 p hp]; constructor
    · intro e; exact ⟨hp, e⟩
    · intro e; exact e.2
  · rw [h4 p (by omega)]; constructor
    · intro e; exact absurd e.symm hc
    · intro e; exact absurd e.1 hp
theorem sd_TB.keep {x X : sd_M} {B : Nat → Int} {n : Nat} (h : sd_TB x B n) (hk : ∀ j, j < 5000 → X j = x j) : sd_TB X B n := by
  obtain ⟨h1, h2, h3, h4⟩ := h
  exact ⟨by rw [hk _ (by omega)]; exact h1, h2, fun q hq => by rw [hk _ (by omega)]; exact h3 q hq, h4⟩
theorem sd_ff_rng (B : Nat → Int) (p i : Nat) : sd_ff B p i = -1 ∨ (0 ≤ sd_ff B p i ∧ sd_ff B p i < (sd_len.getD i 0 : Nat)) := by
  rcases sd_fst_rng (sd_Pmm B p i) (sd_len.getD i 0) with h | h
  · exact Or.inl h
  · exact Or.inr ⟨h.1, h.2.1⟩
theorem sd_wch_ne {i k : Nat} (hi : i < 15) (hk : k < sd_len.getD i 0) : ¬ sd_wch i k = -1 := by
  have := (sd_wch_n hi hk).1.2.2
  omega
theorem sd_fst_all {P : Nat → Prop} [DecidablePred P] {n : Nat} (h : sd_fst P n = -1) : ∀ j, j < n → ¬ P j := by
  induction n with
  | zero => intro j hj; omega
  | succ n ih =>
    simp only [sd_fst] at h
    by_cases h1 : sd_fst P n = -1
    · rw [if_pos h1] at h
      intro j hj hp
      by_cases e : j = n
      · subst e; rw [if_pos hp] at h; omega
      · exact ih h1 j (by omega) hp
    · rw [if_neg h1] at h; exact absurd h h1
theorem sd_fst_bef {P : Nat → Prop} [DecidablePred P] {n k : Nat} (h : sd_fst P n = (k : Int)) : ∀ j, j < k → ¬ P j := by
  induction n with
  | zero => simp only [sd_fst] at h; omega
  | succ n ih =>
    simp only [sd_fst] at h
    by_cases h1 : sd_fst P n = -1
    · rw [if_pos h1] at h
      by_cases hp : P n
      · rw [if_pos hp] at h
        have : k = n := by omega
        subst this
        exact sd_fst_all h1
      · rw [if_neg hp] at h; omega
    · rw [if_neg h1] at h; exact ih h
/-- fully matched places lie on the tape -/
theorem sd_fe_le {x : sd_M} {B : Nat → Int} {n : Nat} (h : sd_TB x B n) {p i : Nat} (hi : i < 15) (hp : p ≤ n) : sd_fe B p i ≤ n := by
  have hone : ∀ k, k < sd_len.getD i 0 → ¬ sd_Pmm B p i k → p + k < n := by
    intro k hk hm
    have e : B (p + k) = sd_wch i k := Classical.not_not.mp hm
    exact ((h.byte (p + k) (sd_wch_ne hi hk)).mp e).1
  have hall : ∀ k, (∀ j, j < k → ¬ sd_Pmm B p i j) → k ≤ sd_len.getD i 0 → p + k ≤ n := by
    intro k hj hk
    rcases k with _ | k
    · exact hp
    · have := hone k (by omega) (hj k (by omega))
      omega
  unfold sd_fe
  by_cases hf : sd_ff B p i = -1
  · rw [if_pos hf]
    exact hall _ (sd_fst_all hf) (Nat.le_refl _)
  · rw [if_neg hf]
    have hr := sd_ff_rng B p i
    obtain ⟨k, hk⟩ := Int.eq_ofNat_of_zero_le (show 0 ≤ sd_ff B p i by omega)
    rw [hk, Int.toNat_natCast]
    exact hall k (sd_fst_bef hk) (by omega)
