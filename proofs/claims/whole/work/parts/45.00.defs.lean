abbrev sd_hl (f : Nat → Int) (t : Nat × Nat × Int) : Prop := sd_sg (f t.1 - t.2.2) = (t.2.1 : Int) - 1
theorem sd_roO {B : Nat → Int} {q o : Nat} (ho : o < 3) (h : B q = 60 + (o : Int)) : sd_roA B q [12, 13, 14, 2] 0 = .inr (o, q + 1) := by
  have w0 : sd_wch 12 0 = 60 := by decide
  have w1 : sd_wch 13 0 = 61 := by decide
  have w2 : sd_wch 14 0 = 62 := by decide
  have one : ∀ i : Nat, sd_len.getD i 0 = 1 → B q = sd_wch i 0 → sd_ff B q i = -1 ∧ sd_fe B q i = q + 1 := by
    intro i hi hb
    have hall : ∀ j, j < sd_len.getD i 0 → B (q + j) = sd_wch i j := by
      intro j hj
      have e : j = 0 := by omega
      rw [e]
      exact hb
    have := sd_ff_no (B := B) (p := q) (i := i) hall
    rw [hi] at this
    exact this
  simp only [sd_roA]
  rcases (show o = 0 ∨ o = 1 ∨ o = 2 by omega) with rfl | rfl | rfl
  · have e := one 12 rfl (by omega)
    rw [if_pos ⟨by decide, by omega⟩, if_pos e.1, e.2]
  · have e := one 13 rfl (by omega)
    rw [if_neg (fun z => by have := z.2; omega), if_pos ⟨by decide, by omega⟩, if_pos e.1, e.2]
  · have e := one 14 rfl (by omega)
    rw [if_neg (fun z => by have := z.2; omega), if_neg (fun z => by have := z.2; omega), if_pos ⟨by decide, by omega⟩, if_pos e.1, e.2]
theorem sd_roON {B : Nat → Int} {q : Nat} (h : ¬ B q = 61 ∧ ¬ B q = 60 ∧ ¬ B q = 62) : sd_roA B q [12, 13, 14, 2] 0 = .inl q := by
  have w0 : sd_wch 12 0 = 60 := by decide
  have w1 : sd_wch 13 0 = 61 := by decide
  have w2 : sd_wch 14 0 = 62 := by decide
  simp only [sd_roA]
  rw [if_neg (fun z => by have := z.2; omega), if_neg (fun z => by have := z.2; omega), if_neg (fun z => by have := z.2; omega), if_neg (fun z => z.1 rfl)]
def sd_tsM (f : Nat → Int) (B : Nat → Int) (fr : Int) (n p : Nat) (m0 : sd_M) (r : Option sd_V) (m' : sd_M) : Prop := sd_k2 m0 m' ∧ ((∃ q, sd_ts B p = .inl q ∧ r = some (.inl 0) ∧ sd_RS m' fr n q (q : Nat) ∧ q ≤ n) ∨ (∃ t q, sd_ts B p = .inr (t, q) ∧ r = some (.inl (sd_b (sd_hl f t))) ∧ sd_RS m' fr n q (-1) ∧ q ≤ n))
theorem sd_and_1b (P : Prop) [Decidable P] : sd_and 1 (sd_b P) = sd_b P := by
  unfold sd_b
  by_cases h : P <;> simp [h] <;> decide
theorem sd_dn_leM {x : sd_M} {fr : Int} {B : Nat → Int} {n : Nat} (h : sd_RB x fr B n) {p k : Nat} (hp : p ≤ n) (hd : ∀ j, j < k → sd_dg (B (p + j))) : p + k ≤ n := by
  rcases Nat.eq_zero_or_pos k with q | q
  · omega
  · have z := hd (k - 1) (by omega)
    have := h.in (p := p + (k - 1)) (by omega)
    omega
