abbrev sd_alw (x : sd_M) (k a b : Int) : Prop := k = 0 ∨ k = 6 ∨ (k = 1 ∧ a < 6 ∧ b ≤ 9) ∨ (k = 2 ∧ 1 ≤ a ∧ a ≤ 9) ∨ (k = 3 ∧ sd_isA x a 1 ∧ (b = 99 ∨ (sd_isA x b 1 ∧ ¬ b = a))) ∨ (k = 4 ∧ sd_isA x a 1 ∧ b ≤ 1) ∨ (k = 5 ∧ a = 0 ∧ b ≤ 1)
abbrev sd_Pk (x : sd_M) (k : Int) (i : Nat) : Prop := sd_isK (x (10 + i)) k
abbrev sd_Pp (x : sd_M) (s w : Int) (i : Nat) : Prop := (x (10 + i) = 5 ∨ (x (10 + i) = 4 ∧ x (34 + i) = s)) ∧ x (58 + i) = w ∧ x (250 + i) = 1
abbrev sd_pip (x : sd_M) (s w : Int) : Prop := ∃ i, i < (x 2).toNat ∧ sd_Pp x s w i
def sd_wth (x : sd_M) (s w : Int) : Int := if sd_pip x s 0 then min 20 (w + 1) else if w = x 1 then w else if w < x 1 then w + 1 else w - 1
abbrev sd_Pm (x : sd_M) (set : Int) (i : Nat) : Prop := sd_bit set i ∧ x (10 + i) = 2 ∧ 0 < x (154 + i)
def sd_fml (x : sd_M) (set : Int) (i : Nat) : Int := if sd_bit set i ∧ x (10 + i) = 2 then x (154 + i) else 0
def sd_mls (x : sd_M) (set : Int) : Int := sd_sum (sd_fml x set) (x 2).toNat
def sd_hgt (x : sd_M) : Int := sd_sum (fun i => x (202 + i)) (x 2).toNat
def sd_frc (x : sd_M) (g : Nat) : Int := sd_inS x (if x (58 + g) = 99 then sd_rch x (sd_shl 1 (x (34 + g))) 8 else sd_or (sd_rch x (sd_shl 1 (x (34 + g))) 8) (sd_rch x (sd_shl 1 (x (58 + g))) 8))
theorem sd_ex_succ {P : Nat → Prop} {n : Nat} {A : Prop} (h : A ↔ P n) : ((∃ j, j < n ∧ P j) ∨ A) ↔ ∃ j, j < n + 1 ∧ P j := by
  constructor
  · rintro (⟨j, hj, hp⟩ | hp)
    · exact ⟨j, by omega, hp⟩
    · exact ⟨n, by omega, h.mp hp⟩
  · rintro ⟨j, hj, hp⟩
    by_cases he : j = n
    · subst he; exact Or.inr (h.mpr hp)
    · exact Or.inl ⟨j, by omega, hp⟩
theorem sd_gA {x : sd_M} (h1 : sd_I1 x) (h3 : sd_I3 x) {i : Nat} (hi : (i : Int) < x 2) (hk : x (10 + i) = 3) : 0 ≤ x (34 + i) ∧ x (34 + i) < 24 ∧ x (34 + i) < x 2 := by
  have a := ((h3 i hi).2.2.1 hk).1
  have b := h1.2.2.1
  exact ⟨a.1, by have := a.2.1; omega, a.2.1⟩
theorem sd_gB {x : sd_M} (h1 : sd_I1 x) (h3 : sd_I3 x) {i : Nat} (hi : (i : Int) < x 2) (hk : x (10 + i) = 3) (hb : ¬ x (58 + i) = 99) : 0 ≤ x (58 + i) ∧ x (58 + i) < 24 ∧ x (58 + i) < x 2 := by
  have a := ((h3 i hi).2.2.1 hk).2
  have b := h1.2.2.1
  rcases a with a | a
  · exact absurd a hb
  · exact ⟨a.1, by have := a.2.1; omega, a.2.1⟩
theorem sd_hz {x : sd_M} (h3 : sd_I3 x) {i : Nat} (hi : (i : Int) < x 2) (hk : ¬ x (10 + i) = 3) : x (202 + i) = 0 := (h3 i hi).2.2.2.2.2 hk
def sd_num (x : sd_M) (h : Nat) (w : Int) : Int := if w = 0 then x (10 + h) else if w = 1 then x (34 + h) else if w = 2 then x (58 + h) else if w = 3 then x (82 + h) else if w = 4 then x (106 + h) else if w = 5 then x (130 + h) else if w = 7 then x (154 + h) else if w = 8 then x (202 + h) else if w = 9 then x (226 + h) else if w = 10 then x (250 + h) else if w = 11 then x (274 + h) else x (298 + h)
theorem sd_fml_le {x : sd_M} (h2 : sd_I2 x) (set : Int) : ∀ i, i < 24 → 0 ≤ sd_fml x set i ∧ sd_fml x set i ≤ 99 := by
  intro i hi
  have := h2 i hi
  unfold sd_fml
  split <;> omega
