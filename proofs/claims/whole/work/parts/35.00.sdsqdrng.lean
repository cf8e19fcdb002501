theorem sd_sqd_rng {x : sd_M} (h1 : sd_I1 x) (O : Int) (g : Nat) : 0 ≤ sd_sqd x O g ∧ sd_sqd x O g ≤ 9 := by
  have i7 := h1.2.2.2.2.2.2.2.1
  have := sd_sqa_rng (x := x) (cr := sd_crk x O (x 6).toNat) (x 7).toNat g
  unfold sd_sqd
  omega
theorem sd_mbP_m {m : sd_M} {cr sa : Nat → Int} {c s : Nat} {b : Int} {k : Nat} (hc : ∀ g, g < 24 → m (c + g) = cr g) (hs : ∀ g, g < 24 → m (s + g) = sa g) (hb : -1 ≤ b ∧ b < 24) (hk : k < 24) : sd_mbP cr sa b k ↔ (0 < m (c + k) ∧ (b < 0 ∨ m (c + b.toNat) * (m (s + k) + 1) < m (c + k) * (m (s + b.toNat) + 1))) := by
  rw [hc k hk, hs k hk, hc b.toNat (by omega), hs b.toNat (by omega)]
  constructor
  · rintro ⟨a, e | e⟩
    · exact ⟨a, Or.inl (by omega)⟩
    · exact ⟨a, Or.inr e⟩
  · rintro ⟨a, e | e⟩
    · exact ⟨a, Or.inl (by omega)⟩
    · exact ⟨a, Or.inr e⟩
theorem sd_ball_succ {P : Nat → Prop} {n : Nat} {A : Prop} (h : A ↔ P n) : ((∀ j, j < n → P j) ∧ A) ↔ ∀ j, j < n + 1 → P j := by
  constructor
  · rintro ⟨a, b⟩ j hj
    by_cases he : j = n
    · subst he; exact h.mp b
    · exact a j (by omega)
  · intro a
    exact ⟨fun j hj => a j (by omega), h.mpr (a n (by omega))⟩
