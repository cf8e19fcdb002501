theorem sd_dn_dg (B : Nat → Int) (p : Nat) : sd_dn B p ≤ 3 ∧ ∀ j, j < sd_dn B p → sd_dg (B (p + j)) := by
  unfold sd_dn
  by_cases h0 : sd_dg (B p)
  · rw [if_neg (fun q => q h0)]
    by_cases h1 : sd_dg (B (p + 1))
    · rw [if_neg (fun q => q h1)]
      by_cases h2 : sd_dg (B (p + 2))
      · rw [if_neg (fun q => q h2)]
        refine ⟨by omega, fun j hj => ?_⟩
        rcases (show j = 0 ∨ j = 1 ∨ j = 2 by omega) with rfl | rfl | rfl
        · exact h0
        · exact h1
        · exact h2
      · rw [if_pos h2]
        refine ⟨by omega, fun j hj => ?_⟩
        rcases (show j = 0 ∨ j = 1 by omega) with rfl | rfl
        · exact h0
        · exact h1
    · rw [if_pos h1]
      refine ⟨by omega, fun j hj => ?_⟩
      rw [show j = 0 by omega]
      exact h0
  · rw [if_pos h0]
    exact ⟨by omega, fun j hj => absurd hj (by omega)⟩
theorem sd_dn_le {x : sd_M} {B : Nat → Int} {n : Nat} (h : sd_TB x B n) {p : Nat} (hp : p ≤ n) : p + sd_dn B p ≤ n := by
  have hd := (sd_dn_dg B p).2
  rcases Nat.eq_zero_or_pos (sd_dn B p) with q | q
  · omega
  · have z := hd (sd_dn B p - 1) (by omega)
    rcases Nat.lt_or_ge (p + (sd_dn B p - 1)) n with q1 | q1
    · omega
    · have := h.2.2.2 _ q1
      omega
theorem sd_nv_dn (B : Nat → Int) (p : Nat) : (sd_dn B p = 0 ∧ sd_nv B p (sd_dn B p) = -1) ∨ (¬ sd_dn B p = 0 ∧ 0 ≤ sd_nv B p (sd_dn B p) ∧ sd_nv B p (sd_dn B p) ≤ 999) := by
  have h := sd_dn_dg B p
  rcases sd_nv_rng h.2 h.1 with q | q
  · exact Or.inl q
  · exact Or.inr ⟨by omega, q.2.1, q.2.2.1⟩
