theorem sd_rd_top {f : Nat → Int} {w b : Int} {x m' : sd_M} {t : Nat} {cs : List sd_Cl_} {B : Nat → Int} {n : Nat} (h1 : sd_txt B n 5 0 = .inr cs) (h2 : sd_fcx x f w t = sd_fcl f w cs ∧ (¬ sd_fcl f w cs = -1 → x (6020 + (5 * t + (sd_fcl f w cs).toNat)) = sd_fbr f w cs)) (h : (∃ e : Nat, sd_txt B n 5 0 = .inl e ∧ m' 5493 = (e : Int)) ∨ (∃ cs, sd_txt B n 5 0 = .inr cs ∧ m' 5493 = -1 ∧ ((¬ (-1 : Int) = -1 ∧ m' 5510 = -1 ∧ m' 5511 = b) ∨ ((-1 : Int) = -1 ∧ sd_fcl f w cs = -1 ∧ m' 5510 = -1) ∨ ((-1 : Int) = -1 ∧ ¬ sd_fcl f w cs = -1 ∧ m' 5510 = ((0 : Nat) : Int) + sd_fcl f w cs ∧ m' 5511 = sd_fbr f w cs)))) : (sd_fcx x f w t = -1 ∧ m' 5510 = -1) ∨ (∃ c : Nat, sd_fcx x f w t = (c : Int) ∧ m' 5510 = (c : Int) ∧ m' 5511 = x (6020 + (5 * t + c))) := by
  rcases h with ⟨e, q, _⟩ | ⟨cs', q, _, r⟩
  · rw [h1] at q; cases q
  · rw [h1] at q
    cases q
    rcases r with r | r | r
    · exact absurd rfl r.1
    · exact Or.inl ⟨by rw [h2.1]; exact r.2.1, r.2.2⟩
    · have hr := sd_fcl_rng f w cs
      obtain ⟨k, hk⟩ := Int.eq_ofNat_of_zero_le (show 0 ≤ sd_fcl f w cs by omega)
      refine Or.inr ⟨k, by rw [h2.1]; exact hk, by rw [r.2.2.1, hk]; omega, ?_⟩
      rw [r.2.2.2, ← h2.2 r.2.1, hk, Int.toNat_natCast]
