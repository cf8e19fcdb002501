/-! Stock from a sheet. -/
def sd_stk (x : sd_M) (b k : Nat) : sd_M := fun j => if (386 ≤ j ∧ j < 386 + k) ∧ ¬ x (b + (j - 386)) = -9999 then x (b + (j - 386)) else x j
abbrev sd_Psk (x : sd_M) (b p : Nat) : Prop := ¬ x (b + p) = -9999 ∧ ¬ x (b + p) = x (386 + p)
abbrev sd_bsk (x : sd_M) (b : Nat) : Prop := ∃ p, p < 6 ∧ ¬ (x (b + p) = -9999 ∨ (0 ≤ x (b + p) ∧ x (b + p) ≤ 9999))
def sp_stock (x : sd_M) (s : Int) : Int × sd_M := if ¬ (0 ≤ s ∧ s ≤ 3) then sd_Fd x 0 else if x (4250 + s.toNat) = 0 then sd_Fd x 5 else if ¬ x (8100 + s.toNat) = 6 then sd_Fd x 6 else if sd_bsk x (8200 + 12 * s.toNat) then sd_Fd x 0 else (sd_cnt (sd_Psk x (8200 + 12 * s.toNat)) 6, sd_stk x (8200 + 12 * s.toNat) 6)
theorem sd_stk_0 (x : sd_M) (b : Nat) : sd_stk x b 0 = x := by
  funext j
  unfold sd_stk
  rw [if_neg (by omega)]
theorem sd_stk_o {x : sd_M} {b k j : Nat} (h : ¬ (386 ≤ j ∧ j < 386 + k)) : sd_stk x b k j = x j := by
  unfold sd_stk
  rw [if_neg (fun q => h q.1)]
theorem sd_stk_s1 {x : sd_M} {b k : Nat} {v : Int} (hv : v = x (b + k)) (h : ¬ x (b + k) = -9999) : ∀ j, sd_up (sd_stk x b k) (386 + k) v j = sd_stk x b (k + 1) j := by
  intro j
  unfold sd_up
  by_cases hj : j = 386 + k
  · subst hj
    rw [if_pos rfl]
    unfold sd_stk
    rw [if_pos ⟨by omega, by rw [show 386 + k - 386 = k from by omega]; exact h⟩, show 386 + k - 386 = k from by omega, hv]
  · rw [if_neg hj]
    unfold sd_stk
    apply sd_itec
    constructor
    · intro q; exact ⟨by omega, q.2⟩
    · intro q; exact ⟨by omega, q.2⟩
theorem sd_stk_s0 {x : sd_M} {b k : Nat} (h : x (b + k) = -9999 ∨ x (b + k) = x (386 + k)) : ∀ j, sd_stk x b k j = sd_stk x b (k + 1) j := by
  intro j
  by_cases hj : j = 386 + k
  · subst hj
    rw [sd_stk_o (by omega)]
    unfold sd_stk
    rw [show 386 + k - 386 = k from by omega]
    rcases h with h | h
    · rw [if_neg (fun q => q.2 h)]
    · split
      · exact h.symm
      · rfl
  · unfold sd_stk
    apply sd_itec
    constructor
    · intro q; exact ⟨by omega, q.2⟩
    · intro q; exact ⟨by omega, q.2⟩
