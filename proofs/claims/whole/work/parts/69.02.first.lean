theorem sd_x0s : sd_x0 0 = 0 ∧ sd_x0 2 = 0 ∧ sd_x0 3 = 0 ∧ sd_x0 5 = 0 ∧ sd_x0 6 = 0 := by decide +kernel
theorem sd_x0a : sd_I1 sd_x0 := by
  unfold sd_I1
  decide +kernel
theorem sd_x0b : sd_I2 sd_x0 := by
  unfold sd_I2
  decide +kernel
theorem sd_x0c : sd_I3 sd_x0 := by
  intro i hi
  have := sd_x0s.2.1
  exact absurd hi (by omega)
theorem sd_x0d : sd_I4 sd_x0 := by
  intro i hi
  have h3 := sd_x0s.2.2.1
  have e0 := sd_x0z (j := 322 + i) (by omega) (by omega) (by omega)
  have e1 := sd_x0z (j := 338 + i) (by omega) (by omega) (by omega)
  have e2 := sd_x0z (j := 354 + i) (by omega) (by omega) (by omega)
  have e3 := sd_x0z (j := 370 + i) (by omega) (by omega) (by omega)
  exact ⟨⟨by omega, by omega⟩, ⟨by omega, by omega⟩, ⟨by omega, by omega⟩, ⟨by omega, by omega⟩, fun h => absurd h (by omega)⟩
theorem sd_x0e : sd_I5 sd_x0 := by
  refine ⟨fun i hi => ?_, fun i hi => ?_⟩
  · have e0 := sd_x0z (j := 386 + i) (by omega) (by omega) (by omega)
    omega
  · have e0 := sd_x0z (j := 392 + i) (by omega) (by omega) (by omega)
    omega
theorem sd_x0f : sd_I6 sd_x0 := by
  have h0 := sd_x0s.1
  have h5 := sd_x0s.2.2.2.1
  refine ⟨fun i hi => ?_, fun i hi => ?_⟩
  · have e0 := sd_x0z (j := 428 + i) (by omega) (by omega) (by omega)
    have e1 := sd_x0z (j := 436 + i) (by omega) (by omega) (by omega)
    have e2 := sd_x0z (j := 444 + i) (by omega) (by omega) (by omega)
    have e3 := sd_x0z (j := 452 + i) (by omega) (by omega) (by omega)
    exact ⟨⟨by omega, by omega⟩, ⟨by omega, by omega⟩, ⟨by omega, by omega⟩, ⟨by omega, by omega⟩, fun h => absurd h (by omega)⟩
  · have e0 : sd_x0 (1268 + i) = -1 := by unfold sd_x0; rw [if_pos (by omega)]
    omega
theorem sd_x0g : sd_I7 sd_x0 := by
  intro i hi
  have h6 := sd_x0s.2.2.2.2
  have e0 := sd_x0z (j := 1272 + i) (by omega) (by omega) (by omega)
  have e1 := sd_x0z (j := 1278 + i) (by omega) (by omega) (by omega)
  have e2 := sd_x0z (j := 1284 + i) (by omega) (by omega) (by omega)
  exact ⟨⟨by omega, by omega⟩, ⟨by omega, by omega⟩, ⟨by omega, by omega⟩, fun h => absurd h (by omega)⟩
theorem sd_x0h : sd_IR sd_x0 ∧ sd_IT sd_x0 := by
  have h5 := sd_x0s.2.2.2.1
  exact ⟨fun t ht => absurd ht (by omega), fun t ht => absurd ht (by omega)⟩
theorem sd_x0i : sd_LT sd_x0 := by
  intro k hk
  unfold sd_x0
  rw [if_neg (by omega), if_pos (by omega), show 8000 + k - 8000 = k by omega]
  rfl
theorem sd_x0j : sd_L8 sd_x0 := by
  intro i hi
  have e0 := sd_x0z (j := 6500 + i) (by omega) (by omega) (by omega)
  have e1 := sd_x0z (j := 6506 + i) (by omega) (by omega) (by omega)
  have e2 := sd_x0z (j := 1290 + 2 * i) (by omega) (by omega) (by omega)
  have e3 := sd_x0z (j := 1290 + 2 * i + 1) (by omega) (by omega) (by omega)
  exact ⟨⟨by omega, by omega⟩, ⟨by omega, by omega⟩, by omega, by omega⟩
theorem sd_x0k : sd_L9 sd_x0 := by
  intro i hi
  have e0 := sd_x0z (j := 6520 + i) (by omega) (by omega) (by omega)
  have e1 := sd_x0z (j := 6526 + i) (by omega) (by omega) (by omega)
  have e2 := sd_x0z (j := 1302 + 2 * i) (by omega) (by omega) (by omega)
  have e3 := sd_x0z (j := 1302 + 2 * i + 1) (by omega) (by omega) (by omega)
  exact ⟨⟨by omega, by omega⟩, ⟨by omega, by omega⟩, by omega, by omega⟩
theorem sd_x0l : sd_H8 sd_x0 := by
  have e0 : sd_x0 6004 = 0 := by decide +kernel
  unfold sd_H8
  rw [sd_x0s.2.1, e0]
  exact ⟨rfl, by decide⟩
theorem sd_x0m : sd_IB sd_x0 := by
  intro s hs
  have e0 := sd_x0z (j := 4250 + s) (by omega) (by omega) (by omega)
  have e1 := sd_x0z (j := 8100 + s) (by omega) (by omega) (by omega)
  have e2 := sd_x0z (j := 4254 + s) (by omega) (by omega) (by omega)
  exact ⟨Or.inl e0, ⟨by omega, by omega⟩, ⟨by omega, by omega⟩, fun h => absurd e0 h⟩
theorem sd_x0n : sd_Inv 0 sd_x0 := by
  refine ⟨⟨⟨sd_x0a, sd_x0b, sd_x0c, sd_x0d, sd_x0e, sd_x0f, sd_x0g, sd_x0h.1, sd_x0h.2, sd_x0i⟩, by decide +kernel, sd_x0j, sd_x0k, sd_x0l⟩, by decide +kernel, sd_x0m, fun k hk => ?_, Or.inl (by decide +kernel)⟩
  have e0 := sd_x0z (j := 4101 + k) (by omega) (by omega) (by omega)
  omega
theorem sd_letR : ∀ k : Nat, k < 52 → 0 ≤ sd_let.getD k 0 ∧ sd_let.getD k 0 ≤ 200 := by decide
theorem sd_x0R (j : Nat) : sd_R (sd_x0 j) := by
  unfold sd_x0
  by_cases h1 : (1268 ≤ j ∧ j < 1272) ∨ (7540 ≤ j ∧ j < 7544)
  · rw [if_pos h1]
    exact ⟨by decide, by decide⟩
  · rw [if_neg h1]
    by_cases h2 : 8000 ≤ j ∧ j < 8052
    · rw [if_pos h2]
      have := sd_letR (j - 8000) (by omega)
      exact ⟨by omega, by omega⟩
    · rw [if_neg h2]
      exact ⟨by decide, by decide⟩
