theorem sd_len1 (r : Option sd_V) : (r.toList ++ []).length ≤ 8 := by
  cases r with
  | none => exact Nat.zero_le _
  | some v => exact Nat.le_of_ble_eq_true rfl
theorem sd_Qp_int {p : Int × sd_M} : ∀ (r : Option sd_V) (m' : sd_M), sd_Qp p r m' → ∀ v, r = some v → ∃ z : Int, v = .inl z := by
  intro r m' q v e
  rw [q.1] at e
  cases e
  exact ⟨_, rfl⟩
theorem sd_textC_int {x : sd_M} {j f to : Int} : ∀ (r : Option sd_V) (m' : sd_M), sd_textC x j f to r m' → ∀ v, r = some v → ∃ z : Int, v = .inl z := by
  intro r m' q v e
  rcases q with ⟨-, q⟩ | ⟨-, -, q⟩ | ⟨-, -, X, -, ⟨e', -, q, -⟩ | ⟨cs, -, q, -⟩⟩
  · exact sd_Qp_int r m' q v e
  · exact sd_Qp_int r m' q v e
  · rw [q] at e; cases e; exact ⟨_, rfl⟩
  · rw [q] at e; cases e; exact ⟨_, rfl⟩
theorem sd_textM_int {x : sd_M} {j f to : Int} : ∀ (r : Option sd_V) (m' : sd_M), sd_textM x j f to r m' → ∀ v, r = some v → ∃ z : Int, v = .inl z := by
  intro r m' q v e
  rcases q with ⟨-, q⟩ | ⟨-, -, q⟩ | ⟨-, -, ⟨e', -, q, -⟩ | ⟨cs, -, q, -⟩⟩
  · exact sd_Qp_int r m' q v e
  · exact sd_Qp_int r m' q v e
  · rw [q] at e; cases e; exact ⟨_, rfl⟩
  · rw [q] at e; cases e; exact ⟨_, rfl⟩
