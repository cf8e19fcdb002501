theorem sd_fo_or (x : sd_M) (h k : Int) : sd_fo x h k = 0 ∨ sd_fo x h k = -1000003 ∨ sd_fo x h k = -1000001 := by
  unfold sd_fo
  split
  · split
    · exact Or.inl rfl
    · exact Or.inr (Or.inl rfl)
  · exact Or.inr (Or.inr rfl)
theorem sd_foA {x : sd_M} {h k : Int} (e : sd_fo x h k = 0) : sd_isA x h k := by
  unfold sd_fo at e
  split at e
  · split at e
    · assumption
    · omega
  · omega
theorem sd_foK {x : sd_M} {h k : Int} (e : sd_fo x h k = -1000003) : sd_isH x h ∧ ¬ sd_isA x h k := by
  unfold sd_fo at e
  split at e
  · split at e
    · omega
    · exact ⟨by assumption, by assumption⟩
  · omega
theorem sd_foB {x : sd_M} {h k : Int} (e : sd_fo x h k = -1000001) : ¬ sd_isH x h := by
  unfold sd_fo at e
  split at e
  · split at e <;> omega
  · assumption
def sd_Fd (x : sd_M) (k : Nat) : Int × sd_M := (-1000001 - (k : Int), sd_fnd x k)
