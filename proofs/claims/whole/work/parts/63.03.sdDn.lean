/-- two calls' ends make one world again -/
def sd_Go (N : Nat) (x : sd_M) (QC QM : Option sd_V → sd_M → Prop) : Prop := ∀ (rC rM : Option sd_V) (mC mM : sd_M), QC rC mC → QM rM mM → (∀ j, sd_R (mC j)) → (∀ j, sd_R (mM j)) → (∀ j, (j < 5000 ∨ 6000 ≤ j) → sd_R (x j)) → ∃ (v : Int) (X : sd_M), rC = some (.inl v) ∧ rM = some (.inl v) ∧ sd_Inv (N + 1) X ∧ (∀ j, sd_oC j → mC j = X j) ∧ (∀ j, sd_oM j → mM j = X j) ∧ ∀ j, (j < 5000 ∨ 6000 ≤ j) → sd_R (X j)
theorem sd_Dn.go {N : Nat} {x : sd_M} {pC pM : Int × sd_M} (h : sd_Dn N x pC pM) : sd_Go N x (sd_Qp pC) (sd_Qp pM) := by
  intro rC rM mC mM hC hM RC RM Rx
  obtain ⟨e, X, hX, a, b, c⟩ := h
  obtain ⟨rfl, nC⟩ := hC
  obtain ⟨rfl, nM⟩ := hM
  refine ⟨pC.1, X, rfl, by rw [e], hX, fun j hj => ?_, fun j hj => ?_, fun j hj => ?_⟩
  · rw [← a j hj]
    have := sd_oC_d hj
    exact nC j (by omega)
  · rw [← b j hj]
    have := sd_oM_d hj
    exact nM j (by omega)
  · rcases c j hj with q | q | ⟨i, hi, q⟩
    · rw [q, ← nC j hj]; exact RC j
    · rw [q, ← nM j hj]; exact RM j
    · rw [q]; exact Rx i hi
theorem sd_Go.one {N : Nat} {x : sd_M} {p : Int × sd_M} (h : sd_Inv (N + 1) p.2) : sd_Go N x (sd_Qp p) (sd_Qp p) := (sd_Dn.one h).go
theorem sd_mg_go {xC xM mC mM : sd_M} {N : Nat} {v : Int} (h : sd_Inv (N + 1) (sd_mg xC xM)) (nC : sd_ns xC mC) (nM : sd_ns xM mM) (RC : ∀ j, sd_R (mC j)) (RM : ∀ j, sd_R (mM j)) (eC : ∀ j, sd_oC j → j < 6000 → xC j = xM j) (eM : ∀ j, 8000 ≤ j → j < 8052 → xM j = xC j) : ∃ (u : Int) (X : sd_M), (some (.inl v) : Option sd_V) = some (.inl u) ∧ (some (.inl v) : Option sd_V) = some (.inl u) ∧ sd_Inv (N + 1) X ∧ (∀ j, sd_oC j → mC j = X j) ∧ (∀ j, sd_oM j → mM j = X j) ∧ ∀ j, (j < 5000 ∨ 6000 ≤ j) → sd_R (X j) := by
  refine ⟨v, _, rfl, rfl, h, fun j hj => ?_, fun j hj => ?_, fun j hj => ?_⟩
  · have d := sd_oC_d hj
    rw [nC j (by omega)]
    unfold sd_mg
    split
    · exact eC j hj (by assumption)
    · rfl
  · have d := sd_oM_d hj
    rw [nM j (by omega)]
    unfold sd_mg
    split
    · rfl
    · exact eM j (by omega) (by omega)
  · unfold sd_mg
    split
    · rw [← nM j hj]; exact RM j
    · rw [← nC j hj]; exact RC j
