def sd_inL (L : List (Nat × Nat)) (j : Nat) : Bool := L.any (fun q => q.1.ble j && j.blt q.2)
def sd_LC : List (Nat × Nat) := [(0, 9), (10, 460), (1268, 1290), (1314, 1554), (2000, 2009), (2010, 2460), (3272, 3290), (3314, 3554), (4000, 4108), (4250, 4254), (4260, 4261), (6004, 6005), (6010, 6018), (6020, 6512), (6520, 6532), (7004, 7005), (7010, 7018), (7020, 7512), (7520, 7532), (7540, 7544), (8100, 8104), (8200, 8248)]
def sd_LM : List (Nat × Nat) := [(0, 1554), (2000, 3554), (4000, 4108), (4200, 4248), (4250, 4258), (4260, 4261), (8000, 8052)]
def sd_oC (j : Nat) : Prop := sd_inL sd_LC j = true
def sd_oM (j : Nat) : Prop := sd_inL sd_LM j = true
theorem sd_oC_d {j : Nat} (h : sd_oC j) : (0 ≤ j ∧ j < 9) ∨ (10 ≤ j ∧ j < 460) ∨ (1268 ≤ j ∧ j < 1290) ∨ (1314 ≤ j ∧ j < 1554) ∨ (2000 ≤ j ∧ j < 2009) ∨ (2010 ≤ j ∧ j < 2460) ∨ (3272 ≤ j ∧ j < 3290) ∨ (3314 ≤ j ∧ j < 3554) ∨ (4000 ≤ j ∧ j < 4108) ∨ (4250 ≤ j ∧ j < 4254) ∨ (4260 ≤ j ∧ j < 4261) ∨ (6004 ≤ j ∧ j < 6005) ∨ (6010 ≤ j ∧ j < 6018) ∨ (6020 ≤ j ∧ j < 6512) ∨ (6520 ≤ j ∧ j < 6532) ∨ (7004 ≤ j ∧ j < 7005) ∨ (7010 ≤ j ∧ j < 7018) ∨ (7020 ≤ j ∧ j < 7512) ∨ (7520 ≤ j ∧ j < 7532) ∨ (7540 ≤ j ∧ j < 7544) ∨ (8100 ≤ j ∧ j < 8104) ∨ (8200 ≤ j ∧ j < 8248) := by
  unfold sd_oC sd_inL sd_LC at h
  simp only [List.any_cons, List.any_nil, Bool.or_eq_true, Bool.and_eq_true, Nat.ble_eq, Nat.blt_eq, Bool.false_eq_true, or_false] at h
  omega
theorem sd_oM_d {j : Nat} (h : sd_oM j) : (0 ≤ j ∧ j < 1554) ∨ (2000 ≤ j ∧ j < 3554) ∨ (4000 ≤ j ∧ j < 4108) ∨ (4200 ≤ j ∧ j < 4248) ∨ (4250 ≤ j ∧ j < 4258) ∨ (4260 ≤ j ∧ j < 4261) ∨ (8000 ≤ j ∧ j < 8052) := by
  unfold sd_oM sd_inL sd_LM at h
  simp only [List.any_cons, List.any_nil, Bool.or_eq_true, Bool.and_eq_true, Nat.ble_eq, Nat.blt_eq, Bool.false_eq_true, or_false] at h
  omega
theorem sd_oC_w {j : Nat} (h : sd_oC j) : (j < 460 ∨ 1268 ≤ j) ∧ (j < 1290 ∨ 1314 ≤ j) ∧ (j < 4108 ∨ 4250 ≤ j) ∧ (j < 4254 ∨ 4260 ≤ j) ∧ j < 8300 := by
  have d := sd_oC_d h
  omega
/-- two callees' ends that are one -/
def sd_Dn (N : Nat) (x : sd_M) (pC pM : Int × sd_M) : Prop := pC.1 = pM.1 ∧ ∃ X : sd_M, sd_Inv (N + 1) X ∧ (∀ j, sd_oC j → pC.2 j = X j) ∧ (∀ j, sd_oM j → pM.2 j = X j) ∧ ∀ j, (j < 5000 ∨ 6000 ≤ j) → X j = pC.2 j ∨ X j = pM.2 j ∨ ∃ i, (i < 5000 ∨ 6000 ≤ i) ∧ X j = x i
theorem sd_Dn.one {N : Nat} {x : sd_M} {p : Int × sd_M} (h : sd_Inv (N + 1) p.2) : sd_Dn N x p p := ⟨rfl, p.2, h, fun _ _ => rfl, fun _ _ => rfl, fun _ _ => Or.inl rfl⟩
def sd_mg (xC xM : sd_M) : sd_M := fun j => if j < 6000 then xM j else xC j
theorem sd_Dn.mg {N : Nat} {x : sd_M} {pC pM : Int × sd_M} (h1 : pC.1 = pM.1) (h : sd_Inv (N + 1) (sd_mg pC.2 pM.2)) (eC : ∀ j, sd_oC j → j < 6000 → pC.2 j = pM.2 j) (eM : ∀ j, 8000 ≤ j → j < 8052 → pM.2 j = pC.2 j) : sd_Dn N x pC pM := by
  refine ⟨h1, _, h, fun j hj => ?_, fun j hj => ?_, fun j _ => ?_⟩
  · unfold sd_mg
    split
    · exact eC j hj (by assumption)
    · rfl
  · have d := sd_oM_d hj
    unfold sd_mg
    split
    · rfl
    · exact eM j (by omega) (by omega)
  · unfold sd_mg
    split
    · exact Or.inr (Or.inl rfl)
    · exact Or.inl rfl
theorem sd_Dn.ifs {N : Nat} {x : sd_M} {c : Prop} [Decidable c] {p q p' q' : Int × sd_M} (h1 : c → sd_Dn N x p p') (h2 : ¬ c → sd_Dn N x q q') : sd_Dn N x (if c then p else q) (if c then p' else q') := by
  by_cases h : c
  · rw [if_pos h, if_pos h]; exact h1 h
  · rw [if_neg h, if_neg h]; exact h2 h
theorem sd_Dn.fd {N : Nat} {x : sd_M} (h : sd_Inv N x) {k : Nat} (hk : k < 7) : sd_Dn N x (sd_Fd x k) (sd_Fd x k) := .one (h.fd hk)
