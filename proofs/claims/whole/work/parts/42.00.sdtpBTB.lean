/-! A text is told: the class. -/
def sd_tpB (x : sd_M) (q : Nat) : Int := if q < (x 4100).toNat then x (4000 + q) else -1
theorem sd_tpB_TB {x : sd_M} (h : 0 ≤ x 4100 ∧ x 4100 ≤ 100) : sd_TB x (sd_tpB x) (x 4100).toNat := by
  refine ⟨by omega, by omega, fun q hq => ?_, fun q hq => ?_⟩
  · unfold sd_tpB; rw [if_pos hq]
  · unfold sd_tpB; rw [if_neg (by omega)]
def sd_addT (X : sd_M) (t : Nat) (j f to hr : Int) : sd_M := sd_up (sd_up (sd_up (sd_up (sd_up (sd_up X 4100 0) 5 ((t : Int) + 1)) (428 + t) j) (436 + t) f) (444 + t) to) (452 + t) hr
abbrev sd_tbad (j f to : Int) : Prop := ¬ (0 ≤ j ∧ j ≤ 3) ∨ ¬ (0 ≤ f ∧ f ≤ 959) ∨ ¬ (f ≤ to ∧ to ≤ 959)
def sd_textC (x : sd_M) (j f to : Int) (r : Option sd_V) (m' : sd_M) : Prop :=
  (sd_tbad j f to ∧ sd_Qp (sd_Fd x 0) r m') ∨ (¬ sd_tbad j f to ∧ 8 ≤ x 5 ∧ sd_Qp (sd_Fd x 1) r m') ∨
  (¬ sd_tbad j f to ∧ x 5 < 8 ∧ ∃ X, (∀ q, ¬ sd_rg (x 5).toNat 0 q → X q = x q) ∧ ((∃ e : Nat, sd_txt (sd_tpB x) (x 4100).toNat 5 0 = .inl e ∧ r = some (.inl (-1 - (e : Int))) ∧ sd_ns X m') ∨ (∃ cs, sd_txt (sd_tpB x) (x 4100).toNat 5 0 = .inr cs ∧ r = some (.inl (x 5)) ∧ X (6010 + (x 5).toNat) = (cs.length : Int) ∧ (∀ (i : Nat) (cl : sd_Cl_), cs[i]? = some cl → sd_rC X (5 * (x 5).toNat + i) cl) ∧ sd_ns (sd_addT X (x 5).toNat j f to (x 0)) m')))
