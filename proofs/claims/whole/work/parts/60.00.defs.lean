def sd_b2 (j : Nat) : Int := if j < 34 then 6 else if j < 82 then 99 else if j < 106 then 20 else if j < 154 then 1 else if j < 178 then 99 else if j < 202 then 9 else if j < 226 then 1 else if j < 250 then 99 else if j < 274 then 1 else 99
theorem sd_I2.rd {x : sd_M} (h : sd_I2 x) : ∀ j : Nat, 10 ≤ j → j < 322 → 0 ≤ x j ∧ x j ≤ sd_b2 j := by
  intro j h1 h2
  unfold sd_b2
  rcases (show (10 ≤ j ∧ j < 34) ∨ (34 ≤ j ∧ j < 58) ∨ (58 ≤ j ∧ j < 82) ∨ (82 ≤ j ∧ j < 106) ∨ (106 ≤ j ∧ j < 130) ∨ (130 ≤ j ∧ j < 154) ∨ (154 ≤ j ∧ j < 178) ∨ (178 ≤ j ∧ j < 202) ∨ (202 ≤ j ∧ j < 226) ∨ (226 ≤ j ∧ j < 250) ∨ (250 ≤ j ∧ j < 274) ∨ (274 ≤ j ∧ j < 298) ∨ (298 ≤ j ∧ j < 322) by omega) with q | q | q | q | q | q | q | q | q | q | q | q | q
  · have z := (h (j - 10) (by omega)).1
    rw [show 10 + (j - 10) = j by omega] at z
    repeat (first | rw [if_pos (by omega)] | rw [if_neg (by omega)])
    exact z
  · have z := (h (j - 34) (by omega)).2.1
    rw [show 34 + (j - 34) = j by omega] at z
    repeat (first | rw [if_pos (by omega)] | rw [if_neg (by omega)])
    exact z
  · have z := (h (j - 58) (by omega)).2.2.1
    rw [show 58 + (j - 58) = j by omega] at z
    repeat (first | rw [if_pos (by omega)] | rw [if_neg (by omega)])
    exact z
  · have z := (h (j - 82) (by omega)).2.2.2.1
    rw [show 82 + (j - 82) = j by omega] at z
    repeat (first | rw [if_pos (by omega)] | rw [if_neg (by omega)])
    exact z
  · have z := (h (j - 106) (by omega)).2.2.2.2.1
    rw [show 106 + (j - 106) = j by omega] at z
    repeat (first | rw [if_pos (by omega)] | rw [if_neg (by omega)])
    exact z
  · have z := (h (j - 130) (by omega)).2.2.2.2.2.1
    rw [show 130 + (j - 130) = j by omega] at z
    repeat (first | rw [if_pos (by omega)] | rw [if_neg (by omega)])
    exact z
  · have z := (h (j - 154) (by omega)).2.2.2.2.2.2.1
    rw [show 154 + (j - 154) = j by omega] at z
    repeat (first | rw [if_pos (by omega)] | rw [if_neg (by omega)])
    exact z
  · have z := (h (j - 178) (by omega)).2.2.2.2.2.2.2.1
    rw [show 178 + (j - 178) = j by omega] at z
    repeat (first | rw [if_pos (by omega)] | rw [if_neg (by omega)])
    exact z
  · have z := (h (j - 202) (by omega)).2.2.2.2.2.2.2.2.1
    rw [show 202 + (j - 202) = j by omega] at z
    repeat (first | rw [if_pos (by omega)] | rw [if_neg (by omega)])
    exact z
  · have z := (h (j - 226) (by omega)).2.2.2.2.2.2.2.2.2.1
    rw [show 226 + (j - 226) = j by omega] at z
    repeat (first | rw [if_pos (by omega)] | rw [if_neg (by omega)])
    exact z
  · have z := (h (j - 250) (by omega)).2.2.2.2.2.2.2.2.2.2.1
    rw [show 250 + (j - 250) = j by omega] at z
    repeat (first | rw [if_pos (by omega)] | rw [if_neg (by omega)])
    exact z
  · have z := (h (j - 274) (by omega)).2.2.2.2.2.2.2.2.2.2.2.1
    rw [show 274 + (j - 274) = j by omega] at z
    repeat (first | rw [if_pos (by omega)] | rw [if_neg (by omega)])
    exact z
  · have z := (h (j - 298) (by omega)).2.2.2.2.2.2.2.2.2.2.2.2
    rw [show 298 + (j - 298) = j by omega] at z
    repeat (first | rw [if_pos (by omega)] | rw [if_neg (by omega)])
    exact z
theorem sd_I2.of {y : sd_M} (h : ∀ j : Nat, 10 ≤ j → j < 322 → 0 ≤ y j ∧ y j ≤ sd_b2 j) : sd_I2 y := by
  intro i hi
  refine ⟨(by have z := h (10 + i) (by omega) (by omega); unfold sd_b2 at z; rw [if_pos (show 10 + i < 34 by omega)] at z; exact z), (by have z := h (34 + i) (by omega) (by omega); unfold sd_b2 at z; rw [if_neg (show ¬ 34 + i < 34 by omega), if_pos (show 34 + i < 82 by omega)] at z; exact z), (by have z := h (58 + i) (by omega) (by omega); unfold sd_b2 at z; rw [if_neg (show ¬ 58 + i < 34 by omega), if_pos (show 58 + i < 82 by omega)] at z; exact z), (by have z := h (82 + i) (by omega) (by omega); unfold sd_b2 at z; rw [if_neg (show ¬ 82 + i < 34 by omega), if_neg (show ¬ 82 + i < 82 by omega), if_pos (show 82 + i < 106 by omega)] at z; exact z), (by have z := h (106 + i) (by omega) (by omega); unfold sd_b2 at z; rw [if_neg (show ¬ 106 + i < 34 by omega), if_neg (show ¬ 106 + i < 82 by omega), if_neg (show ¬ 106 + i < 106 by omega), if_pos (show 106 + i < 154 by omega)] at z; exact z), (by have z := h (130 + i) (by omega) (by omega); unfold sd_b2 at z; rw [if_neg (show ¬ 130 + i < 34 by omega), if_neg (show ¬ 130 + i < 82 by omega), if_neg (show ¬ 130 + i < 106 by omega), if_pos (show 130 + i < 154 by omega)] at z; exact z), (by have z := h (154 + i) (by omega) (by omega); unfold sd_b2 at z; rw [if_neg (show ¬ 154 + i < 34 by omega), if_neg (show ¬ 154 + i < 82 by omega), if_neg (show ¬ 154 + i < 106 by omega), if_neg (show ¬ 154 + i < 154 by omega), if_pos (show 154 + i < 178 by omega)] at z; exact z), (by have z := h (178 + i) (by omega) (by omega); unfold sd_b2 at z; rw [if_neg (show ¬ 178 + i < 34 by omega), if_neg (show ¬ 178 + i < 82 by omega), if_neg (show ¬ 178 + i < 106 by omega), if_neg (show ¬ 178 + i < 154 by omega), if_neg (show ¬ 178 + i < 178 by omega), if_pos (show 178 + i < 202 by omega)] at z; exact z), (by have z := h (202 + i) (by omega) (by omega); unfold sd_b2 at z; rw [if_neg (show ¬ 202 + i < 34 by omega), if_neg (show ¬ 202 + i < 82 by omega), if_neg (show ¬ 202 + i < 106 by omega), if_neg (show ¬ 202 + i < 154 by omega), if_neg (show ¬ 202 + i < 178 by omega), if_neg (show ¬ 202 + i < 202 by omega), if_pos (show 202 + i < 226 by omega)] at z; exact z), (by have z := h (226 + i) (by omega) (by omega); unfold sd_b2 at z; rw [if_neg (show ¬ 226 + i < 34 by omega), if_neg (show ¬ 226 + i < 82 by omega), if_neg (show ¬ 226 + i < 106 by omega), if_neg (show ¬ 226 + i < 154 by omega), if_neg (show ¬ 226 + i < 178 by omega), if_neg (show ¬ 226 + i < 202 by omega), if_neg (show ¬ 226 + i < 226 by omega), if_pos (show 226 + i < 250 by omega)] at z; exact z), (by have z := h (250 + i) (by omega) (by omega); unfold sd_b2 at z; rw [if_neg (show ¬ 250 + i < 34 by omega), if_neg (show ¬ 250 + i < 82 by omega), if_neg (show ¬ 250 + i < 106 by omega), if_neg (show ¬ 250 + i < 154 by omega), if_neg (show ¬ 250 + i < 178 by omega), if_neg (show ¬ 250 + i < 202 by omega), if_neg (show ¬ 250 + i < 226 by omega), if_neg (show ¬ 250 + i < 250 by omega), if_pos (show 250 + i < 274 by omega)] at z; exact z), (by have z := h (274 + i) (by omega) (by omega); unfold sd_b2 at z; rw [if_neg (show ¬ 274 + i < 34 by omega), if_neg (show ¬ 274 + i < 82 by omega), if_neg (show ¬ 274 + i < 106 by omega), if_neg (show ¬ 274 + i < 154 by omega), if_neg (show ¬ 274 + i < 178 by omega), if_neg (show ¬ 274 + i < 202 by omega), if_neg (show ¬ 274 + i < 226 by omega), if_neg (show ¬ 274 + i < 250 by omega), if_neg (show ¬ 274 + i < 274 by omega)] at z; exact z), (by have z := h (298 + i) (by omega) (by omega); unfold sd_b2 at z; rw [if_neg (show ¬ 298 + i < 34 by omega), if_neg (show ¬ 298 + i < 82 by omega), if_neg (show ¬ 298 + i < 106 by omega), if_neg (show ¬ 298 + i < 154 by omega), if_neg (show ¬ 298 + i < 178 by omega), if_neg (show ¬ 298 + i < 202 by omega), if_neg (show ¬ 298 + i < 226 by omega), if_neg (show ¬ 298 + i < 250 by omega), if_neg (show ¬ 298 + i < 274 by omega)] at z; exact z)⟩
