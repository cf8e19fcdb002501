theorem sd_alw_k {x : sd_M} {k a b : Int} (h : sd_alw x k a b) : 0 ≤ k ∧ k ≤ 6 := by
  rcases h with h | h | h | h | h | h | h
  · omega
  · omega
  · have := h.1; omega
  · have := h.1; omega
  · have := h.1; omega
  · have := h.1; omega
  · have := h.1; omega
def sd_hadd (x : sd_M) (k a b : Int) : sd_M := sd_up (sd_up (sd_up (sd_up (sd_up (sd_up (sd_up (sd_up (sd_up (sd_up (sd_up (sd_up (sd_up (sd_up x 2 (x 2 + 1)) (10 + (x 2).toNat) k) (34 + (x 2).toNat) a) (58 + (x 2).toNat) b) (82 + (x 2).toNat) 12) (106 + (x 2).toNat) 0) (130 + (x 2).toNat) 0) (154 + (x 2).toNat) (if k = 2 then b else 0)) (178 + (x 2).toNat) 0) (202 + (x 2).toNat) 0) (226 + (x 2).toNat) 0) (250 + (x 2).toNat) 1) (274 + (x 2).toNat) a) (298 + (x 2).toNat) b
theorem sd_hadd_eq {x : sd_M} {k a b : Int} (h : 0 ≤ x 2 ∧ x 2 < 24) : sd_up (sd_up (sd_up (sd_up (sd_up (sd_up (sd_up (sd_up (sd_up (sd_up (sd_up (sd_up (sd_up (sd_up x (10 + (x 2).toNat) k) (34 + (x 2).toNat) a) (58 + (x 2).toNat) b) (82 + (x 2).toNat) 12) (106 + (x 2).toNat) 0) (130 + (x 2).toNat) 0) (154 + (x 2).toNat) (if k = 2 then b else 0)) (178 + (x 2).toNat) 0) (202 + (x 2).toNat) 0) (226 + (x 2).toNat) 0) (250 + (x 2).toNat) 1) (274 + (x 2).toNat) a) (298 + (x 2).toNat) b) 2 (x 2 + 1) = sd_hadd x k a b := by
  funext j
  unfold sd_hadd
  by_cases hj : j = 2
  · subst hj
    simp only [sd_up]
    repeat (first | rw [if_neg (by omega)] | rw [if_pos (by first | trivial | omega)])
  · simp only [sd_up, if_neg hj]
def spC_hold (x : sd_M) (k n : Int) : Int × sd_M := if (0 ≤ n ∧ n ≤ 9999) ∧ sd_alw x k (n / 100) (n % 100) then (if 24 ≤ x 2 ∨ ((k = 1 ∨ k = 2) ∧ 8 ≤ x 6004) then sd_Fd x 1 else (x 2, sd_up (sd_hadd x k (n / 100) (n % 100)) 6004 (x 6004 + sd_b (k = 1 ∨ k = 2)))) else sd_Fd x 0
def spM_hold (x : sd_M) (k n : Int) : Int × sd_M := if (0 ≤ n ∧ n ≤ 9999) ∧ sd_alw x k (n / 100) (n % 100) then (if 24 ≤ x 2 ∨ ((k = 1 ∨ k = 2) ∧ 8 ≤ x 6004) then sd_Fd x 1 else (x 2, sd_hadd x k (n / 100) (n % 100))) else sd_Fd x 0
