/-! The works' hour in the stock itself. -/
def sd_rc (x : sd_M) (g : Nat → Int) (c : Int) : sd_M := fun j => if j = 8 then c else if 386 ≤ j ∧ j < 392 then g (j - 386) else x j
def sd_stx (x : sd_M) : Nat → Int := fun p => x (386 + p)
theorem sd_rc_at {x : sd_M} {g : Nat → Int} {c : Int} {p : Nat} (hp : p < 6) : sd_rc x g c (386 + p) = g p := by
  unfold sd_rc
  rw [if_neg (by omega), if_pos (by omega), show 386 + p - 386 = p from by omega]
theorem sd_rc_o {x : sd_M} {g : Nat → Int} {c : Int} {j : Nat} (h8 : ¬ j = 8) (h : ¬ (386 ≤ j ∧ j < 392)) : sd_rc x g c j = x j := by
  unfold sd_rc
  rw [if_neg h8, if_neg h]
theorem sd_rc_0 (x : sd_M) : ∀ j, x j = sd_rc x (sd_stx x) (x 8) j := by
  intro j
  unfold sd_rc sd_stx
  by_cases h : j = 8
  · rw [if_pos h, h]
  · rw [if_neg h]
    by_cases q : 386 ≤ j ∧ j < 392
    · rw [if_pos q, show 386 + (j - 386) = j from by omega]
    · rw [if_neg q]
theorem sd_rc_st {x : sd_M} {g g' : Nat → Int} {c v : Int} {i : Nat} (hi : i < 6) (hv : g' i = v) (hg : ∀ p, p < 6 → ¬ p = i → g' p = g p) : ∀ j, sd_up (sd_rc x g c) (386 + i) v j = sd_rc x g' c j := by
  intro j
  unfold sd_up sd_rc
  by_cases h : j = 386 + i
  · subst h
    rw [if_pos rfl, if_neg (by omega), if_pos (by omega), show 386 + i - 386 = i from by omega, hv]
  · rw [if_neg h]
    by_cases h8 : j = 8
    · rw [if_pos h8, if_pos h8]
    · rw [if_neg h8, if_neg h8]
      by_cases q : 386 ≤ j ∧ j < 392
      · rw [if_pos q, if_pos q, hg _ (by omega) (by omega)]
      · rw [if_neg q, if_neg q]
theorem sd_rc_8 {x : sd_M} {g : Nat → Int} {c v : Int} : ∀ j, sd_up (sd_rc x g c) 8 v j = sd_rc x g v j := by
  intro j
  unfold sd_up sd_rc
  by_cases h : j = 8
  · rw [if_pos h, if_pos h]
  · rw [if_neg h, if_neg h, if_neg h]
theorem sd_rc_cong {x : sd_M} {g g' : Nat → Int} {c : Int} (h : ∀ p, p < 6 → g p = g' p) : ∀ j, sd_rc x g c j = sd_rc x g' c j := by
  intro j
  unfold sd_rc
  by_cases h8 : j = 8
  · rw [if_pos h8, if_pos h8]
  · rw [if_neg h8, if_neg h8]
    by_cases q : 386 ≤ j ∧ j < 392
    · rw [if_pos q, if_pos q, h _ (by omega)]
    · rw [if_neg q, if_neg q]
theorem sd_pt_s {g g' : Nat → Int} {i : Nat} : sd_pt g g' (i + 1) i = g' i ∧ ∀ p, ¬ p = i → sd_pt g g' (i + 1) p = sd_pt g g' i p := by
  unfold sd_pt
  refine ⟨by rw [if_pos (by omega)], fun p hp => ?_⟩
  exact sd_itec (by omega)
theorem sd_ones_set (P : Nat → Prop) [DecidablePred P] (n : Nat) (hn : n ≤ 30) : sd_ones (sd_set P n) = sd_cnt P n := by
  unfold sd_ones
  have key : ∀ m, m ≤ 30 → sd_cnt (sd_Pbt (sd_set P n)) m = sd_cnt P (min m n) := by
    intro m
    induction m with
    | zero => intro _; rw [Nat.zero_min]; rfl
    | succ m ih =>
      intro hm
      simp only [sd_cnt]
      rw [ih (by omega)]
      have hb := sd_set_bit P (n := n) (w := m) (by omega) (by omega)
      by_cases h : m < n
      · rw [show min (m + 1) n = min m n + 1 from by omega]
        simp only [sd_cnt]
        rw [show min m n = m from by omega]
        congr 1
        apply sd_itec
        show sd_bit (sd_set P n) (m : Int) ↔ P m
        rw [hb]
        exact ⟨fun q => q.2, fun q => ⟨h, q⟩⟩
      · rw [show min (m + 1) n = n from by omega, show min m n = n from by omega, if_neg (fun q => h (hb.mp q).1)]
        omega
  have := key 30 (Nat.le_refl 30)
  rw [show min 30 n = n from by omega] at this
  exact this
