def sd_SL (x : sd_M) (k : Nat → Int) (m : sd_M) (w i : Nat) : Prop := m (5410 + w) = sd_fst (sd_stA x k w) i ∧ (¬ sd_fst (sd_stA x k w) i = -1 → m (5420 + w) = sd_lkA x k w (sd_fst (sd_stA x k w) i).toNat)
theorem sd_SL.keep {x : sd_M} {k : Nat → Int} {m m' : sd_M} {w i : Nat} (h : sd_SL x k m w i) (h1 : m' (5410 + w) = m (5410 + w)) (h2 : m' (5420 + w) = m (5420 + w)) : sd_SL x k m' w i := ⟨by rw [h1]; exact h.1, fun q => by rw [h2]; exact h.2 q⟩
theorem sd_SL.no {x : sd_M} {k : Nat → Int} {m : sd_M} {w i : Nat} (h : sd_SL x k m w i) (hn : ¬ sd_stA x k w i) : sd_SL x k m w (i + 1) := by
  have e : sd_fst (sd_stA x k w) (i + 1) = sd_fst (sd_stA x k w) i := by
    simp only [sd_fst]
    by_cases z : sd_fst (sd_stA x k w) i = -1
    · rw [if_pos z, if_neg hn, z]
    · rw [if_neg z]
  unfold sd_SL
  rw [e]
  exact h
theorem sd_SL.old {x : sd_M} {k : Nat → Int} {m : sd_M} {w i : Nat} (h : sd_SL x k m w i) (hn : 0 ≤ m (5410 + w)) : sd_SL x k m w (i + 1) := by
  have e : sd_fst (sd_stA x k w) (i + 1) = sd_fst (sd_stA x k w) i := by
    simp only [sd_fst]
    rw [if_neg (by have := h.1; omega)]
  unfold sd_SL
  rw [e]
  exact h
theorem sd_SL.new {x : sd_M} {k : Nat → Int} {m m' : sd_M} {w i : Nat} (h : sd_SL x k m w i) (hn : m (5410 + w) < 0) (hs : sd_stA x k w i) (h1 : m' (5410 + w) = (i : Int)) (h2 : m' (5420 + w) = sd_lkA x k w i) : sd_SL x k m' w (i + 1) := by
  have hr := sd_fst_rng (sd_stA x k w) i
  have e : sd_fst (sd_stA x k w) (i + 1) = (i : Int) := by
    simp only [sd_fst]
    rw [if_pos (by have := h.1; omega), if_pos hs]
  unfold sd_SL
  rw [e, Int.toNat_natCast]
  exact ⟨h1, fun _ => h2⟩
theorem sd_ad_step {r s s' : Nat → Int} {p : Nat} {b : Int} (hr : 0 ≤ r p ∧ r p ≤ 9999) (hs : 0 ≤ s p) (hb : 0 ≤ b) (h : s' p = s p + b) : min 9999 (sd_ad s r p + b) = sd_ad s' r p := by
  unfold sd_ad
  rw [h]
  omega
theorem sd_goD {x : sd_M} {M : Int} {r : Nat → Int} {h A : Nat} {m m' : sd_M} {v : Int} (hp : ∀ p, p < 6 → m (5400 + p) = sd_ad (sd_md x M h) r p) (em : m' = sd_up m (5400 + A) v) (hA : x (34 + h) = (A : Int)) (hb : sd_bit M h) (hv : v = min 9999 (sd_ad (sd_md x M h) r A + x (58 + h))) (hr : 0 ≤ r A ∧ r A ≤ 9999) (hs : 0 ≤ sd_md x M h A) (hx : 0 ≤ x (58 + h)) : ∀ p, p < 6 → m' (5400 + p) = sd_ad (sd_md x M (h + 1)) r p := by
  intro p hp6
  have e : ∀ q, sd_md x M (h + 1) q = sd_md x M h q + sd_fmk x M q h := fun q => rfl
  rw [em]
  unfold sd_up
  by_cases z : p = A
  · subst z
    rw [if_pos rfl, hv]
    have f : sd_fmk x M p h = x (58 + h) := by unfold sd_fmk; rw [if_pos ⟨hb, hA⟩]
    have e2 := e p
    unfold sd_ad at hv ⊢
    rw [e2, f]
    omega
  · rw [if_neg (by omega), hp p hp6]
    have f : sd_fmk x M p h = 0 := by unfold sd_fmk; rw [if_neg (fun q => by have := q.2; omega)]
    have e2 := e p
    unfold sd_ad
    rw [e2, f]
    omega
theorem sd_goD0 {x : sd_M} {M : Int} {r : Nat → Int} {h : Nat} {m : sd_M} (hp : ∀ p, p < 6 → m (5400 + p) = sd_ad (sd_md x M h) r p) (hb : ¬ sd_bit M h) : ∀ p, p < 6 → m (5400 + p) = sd_ad (sd_md x M (h + 1)) r p := by
  intro p hp6
  have e : sd_md x M (h + 1) p = sd_md x M h p + sd_fmk x M p h := rfl
  have f : sd_fmk x M p h = 0 := by unfold sd_fmk; rw [if_neg (fun q => hb q.1)]
  rw [hp p hp6]
  unfold sd_ad
  rw [e, f]
  omega
theorem sd_goE {x : sd_M} {k : Nat → Int} {mI m1 m : sd_M} {w i n : Nat} (hn : n ≤ 6) (hold : ∀ v, v < n → (if v < w then sd_SL x k mI v (i + 1) else sd_SL x k mI v i)) (kk : ∀ j, ¬ (5400 ≤ j ∧ j < 5406) → m j = m1 j) (hnew : sd_SL x k m1 w (i + 1)) (hoth : ∀ v, v < 6 → ¬ v = w → m1 (5410 + v) = mI (5410 + v) ∧ m1 (5420 + v) = mI (5420 + v)) : ∀ v, v < n → (if v < w + 1 then sd_SL x k m v (i + 1) else sd_SL x k m v i) := by
  intro v hv
  by_cases z : v = w
  · subst z
    rw [if_pos (by omega)]
    exact hnew.keep (kk _ (by omega)) (kk _ (by omega))
  · have o := hold v hv
    have q := hoth v (by omega) z
    by_cases c : v < w
    · rw [if_pos c] at o
      rw [if_pos (by omega)]
      exact o.keep ((kk _ (by omega)).trans q.1) ((kk _ (by omega)).trans q.2)
    · rw [if_neg c] at o
      rw [if_neg (by omega)]
      exact o.keep ((kk _ (by omega)).trans q.1) ((kk _ (by omega)).trans q.2)
