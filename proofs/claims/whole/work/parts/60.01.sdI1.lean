theorem sd_I1.p1 {x y : sd_M} (h : sd_I1 x) (e : ∀ j, j < 9 → ¬ j = 1 → y j = x j) (hv : 0 ≤ y 1 ∧ y 1 ≤ 9) : sd_I1 y := by
  unfold sd_I1 at h ⊢
  rw [e 0 (by omega) (by omega), e 2 (by omega) (by omega), e 3 (by omega) (by omega), e 4 (by omega) (by omega), e 5 (by omega) (by omega), e 6 (by omega) (by omega), e 7 (by omega) (by omega), e 8 (by omega) (by omega)]
  omega
theorem sd_I1.p2 {x y : sd_M} (h : sd_I1 x) (e : ∀ j, j < 9 → ¬ j = 2 → y j = x j) (hv : 0 ≤ y 2 ∧ y 2 ≤ 24) : sd_I1 y := by
  unfold sd_I1 at h ⊢
  rw [e 0 (by omega) (by omega), e 1 (by omega) (by omega), e 3 (by omega) (by omega), e 4 (by omega) (by omega), e 5 (by omega) (by omega), e 6 (by omega) (by omega), e 7 (by omega) (by omega), e 8 (by omega) (by omega)]
  omega
theorem sd_I1.p3 {x y : sd_M} (h : sd_I1 x) (e : ∀ j, j < 9 → ¬ j = 3 → y j = x j) (hv : 0 ≤ y 3 ∧ y 3 ≤ 16) : sd_I1 y := by
  unfold sd_I1 at h ⊢
  rw [e 0 (by omega) (by omega), e 1 (by omega) (by omega), e 2 (by omega) (by omega), e 4 (by omega) (by omega), e 5 (by omega) (by omega), e 6 (by omega) (by omega), e 7 (by omega) (by omega), e 8 (by omega) (by omega)]
  omega
theorem sd_I1.p4 {x y : sd_M} (h : sd_I1 x) (e : ∀ j, j < 9 → ¬ j = 4 → y j = x j) (hv : 0 ≤ y 4 ∧ y 4 ≤ 6) : sd_I1 y := by
  unfold sd_I1 at h ⊢
  rw [e 0 (by omega) (by omega), e 1 (by omega) (by omega), e 2 (by omega) (by omega), e 3 (by omega) (by omega), e 5 (by omega) (by omega), e 6 (by omega) (by omega), e 7 (by omega) (by omega), e 8 (by omega) (by omega)]
  omega
theorem sd_I1.p5 {x y : sd_M} (h : sd_I1 x) (e : ∀ j, j < 9 → ¬ j = 5 → y j = x j) (hv : 0 ≤ y 5 ∧ y 5 ≤ 8) : sd_I1 y := by
  unfold sd_I1 at h ⊢
  rw [e 0 (by omega) (by omega), e 1 (by omega) (by omega), e 2 (by omega) (by omega), e 3 (by omega) (by omega), e 4 (by omega) (by omega), e 6 (by omega) (by omega), e 7 (by omega) (by omega), e 8 (by omega) (by omega)]
  omega
theorem sd_I1.p6 {x y : sd_M} (h : sd_I1 x) (e : ∀ j, j < 9 → ¬ j = 6 → y j = x j) (hv : 0 ≤ y 6 ∧ y 6 ≤ 6) : sd_I1 y := by
  unfold sd_I1 at h ⊢
  rw [e 0 (by omega) (by omega), e 1 (by omega) (by omega), e 2 (by omega) (by omega), e 3 (by omega) (by omega), e 4 (by omega) (by omega), e 5 (by omega) (by omega), e 7 (by omega) (by omega), e 8 (by omega) (by omega)]
  omega
theorem sd_I1.p7 {x y : sd_M} (h : sd_I1 x) (e : ∀ j, j < 9 → ¬ j = 7 → y j = x j) (hv : 0 ≤ y 7 ∧ y 7 ≤ 9) : sd_I1 y := by
  unfold sd_I1 at h ⊢
  rw [e 0 (by omega) (by omega), e 1 (by omega) (by omega), e 2 (by omega) (by omega), e 3 (by omega) (by omega), e 4 (by omega) (by omega), e 5 (by omega) (by omega), e 6 (by omega) (by omega), e 8 (by omega) (by omega)]
  omega
theorem sd_I3.held {x y : sd_M} (h : sd_I3 x) (hx : x 2 ≤ 24) (e2 : y 2 = x 2) (e : ∀ j, 10 ≤ j → j < 82 → y j = x j) (e' : ∀ i : Nat, (i : Int) < x 2 → x (10 + i) ≠ 3 → y (202 + i) = 0) : sd_I3 y := by
  intro i hi
  rw [e2] at hi
  obtain ⟨a, b, c, d, f, g⟩ := h i hi
  rw [e (10 + i) (by omega) (by omega), e (34 + i) (by omega) (by omega), e (58 + i) (by omega) (by omega)]
  refine ⟨a, b, fun q => ⟨(c q).1.cong e2 (fun j h1 h2 => e j h1 (by omega)) hx, ?_⟩, fun q => ⟨(d q).1.cong e2 (fun j h1 h2 => e j h1 (by omega)) hx, (d q).2⟩, f, e' i hi⟩
  rcases (c q).2 with z | z
  · exact Or.inl z
  · exact Or.inr (z.cong e2 (fun j h1 h2 => e j h1 (by omega)) hx)
theorem sd_I4.put {x y : sd_M} (hx : x 2 ≤ 24) (e2 : y 2 = x 2) (e : ∀ j, 10 ≤ j → j < 34 → y j = x j) (r1 : ∀ j : Nat, 322 ≤ j → j < 338 → -1 ≤ y j ∧ y j ≤ 23) (r2 : ∀ j : Nat, 338 ≤ j → j < 386 → 0 ≤ y j ∧ y j ≤ 99) (s : ∀ i : Nat, i < 16 → (i : Int) < y 3 → y (322 + i) = -1 ∨ sd_shp x (y (322 + i))) : sd_I4 y := by
  intro i hi
  refine ⟨r1 _ (by omega) (by omega), r2 _ (by omega) (by omega), r2 _ (by omega) (by omega), r2 _ (by omega) (by omega), fun q => ?_⟩
  rcases s i hi q with z | z
  · exact Or.inl z
  · exact Or.inr (z.cong e2 e hx)
theorem sd_I4.rd1 {x : sd_M} (h : sd_I4 x) : ∀ j : Nat, 322 ≤ j → j < 338 → -1 ≤ x j ∧ x j ≤ 23 := by
  intro j a b
  have z := (h (j - 322) (by omega)).1
  rw [show 322 + (j - 322) = j by omega] at z
  exact z
theorem sd_I4.rd2 {x : sd_M} (h : sd_I4 x) : ∀ j : Nat, 338 ≤ j → j < 386 → 0 ≤ x j ∧ x j ≤ 99 := by
  intro j a b
  rcases (show (j < 354) ∨ (354 ≤ j ∧ j < 370) ∨ 370 ≤ j by omega) with q | q | q
  · have z := (h (j - 338) (by omega)).2.1
    rw [show 338 + (j - 338) = j by omega] at z
    exact z
  · have z := (h (j - 354) (by omega)).2.2.1
    rw [show 354 + (j - 354) = j by omega] at z
    exact z
  · have z := (h (j - 370) (by omega)).2.2.2.1
    rw [show 370 + (j - 370) = j by omega] at z
    exact z
theorem sd_I7.rd {x : sd_M} (h : sd_I7 x) : ∀ j : Nat, 1272 ≤ j → j < 1290 → 0 ≤ x j ∧ (j < 1278 → x j ≤ 23) ∧ (1278 ≤ j → x j ≤ 9) ∧ (1284 ≤ j → x j ≤ 1) := by
  intro j a b
  rcases (show (j < 1278) ∨ (1278 ≤ j ∧ j < 1284) ∨ 1284 ≤ j by omega) with q | q | q
  · have z := (h (j - 1272) (by omega)).1
    rw [show 1272 + (j - 1272) = j by omega] at z
    omega
  · have z := (h (j - 1278) (by omega)).2.1
    rw [show 1278 + (j - 1278) = j by omega] at z
    omega
  · have z := (h (j - 1284) (by omega)).2.2.1
    rw [show 1284 + (j - 1284) = j by omega] at z
    omega
theorem sd_I7.put {x y : sd_M} (hx : x 2 ≤ 24) (e2 : y 2 = x 2) (e : ∀ j, 10 ≤ j → j < 34 → y j = x j) (r : ∀ j : Nat, 1272 ≤ j → j < 1290 → 0 ≤ y j ∧ (j < 1278 → y j ≤ 23) ∧ (1278 ≤ j → y j ≤ 9) ∧ (1284 ≤ j → y j ≤ 1)) (s : ∀ i : Nat, i < 6 → (i : Int) < y 6 → y (1272 + i) < x 2 ∧ x (10 + (y (1272 + i)).toNat) = 3 ∧ 1 ≤ y (1278 + i)) : sd_I7 y := by
  intro i hi
  have a := r (1272 + i) (by omega) (by omega)
  have b := r (1278 + i) (by omega) (by omega)
  have c := r (1284 + i) (by omega) (by omega)
  refine ⟨by omega, by omega, by omega, fun q => ?_⟩
  have z := s i hi q
  refine ⟨by rw [e2]; exact z.1, ?_, z.2.2⟩
  rw [e _ (by omega) (by omega)]
  exact z.2.1
theorem sd_ifp {n : Nat} {c : Prop} [Decidable c] {p q : Int × sd_M} (h1 : c → sd_Inv n p.2) (h2 : ¬ c → sd_Inv n q.2) : sd_Inv n (if c then p else q).2 := by
  by_cases h : c
  · rw [if_pos h]; exact h1 h
  · rw [if_neg h]; exact h2 h
