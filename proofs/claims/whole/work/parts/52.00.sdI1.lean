/-! What an hour keeps. -/
def sd_J (x : sd_M) : Prop := sd_I1 x ∧ sd_I2 x ∧ sd_I3 x ∧ sd_I4 x ∧ sd_I5 x ∧ sd_I6 x ∧ sd_I7 x ∧ sd_IR x ∧ sd_IT x ∧ sd_LT x
theorem sd_I1.cong {x y : sd_M} (h : sd_I1 x) (e : ∀ j, j < 9 → y j = x j) : sd_I1 y := by
  unfold sd_I1
  rw [e 0 (by omega), e 1 (by omega), e 2 (by omega), e 3 (by omega), e 4 (by omega), e 5 (by omega), e 6 (by omega), e 7 (by omega), e 8 (by omega)]
  exact h
theorem sd_I2.cong {x y : sd_M} (h : sd_I2 x) (e : ∀ j, 10 ≤ j → j < 322 → y j = x j) : sd_I2 y := by
  intro i hi
  rw [e (10 + i) (by omega) (by omega), e (34 + i) (by omega) (by omega), e (58 + i) (by omega) (by omega), e (82 + i) (by omega) (by omega), e (106 + i) (by omega) (by omega), e (130 + i) (by omega) (by omega), e (154 + i) (by omega) (by omega), e (178 + i) (by omega) (by omega), e (202 + i) (by omega) (by omega), e (226 + i) (by omega) (by omega), e (250 + i) (by omega) (by omega), e (274 + i) (by omega) (by omega), e (298 + i) (by omega) (by omega)]
  exact h i hi
theorem sd_shp.cong {x y : sd_M} {v : Int} (h : sd_shp x v) (e2 : y 2 = x 2) (e : ∀ j, 10 ≤ j → j < 34 → y j = x j) (hx : x 2 ≤ 24) : sd_shp y v := by
  obtain ⟨a, b, c⟩ := h
  exact ⟨a, by rw [e2]; exact b, by rw [e _ (by omega) (by omega)]; exact c⟩
theorem sd_I3.cong {x y : sd_M} (h : sd_I3 x) (hx : x 2 ≤ 24) (e2 : y 2 = x 2) (e : ∀ j, 10 ≤ j → j < 82 → y j = x j) (e' : ∀ j, 202 ≤ j → j < 226 → y j = x j) : sd_I3 y := by
  intro i hi
  rw [e2] at hi
  obtain ⟨a, b, c, d, f, g⟩ := h i hi
  rw [e (10 + i) (by omega) (by omega), e (34 + i) (by omega) (by omega), e (58 + i) (by omega) (by omega), e' (202 + i) (by omega) (by omega)]
  refine ⟨a, b, fun q => ⟨(c q).1.cong e2 (fun j h1 h2 => e j h1 (by omega)) hx, ?_⟩, fun q => ⟨(d q).1.cong e2 (fun j h1 h2 => e j h1 (by omega)) hx, (d q).2⟩, f, g⟩
  rcases (c q).2 with z | z
  · exact Or.inl z
  · exact Or.inr (z.cong e2 (fun j h1 h2 => e j h1 (by omega)) hx)
theorem sd_I4.cong {x y : sd_M} (h : sd_I4 x) (hx : x 2 ≤ 24) (e2 : y 2 = x 2) (e3 : y 3 = x 3) (e : ∀ j, 10 ≤ j → j < 34 → y j = x j) (e' : ∀ j, 322 ≤ j → j < 386 → y j = x j) : sd_I4 y := by
  intro i hi
  obtain ⟨a, b, c, d, f⟩ := h i hi
  rw [e' (322 + i) (by omega) (by omega), e' (338 + i) (by omega) (by omega), e' (354 + i) (by omega) (by omega), e' (370 + i) (by omega) (by omega), e3]
  refine ⟨a, b, c, d, fun q => ?_⟩
  rcases f q with z | z
  · exact Or.inl z
  · exact Or.inr (z.cong e2 e hx)
theorem sd_I5.cong {x y : sd_M} (h : sd_I5 x) (e : ∀ j, 386 ≤ j → j < 428 → y j = x j) : sd_I5 y := ⟨fun i hi => by rw [e _ (by omega) (by omega)]; exact h.1 i hi, fun i hi => by rw [e _ (by omega) (by omega)]; exact h.2 i hi⟩
theorem sd_I6.cong {x y : sd_M} (h : sd_I6 x) (e0 : x 0 ≤ y 0) (e5 : y 5 = x 5) (e : ∀ j, 428 ≤ j → j < 460 → y j = x j) (e' : ∀ j, 1268 ≤ j → j < 1272 → y j = x j) : sd_I6 y := by
  refine ⟨fun i hi => ?_, fun i hi => ?_⟩
  · have z := h.1 i hi
    rw [e (428 + i) (by omega) (by omega), e (436 + i) (by omega) (by omega), e (444 + i) (by omega) (by omega), e (452 + i) (by omega) (by omega), e5]
    omega
  · have z := h.2 i hi
    rw [e' (1268 + i) (by omega) (by omega)]
    omega
theorem sd_I7.cong {x y : sd_M} (h : sd_I7 x) (hx : x 2 ≤ 24) (e2 : y 2 = x 2) (e6 : y 6 = x 6) (e : ∀ j, 10 ≤ j → j < 34 → y j = x j) (e' : ∀ j, 1272 ≤ j → j < 1290 → y j = x j) : sd_I7 y := by
  intro i hi
  have z := h i hi
  rw [e' (1272 + i) (by omega) (by omega), e' (1278 + i) (by omega) (by omega), e' (1284 + i) (by omega) (by omega), e2, e6, e (10 + (x (1272 + i)).toNat) (by omega) (by omega)]
  exact z
theorem sd_IR.cong {x y : sd_M} (h : sd_IR x) (h8 : x 5 ≤ 8) (e5 : y 5 = x 5) (e : ∀ j, 6010 ≤ j → j < 6500 → y j = x j) : sd_IR y := by
  intro t ht
  rw [e5] at ht
  obtain ⟨a, b⟩ := h t ht
  rw [e (6010 + t) (by omega) (by omega)]
  refine ⟨a, fun c hc => ?_⟩
  obtain ⟨d, f, g⟩ := b c hc
  rw [e (6100 + (5 * t + c)) (by omega) (by omega), e (6020 + (5 * t + c)) (by omega) (by omega)]
  refine ⟨d, f, fun k hk => ?_⟩
  rw [e (6140 + (3 * (5 * t + c) + k)) (by omega) (by omega), e (6260 + (3 * (5 * t + c) + k)) (by omega) (by omega), e (6380 + (3 * (5 * t + c) + k)) (by omega) (by omega)]
  exact g k hk
theorem sd_IT.cong {x y : sd_M} (h : sd_IT x) (hR : sd_IR x) (h8 : x 5 ≤ 8) (e5 : y 5 = x 5) (e : ∀ j, 460 ≤ j → j < 1268 → y j = x j) (e' : ∀ j, 6010 ≤ j → j < 6500 → y j = x j) : sd_IT y := by
  intro t ht
  rw [e5] at ht
  obtain ⟨cs, a, b, c, d⟩ := h t ht
  have r := (hR t ht).1
  have eB : sd_stB y t = sd_stB x t := by
    funext q
    unfold sd_stB
    rw [e (460 + t) (by omega) (by omega)]
    by_cases z : q < (x (460 + t)).toNat
    · rw [if_pos z, if_pos z, e _ (by omega) (by omega)]
    · rw [if_neg z, if_neg z]
  refine ⟨cs, ?_, ?_, ?_, fun i cl hi => ?_⟩
  · rw [eB, e (460 + t) (by omega) (by omega)]; exact a
  · rw [e (460 + t) (by omega) (by omega)]; exact b
  · rw [e' (6010 + t) (by omega) (by omega)]; exact c
  · have hl := (List.getElem?_eq_some_iff.mp hi).1
    have rC := d i cl hi
    have hlen : cl.2.2.length ≤ 3 := by
      have z := ((hR t ht).2 i (by omega)).1
      rw [rC.2.2.1] at z
      omega
    exact sd_rC_keep rC hlen (fun j hj => e' j (by omega) (by omega))
theorem sd_LT.cong {x y : sd_M} (h : sd_LT x) (e : ∀ j, 8000 ≤ j → j < 8052 → y j = x j) : sd_LT y := fun k hk => by rw [e _ (by omega) (by omega)]; exact h k hk
theorem sd_J.warm {x : sd_M} (h : sd_J x) {k : Nat} (hk : k < 24) {v : Int} (hv : 0 ≤ v ∧ v ≤ 20) : sd_J (sd_up x (82 + k) v) := by
  have hx2 : x 2 ≤ 24 := h.1.2.2.1.2
  have hx5 : x 5 ≤ 8 := h.1.2.2.2.2.2.1.2
  exact ⟨h.1.cong (fun j _ => sd_up_ne (by omega)), (fun i hi => by have e := h.2.1 i hi; exact ⟨(by rw [sd_up_ne (by omega)]; omega), (by rw [sd_up_ne (by omega)]; omega), (by rw [sd_up_ne (by omega)]; omega), (by by_cases q : i = k; (subst q; rw [sd_up_eq]; exact hv); (rw [sd_up_ne (by omega)]; omega)), (by rw [sd_up_ne (by omega)]; omega), (by rw [sd_up_ne (by omega)]; omega), (by rw [sd_up_ne (by omega)]; omega), (by rw [sd_up_ne (by omega)]; omega), (by rw [sd_up_ne (by omega)]; omega), (by rw [sd_up_ne (by omega)]; omega), (by rw [sd_up_ne (by omega)]; omega), (by rw [sd_up_ne (by omega)]; omega), (by rw [sd_up_ne (by omega)]; omega)⟩), h.2.2.1.cong hx2 (sd_up_ne (by omega)) (fun j _ _ => sd_up_ne (by omega)) (fun j _ _ => sd_up_ne (by omega)), h.2.2.2.1.cong hx2 (sd_up_ne (by omega)) (sd_up_ne (by omega)) (fun j _ _ => sd_up_ne (by omega)) (fun j _ _ => sd_up_ne (by omega)), h.2.2.2.2.1.cong (fun j _ _ => sd_up_ne (by omega)), h.2.2.2.2.2.1.cong (by rw [sd_up_ne (by omega)]; exact Int.le_refl _) (sd_up_ne (by omega)) (fun j _ _ => sd_up_ne (by omega)) (fun j _ _ => sd_up_ne (by omega)), h.2.2.2.2.2.2.1.cong hx2 (sd_up_ne (by omega)) (sd_up_ne (by omega)) (fun j _ _ => sd_up_ne (by omega)) (fun j _ _ => sd_up_ne (by omega)), h.2.2.2.2.2.2.2.1.cong hx5 (sd_up_ne (by omega)) (fun j _ _ => sd_up_ne (by omega)), h.2.2.2.2.2.2.2.2.1.cong h.2.2.2.2.2.2.2.1 hx5 (sd_up_ne (by omega)) (fun j _ _ => sd_up_ne (by omega)) (fun j _ _ => sd_up_ne (by omega)), h.2.2.2.2.2.2.2.2.2.cong (fun j _ _ => sd_up_ne (by omega))⟩
theorem sd_J.flood {x : sd_M} (h : sd_J x) {k : Nat} (hk : k < 24) {v : Int} (hv : 0 ≤ v ∧ v ≤ 1) : sd_J (sd_up x (106 + k) v) := by
  have hx2 : x 2 ≤ 24 := h.1.2.2.1.2
  have hx5 : x 5 ≤ 8 := h.1.2.2.2.2.2.1.2
  exact ⟨h.1.cong (fun j _ => sd_up_ne (by omega)), (fun i hi => by have e := h.2.1 i hi; exact ⟨(by rw [sd_up_ne (by omega)]; omega), (by rw [sd_up_ne (by omega)]; omega), (by rw [sd_up_ne (by omega)]; omega), (by rw [sd_up_ne (by omega)]; omega), (by by_cases q : i = k; (subst q; rw [sd_up_eq]; exact hv); (rw [sd_up_ne (by omega)]; omega)), (by rw [sd_up_ne (by omega)]; omega), (by rw [sd_up_ne (by omega)]; omega), (by rw [sd_up_ne (by omega)]; omega), (by rw [sd_up_ne (by omega)]; omega), (by rw [sd_up_ne (by omega)]; omega), (by rw [sd_up_ne (by omega)]; omega), (by rw [sd_up_ne (by omega)]; omega), (by rw [sd_up_ne (by omega)]; omega)⟩), h.2.2.1.cong hx2 (sd_up_ne (by omega)) (fun j _ _ => sd_up_ne (by omega)) (fun j _ _ => sd_up_ne (by omega)), h.2.2.2.1.cong hx2 (sd_up_ne (by omega)) (sd_up_ne (by omega)) (fun j _ _ => sd_up_ne (by omega)) (fun j _ _ => sd_up_ne (by omega)), h.2.2.2.2.1.cong (fun j _ _ => sd_up_ne (by omega)), h.2.2.2.2.2.1.cong (by rw [sd_up_ne (by omega)]; exact Int.le_refl _) (sd_up_ne (by omega)) (fun j _ _ => sd_up_ne (by omega)) (fun j _ _ => sd_up_ne (by omega)), h.2.2.2.2.2.2.1.cong hx2 (sd_up_ne (by omega)) (sd_up_ne (by omega)) (fun j _ _ => sd_up_ne (by omega)) (fun j _ _ => sd_up_ne (by omega)), h.2.2.2.2.2.2.2.1.cong hx5 (sd_up_ne (by omega)) (fun j _ _ => sd_up_ne (by omega)), h.2.2.2.2.2.2.2.2.1.cong h.2.2.2.2.2.2.2.1 hx5 (sd_up_ne (by omega)) (fun j _ _ => sd_up_ne (by omega)) (fun j _ _ => sd_up_ne (by omega)), h.2.2.2.2.2.2.2.2.2.cong (fun j _ _ => sd_up_ne (by omega))⟩
theorem sd_J.meals {x : sd_M} (h : sd_J x) {k : Nat} (hk : k < 24) {v : Int} (hv : 0 ≤ v ∧ v ≤ 99) : sd_J (sd_up x (154 + k) v) := by
  have hx2 : x 2 ≤ 24 := h.1.2.2.1.2
  have hx5 : x 5 ≤ 8 := h.1.2.2.2.2.2.1.2
  exact ⟨h.1.cong (fun j _ => sd_up_ne (by omega)), (fun i hi => by have e := h.2.1 i hi; exact ⟨(by rw [sd_up_ne (by omega)]; omega), (by rw [sd_up_ne (by omega)]; omega), (by rw [sd_up_ne (by omega)]; omega), (by rw [sd_up_ne (by omega)]; omega), (by rw [sd_up_ne (by omega)]; omega), (by rw [sd_up_ne (by omega)]; omega), (by by_cases q : i = k; (subst q; rw [sd_up_eq]; exact hv); (rw [sd_up_ne (by omega)]; omega)), (by rw [sd_up_ne (by omega)]; omega), (by rw [sd_up_ne (by omega)]; omega), (by rw [sd_up_ne (by omega)]; omega), (by rw [sd_up_ne (by omega)]; omega), (by rw [sd_up_ne (by omega)]; omega), (by rw [sd_up_ne (by omega)]; omega)⟩), h.2.2.1.cong hx2 (sd_up_ne (by omega)) (fun j _ _ => sd_up_ne (by omega)) (fun j _ _ => sd_up_ne (by omega)), h.2.2.2.1.cong hx2 (sd_up_ne (by omega)) (sd_up_ne (by omega)) (fun j _ _ => sd_up_ne (by omega)) (fun j _ _ => sd_up_ne (by omega)), h.2.2.2.2.1.cong (fun j _ _ => sd_up_ne (by omega)), h.2.2.2.2.2.1.cong (by rw [sd_up_ne (by omega)]; exact Int.le_refl _) (sd_up_ne (by omega)) (fun j _ _ => sd_up_ne (by omega)) (fun j _ _ => sd_up_ne (by omega)), h.2.2.2.2.2.2.1.cong hx2 (sd_up_ne (by omega)) (sd_up_ne (by omega)) (fun j _ _ => sd_up_ne (by omega)) (fun j _ _ => sd_up_ne (by omega)), h.2.2.2.2.2.2.2.1.cong hx5 (sd_up_ne (by omega)) (fun j _ _ => sd_up_ne (by omega)), h.2.2.2.2.2.2.2.2.1.cong h.2.2.2.2.2.2.2.1 hx5 (sd_up_ne (by omega)) (fun j _ _ => sd_up_ne (by omega)) (fun j _ _ => sd_up_ne (by omega)), h.2.2.2.2.2.2.2.2.2.cong (fun j _ _ => sd_up_ne (by omega))⟩
theorem sd_J.will {x : sd_M} (h : sd_J x) {k : Nat} (hk : k < 16) {v : Int} (hv : 0 ≤ v ∧ v ≤ 99) : sd_J (sd_up x (338 + k) v) := by
  have hx2 : x 2 ≤ 24 := h.1.2.2.1.2
  have hx5 : x 5 ≤ 8 := h.1.2.2.2.2.2.1.2
  exact ⟨h.1.cong (fun j _ => sd_up_ne (by omega)), h.2.1.cong (fun j _ _ => sd_up_ne (by omega)), h.2.2.1.cong hx2 (sd_up_ne (by omega)) (fun j _ _ => sd_up_ne (by omega)) (fun j _ _ => sd_up_ne (by omega)), (fun i hi => by obtain ⟨e1, e2, e3, e4, z⟩ := h.2.2.2.1 i hi; exact ⟨(by rw [sd_up_ne (by omega)]; omega), (by by_cases q : i = k; (subst q; rw [sd_up_eq]; omega); (rw [sd_up_ne (by omega)]; omega)), (by rw [sd_up_ne (by omega)]; omega), (by rw [sd_up_ne (by omega)]; omega), (fun hi3 => by rw [sd_up_ne (show ¬ 3 = 338 + k by omega)] at hi3; by_cases q : i = k; (subst q; rw [sd_up_ne (show ¬ 322 + i = 338 + i by omega)]; rcases z hi3 with z1 | z1; exact Or.inl z1; exact Or.inr (z1.cong (sd_up_ne (by omega)) (fun j _ _ => sd_up_ne (by omega)) hx2)); (rw [sd_up_ne (show ¬ 322 + i = 338 + k by omega)]; rcases z hi3 with z1 | z1; exact Or.inl z1; exact Or.inr (z1.cong (sd_up_ne (by omega)) (fun j _ _ => sd_up_ne (by omega)) hx2)))⟩), h.2.2.2.2.1.cong (fun j _ _ => sd_up_ne (by omega)), h.2.2.2.2.2.1.cong (by rw [sd_up_ne (by omega)]; exact Int.le_refl _) (sd_up_ne (by omega)) (fun j _ _ => sd_up_ne (by omega)) (fun j _ _ => sd_up_ne (by omega)), h.2.2.2.2.2.2.1.cong hx2 (sd_up_ne (by omega)) (sd_up_ne (by omega)) (fun j _ _ => sd_up_ne (by omega)) (fun j _ _ => sd_up_ne (by omega)), h.2.2.2.2.2.2.2.1.cong hx5 (sd_up_ne (by omega)) (fun j _ _ => sd_up_ne (by omega)), h.2.2.2.2.2.2.2.2.1.cong h.2.2.2.2.2.2.2.1 hx5 (sd_up_ne (by omega)) (fun j _ _ => sd_up_ne (by omega)) (fun j _ _ => sd_up_ne (by omega)), h.2.2.2.2.2.2.2.2.2.cong (fun j _ _ => sd_up_ne (by omega))⟩
theorem sd_J.hunger {x : sd_M} (h : sd_J x) {k : Nat} (hk : k < 16) {v : Int} (hv : 0 ≤ v ∧ v ≤ 99) : sd_J (sd_up x (370 + k) v) := by
  have hx2 : x 2 ≤ 24 := h.1.2.2.1.2
  have hx5 : x 5 ≤ 8 := h.1.2.2.2.2.2.1.2
  exact ⟨h.1.cong (fun j _ => sd_up_ne (by omega)), h.2.1.cong (fun j _ _ => sd_up_ne (by omega)), h.2.2.1.cong hx2 (sd_up_ne (by omega)) (fun j _ _ => sd_up_ne (by omega)) (fun j _ _ => sd_up_ne (by omega)), (fun i hi => by obtain ⟨e1, e2, e3, e4, z⟩ := h.2.2.2.1 i hi; exact ⟨(by rw [sd_up_ne (by omega)]; omega), (by rw [sd_up_ne (by omega)]; omega), (by rw [sd_up_ne (by omega)]; omega), (by by_cases q : i = k; (subst q; rw [sd_up_eq]; omega); (rw [sd_up_ne (by omega)]; omega)), (fun hi3 => by rw [sd_up_ne (show ¬ 3 = 370 + k by omega)] at hi3; by_cases q : i = k; (subst q; rw [sd_up_ne (show ¬ 322 + i = 370 + i by omega)]; rcases z hi3 with z1 | z1; exact Or.inl z1; exact Or.inr (z1.cong (sd_up_ne (by omega)) (fun j _ _ => sd_up_ne (by omega)) hx2)); (rw [sd_up_ne (show ¬ 322 + i = 370 + k by omega)]; rcases z hi3 with z1 | z1; exact Or.inl z1; exact Or.inr (z1.cong (sd_up_ne (by omega)) (fun j _ _ => sd_up_ne (by omega)) hx2)))⟩), h.2.2.2.2.1.cong (fun j _ _ => sd_up_ne (by omega)), h.2.2.2.2.2.1.cong (by rw [sd_up_ne (by omega)]; exact Int.le_refl _) (sd_up_ne (by omega)) (fun j _ _ => sd_up_ne (by omega)) (fun j _ _ => sd_up_ne (by omega)), h.2.2.2.2.2.2.1.cong hx2 (sd_up_ne (by omega)) (sd_up_ne (by omega)) (fun j _ _ => sd_up_ne (by omega)) (fun j _ _ => sd_up_ne (by omega)), h.2.2.2.2.2.2.2.1.cong hx5 (sd_up_ne (by omega)) (fun j _ _ => sd_up_ne (by omega)), h.2.2.2.2.2.2.2.2.1.cong h.2.2.2.2.2.2.2.1 hx5 (sd_up_ne (by omega)) (fun j _ _ => sd_up_ne (by omega)) (fun j _ _ => sd_up_ne (by omega)), h.2.2.2.2.2.2.2.2.2.cong (fun j _ _ => sd_up_ne (by omega))⟩
theorem sd_J.gone {x : sd_M} (h : sd_J x) {k : Nat} (hk : k < 16) {v : Int} (hv : v = -1) : sd_J (sd_up x (322 + k) v) := by
  have hx2 : x 2 ≤ 24 := h.1.2.2.1.2
  have hx5 : x 5 ≤ 8 := h.1.2.2.2.2.2.1.2
  exact ⟨h.1.cong (fun j _ => sd_up_ne (by omega)), h.2.1.cong (fun j _ _ => sd_up_ne (by omega)), h.2.2.1.cong hx2 (sd_up_ne (by omega)) (fun j _ _ => sd_up_ne (by omega)) (fun j _ _ => sd_up_ne (by omega)), (fun i hi => by obtain ⟨e1, e2, e3, e4, z⟩ := h.2.2.2.1 i hi; exact ⟨(by by_cases q : i = k; (subst q; rw [sd_up_eq]; omega); (rw [sd_up_ne (by omega)]; omega)), (by rw [sd_up_ne (by omega)]; omega), (by rw [sd_up_ne (by omega)]; omega), (by rw [sd_up_ne (by omega)]; omega), (fun hi3 => by rw [sd_up_ne (show ¬ 3 = 322 + k by omega)] at hi3; by_cases q : i = k; (subst q; rw [sd_up_eq]; exact Or.inl hv); (rw [sd_up_ne (show ¬ 322 + i = 322 + k by omega)]; rcases z hi3 with z1 | z1; exact Or.inl z1; exact Or.inr (z1.cong (sd_up_ne (by omega)) (fun j _ _ => sd_up_ne (by omega)) hx2)))⟩), h.2.2.2.2.1.cong (fun j _ _ => sd_up_ne (by omega)), h.2.2.2.2.2.1.cong (by rw [sd_up_ne (by omega)]; exact Int.le_refl _) (sd_up_ne (by omega)) (fun j _ _ => sd_up_ne (by omega)) (fun j _ _ => sd_up_ne (by omega)), h.2.2.2.2.2.2.1.cong hx2 (sd_up_ne (by omega)) (sd_up_ne (by omega)) (fun j _ _ => sd_up_ne (by omega)) (fun j _ _ => sd_up_ne (by omega)), h.2.2.2.2.2.2.2.1.cong hx5 (sd_up_ne (by omega)) (fun j _ _ => sd_up_ne (by omega)), h.2.2.2.2.2.2.2.2.1.cong h.2.2.2.2.2.2.2.1 hx5 (sd_up_ne (by omega)) (fun j _ _ => sd_up_ne (by omega)) (fun j _ _ => sd_up_ne (by omega)), h.2.2.2.2.2.2.2.2.2.cong (fun j _ _ => sd_up_ne (by omega))⟩
theorem sd_J.stock {x : sd_M} (h : sd_J x) {k : Nat} (hk : k < 6) {v : Int} (hv : 0 ≤ v ∧ v ≤ 9999) : sd_J (sd_up x (386 + k) v) := by
  have hx2 : x 2 ≤ 24 := h.1.2.2.1.2
  have hx5 : x 5 ≤ 8 := h.1.2.2.2.2.2.1.2
  exact ⟨h.1.cong (fun j _ => sd_up_ne (by omega)), h.2.1.cong (fun j _ _ => sd_up_ne (by omega)), h.2.2.1.cong hx2 (sd_up_ne (by omega)) (fun j _ _ => sd_up_ne (by omega)) (fun j _ _ => sd_up_ne (by omega)), h.2.2.2.1.cong hx2 (sd_up_ne (by omega)) (sd_up_ne (by omega)) (fun j _ _ => sd_up_ne (by omega)) (fun j _ _ => sd_up_ne (by omega)), ⟨fun i hi => by by_cases q : i = k; (subst q; rw [sd_up_eq]; exact hv); (rw [sd_up_ne (by omega)]; exact h.2.2.2.2.1.1 i hi), fun i hi => by rw [sd_up_ne (by omega)]; exact h.2.2.2.2.1.2 i hi⟩, h.2.2.2.2.2.1.cong (by rw [sd_up_ne (by omega)]; exact Int.le_refl _) (sd_up_ne (by omega)) (fun j _ _ => sd_up_ne (by omega)) (fun j _ _ => sd_up_ne (by omega)), h.2.2.2.2.2.2.1.cong hx2 (sd_up_ne (by omega)) (sd_up_ne (by omega)) (fun j _ _ => sd_up_ne (by omega)) (fun j _ _ => sd_up_ne (by omega)), h.2.2.2.2.2.2.2.1.cong hx5 (sd_up_ne (by omega)) (fun j _ _ => sd_up_ne (by omega)), h.2.2.2.2.2.2.2.2.1.cong h.2.2.2.2.2.2.2.1 hx5 (sd_up_ne (by omega)) (fun j _ _ => sd_up_ne (by omega)) (fun j _ _ => sd_up_ne (by omega)), h.2.2.2.2.2.2.2.2.2.cong (fun j _ _ => sd_up_ne (by omega))⟩
theorem sd_J.page {x : sd_M} (h : sd_J x) {k : Nat} (hk : k < 240) {v : Int} (hv : True) : sd_J (sd_up x (1314 + k) v) := by
  have hx2 : x 2 ≤ 24 := h.1.2.2.1.2
  have hx5 : x 5 ≤ 8 := h.1.2.2.2.2.2.1.2
  exact ⟨h.1.cong (fun j _ => sd_up_ne (by omega)), h.2.1.cong (fun j _ _ => sd_up_ne (by omega)), h.2.2.1.cong hx2 (sd_up_ne (by omega)) (fun j _ _ => sd_up_ne (by omega)) (fun j _ _ => sd_up_ne (by omega)), h.2.2.2.1.cong hx2 (sd_up_ne (by omega)) (sd_up_ne (by omega)) (fun j _ _ => sd_up_ne (by omega)) (fun j _ _ => sd_up_ne (by omega)), h.2.2.2.2.1.cong (fun j _ _ => sd_up_ne (by omega)), h.2.2.2.2.2.1.cong (by rw [sd_up_ne (by omega)]; exact Int.le_refl _) (sd_up_ne (by omega)) (fun j _ _ => sd_up_ne (by omega)) (fun j _ _ => sd_up_ne (by omega)), h.2.2.2.2.2.2.1.cong hx2 (sd_up_ne (by omega)) (sd_up_ne (by omega)) (fun j _ _ => sd_up_ne (by omega)) (fun j _ _ => sd_up_ne (by omega)), h.2.2.2.2.2.2.2.1.cong hx5 (sd_up_ne (by omega)) (fun j _ _ => sd_up_ne (by omega)), h.2.2.2.2.2.2.2.2.1.cong h.2.2.2.2.2.2.2.1 hx5 (sd_up_ne (by omega)) (fun j _ _ => sd_up_ne (by omega)) (fun j _ _ => sd_up_ne (by omega)), h.2.2.2.2.2.2.2.2.2.cong (fun j _ _ => sd_up_ne (by omega))⟩
