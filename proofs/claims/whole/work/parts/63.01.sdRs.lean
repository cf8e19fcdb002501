theorem sd_Rs.tp {n : Nat} {x y : sd_M} (h : sd_Rs n x) (e : ∀ j, (2000 ≤ j ∧ j < 5000) ∨ 7000 ≤ j → ¬ j = 4100 → y j = x j) (r : 0 ≤ y 4100 ∧ y 4100 ≤ 100) : sd_Rs (n + 1) y := by
  obtain ⟨a, b, c, d⟩ := h
  refine ⟨r, b.cong (fun j _ _ => e j (by omega) (by omega)) (fun j _ => e j (by omega) (by omega)), fun k hk => ?_, sd_kp.cong d (e _ (by omega) (by omega)) (fun j _ _ => e j (by omega) (by omega)) (fun j _ _ => e j (by omega) (by omega))⟩
  have := c k hk
  rw [e (4101 + k) (by omega) (by omega)]
  omega
theorem sd_tx_bad {N : Nat} {x X : sd_M} (hI : sd_Inv N x) (h5 : x 5 < 8) (hX : ∀ q, ¬ sd_rg (x 5).toNat 0 q → X q = x q) : sd_Inv (N + 1) (sd_mg X x) := by
  obtain ⟨⟨⟨h1, h2, h3, h4, h5', h6, h7, hR, hT, hL⟩, hc, h8, h9, hn⟩, hr⟩ := id hI
  have i5 := h1.2.2.2.2.2.1
  have lo : ∀ j, j < 6010 → sd_mg X x j = x j := by
    intro j hj
    unfold sd_mg
    split
    · rfl
    · exact hX j (by omega)
  have e : ∀ j, 6010 ≤ j → ¬ sd_rg (x 5).toNat 0 j → sd_mg X x j = x j := by
    intro j a b
    unfold sd_mg
    rw [if_neg (by omega)]
    exact hX j b
  refine hI.site (fun j hj => ?_) (hI.1.wslot (fun j hj => ?_) ?_ ?_)
  · by_cases q : j < 6010
    · exact lo j q
    · exact e j (by omega) (by omega)
  · by_cases q : j < 6010
    · exact lo j q
    · exact e j (by omega) (by omega)
  · intro t ht
    rw [lo 5 (by omega)] at ht
    exact sd_IR1.keep (T := (x 5).toNat) (hR t ht) (by omega) (by omega) (fun j a b c => e j a c)
  · intro t ht
    rw [lo 5 (by omega)] at ht
    exact sd_IT1.keep (T := (x 5).toNat) (hT t ht) (hR t ht) (by omega) (by omega) (lo _ (by omega)) (fun q hq => lo _ (by omega)) (fun j a b c => e j a c)
theorem sd_aT_o {X : sd_M} {t : Nat} {j f to hr : Int} {q : Nat} (ht : t < 8) (a : ¬ q = 4100) (b : ¬ q = 5) (c : ¬ (428 ≤ q ∧ q < 460)) : sd_addT X t j f to hr q = X q := by
  unfold sd_addT
  rw [sd_up_ne (by omega), sd_up_ne (by omega), sd_up_ne (by omega), sd_up_ne (by omega), sd_up_ne (by omega), sd_up_ne (by omega)]
theorem sd_aM_o {x : sd_M} {t : Nat} {j f to : Int} {q : Nat} (ht : t < 8) (hp : 0 ≤ x 4100 ∧ x 4100 ≤ 100) (a : ¬ q = 4100) (b : ¬ q = 5) (c : ¬ q = 428 + t ∧ ¬ q = 436 + t ∧ ¬ q = 444 + t ∧ ¬ q = 452 + t ∧ ¬ q = 460 + t) (d : ¬ (468 + 100 * t ≤ q ∧ q < 568 + 100 * t)) : sd_addM x t j f to q = x q := by
  unfold sd_addM
  rw [sd_up_ne (by omega), sd_up_ne (by omega)]
  unfold sd_cpm
  rw [if_neg (by omega), sd_up_ne (by omega), sd_up_ne (by omega), sd_up_ne (by omega), sd_up_ne (by omega), sd_up_ne (by omega)]
theorem sd_aM_v {x : sd_M} {t : Nat} {j f to : Int} (ht : t < 8) (hp : 0 ≤ x 4100 ∧ x 4100 ≤ 100) : sd_addM x t j f to 5 = (t : Int) + 1 ∧ sd_addM x t j f to 4100 = 0 ∧ sd_addM x t j f to (428 + t) = j ∧ sd_addM x t j f to (436 + t) = f ∧ sd_addM x t j f to (444 + t) = to ∧ sd_addM x t j f to (452 + t) = x 0 ∧ sd_addM x t j f to (460 + t) = x 4100 ∧ ∀ q, q < (x 4100).toNat → sd_addM x t j f to (468 + 100 * t + q) = x (4000 + q) := by
  unfold sd_addM
  refine ⟨sd_up_eq, ?_, ?_, ?_, ?_, ?_, ?_, fun q hq => ?_⟩
  · rw [sd_up_ne (by omega), sd_up_eq]
  · rw [sd_up_ne (by omega), sd_up_ne (by omega)]
    unfold sd_cpm
    rw [if_neg (by omega), sd_up_ne (by omega), sd_up_ne (by omega), sd_up_ne (by omega), sd_up_ne (by omega), sd_up_eq]
  · rw [sd_up_ne (by omega), sd_up_ne (by omega)]
    unfold sd_cpm
    rw [if_neg (by omega), sd_up_ne (by omega), sd_up_ne (by omega), sd_up_ne (by omega), sd_up_eq]
  · rw [sd_up_ne (by omega), sd_up_ne (by omega)]
    unfold sd_cpm
    rw [if_neg (by omega), sd_up_ne (by omega), sd_up_ne (by omega), sd_up_eq]
  · rw [sd_up_ne (by omega), sd_up_ne (by omega)]
    unfold sd_cpm
    rw [if_neg (by omega), sd_up_ne (by omega), sd_up_eq]
  · rw [sd_up_ne (by omega), sd_up_ne (by omega)]
    unfold sd_cpm
    rw [if_neg (by omega), sd_up_eq]
  · rw [sd_up_ne (by omega), sd_up_ne (by omega)]
    unfold sd_cpm
    rw [if_pos (by omega), sd_up_ne (by omega), sd_up_ne (by omega), sd_up_ne (by omega), sd_up_ne (by omega), sd_up_ne (by omega)]
    exact congrArg x (by omega)
theorem sd_aT_v {X : sd_M} {t : Nat} {j f to hr : Int} (ht : t < 8) : sd_addT X t j f to hr 5 = (t : Int) + 1 ∧ sd_addT X t j f to hr 4100 = 0 ∧ sd_addT X t j f to hr (428 + t) = j ∧ sd_addT X t j f to hr (436 + t) = f ∧ sd_addT X t j f to hr (444 + t) = to ∧ sd_addT X t j f to hr (452 + t) = hr ∧ ∀ q, 428 ≤ q → q < 460 → ¬ q = 428 + t → ¬ q = 436 + t → ¬ q = 444 + t → ¬ q = 452 + t → sd_addT X t j f to hr q = X q := by
  unfold sd_addT
  refine ⟨?_, ?_, ?_, ?_, ?_, sd_up_eq, fun q a b c d e g => ?_⟩
  · rw [sd_up_ne (by omega), sd_up_ne (by omega), sd_up_ne (by omega), sd_up_ne (by omega), sd_up_eq]
  · rw [sd_up_ne (by omega), sd_up_ne (by omega), sd_up_ne (by omega), sd_up_ne (by omega), sd_up_ne (by omega), sd_up_eq]
  · rw [sd_up_ne (by omega), sd_up_ne (by omega), sd_up_ne (by omega), sd_up_eq]
  · rw [sd_up_ne (by omega), sd_up_ne (by omega), sd_up_eq]
  · rw [sd_up_ne (by omega), sd_up_eq]
  · rw [sd_up_ne g, sd_up_ne e, sd_up_ne d, sd_up_ne c, sd_up_ne (by omega), sd_up_ne (by omega)]
