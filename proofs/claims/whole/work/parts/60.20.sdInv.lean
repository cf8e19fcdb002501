theorem sd_Inv.tape {N : Nat} {x y : sd_M} (hI : sd_Inv N x) (e : ∀ j, ¬ (4000 ≤ j ∧ j < 4101) → y j = x j) (r : 0 ≤ y 4100 ∧ y 4100 ≤ 100) : sd_Inv (N + 1) y := by
  obtain ⟨z, a, b, c, d⟩ := hI
  refine ⟨z.cong (fun j hj => e j (by omega)), r, b.cong (fun j _ _ => e j (by omega)) (fun j _ => e j (by omega)), fun k hk => ?_, sd_kp.cong d (e _ (by omega)) (fun j _ _ => e j (by omega)) (fun j _ _ => e j (by omega))⟩
  have := c k hk
  rw [e _ (by omega)]
  omega
