theorem sN_tear {N : Nat} {x : sd_M} (hI : sd_Inv N x) : sd_Inv (N + 1) (sp_tear x).2 := by
  obtain ⟨z, a, b, c, d⟩ := hI
  show sd_Inv (N + 1) (sd_up x 4260 0)
  refine ⟨z.cong (fun j hj => sd_up_ne (by omega)), by rw [sd_up_ne (by omega)]; exact a, b.cong (fun j _ _ => sd_up_ne (by omega)) (fun j _ => sd_up_ne (by omega)), fun k hk => ?_, Or.inl sd_up_eq⟩
  have := c k hk
  rw [sd_up_ne (by omega)]
  omega
