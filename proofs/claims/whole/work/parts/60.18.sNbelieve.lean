theorem sN_believe {N : Nat} {x : sd_M} (hI : sd_Inv N x) : sd_Inv (N + 1) (sp_believe x).2 := by
  obtain ⟨⟨⟨h1, h2, h3, h4, h5, h6, h7, hR, hT, hL⟩, hc, h8, h9, hn⟩, hr⟩ := id hI
  have i2 := h1.2.2.1
  have i3 := h1.2.2.2.1
  have i4 := h1.2.2.2.2.1
  have i6 := h1.2.2.2.2.2.2.1
  have hx2 := i2.2
  refine hI.site (fun j hj => by show sd_gd x _ _ j = _; unfold sd_gd; rw [if_neg (by omega)]) (hI.1.whold (fun j _ _ => by show sd_gd x _ _ j = _; unfold sd_gd; rw [if_neg (by omega)]) ?_)
  refine sd_I2.of (fun j j1 j2 => ?_)
  have z := h2.rd j j1 j2
  show 0 ≤ sd_gd x _ _ j ∧ sd_gd x _ _ j ≤ _
  unfold sd_gd
  split
  · have w := sd_sqd_rng h1 (sd_tho x) (j - 226)
    unfold sd_b2
    repeat (first | rw [if_pos (by omega)] | rw [if_neg (by omega)])
    omega
  · exact z
