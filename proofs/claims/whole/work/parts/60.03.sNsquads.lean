theorem sN_squads {N : Nat} {x : sd_M} (hI : sd_Inv N x) (v : Int) : sd_Inv (N + 1) (sp_squads x v).2 := by
  obtain ⟨⟨⟨h1, h2, h3, h4, h5, h6, h7, hR, hT, hL⟩, hc, h8, h9, hn⟩, hr⟩ := id hI
  have i2 := h1.2.2.1
  have i3 := h1.2.2.2.1
  have i4 := h1.2.2.2.2.1
  have i6 := h1.2.2.2.2.2.2.1
  have hx2 := i2.2
  unfold sp_squads
  refine sd_ifp (fun _ => hI.fd (by decide)) (fun c1 => ?_)
  dsimp only
  refine hI.site (fun j hj => (by rw [sd_up_ne (by omega)])) (hI.1.w7 (fun j c0_ => (by rw [sd_up_ne (by omega)])) ?_)
  exact h1.p7 (fun j _ q => sd_up_ne q) (by rw [sd_up_eq]; omega)
