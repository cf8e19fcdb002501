theorem sN_shares {N : Nat} {x : sd_M} (hI : sd_Inv N x) (j : Int) : sd_Inv (N + 1) (sp_shares x j).2 := by
  obtain ⟨⟨⟨h1, h2, h3, h4, h5, h6, h7, hR, hT, hL⟩, hc, h8, h9, hn⟩, hr⟩ := id hI
  have i2 := h1.2.2.1
  have i3 := h1.2.2.2.1
  have i4 := h1.2.2.2.2.1
  have i6 := h1.2.2.2.2.2.2.1
  have hx2 := i2.2
  unfold sp_shares
  refine sd_ifp (fun _ => hI.fd (by decide)) (fun c1 => ?_)
  refine sd_ifp (fun _ => hI.fd (by decide)) (fun c2 => ?_)
  dsimp only
  refine hI.site (fun k hk => sd_up_ne (by omega)) (hI.1.wsh (fun k _ => sd_up_ne (by omega)) ?_)
  have i0 := h1.1
  refine ⟨fun i hi => ?_, fun i hi => ?_⟩
  · rw [sd_up_ne (by omega), sd_up_ne (by omega), sd_up_ne (by omega), sd_up_ne (by omega), sd_up_ne (by omega), sd_up_ne (by omega)]
    exact h6.1 i hi
  · have z := h6.2 i hi
    rw [sd_up_at, sd_up_ne (by omega)]
    split <;> omega
