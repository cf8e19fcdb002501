theorem sN_out {N : Nat} {x : sd_M} (hI : sd_Inv N x) (h : Int) (P : Prop) [Decidable P] : sd_Inv (N + 1) (sp_out x h P).2 := by
  obtain ⟨⟨⟨h1, h2, h3, h4, h5, h6, h7, hR, hT, hL⟩, hc, h8, h9, hn⟩, hr⟩ := id hI
  have i2 := h1.2.2.1
  have i3 := h1.2.2.2.1
  have i4 := h1.2.2.2.2.1
  have i6 := h1.2.2.2.2.2.2.1
  have hx2 := i2.2
  unfold sp_out
  refine sd_ifp (fun _ => hI.fd (by decide)) (fun c1 => ?_)
  dsimp only
  have b01 := sd_b01 P
  refine hI.site (fun j hj => (by rw [sd_up_ne (by omega)])) (hI.1.wout (fun j c0_ => (by rw [sd_up_ne (by omega)])) ?_)
  refine sd_I7.put hx2 (sd_up_ne (by omega)) (fun j _ _ => sd_up_ne (by omega)) (fun j a b => ?_) (fun k hk q => ?_)
  · have z := h7.rd j a b
    unfold sd_up
    split <;> omega
  · rw [sd_up_ne (by omega)] at q
    rw [sd_up_ne (by omega), sd_up_ne (by omega)]
    exact (h7 k hk).2.2.2 q
