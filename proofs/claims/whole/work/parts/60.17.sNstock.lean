theorem sN_stock {N : Nat} {x : sd_M} (hI : sd_Inv N x) (s : Int) : sd_Inv (N + 1) (sp_stock x s).2 := by
  obtain ⟨⟨⟨h1, h2, h3, h4, h5, h6, h7, hR, hT, hL⟩, hc, h8, h9, hn⟩, hr⟩ := id hI
  have i2 := h1.2.2.1
  have i3 := h1.2.2.2.1
  have i4 := h1.2.2.2.2.1
  have i6 := h1.2.2.2.2.2.2.1
  have hx2 := i2.2
  unfold sp_stock
  refine sd_ifp (fun _ => hI.fd (by decide)) (fun c1 => ?_)
  refine sd_ifp (fun _ => hI.fd (by decide)) (fun c2 => ?_)
  refine sd_ifp (fun _ => hI.fd (by decide)) (fun c3 => ?_)
  refine sd_ifp (fun _ => hI.fd (by decide)) (fun c4 => ?_)
  dsimp only
  refine hI.site (fun j hj => by unfold sd_stk; rw [if_neg (by omega)]) (hI.1.wstock (fun j _ => by unfold sd_stk; rw [if_neg (by omega)]) ⟨fun i hi => ?_, fun i hi => ?_⟩)
  · unfold sd_stk
    split
    · rename_i q
      refine Classical.byContradiction (fun w => c4 ⟨386 + i - 386, by omega, fun v => ?_⟩)
      omega
    · exact h5.1 i hi
  · unfold sd_stk
    rw [if_neg (by omega)]
    exact h5.2 i hi
