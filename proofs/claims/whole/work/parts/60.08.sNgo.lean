theorem sN_go {N : Nat} {x : sd_M} (hI : sd_Inv N x) (i : Int) (h : Int) : sd_Inv (N + 1) (sp_go x i h).2 := by
  obtain ⟨⟨⟨h1, h2, h3, h4, h5, h6, h7, hR, hT, hL⟩, hc, h8, h9, hn⟩, hr⟩ := id hI
  have i2 := h1.2.2.1
  have i3 := h1.2.2.2.1
  have i4 := h1.2.2.2.2.1
  have i6 := h1.2.2.2.2.2.2.1
  have hx2 := i2.2
  unfold sp_go
  refine sd_ifp (fun _ => hI.fd (by decide)) (fun c1 => ?_)
  refine sd_ifp (fun _ => hI.fd (by decide)) (fun c2 => ?_)
  refine sd_ifp (fun _ => hI.fd (by decide)) (fun c3 => ?_)
  refine sd_ifp (fun _ => hI.fd (by decide)) (fun c4 => ?_)
  dsimp only
  have hs : sd_shp x h := ⟨by omega, by omega, by omega⟩
  refine hI.site (fun j hj => (by rw [sd_up_ne (by omega)])) (hI.1.wmen (fun j c0_ => (by rw [sd_up_ne (by omega)])) ?_)
  refine sd_I4.put hx2 (sd_up_ne (by omega)) (fun j _ _ => sd_up_ne (by omega)) (fun j a b => ?_) (fun j a b => by rw [sd_up_ne (by omega)]; exact h4.rd2 j a b) (fun k hk q => ?_)
  · have z := h4.rd1 j a b
    unfold sd_up
    split <;> omega
  · rw [sd_up_ne (by omega)] at q
    rw [sd_up_at]
    split
    · exact Or.inr hs
    · exact (h4 k hk).2.2.2.2 q
