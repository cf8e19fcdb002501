theorem sN_man {N : Nat} {x : sd_M} (hI : sd_Inv N x) (h : Int) (s : Int) : sd_Inv (N + 1) (sp_man x h s).2 := by
  obtain ⟨⟨⟨h1, h2, h3, h4, h5, h6, h7, hR, hT, hL⟩, hc, h8, h9, hn⟩, hr⟩ := id hI
  have i2 := h1.2.2.1
  have i3 := h1.2.2.2.1
  have i4 := h1.2.2.2.2.1
  have i6 := h1.2.2.2.2.2.2.1
  have hx2 := i2.2
  unfold sp_man
  refine sd_ifp (fun _ => hI.fd (by decide)) (fun c1 => ?_)
  refine sd_ifp (fun _ => hI.fd (by decide)) (fun c2 => ?_)
  refine sd_ifp (fun _ => hI.fd (by decide)) (fun c3 => ?_)
  dsimp only
  have hs : sd_shp x h := ⟨by omega, by omega, by omega⟩
  refine hI.site (fun j hj => (by rw [sd_up_ne (by omega), sd_up_ne (by omega), sd_up_ne (by omega), sd_up_ne (by omega), sd_up_ne (by omega)])) (hI.1.wman (fun j c0_ c1_ => (by rw [sd_up_ne (by omega), sd_up_ne (by omega), sd_up_ne (by omega), sd_up_ne (by omega), sd_up_ne (by omega)])) ?_ ?_)
  · exact h1.p3 (fun j _ q => by rw [sd_up_ne (by omega), sd_up_ne (by omega), sd_up_ne (by omega), sd_up_ne (by omega), sd_up_ne q]) (by rw [sd_up_ne (by omega), sd_up_ne (by omega), sd_up_ne (by omega), sd_up_ne (by omega), sd_up_eq]; omega)
  · refine sd_I4.put hx2 (by rw [sd_up_ne (by omega), sd_up_ne (by omega), sd_up_ne (by omega), sd_up_ne (by omega), sd_up_ne (by omega)]) (fun j _ _ => by rw [sd_up_ne (by omega), sd_up_ne (by omega), sd_up_ne (by omega), sd_up_ne (by omega), sd_up_ne (by omega)]) (fun j a b => ?_) (fun j a b => ?_) (fun k hk q => ?_)
    · have z := h4.rd1 j a b
      simp only [sd_up]
      repeat' split
      all_goals omega
    · have z := h4.rd2 j a b
      simp only [sd_up]
      repeat' split
      all_goals omega
    · rw [sd_up_ne (by omega), sd_up_ne (by omega), sd_up_ne (by omega), sd_up_ne (by omega), sd_up_eq] at q
      rw [sd_up_ne (by omega), sd_up_ne (by omega), sd_up_ne (by omega), sd_up_at]
      split
      · exact Or.inr hs
      · rw [sd_up_ne (by omega)]
        exact (h4 k hk).2.2.2.2 (by omega)
