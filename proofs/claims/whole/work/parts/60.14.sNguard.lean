theorem sN_guard {N : Nat} {x : sd_M} (hI : sd_Inv N x) (g : Int) (n : Int) : sd_Inv (N + 1) (sp_guard x g n).2 := by
  obtain ⟨⟨⟨h1, h2, h3, h4, h5, h6, h7, hR, hT, hL⟩, hc, h8, h9, hn⟩, hr⟩ := id hI
  have i2 := h1.2.2.1
  have i3 := h1.2.2.2.1
  have i4 := h1.2.2.2.2.1
  have i6 := h1.2.2.2.2.2.2.1
  have hx2 := i2.2
  unfold sp_guard
  refine sd_ifp (fun _ => hI.fd (by decide)) (fun c1 => ?_)
  refine sd_ifp (fun _ => hI.fd (by decide)) (fun c2 => ?_)
  refine sd_ifp (fun _ => hI.rf) (fun c3 => ?_)
  dsimp only
  refine hI.site (fun j hj => (by rw [sd_up_ne (by omega), sd_up_ne (by omega)])) (hI.1.wheld (fun j c0_ => (by rw [sd_up_ne (by omega), sd_up_ne (by omega)])) ?_ ?_)
  · refine sd_I2.of (fun j j1 j2 => ?_)
    have z := h2.rd j j1 j2
    simp only [sd_up]
    repeat' split
    all_goals first | exact z | (rename_i q; subst q; unfold sd_b2; repeat (first | rw [if_pos (by omega)] | rw [if_neg (by omega)]); omega) | (rename_i q _; subst q; unfold sd_b2; repeat (first | rw [if_pos (by omega)] | rw [if_neg (by omega)]); omega)
  · refine h3.held hx2 (by rw [sd_up_ne (by omega), sd_up_ne (by omega)]) (fun j _ _ => by rw [sd_up_ne (by omega), sd_up_ne (by omega)]) (fun i hi q => ?_)
    rw [sd_up_ne (by omega), sd_up_at]
    split
    · rfl
    · exact (h3 i hi).2.2.2.2.2 q
