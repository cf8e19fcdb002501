theorem sN_run {N : Nat} {x : sd_M} (hI : sd_Inv N x) (h : Int) (P : Prop) [Decidable P] : sd_Inv (N + 1) (sp_run x h P).2 := by
  obtain ⟨⟨⟨h1, h2, h3, h4, h5, h6, h7, hR, hT, hL⟩, hc, h8, h9, hn⟩, hr⟩ := id hI
  have i2 := h1.2.2.1
  have i3 := h1.2.2.2.1
  have i4 := h1.2.2.2.2.1
  have i6 := h1.2.2.2.2.2.2.1
  have hx2 := i2.2
  unfold sp_run
  refine sd_ifp (fun _ => hI.fd (by decide)) (fun c1 => ?_)
  refine sd_ifp (fun _ => hI.fd (by decide)) (fun c2 => ?_)
  dsimp only
  have b01 := sd_b01 P
  refine hI.site (fun j hj => (by rw [sd_up_ne (by omega)])) (hI.1.whold (fun j c0_ c1_ => (by rw [sd_up_ne (by omega)])) ?_)
  refine sd_I2.of (fun j j1 j2 => ?_)
  have z := h2.rd j j1 j2
  simp only [sd_up]
  repeat' split
  all_goals first | exact z | (rename_i q; subst q; unfold sd_b2; repeat (first | rw [if_pos (by omega)] | rw [if_neg (by omega)]); omega) | (rename_i q _; subst q; unfold sd_b2; repeat (first | rw [if_pos (by omega)] | rw [if_neg (by omega)]); omega)
