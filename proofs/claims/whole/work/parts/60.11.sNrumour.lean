theorem sN_rumour {N : Nat} {x : sd_M} (hI : sd_Inv N x) (g : Int) (c : Int) : sd_Inv (N + 1) (sp_rumour x g c).2 := by
  obtain ⟨⟨⟨h1, h2, h3, h4, h5, h6, h7, hR, hT, hL⟩, hc, h8, h9, hn⟩, hr⟩ := id hI
  have i2 := h1.2.2.1
  have i3 := h1.2.2.2.1
  have i4 := h1.2.2.2.2.1
  have i6 := h1.2.2.2.2.2.2.1
  have hx2 := i2.2
  unfold sp_rumour
  refine sd_ifp (fun _ => hI.fd (by decide)) (fun c1 => ?_)
  refine sd_ifp (fun _ => hI.fd (by decide)) (fun c2 => ?_)
  refine sd_ifp (fun _ => hI.fd (by decide)) (fun c3 => ?_)
  dsimp only
  have g3 : x (10 + g.toNat) = 3 := by omega
  refine hI.site (fun j hj => (by rw [sd_up_ne (by omega), sd_up_ne (by omega), sd_up_ne (by omega), sd_up_ne (by omega)])) (hI.1.wrum (fun j c0_ c1_ => (by rw [sd_up_ne (by omega), sd_up_ne (by omega), sd_up_ne (by omega), sd_up_ne (by omega)])) ?_ ?_)
  · exact h1.p6 (fun j _ q => by rw [sd_up_ne (by omega), sd_up_ne (by omega), sd_up_ne (by omega), sd_up_ne q]) (by rw [sd_up_ne (by omega), sd_up_ne (by omega), sd_up_ne (by omega), sd_up_eq]; omega)
  · refine sd_I7.put hx2 (by rw [sd_up_ne (by omega), sd_up_ne (by omega), sd_up_ne (by omega), sd_up_ne (by omega)]) (fun j _ _ => by rw [sd_up_ne (by omega), sd_up_ne (by omega), sd_up_ne (by omega), sd_up_ne (by omega)]) (fun j a b => ?_) (fun k hk q => ?_)
    · have z := h7.rd j a b
      simp only [sd_up]
      repeat' split
      all_goals omega
    · rw [sd_up_ne (by omega), sd_up_ne (by omega), sd_up_ne (by omega), sd_up_eq] at q
      by_cases w : k = (x 6).toNat
      · have e1 : sd_up (sd_up (sd_up (sd_up x 6 (x 6 + 1)) (1272 + (x 6).toNat) g) (1278 + (x 6).toNat) c) (1284 + (x 6).toNat) 0 (1272 + k) = g := by
          rw [sd_up_ne (by omega), sd_up_ne (by omega), sd_up_at, if_pos w]
        have e2 : sd_up (sd_up (sd_up (sd_up x 6 (x 6 + 1)) (1272 + (x 6).toNat) g) (1278 + (x 6).toNat) c) (1284 + (x 6).toNat) 0 (1278 + k) = c := by
          rw [sd_up_ne (by omega), sd_up_at, if_pos w]
        rw [e1, e2]
        exact ⟨by omega, g3, by omega⟩
      · have e1 : sd_up (sd_up (sd_up (sd_up x 6 (x 6 + 1)) (1272 + (x 6).toNat) g) (1278 + (x 6).toNat) c) (1284 + (x 6).toNat) 0 (1272 + k) = x (1272 + k) := by
          rw [sd_up_ne (by omega), sd_up_ne (by omega), sd_up_at, if_neg w, sd_up_ne (by omega)]
        have e2 : sd_up (sd_up (sd_up (sd_up x 6 (x 6 + 1)) (1272 + (x 6).toNat) g) (1278 + (x 6).toNat) c) (1284 + (x 6).toNat) 0 (1278 + k) = x (1278 + k) := by
          rw [sd_up_ne (by omega), sd_up_at, if_neg w, sd_up_ne (by omega), sd_up_ne (by omega)]
        rw [e1, e2]
        exact (h7 k hk).2.2.2 (by omega)
