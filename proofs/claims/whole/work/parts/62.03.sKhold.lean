theorem sK_hold {N : Nat} {x : sd_M} (hI : sd_Inv N x) (k n : Int) : sd_Dn N x (spC_hold x k n) (spM_hold x k n) := by
  obtain ⟨⟨⟨h1, -⟩, hc, h8, h9, hn⟩, hr⟩ := id hI
  have i2 := h1.2.2.1
  unfold spC_hold spM_hold
  refine sd_Dn.ifs (fun c1 => sd_Dn.ifs (fun _ => .fd hI (by decide)) (fun c2 => ?_)) (fun _ => .fd hI (by decide))
  obtain ⟨c1, cA⟩ := c1
  have b01 := sd_b01 (k = 1 ∨ k = 2)
  have hx : 0 ≤ x 2 ∧ x 2 < 24 := by omega
  have z : sd_Z (sd_hX x k (n / 100) (n % 100) (x 6004 + sd_b (k = 1 ∨ k = 2))) := sd_hX_Z hI.1 hx (by omega) (by omega) cA rfl (by
    have := hn.2
    clear cA
    unfold sd_b
    split <;> omega)
  have i := hI.site (y := sd_hX x k (n / 100) (n % 100) (x 6004 + sd_b (k = 1 ∨ k = 2))) (fun j hj => sd_hX_o hx (by omega) (by omega) (by omega)) z
  clear cA
  refine ⟨rfl, _, i, fun j hj => rfl, fun j hj => ?_, fun j hj => Or.inl rfl⟩
  have d := sd_oM_d hj
  unfold sd_hX
  dsimp only
  rw [sd_up_ne (by omega)]
theorem sd_Rs.sheets {n : Nat} {x y : sd_M} (h : sd_Rs n x) (e : ∀ j, (2000 ≤ j ∧ j < 4200) ∨ (4260 ≤ j ∧ j < 5000) ∨ (7000 ≤ j ∧ j < 8100) → y j = x j) (hB : sd_IB y) : sd_Rs (n + 1) y := by
  obtain ⟨a, b, c, d⟩ := h
  refine ⟨by rw [e 4100 (by omega)]; exact a, hB, fun k hk => ?_, sd_kp.cong d (e _ (by omega)) (fun j _ _ => e j (by omega)) (fun j _ _ => e j (by omega))⟩
  have := c k hk
  rw [e (4101 + k) (by omega)]
  omega
theorem sd_Inv.sheets {n : Nat} {x y : sd_M} (h : sd_Inv n x) (e : ∀ j, ¬ (4200 ≤ j ∧ j < 4260) → ¬ 8100 ≤ j → y j = x j) (hB : sd_IB y) : sd_Inv (n + 1) y := ⟨h.1.cong (fun j hj => e j (by omega) (by omega)), h.2.sheets (fun j hj => e j (by omega) (by omega)) hB⟩
