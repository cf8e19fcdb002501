def sd_tf (j : Nat) : Prop := j = 2 ∨ (10 ≤ j ∧ j < 82) ∨ (1290 ≤ j ∧ j < 1314) ∨ 1554 ≤ j
theorem sd_wea_f (x : sd_M) {j : Nat} (hj : sd_tf j) : ∀ n, n ≤ 24 → sd_wea x n j = x j := by
  unfold sd_tf at hj
  intro n
  induction n with
  | zero => intro _; rfl
  | succ n ih =>
    intro hn
    rw [← ih (by omega)]
    show sd_weS (sd_wea x n) n j = _
    unfold sd_weS
    split
    · split
      · rw [sd_up_ne (by omega), sd_up_ne (by omega)]
      · rw [sd_up_ne (by omega)]
    · rfl
theorem sd_eaL_f {x : sd_M} (hJ : sd_J x) (P : Prop) [Decidable P] {j : Nat} (hj : sd_tf j) : ∀ n, n ≤ 16 → sd_eaL x P n j = x j := by
  unfold sd_tf at hj
  intro n
  induction n with
  | zero => intro _; rfl
  | succ n ih =>
    intro hn
    rw [← ih (by omega)]
    have r := sd_eaK_rng (sd_eaL_J hJ P n (by omega)).1.1 n P
    simp only [sd_eaL]
    split
    · rfl
    · unfold sd_eaS
      split
      · rw [sd_up_ne (by omega)]
      · rw [sd_up_ne (by omega), sd_up_ne (by omega), sd_up_ne (by omega)]
theorem sd_tiL_f (x : sd_M) (t : Int) {j : Nat} (hj : sd_tf j) : ∀ n, n ≤ 16 → sd_tiL x t n j = x j := by
  unfold sd_tf at hj
  intro n
  induction n with
  | zero => intro _; rfl
  | succ n ih =>
    intro hn
    rw [← ih (by omega)]
    simp only [sd_tiL]
    split
    · rfl
    · unfold sd_tiS sd_tiY
      split
      · rw [sd_up_ne (by omega), sd_up_ne (by omega)]
      · rw [sd_up_ne (by omega)]
theorem sd_clo_f {x : sd_M} (hJ : sd_J x) {j : Nat} (hj : sd_tf j) : sd_clo x j = x j := by
  have i0 := hJ.1.1
  have i2 := hJ.1.2.2.1
  have i3 := hJ.1.2.2.2.1
  obtain ⟨⟨hJ1, -⟩, -⟩ := sd_y3J hJ
  have a : sd_y3 x j = x j := by
    unfold sd_y3
    rw [sd_tiL_f _ _ hj _ (by omega)]
    unfold sd_y2
    rw [sd_eaL_f hJ1 _ hj _ (by omega)]
    exact sd_wea_f x hj _ (by omega)
  unfold sd_tf at hj
  have b : sd_y4 x j = x j := by
    unfold sd_y4
    rw [sd_rc_o (by omega) (by omega)]
    exact a
  have c : sd_y5 x j = x j := by
    unfold sd_y5
    split
    · unfold sd_pag
      rw [sd_up_ne (by omega), sd_up_ne (by omega), sd_up_ne (by omega), sd_up_ne (by omega), sd_up_ne (by omega), sd_up_ne (by omega)]
      exact b
    · exact b
  unfold sd_clo
  rw [sd_up_ne (by omega)]
  unfold sd_fil
  rw [if_neg (by omega)]
  exact c
theorem sd_clk_f {x : sd_M} (hJ : sd_J x) (hc : x 8 ≤ 6 * x 0) {j : Nat} (hj : sd_tf j) (n : Nat) (h9 : x 0 + n ≤ 959) : sd_clk x n j = x j := by
  induction n with
  | zero => rfl
  | succ n ih =>
    rw [← ih (by omega)]
    exact sd_clo_f (sd_clkJ hJ hc n (by omega)).1 hj
theorem sN_tick {N : Nat} {x : sd_M} (hI : sd_Inv N x) (n : Int) : sd_Inv (N + 1) (sp_tick x n).2 := by
  obtain ⟨hJ, hc, h8, h9, hn⟩ := hI.1
  unfold sp_tick
  refine sd_ifp (fun _ => hI.fd (by decide)) (fun c1 => sd_ifp (fun _ => hI.fd (by decide)) (fun c2 => ?_))
  have h0 : x 0 + n.toNat ≤ 959 := by omega
  have f : ∀ j, sd_tf j → sd_clk x n.toNat j = x j := fun j hj => sd_clk_f hJ hc hj _ h0
  obtain ⟨a, b, c⟩ := sd_clkJ hJ hc n.toNat h0
  exact hI.site (fun j hj => f j (by unfold sd_tf; omega)) ⟨a, b, h8.cong (fun j _ _ => f j (by unfold sd_tf; omega)) (fun j _ _ => f j (by unfold sd_tf; omega)), h9.cong (fun j _ _ => f j (by unfold sd_tf; omega)) (fun j _ _ => f j (by unfold sd_tf; omega)), sd_h8.cong hn hJ.1.2.2.1.2 (f _ (by unfold sd_tf; omega)) (f _ (by unfold sd_tf; omega)) (fun j _ _ => f j (by unfold sd_tf; omega))⟩
