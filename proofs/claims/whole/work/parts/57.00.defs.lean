def sd_y1 (x : sd_M) : sd_M := sd_wea x (x 2).toNat
def sd_y2 (x : sd_M) : sd_M := sd_eaL (sd_y1 x) (x 0 % 24 = 6 ∨ x 0 % 24 = 12 ∨ x 0 % 24 = 18) (x 3).toNat
def sd_y3 (x : sd_M) : sd_M := sd_tiL (sd_y2 x) (x 0 % 24) (x 3).toNat
def sd_y4 (x : sd_M) : sd_M := sd_rc (sd_y3 x) (sd_hr (sd_y3 x) (sd_kN (sd_y3 x)) (sd_stx (sd_y3 x))) (sd_y3 x 8 + (sd_y3 x 4 - sd_cnt (sd_stW (sd_y3 x) (sd_kN (sd_y3 x)) (sd_stx (sd_y3 x))) (sd_y3 x 4).toNat))
def sd_yc (x : sd_M) : Int := sd_cnt (sd_stW (sd_y3 x) (sd_kN (sd_y3 x)) (sd_stx (sd_y3 x))) (sd_y3 x 4).toNat
def sd_y5 (x : sd_M) : sd_M := if x 0 % 24 = 23 then sd_pag (sd_y4 x) (x 0 / 24).toNat (sd_yc x) else sd_y4 x
def sd_clo (x : sd_M) : sd_M := sd_up (sd_fil (sd_y5 x) 178 24 0) 0 (x 0 + 1)
def sd_clk (x : sd_M) : Nat → sd_M
  | 0 => x
  | n + 1 => sd_clo (sd_clk x n)
def sp_tick (x : sd_M) (n : Int) : Int × sd_M := if ¬ (1 ≤ n ∧ n ≤ 99) then sd_Fd x 0 else if 959 < x 0 + n then sd_Fd x 1 else (sd_clk x n.toNat 0, sd_clk x n.toNat)
theorem sd_y3J {x : sd_M} (hJ : sd_J x) : (sd_J (sd_y1 x) ∧ sd_y1 x 0 = x 0 ∧ sd_y1 x 2 = x 2 ∧ sd_y1 x 3 = x 3) ∧ (sd_J (sd_y2 x) ∧ sd_y2 x 0 = x 0 ∧ sd_y2 x 3 = x 3 ∧ sd_y2 x 2 = x 2) ∧ (sd_J (sd_y3 x) ∧ sd_y3 x 0 = x 0 ∧ sd_y3 x 8 = x 8 ∧ sd_y3 x 2 = x 2) := by
  have i2 := hJ.1.2.2.1
  have i3 := hJ.1.2.2.2.1
  have a := sd_wea_J hJ (x 2).toNat (by omega)
  have b := sd_eaL_J a.1 (x 0 % 24 = 6 ∨ x 0 % 24 = 12 ∨ x 0 % 24 = 18) (x 3).toNat (by omega)
  have c := sd_tiL_J b.1 (x 0 % 24) (x 3).toNat (by omega)
  have w8 : ∀ n, n ≤ 24 → sd_wea x n 8 = x 8 := by
    intro n
    induction n with
    | zero => intro _; rfl
    | succ n ih =>
      intro hn
      rw [← ih (by omega)]
      show sd_weS (sd_wea x n) n 8 = sd_wea x n 8
      unfold sd_weS
      split
      · split
        · rw [sd_up_ne (by omega), sd_up_ne (by omega)]
        · rw [sd_up_ne (by omega)]
      · rfl
  refine ⟨⟨a.1, a.2.2.2.1, a.2.1, a.2.2.1⟩, ⟨b.1, (b.2 0 (by omega)).trans a.2.2.2.1, (b.2 3 (by omega)).trans a.2.2.1, (b.2 2 (by omega)).trans a.2.1⟩, ⟨c.1, ?_, ?_, ?_⟩⟩
  · exact (c.2 0 (by omega)).trans ((b.2 0 (by omega)).trans a.2.2.2.1)
  · exact (c.2 8 (by omega)).trans ((b.2 8 (by omega)).trans (w8 _ (by omega)))
  · exact (c.2 2 (by omega)).trans ((b.2 2 (by omega)).trans a.2.1)
theorem sd_y4J {x : sd_M} (hJ : sd_J x) (hc : x 8 ≤ 6 * x 0) : sd_J (sd_y4 x) ∧ sd_y4 x 0 = x 0 ∧ (0 ≤ sd_y4 x 8 ∧ sd_y4 x 8 ≤ 6 * x 0 + 6) ∧ sd_rr (sd_ad (sd_kN (sd_y3 x)) (sd_stx (sd_y3 x))) := by
  obtain ⟨_, _, j3, g0, g8, g2⟩ := sd_y3J hJ
  have i4 := j3.1.2.2.2.2.1
  have i8 := hJ.1.2.2.2.2.2.2.2.2
  have cn := sd_cnt_le (sd_stW (sd_y3 x) (sd_kN (sd_y3 x)) (sd_stx (sd_y3 x))) (sd_y3 x 4).toNat
  have hk := sd_mka_kr j3.1 j3.2.1 (sd_mks (sd_y3 x))
  have hr : sd_rr (sd_stx (sd_y3 x)) := fun p hp => j3.2.2.2.2.1.1 p hp
  have ha := sd_ad_rr hk hr
  have hh : sd_rr (sd_hr (sd_y3 x) (sd_kN (sd_y3 x)) (sd_stx (sd_y3 x))) := sd_wr_rr j3.2.2.2.2.1 ha _ (by omega)
  have e8 : sd_y4 x 8 = sd_y3 x 8 + (sd_y3 x 4 - sd_cnt (sd_stW (sd_y3 x) (sd_kN (sd_y3 x)) (sd_stx (sd_y3 x))) (sd_y3 x 4).toNat) := by unfold sd_y4 sd_rc; rw [if_pos rfl]
  refine ⟨sd_J_rc j3 hh ⟨by omega, by omega⟩, ?_, ⟨by omega, by omega⟩, ha⟩
  unfold sd_y4
  rw [sd_rc_o (by omega) (by omega)]
  exact g0
theorem sd_pag_J {x : sd_M} (h : sd_J x) {d : Nat} (hd : d < 40) (c : Int) : sd_J (sd_pag x d c) ∧ sd_bl x (sd_pag x d c) := by
  refine ⟨?_, (((((sd_bl.up sd_bl.rf).up).up).up).up).up⟩
  exact (((((h.page (by omega) trivial).page (by omega) trivial).page (by omega) trivial).page (by omega) trivial).page (by omega) trivial).page (by omega) trivial
theorem sd_y5J {x : sd_M} (hJ : sd_J x) (hc : x 8 ≤ 6 * x 0) : sd_J (sd_y5 x) ∧ sd_y5 x 0 = x 0 ∧ (0 ≤ sd_y5 x 8 ∧ sd_y5 x 8 ≤ 6 * x 0 + 6) := by
  obtain ⟨j, g0, g8, _⟩ := sd_y4J hJ hc
  have i0 := hJ.1.1
  unfold sd_y5
  split
  · have p := sd_pag_J j (d := (x 0 / 24).toNat) (by omega) (sd_yc x)
    exact ⟨p.1, by rw [p.2 0 (by omega)]; exact g0, by rw [p.2 8 (by omega)]; exact g8⟩
  · exact ⟨j, g0, g8⟩
theorem sd_J_fil {x : sd_M} (h : sd_J x) : sd_J (sd_fil x 178 24 0) := by
  have hx2 : x 2 ≤ 24 := h.1.2.2.1.2
  have hx5 : x 5 ≤ 8 := h.1.2.2.2.2.2.1.2
  have E : ∀ j, ¬ (178 ≤ j ∧ j < 202) → sd_fil x 178 24 0 j = x j := fun j a => by unfold sd_fil; rw [if_neg (by omega)]
  have Z : ∀ i, i < 24 → sd_fil x 178 24 0 (178 + i) = 0 := fun i hi => by unfold sd_fil; rw [if_pos (by omega)]
  refine ⟨h.1.cong (fun j _ => E j (by omega)), ?_, h.2.2.1.cong hx2 (E 2 (by omega)) (fun j _ _ => E j (by omega)) (fun j _ _ => E j (by omega)), h.2.2.2.1.cong hx2 (E 2 (by omega)) (E 3 (by omega)) (fun j _ _ => E j (by omega)) (fun j _ _ => E j (by omega)), h.2.2.2.2.1.cong (fun j _ _ => E j (by omega)), h.2.2.2.2.2.1.cong (by rw [E 0 (by omega)]; exact Int.le_refl _) (E 5 (by omega)) (fun j _ _ => E j (by omega)) (fun j _ _ => E j (by omega)), h.2.2.2.2.2.2.1.cong hx2 (E 2 (by omega)) (E 6 (by omega)) (fun j _ _ => E j (by omega)) (fun j _ _ => E j (by omega)), h.2.2.2.2.2.2.2.1.cong hx5 (E 5 (by omega)) (fun j _ _ => E j (by omega)), h.2.2.2.2.2.2.2.2.1.cong h.2.2.2.2.2.2.2.1 hx5 (E 5 (by omega)) (fun j _ _ => E j (by omega)) (fun j _ _ => E j (by omega)), h.2.2.2.2.2.2.2.2.2.cong (fun j _ _ => E j (by omega))⟩
  intro i hi
  have e := h.2.1 i hi
  rw [E (10 + i) (by omega), E (34 + i) (by omega), E (58 + i) (by omega), E (82 + i) (by omega), E (106 + i) (by omega), E (130 + i) (by omega), E (154 + i) (by omega), Z i hi, E (202 + i) (by omega), E (226 + i) (by omega), E (250 + i) (by omega), E (274 + i) (by omega), E (298 + i) (by omega)]
  omega
theorem sd_J_hour {x : sd_M} (h : sd_J x) {v : Int} (hv : v = x 0 + 1) (h9 : v ≤ 959) : sd_J (sd_up x 0 v) := by
  have hx2 : x 2 ≤ 24 := h.1.2.2.1.2
  have hx5 : x 5 ≤ 8 := h.1.2.2.2.2.2.1.2
  have E : ∀ j, ¬ j = 0 → sd_up x 0 v j = x j := fun j a => sd_up_ne a
  refine ⟨?_, h.2.1.cong (fun j _ _ => E j (by omega)), h.2.2.1.cong hx2 (E 2 (by omega)) (fun j _ _ => E j (by omega)) (fun j _ _ => E j (by omega)), h.2.2.2.1.cong hx2 (E 2 (by omega)) (E 3 (by omega)) (fun j _ _ => E j (by omega)) (fun j _ _ => E j (by omega)), h.2.2.2.2.1.cong (fun j _ _ => E j (by omega)), h.2.2.2.2.2.1.cong (by rw [sd_up_eq]; omega) (E 5 (by omega)) (fun j _ _ => E j (by omega)) (fun j _ _ => E j (by omega)), h.2.2.2.2.2.2.1.cong hx2 (E 2 (by omega)) (E 6 (by omega)) (fun j _ _ => E j (by omega)) (fun j _ _ => E j (by omega)), h.2.2.2.2.2.2.2.1.cong hx5 (E 5 (by omega)) (fun j _ _ => E j (by omega)), h.2.2.2.2.2.2.2.2.1.cong h.2.2.2.2.2.2.2.1 hx5 (E 5 (by omega)) (fun j _ _ => E j (by omega)) (fun j _ _ => E j (by omega)), h.2.2.2.2.2.2.2.2.2.cong (fun j _ _ => E j (by omega))⟩
  obtain ⟨a0, a1, a2, a3, a4, a5, a6, a7, a8⟩ := h.1
  unfold sd_I1
  rw [sd_up_eq, E 1 (by omega), E 2 (by omega), E 3 (by omega), E 4 (by omega), E 5 (by omega), E 6 (by omega), E 7 (by omega), E 8 (by omega)]
  exact ⟨⟨by omega, by omega⟩, a1, a2, a3, a4, a5, a6, a7, ⟨by omega, by omega⟩⟩
theorem sd_cloJ {x : sd_M} (hJ : sd_J x) (hc : x 8 ≤ 6 * x 0) (h9 : x 0 + 1 ≤ 959) : sd_J (sd_clo x) ∧ sd_clo x 8 ≤ 6 * sd_clo x 0 ∧ sd_clo x 0 = x 0 + 1 := by
  obtain ⟨j, g0, g8⟩ := sd_y5J hJ hc
  have f := sd_J_fil j
  have f0 : sd_fil (sd_y5 x) 178 24 0 0 = x 0 := by unfold sd_fil; rw [if_neg (by omega)]; exact g0
  have f8 : sd_fil (sd_y5 x) 178 24 0 8 = sd_y5 x 8 := by unfold sd_fil; rw [if_neg (by omega)]
  have e0 : sd_clo x 0 = x 0 + 1 := by unfold sd_clo; rw [sd_up_eq]
  have e8 : sd_clo x 8 = sd_y5 x 8 := by unfold sd_clo; rw [sd_up_ne (by omega)]; exact f8
  exact ⟨sd_J_hour f (by rw [f0]) h9, by rw [e0, e8]; omega, e0⟩
theorem sd_clkJ {x : sd_M} (hJ : sd_J x) (hc : x 8 ≤ 6 * x 0) (n : Nat) (h9 : x 0 + n ≤ 959) : sd_J (sd_clk x n) ∧ sd_clk x n 8 ≤ 6 * sd_clk x n 0 ∧ sd_clk x n 0 = x 0 + n := by
  induction n with
  | zero => exact ⟨hJ, hc, by simp [sd_clk]⟩
  | succ n ih =>
    obtain ⟨a, b, c⟩ := ih (by omega)
    have z := sd_cloJ a b (by omega)
    exact ⟨z.1, z.2.1, by rw [show sd_clk x (n + 1) 0 = sd_clo (sd_clk x n) 0 from rfl, z.2.2, c]; omega⟩
