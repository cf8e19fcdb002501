set_option maxHeartbeats 4000000 in
theorem sd_tx_good {N : Nat} {x X : sd_M} (hI : sd_Inv N x) (h5 : x 5 < 8) (hX : ∀ q, ¬ sd_rg (x 5).toNat 0 q → X q = x q) {j f to : Int} (hb : ¬ sd_tbad j f to) {cs : List sd_Cl_} (ht : sd_txt (sd_tpB x) (x 4100).toNat 5 0 = .inr cs) (hl : X (6010 + (x 5).toNat) = (cs.length : Int)) (hC : ∀ (i : Nat) (cl : sd_Cl_), cs[i]? = some cl → sd_rC X (5 * (x 5).toNat + i) cl) : sd_Inv (N + 1) (sd_mg (sd_addT X (x 5).toNat j f to (x 0)) (sd_addM x (x 5).toNat j f to)) := by
  obtain ⟨⟨⟨h1, h2, h3, h4, h5', h6, h7, hR, hT, hL⟩, hc, h8, h9, hn⟩, hr⟩ := id hI
  have i5 := h1.2.2.2.2.2.1
  have i0 := h1.1
  have hp := hr.1
  have gg := sd_txt_g _ _ _ ht
  generalize hT0 : (x 5).toNat = T at *
  have hT8 : T < 8 := by omega
  have v := sd_aM_v (x := x) (j := j) (f := f) (to := to) hT8 hp
  generalize hy : sd_mg (sd_addT X T j f to (x 0)) (sd_addM x T j f to) = y
  have yl : ∀ q, q < 6000 → y q = sd_addM x T j f to q := fun q hq => by rw [← hy]; unfold sd_mg; rw [if_pos hq]
  have yh : ∀ q, 6000 ≤ q → y q = X q := fun q hq => by rw [← hy]; unfold sd_mg; rw [if_neg (by omega)]; exact sd_aT_o hT8 (by omega) (by omega) (by omega)
  have lo : ∀ q, q < 6000 → ¬ q = 4100 → ¬ q = 5 → (¬ q = 428 + T ∧ ¬ q = 436 + T ∧ ¬ q = 444 + T ∧ ¬ q = 452 + T ∧ ¬ q = 460 + T) → ¬ (468 + 100 * T ≤ q ∧ q < 568 + 100 * T) → y q = x q := fun q a b c d e => (yl q a).trans (sd_aM_o hT8 hp b c d e)
  have e : ∀ q, 6000 ≤ q → ¬ sd_rg T 0 q → y q = x q := fun q a b => (yh q a).trans (hX q b)
  have y5 : y 5 = (T : Int) + 1 := (yl 5 (by omega)).trans v.1
  have y4 : y 4100 = 0 := (yl 4100 (by omega)).trans v.2.1
  have kR : ∀ t, t < T → sd_IR1 y t := fun t a => sd_IR1.keep (T := T) (hR t (by omega)) a hT8 (fun q a b c => e q (by omega) c)
  refine ⟨hI.1.wtext (fun q a b c d => ?_) ?_ ?_ ?_ ?_, hr.tp (fun q a b => ?_) (by rw [y4]; omega)⟩
  · by_cases w : q < 6000
    · exact lo q w c a (by omega) (by omega)
    · exact e q (by omega) (by omega)
  · exact h1.p5 (fun q a b => lo q (by omega) (by omega) b (by omega) (by omega)) (by rw [y5]; omega)
  · refine ⟨fun i hi => ?_, fun i hi => ?_⟩
    · have z := h6.1 i hi
      rw [lo 0 (by omega) (by omega) (by omega) (by omega) (by omega), y5]
      by_cases w : i = T
      · subst w
        rw [yl _ (by omega), yl _ (by omega), yl _ (by omega), yl _ (by omega), v.2.2.1, v.2.2.2.1, v.2.2.2.2.1, v.2.2.2.2.2.1]
        clear z
        refine ⟨by omega, by omega, by omega, by omega, by omega⟩
      · rw [lo (428 + i) (by omega) (by omega) (by omega) (by omega) (by omega), lo (436 + i) (by omega) (by omega) (by omega) (by omega) (by omega), lo (444 + i) (by omega) (by omega) (by omega) (by omega) (by omega), lo (452 + i) (by omega) (by omega) (by omega) (by omega) (by omega)]
        refine ⟨z.1, z.2.1, z.2.2.1, z.2.2.2.1, fun q => z.2.2.2.2 (by omega)⟩
    · rw [lo (1268 + i) (by omega) (by omega) (by omega) (by omega) (by omega), lo 0 (by omega) (by omega) (by omega) (by omega) (by omega)]
      exact h6.2 i hi
  · intro t a
    rw [y5] at a
    by_cases w : t = T
    · subst w
      refine sd_IR1.new gg.1 gg.2 (by rw [yh _ (by omega)]; exact hl) (fun i cl hi => ?_)
      have il := (List.getElem?_eq_some_iff.mp hi).1
      exact sd_rC_keep (hC i cl hi) (gg.2 cl (List.mem_of_getElem? hi)).2.1 (fun q hq => yh q (by omega))
    · exact kR t (by omega)
  · intro t a
    rw [y5] at a
    by_cases w : t = T
    · subst w
      have y460 : y (460 + t) = x 4100 := (yl _ (by omega)).trans v.2.2.2.2.2.2.1
      refine ⟨cs, ?_, by rw [y460]; exact hp, by rw [yh _ (by omega)]; exact hl, fun i cl hi => ?_⟩
      · have eB : sd_stB y t = sd_tpB x := by
          funext q
          unfold sd_stB sd_tpB
          rw [y460]
          by_cases z : q < (x 4100).toNat
          · rw [if_pos z, if_pos z, yl _ (by omega)]
            exact v.2.2.2.2.2.2.2 q z
          · rw [if_neg z, if_neg z]
        rw [eB, y460]
        exact ht
      · have il := (List.getElem?_eq_some_iff.mp hi).1
        exact sd_rC_keep (hC i cl hi) (gg.2 cl (List.mem_of_getElem? hi)).2.1 (fun q hq => yh q (by omega))
    · exact sd_IT1.keep (T := T) (hT t (by omega)) (hR t (by omega)) (by omega) hT8 (lo _ (by omega) (by omega) (by omega) (by omega) (by omega)) (fun q hq => lo _ (by omega) (by omega) (by omega) (by omega) (by omega)) (fun q a b c => e q (by omega) c)
  · by_cases w : q < 6000
    · exact lo q w b (by omega) (by omega) (by omega)
    · exact e q (by omega) (by omega)
