def sd_sm (x y : sd_M) : Prop := ∀ j, ¬ j = 8 → ¬ (386 ≤ j ∧ j < 392) → y j = x j
theorem sd_fst_congr {P Q : Nat → Prop} [DecidablePred P] [DecidablePred Q] {n : Nat} (h : ∀ i, i < n → (P i ↔ Q i)) : sd_fst P n = sd_fst Q n := by
  induction n with
  | zero => rfl
  | succ n ih =>
    simp only [sd_fst]
    rw [ih (fun i hi => h i (by omega)), sd_itec (h n (by omega))]
theorem sd_sm_inS {x y : sd_M} (e : sd_sm x y) (h1 : sd_I1 x) (s : Int) : sd_inS y s = sd_inS x s := by
  have i3 := h1.2.2.2.1
  unfold sd_inS
  rw [e 3 (by omega) (by omega)]
  apply sd_cnt_congr
  intro i hi
  show ((¬ y (322 + i) = -1) ∧ sd_bit s (y (322 + i))) ↔ _
  rw [e (322 + i) (by omega) (by omega)]
theorem sd_sm_fcx {x y : sd_M} (e : sd_sm x y) (f : Nat → Int) (w : Int) (t : Nat) : sd_fcx y f w t = sd_fcx x f w t := by
  unfold sd_fcx
  rw [e (6010 + t) (by omega) (by omega)]
  apply sd_fst_congr
  intro c _
  have e1 : y (6060 + (5 * t + c)) = x (6060 + (5 * t + c)) := e _ (by omega) (by omega)
  have e2 : y (6100 + (5 * t + c)) = x (6100 + (5 * t + c)) := e _ (by omega) (by omega)
  have e3 : ∀ k, y (6140 + (3 * (5 * t + c) + k)) = x (6140 + (3 * (5 * t + c) + k)) := fun k => e _ (by omega) (by omega)
  have e4 : ∀ k, y (6260 + (3 * (5 * t + c) + k)) = x (6260 + (3 * (5 * t + c) + k)) := fun k => e _ (by omega) (by omega)
  have e5 : ∀ k, y (6380 + (3 * (5 * t + c) + k)) = x (6380 + (3 * (5 * t + c) + k)) := fun k => e _ (by omega) (by omega)
  simp only [sd_Pcl, sd_so, sd_Pso, e1, e2, e3, e4, e5]
theorem sd_sm_clf {x y : sd_M} (e : sd_sm x y) (f : Nat → Int) (w : Int) (n : Nat) : sd_clf y f w n = sd_clf x f w n := by
  induction n with
  | zero => rfl
  | succ n ih =>
    have hf : sd_inF y n (y 0) ↔ sd_inF x n (x 0) := by
      have a1 : y (436 + n) = x (436 + n) := e _ (by omega) (by omega)
      have a2 : y (444 + n) = x (444 + n) := e _ (by omega) (by omega)
      have a3 : y (428 + n) = x (428 + n) := e _ (by omega) (by omega)
      have a4 : y 0 = x 0 := e 0 (by omega) (by omega)
      have a5 : y (1268 + (x (428 + n)).toNat) = x (1268 + (x (428 + n)).toNat) := e _ (by omega) (by omega)
      simp only [sd_inF, a1, a2, a3, a4, a5]
    simp only [sd_clf]
    rw [ih, sd_sm_fcx e f w n]
    apply sd_itec
    rw [hf]
theorem sd_sm_clx {x y : sd_M} (e : sd_sm x y) (h1 : sd_I1 x) (w : Int) {h : Int} (hh : 0 ≤ h ∧ h < 24) : sd_clx y w h = sd_clx x w h := by
  have ef : sd_fct y h = sd_fct x h := by
    funext i
    unfold sd_fct
    rw [e 0 (by omega) (by omega), sd_sm_inS e h1, e (82 + h.toNat) (by omega) (by omega)]
  unfold sd_clx
  rw [ef, e 5 (by omega) (by omega)]
  exact sd_sm_clf e _ w _
theorem sd_sm_mk {x y : sd_M} (e : sd_sm x y) (h1 : sd_I1 x) (hR : sd_IR x) {h : Int} (hh : 0 ≤ h ∧ h < 24) : sd_mk y h ↔ sd_mk x h := by
  have r := sd_clx_rng h1 hR 3 h
  simp only [sd_mk, sd_brs]
  rw [e (10 + h.toNat) (by omega) (by omega), e (130 + h.toNat) (by omega) (by omega), e (106 + h.toNat) (by omega) (by omega), sd_sm_inS e h1, sd_sm_clx e h1 3 hh, e (6020 + (sd_clx x 3 h).toNat) (by omega) (by omega)]
theorem sd_rc_sm (x : sd_M) (g : Nat → Int) (c : Int) : sd_sm x (sd_rc x g c) := fun j a b => sd_rc_o a b
theorem sd_J_rc {x : sd_M} (h : sd_J x) {g : Nat → Int} {c : Int} (hg : sd_rr g) (hc : 0 ≤ c ∧ c ≤ 6 * x 0 + 6) : sd_J (sd_rc x g c) := by
  have hx2 : x 2 ≤ 24 := h.1.2.2.1.2
  have hx5 : x 5 ≤ 8 := h.1.2.2.2.2.2.1.2
  have E : ∀ j, ¬ j = 8 → ¬ (386 ≤ j ∧ j < 392) → sd_rc x g c j = x j := fun j a b => sd_rc_o a b
  refine ⟨?_, h.2.1.cong (fun j _ _ => E j (by omega) (by omega)), h.2.2.1.cong hx2 (E 2 (by omega) (by omega)) (fun j _ _ => E j (by omega) (by omega)) (fun j _ _ => E j (by omega) (by omega)), h.2.2.2.1.cong hx2 (E 2 (by omega) (by omega)) (E 3 (by omega) (by omega)) (fun j _ _ => E j (by omega) (by omega)) (fun j _ _ => E j (by omega) (by omega)), ?_, h.2.2.2.2.2.1.cong (by rw [E 0 (by omega) (by omega)]; exact Int.le_refl _) (E 5 (by omega) (by omega)) (fun j _ _ => E j (by omega) (by omega)) (fun j _ _ => E j (by omega) (by omega)), h.2.2.2.2.2.2.1.cong hx2 (E 2 (by omega) (by omega)) (E 6 (by omega) (by omega)) (fun j _ _ => E j (by omega) (by omega)) (fun j _ _ => E j (by omega) (by omega)), h.2.2.2.2.2.2.2.1.cong hx5 (E 5 (by omega) (by omega)) (fun j _ _ => E j (by omega) (by omega)), h.2.2.2.2.2.2.2.2.1.cong h.2.2.2.2.2.2.2.1 hx5 (E 5 (by omega) (by omega)) (fun j _ _ => E j (by omega) (by omega)) (fun j _ _ => E j (by omega) (by omega)), h.2.2.2.2.2.2.2.2.2.cong (fun j _ _ => E j (by omega) (by omega))⟩
  · obtain ⟨a0, a1, a2, a3, a4, a5, a6, a7, a8⟩ := h.1
    have e8 : sd_rc x g c 8 = c := by unfold sd_rc; rw [if_pos rfl]
    unfold sd_I1
    rw [E 0 (by omega) (by omega), E 1 (by omega) (by omega), E 2 (by omega) (by omega), E 3 (by omega) (by omega), E 4 (by omega) (by omega), E 5 (by omega) (by omega), E 6 (by omega) (by omega), E 7 (by omega) (by omega), e8]
    exact ⟨a0, a1, a2, a3, a4, a5, a6, a7, hc⟩
  · exact ⟨fun i hi => by rw [sd_rc_at hi]; exact hg i hi, fun i hi => by rw [E _ (by omega) (by omega)]; exact h.2.2.2.2.1.2 i hi⟩
abbrev sd_sW (x : sd_M) (g : Nat → Int) (w : Nat) : Prop := ¬ sd_lk x w (sd_wr x g w) = -1
