/-! What holds between two calls. -/
def sd_H8 (x : sd_M) : Prop := x 6004 = sd_cnt (sd_Pk x 1) (x 2).toNat ∧ x 6004 ≤ 8
def sd_Z (x : sd_M) : Prop := sd_J x ∧ x 8 ≤ 6 * x 0 ∧ sd_L8 x ∧ sd_L9 x ∧ sd_H8 x
def sd_kv (x : sd_M) : sd_M := fun j => if j < 1554 then x (2000 + j) else if 6000 ≤ j ∧ j < 6540 then x (1000 + j) else x j
def sd_Rs (n : Nat) (x : sd_M) : Prop := (0 ≤ x 4100 ∧ x 4100 ≤ 100) ∧ sd_IB x ∧ (∀ k : Nat, k < 7 → 0 ≤ x (4101 + k) ∧ x (4101 + k) ≤ n) ∧ (x 4260 = 0 ∨ (x 4260 = 1 ∧ sd_Z (sd_kv x) ∧ ∀ i : Nat, i < 4 → x (7540 + i) = x (3268 + i)))
def sd_Inv (n : Nat) (x : sd_M) : Prop := sd_Z x ∧ sd_Rs n x
theorem sd_L8.cong {x y : sd_M} (h : sd_L8 x) (e : ∀ j, 1290 ≤ j → j < 1302 → y j = x j) (e' : ∀ j, 6500 ≤ j → j < 6512 → y j = x j) : sd_L8 y := by
  intro i hi
  rw [e' (6500 + i) (by omega) (by omega), e' (6506 + i) (by omega) (by omega), e (1290 + 2 * i) (by omega) (by omega), e (1290 + 2 * i + 1) (by omega) (by omega)]
  exact h i hi
theorem sd_L9.cong {x y : sd_M} (h : sd_L9 x) (e : ∀ j, 1302 ≤ j → j < 1314 → y j = x j) (e' : ∀ j, 6520 ≤ j → j < 6532 → y j = x j) : sd_L9 y := by
  intro i hi
  rw [e' (6520 + i) (by omega) (by omega), e' (6526 + i) (by omega) (by omega), e (1302 + 2 * i) (by omega) (by omega), e (1302 + 2 * i + 1) (by omega) (by omega)]
  exact h i hi
theorem sd_cnt_cong {P Q : Nat → Prop} [DecidablePred P] [DecidablePred Q] : ∀ {n : Nat}, (∀ i, i < n → (P i ↔ Q i)) → sd_cnt P n = sd_cnt Q n := by
  intro n
  induction n with
  | zero => intro _; rfl
  | succ n ih =>
    intro h
    simp only [sd_cnt]
    rw [ih (fun i hi => h i (by omega))]
    by_cases hp : P n
    · rw [if_pos hp, if_pos ((h n (by omega)).mp hp)]
    · rw [if_neg hp, if_neg (fun q => hp ((h n (by omega)).mpr q))]
theorem sd_h8.cong {x y : sd_M} (h : sd_H8 x) (hx : x 2 ≤ 24) (e4 : y 6004 = x 6004) (e2 : y 2 = x 2) (e : ∀ j, 10 ≤ j → j < 34 → y j = x j) : sd_H8 y := by
  unfold sd_H8
  rw [e4, e2]
  refine ⟨h.1.trans ?_, h.2⟩
  exact sd_cnt_cong (fun i hi => by unfold sd_Pk; rw [e (10 + i) (by omega) (by omega)])
theorem sd_up_at (x : sd_M) (b t i : Nat) (v : Int) : sd_up x (b + t) v (b + i) = if i = t then v else x (b + i) := by
  unfold sd_up
  by_cases h : i = t
  · rw [if_pos (by omega), if_pos h]
  · rw [if_neg (by omega), if_neg h]
theorem sd_Z.cong {x y : sd_M} (h : sd_Z x) (e : ∀ j, (j < 1554 ∨ (6000 ≤ j ∧ j < 6540) ∨ (8000 ≤ j ∧ j < 8052)) → y j = x j) : sd_Z y := by
  obtain ⟨⟨h1, h2, h3, h4, h5, h6, h7, hR, hI, hL⟩, hc, h8, h9, hn⟩ := h
  have hx2 : x 2 ≤ 24 := h1.2.2.1.2
  have hx5 : x 5 ≤ 8 := h1.2.2.2.2.2.1.2
  have a : ∀ {j : Nat}, j < 1554 → y j = x j := fun h => e _ (Or.inl h)
  have b : ∀ {j : Nat}, 6000 ≤ j → j < 6540 → y j = x j := fun h h' => e _ (Or.inr (Or.inl ⟨h, h'⟩))
  exact ⟨⟨h1.cong (fun j _ => a (by omega)), h2.cong (fun j _ _ => a (by omega)), h3.cong hx2 (a (by omega)) (fun j _ _ => a (by omega)) (fun j _ _ => a (by omega)), h4.cong hx2 (a (by omega)) (a (by omega)) (fun j _ _ => a (by omega)) (fun j _ _ => a (by omega)), h5.cong (fun j _ _ => a (by omega)), h6.cong (Int.le_of_eq (a (by omega)).symm) (a (by omega)) (fun j _ _ => a (by omega)) (fun j _ _ => a (by omega)), h7.cong hx2 (a (by omega)) (a (by omega)) (fun j _ _ => a (by omega)) (fun j _ _ => a (by omega)), hR.cong hx5 (a (by omega)) (fun j _ _ => b (by omega) (by omega)), hI.cong hR hx5 (a (by omega)) (fun j _ _ => a (by omega)) (fun j _ _ => b (by omega) (by omega)), hL.cong (fun j q q' => e j (Or.inr (Or.inr ⟨q, q'⟩)))⟩, by rw [a (show 8 < 1554 by omega), a (show 0 < 1554 by omega)]; exact hc, sd_L8.cong h8 (fun j _ _ => a (by omega)) (fun j _ _ => b (by omega) (by omega)), sd_L9.cong h9 (fun j _ _ => a (by omega)) (fun j _ _ => b (by omega) (by omega)), sd_h8.cong hn hx2 (b (by omega) (by omega)) (a (by omega)) (fun j _ _ => a (by omega))⟩
theorem sd_IB.cong {x y : sd_M} (h : sd_IB x) (e : ∀ j, 4200 ≤ j → j < 4260 → y j = x j) (e' : ∀ j, 8100 ≤ j → y j = x j) : sd_IB y := by
  intro s hs
  obtain ⟨a, b, c, d⟩ := h s hs
  rw [e (4250 + s) (by omega) (by omega), e' (8100 + s) (by omega), e (4254 + s) (by omega) (by omega)]
  refine ⟨a, b, c, fun q => ⟨(d q).1, fun i hi => ?_⟩⟩
  rw [e (4200 + (12 * s + i)) (by omega) (by omega), e' (8200 + 12 * s + i) (by omega)]
  exact (d q).2 i hi
theorem sd_kp.cong {x y : sd_M} (h : x 4260 = 0 ∨ (x 4260 = 1 ∧ sd_Z (sd_kv x) ∧ ∀ i : Nat, i < 4 → x (7540 + i) = x (3268 + i))) (e : y 4260 = x 4260) (e1 : ∀ j, 2000 ≤ j → j < 3554 → y j = x j) (e2 : ∀ j, 7000 ≤ j → j < 8052 → y j = x j) : y 4260 = 0 ∨ (y 4260 = 1 ∧ sd_Z (sd_kv y) ∧ ∀ i : Nat, i < 4 → y (7540 + i) = y (3268 + i)) := by
  rw [e]
  rcases h with h | ⟨h, z, k⟩
  · exact Or.inl h
  · refine Or.inr ⟨h, z.cong (fun j hj => ?_), fun i hi => ?_⟩
    · unfold sd_kv
      by_cases c1 : j < 1554
      · rw [if_pos c1, if_pos c1]; exact e1 _ (by omega) (by omega)
      · rw [if_neg c1, if_neg c1]
        by_cases c2 : 6000 ≤ j ∧ j < 6540
        · rw [if_pos c2, if_pos c2]; exact e2 _ (by omega) (by omega)
        · rw [if_neg c2, if_neg c2]; exact e2 _ (by omega) (by omega)
    · rw [e2 _ (by omega) (by omega), e1 _ (by omega) (by omega)]; exact k i hi
theorem sd_Rs.cong {n : Nat} {x y : sd_M} (h : sd_Rs n x) (e : ∀ j, (2000 ≤ j ∧ j < 5000) ∨ 7000 ≤ j → y j = x j) : sd_Rs (n + 1) y := by
  obtain ⟨a, b, c, d⟩ := h
  refine ⟨by rw [e 4100 (by omega)]; exact a, b.cong (fun j _ _ => e j (by omega)) (fun j _ => e j (by omega)), fun k hk => ?_, sd_kp.cong d (e _ (by omega)) (fun j _ _ => e j (by omega)) (fun j _ _ => e j (by omega))⟩
  have := c k hk
  rw [e (4101 + k) (by omega)]
  omega
theorem sd_Inv.site {n : Nat} {x y : sd_M} (h : sd_Inv n x) (e : ∀ j, (2000 ≤ j ∧ j < 5000) ∨ 7000 ≤ j → y j = x j) (z : sd_Z y) : sd_Inv (n + 1) y := ⟨z, h.2.cong e⟩
theorem sd_Inv.rf {n : Nat} {x : sd_M} (h : sd_Inv n x) : sd_Inv (n + 1) x := h.site (fun _ _ => rfl) h.1
theorem sd_Inv.fd {n : Nat} {x : sd_M} (h : sd_Inv n x) {k : Nat} (hk : k < 7) : sd_Inv (n + 1) (sd_Fd x k).2 := by
  show sd_Inv (n + 1) (sd_fnd x k)
  unfold sd_fnd
  refine ⟨h.1.cong (fun j hj => sd_up_ne (by omega)), ?_⟩
  obtain ⟨a, b, c, d⟩ := h.2
  refine ⟨by rw [sd_up_ne (by omega)]; exact a, b.cong (fun j _ _ => sd_up_ne (by omega)) (fun j _ => sd_up_ne (by omega)), fun i hi => ?_, sd_kp.cong d (sd_up_ne (by omega)) (fun j _ _ => sd_up_ne (by omega)) (fun j _ _ => sd_up_ne (by omega))⟩
  have c1 := c i hi
  have c2 := c k hk
  rw [sd_up_at]
  split
  · rename_i q; subst q; omega
  · omega
