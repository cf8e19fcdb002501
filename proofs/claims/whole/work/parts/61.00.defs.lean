def sd_hX (x : sd_M) (k a b v : Int) : sd_M := sd_up (sd_hadd x k a b) 6004 v
theorem sd_hX_10 {x : sd_M} {k a b v : Int} (h : 0 ≤ x 2 ∧ x 2 < 24) {i : Nat} (hi : i < 24) : sd_hX x k a b v (10 + i) = if i = (x 2).toNat then k else x (10 + i) := by
  unfold sd_hX sd_hadd
  rw [sd_up_ne (by omega), sd_up_ne (by omega), sd_up_ne (by omega), sd_up_ne (by omega), sd_up_ne (by omega), sd_up_ne (by omega), sd_up_ne (by omega), sd_up_ne (by omega), sd_up_ne (by omega), sd_up_ne (by omega), sd_up_ne (by omega), sd_up_ne (by omega), sd_up_ne (by omega), sd_up_at]
  split
  · rfl
  · rw [sd_up_ne (by omega)]
theorem sd_hX_34 {x : sd_M} {k a b v : Int} (h : 0 ≤ x 2 ∧ x 2 < 24) {i : Nat} (hi : i < 24) : sd_hX x k a b v (34 + i) = if i = (x 2).toNat then a else x (34 + i) := by
  unfold sd_hX sd_hadd
  rw [sd_up_ne (by omega), sd_up_ne (by omega), sd_up_ne (by omega), sd_up_ne (by omega), sd_up_ne (by omega), sd_up_ne (by omega), sd_up_ne (by omega), sd_up_ne (by omega), sd_up_ne (by omega), sd_up_ne (by omega), sd_up_ne (by omega), sd_up_ne (by omega), sd_up_at]
  split
  · rfl
  · rw [sd_up_ne (by omega), sd_up_ne (by omega)]
theorem sd_hX_58 {x : sd_M} {k a b v : Int} (h : 0 ≤ x 2 ∧ x 2 < 24) {i : Nat} (hi : i < 24) : sd_hX x k a b v (58 + i) = if i = (x 2).toNat then b else x (58 + i) := by
  unfold sd_hX sd_hadd
  rw [sd_up_ne (by omega), sd_up_ne (by omega), sd_up_ne (by omega), sd_up_ne (by omega), sd_up_ne (by omega), sd_up_ne (by omega), sd_up_ne (by omega), sd_up_ne (by omega), sd_up_ne (by omega), sd_up_ne (by omega), sd_up_ne (by omega), sd_up_at]
  split
  · rfl
  · rw [sd_up_ne (by omega), sd_up_ne (by omega), sd_up_ne (by omega)]
theorem sd_hX_82 {x : sd_M} {k a b v : Int} (h : 0 ≤ x 2 ∧ x 2 < 24) {i : Nat} (hi : i < 24) : sd_hX x k a b v (82 + i) = if i = (x 2).toNat then 12 else x (82 + i) := by
  unfold sd_hX sd_hadd
  rw [sd_up_ne (by omega), sd_up_ne (by omega), sd_up_ne (by omega), sd_up_ne (by omega), sd_up_ne (by omega), sd_up_ne (by omega), sd_up_ne (by omega), sd_up_ne (by omega), sd_up_ne (by omega), sd_up_ne (by omega), sd_up_at]
  split
  · rfl
  · rw [sd_up_ne (by omega), sd_up_ne (by omega), sd_up_ne (by omega), sd_up_ne (by omega)]
theorem sd_hX_106 {x : sd_M} {k a b v : Int} (h : 0 ≤ x 2 ∧ x 2 < 24) {i : Nat} (hi : i < 24) : sd_hX x k a b v (106 + i) = if i = (x 2).toNat then 0 else x (106 + i) := by
  unfold sd_hX sd_hadd
  rw [sd_up_ne (by omega), sd_up_ne (by omega), sd_up_ne (by omega), sd_up_ne (by omega), sd_up_ne (by omega), sd_up_ne (by omega), sd_up_ne (by omega), sd_up_ne (by omega), sd_up_ne (by omega), sd_up_at]
  split
  · rfl
  · rw [sd_up_ne (by omega), sd_up_ne (by omega), sd_up_ne (by omega), sd_up_ne (by omega), sd_up_ne (by omega)]
theorem sd_hX_130 {x : sd_M} {k a b v : Int} (h : 0 ≤ x 2 ∧ x 2 < 24) {i : Nat} (hi : i < 24) : sd_hX x k a b v (130 + i) = if i = (x 2).toNat then 0 else x (130 + i) := by
  unfold sd_hX sd_hadd
  rw [sd_up_ne (by omega), sd_up_ne (by omega), sd_up_ne (by omega), sd_up_ne (by omega), sd_up_ne (by omega), sd_up_ne (by omega), sd_up_ne (by omega), sd_up_ne (by omega), sd_up_at]
  split
  · rfl
  · rw [sd_up_ne (by omega), sd_up_ne (by omega), sd_up_ne (by omega), sd_up_ne (by omega), sd_up_ne (by omega), sd_up_ne (by omega)]
theorem sd_hX_154 {x : sd_M} {k a b v : Int} (h : 0 ≤ x 2 ∧ x 2 < 24) {i : Nat} (hi : i < 24) : sd_hX x k a b v (154 + i) = if i = (x 2).toNat then (if k = 2 then b else 0) else x (154 + i) := by
  unfold sd_hX sd_hadd
  rw [sd_up_ne (by omega), sd_up_ne (by omega), sd_up_ne (by omega), sd_up_ne (by omega), sd_up_ne (by omega), sd_up_ne (by omega), sd_up_ne (by omega), sd_up_at]
  split
  · rfl
  · rw [sd_up_ne (by omega), sd_up_ne (by omega), sd_up_ne (by omega), sd_up_ne (by omega), sd_up_ne (by omega), sd_up_ne (by omega), sd_up_ne (by omega)]
theorem sd_hX_178 {x : sd_M} {k a b v : Int} (h : 0 ≤ x 2 ∧ x 2 < 24) {i : Nat} (hi : i < 24) : sd_hX x k a b v (178 + i) = if i = (x 2).toNat then 0 else x (178 + i) := by
  unfold sd_hX sd_hadd
  rw [sd_up_ne (by omega), sd_up_ne (by omega), sd_up_ne (by omega), sd_up_ne (by omega), sd_up_ne (by omega), sd_up_ne (by omega), sd_up_at]
  split
  · rfl
  · rw [sd_up_ne (by omega), sd_up_ne (by omega), sd_up_ne (by omega), sd_up_ne (by omega), sd_up_ne (by omega), sd_up_ne (by omega), sd_up_ne (by omega), sd_up_ne (by omega)]
theorem sd_hX_202 {x : sd_M} {k a b v : Int} (h : 0 ≤ x 2 ∧ x 2 < 24) {i : Nat} (hi : i < 24) : sd_hX x k a b v (202 + i) = if i = (x 2).toNat then 0 else x (202 + i) := by
  unfold sd_hX sd_hadd
  rw [sd_up_ne (by omega), sd_up_ne (by omega), sd_up_ne (by omega), sd_up_ne (by omega), sd_up_ne (by omega), sd_up_at]
  split
  · rfl
  · rw [sd_up_ne (by omega), sd_up_ne (by omega), sd_up_ne (by omega), sd_up_ne (by omega), sd_up_ne (by omega), sd_up_ne (by omega), sd_up_ne (by omega), sd_up_ne (by omega), sd_up_ne (by omega)]
theorem sd_hX_226 {x : sd_M} {k a b v : Int} (h : 0 ≤ x 2 ∧ x 2 < 24) {i : Nat} (hi : i < 24) : sd_hX x k a b v (226 + i) = if i = (x 2).toNat then 0 else x (226 + i) := by
  unfold sd_hX sd_hadd
  rw [sd_up_ne (by omega), sd_up_ne (by omega), sd_up_ne (by omega), sd_up_ne (by omega), sd_up_at]
  split
  · rfl
  · rw [sd_up_ne (by omega), sd_up_ne (by omega), sd_up_ne (by omega), sd_up_ne (by omega), sd_up_ne (by omega), sd_up_ne (by omega), sd_up_ne (by omega), sd_up_ne (by omega), sd_up_ne (by omega), sd_up_ne (by omega)]
theorem sd_hX_250 {x : sd_M} {k a b v : Int} (h : 0 ≤ x 2 ∧ x 2 < 24) {i : Nat} (hi : i < 24) : sd_hX x k a b v (250 + i) = if i = (x 2).toNat then 1 else x (250 + i) := by
  unfold sd_hX sd_hadd
  rw [sd_up_ne (by omega), sd_up_ne (by omega), sd_up_ne (by omega), sd_up_at]
  split
  · rfl
  · rw [sd_up_ne (by omega), sd_up_ne (by omega), sd_up_ne (by omega), sd_up_ne (by omega), sd_up_ne (by omega), sd_up_ne (by omega), sd_up_ne (by omega), sd_up_ne (by omega), sd_up_ne (by omega), sd_up_ne (by omega), sd_up_ne (by omega)]
theorem sd_hX_274 {x : sd_M} {k a b v : Int} (h : 0 ≤ x 2 ∧ x 2 < 24) {i : Nat} (hi : i < 24) : sd_hX x k a b v (274 + i) = if i = (x 2).toNat then a else x (274 + i) := by
  unfold sd_hX sd_hadd
  rw [sd_up_ne (by omega), sd_up_ne (by omega), sd_up_at]
  split
  · rfl
  · rw [sd_up_ne (by omega), sd_up_ne (by omega), sd_up_ne (by omega), sd_up_ne (by omega), sd_up_ne (by omega), sd_up_ne (by omega), sd_up_ne (by omega), sd_up_ne (by omega), sd_up_ne (by omega), sd_up_ne (by omega), sd_up_ne (by omega), sd_up_ne (by omega)]
theorem sd_hX_298 {x : sd_M} {k a b v : Int} (h : 0 ≤ x 2 ∧ x 2 < 24) {i : Nat} (hi : i < 24) : sd_hX x k a b v (298 + i) = if i = (x 2).toNat then b else x (298 + i) := by
  unfold sd_hX sd_hadd
  rw [sd_up_ne (by omega), sd_up_at]
  split
  · rfl
  · rw [sd_up_ne (by omega), sd_up_ne (by omega), sd_up_ne (by omega), sd_up_ne (by omega), sd_up_ne (by omega), sd_up_ne (by omega), sd_up_ne (by omega), sd_up_ne (by omega), sd_up_ne (by omega), sd_up_ne (by omega), sd_up_ne (by omega), sd_up_ne (by omega), sd_up_ne (by omega)]
theorem sd_hX_2 {x : sd_M} {k a b v : Int} (h : 0 ≤ x 2 ∧ x 2 < 24) : sd_hX x k a b v 2 = x 2 + 1 := by
  unfold sd_hX sd_hadd
  rw [sd_up_ne (by omega), sd_up_ne (by omega), sd_up_ne (by omega), sd_up_ne (by omega), sd_up_ne (by omega), sd_up_ne (by omega), sd_up_ne (by omega), sd_up_ne (by omega), sd_up_ne (by omega), sd_up_ne (by omega), sd_up_ne (by omega), sd_up_ne (by omega), sd_up_ne (by omega), sd_up_ne (by omega), sd_up_eq]
theorem sd_hX_o {x : sd_M} {k a b v : Int} (h : 0 ≤ x 2 ∧ x 2 < 24) {j : Nat} (h2 : ¬ j = 2) (h3 : ¬ (10 ≤ j ∧ j < 322)) (h4 : ¬ j = 6004) : sd_hX x k a b v j = x j := by
  unfold sd_hX sd_hadd
  rw [sd_up_ne (by omega), sd_up_ne (by omega), sd_up_ne (by omega), sd_up_ne (by omega), sd_up_ne (by omega), sd_up_ne (by omega), sd_up_ne (by omega), sd_up_ne (by omega), sd_up_ne (by omega), sd_up_ne (by omega), sd_up_ne (by omega), sd_up_ne (by omega), sd_up_ne (by omega), sd_up_ne (by omega), sd_up_ne (by omega)]
theorem sd_hX_6 {x : sd_M} {k a b v : Int} : sd_hX x k a b v 6004 = v := sd_up_eq
theorem sd_hX_shp {x : sd_M} {k a b v : Int} (h : 0 ≤ x 2 ∧ x 2 < 24) {w : Int} (hw : sd_shp x w) : sd_shp (sd_hX x k a b v) w := by
  obtain ⟨w1, w2, w3⟩ := hw
  refine ⟨w1, by rw [sd_hX_2 h]; omega, ?_⟩
  rw [sd_hX_10 h (by omega), if_neg (by omega)]
  exact w3
theorem sd_hX_I3n {x : sd_M} {k a b v : Int} (hA : sd_alw x k a b) : (k = 1 → a ≤ 5 ∧ b ≤ 9) ∧ (k = 2 → 1 ≤ a ∧ a ≤ 9) ∧ (k = 3 → sd_shp x a ∧ (b = 99 ∨ sd_shp x b)) ∧ (k = 4 → sd_shp x a ∧ b ≤ 1) ∧ (k = 5 → a = 0 ∧ b ≤ 1) ∧ (0 ≤ k ∧ k ≤ 6) := by
  have f : ∀ w, sd_isA x w 1 → sd_shp x w := fun w hw => ⟨by omega, by omega, by omega⟩
  rcases hA with e | e | ⟨e, p, q⟩ | ⟨e, p, q⟩ | ⟨e, p, q⟩ | ⟨e, p, q⟩ | ⟨e, p, q⟩
  · exact ⟨by omega, by omega, by omega, by omega, by omega, by omega⟩
  · exact ⟨by omega, by omega, by omega, by omega, by omega, by omega⟩
  · exact ⟨fun _ => ⟨by omega, q⟩, by omega, by omega, by omega, by omega, by omega⟩
  · exact ⟨by omega, fun _ => ⟨p, q⟩, by omega, by omega, by omega, by omega⟩
  · refine ⟨by omega, by omega, fun _ => ⟨f a p, ?_⟩, by omega, by omega, by omega⟩
    rcases q with q | q
    · exact Or.inl q
    · exact Or.inr (f b q.1)
  · exact ⟨by omega, by omega, by omega, fun _ => ⟨f a p, q⟩, by omega, by omega⟩
  · exact ⟨by omega, by omega, by omega, by omega, fun _ => ⟨p, q⟩, by omega⟩
set_option maxHeartbeats 4000000 in
theorem sd_hX_Z {x : sd_M} {k a b v : Int} (hZ : sd_Z x) (h : 0 ≤ x 2 ∧ x 2 < 24) (ha : 0 ≤ a ∧ a ≤ 99) (hb : 0 ≤ b ∧ b ≤ 99) (hA : sd_alw x k a b) (hv : v = x 6004 + sd_b (k = 1 ∨ k = 2)) (hv8 : v ≤ 8) : sd_Z (sd_hX x k a b v) := by
  obtain ⟨n1, n2, n3, n4, n5, n6⟩ := sd_hX_I3n (v := v) hA
  clear hA
  obtain ⟨⟨h1, h2, h3, h4, h5, h6, h7, hR, hT, hL⟩, hc, h8, h9, hn⟩ := id hZ
  refine hZ.wadd (fun j q1 q2 q3 => sd_hX_o h q1 q2 q3) ?_ ?_ ?_ ?_ ?_ ?_
  · exact h1.p2 (fun j q1 q2 => sd_hX_o h q2 (by omega) (by omega)) (by rw [sd_hX_2 h]; omega)
  · intro i hi
    obtain ⟨m0, m1, m2, m3, m4, m5, m6, m7, m8, m9, m10, m11, m12⟩ := h2 i hi
    rw [sd_hX_10 h hi, sd_hX_34 h hi, sd_hX_58 h hi, sd_hX_82 h hi, sd_hX_106 h hi, sd_hX_130 h hi, sd_hX_154 h hi, sd_hX_178 h hi, sd_hX_202 h hi, sd_hX_226 h hi, sd_hX_250 h hi, sd_hX_274 h hi, sd_hX_298 h hi]
    refine ⟨(by split; (omega); exact m0), (by split; (omega); exact m1), (by split; (omega); exact m2), (by split; (omega); exact m3), (by split; (omega); exact m4), (by split; (omega); exact m5), (by split; (split <;> omega); exact m6), (by split; (omega); exact m7), (by split; (omega); exact m8), (by split; (omega); exact m9), (by split; (omega); exact m10), (by split; (omega); exact m11), (by split; (omega); exact m12)⟩
  · intro i hi
    rw [sd_hX_2 h] at hi
    rw [sd_hX_10 h (by omega), sd_hX_34 h (by omega), sd_hX_58 h (by omega), sd_hX_202 h (by omega)]
    by_cases e : i = (x 2).toNat
    · rw [if_pos e, if_pos e, if_pos e, if_pos e]
      refine ⟨n1, n2, fun q => ⟨sd_hX_shp h (n3 q).1, ?_⟩, fun q => ⟨sd_hX_shp h (n4 q).1, (n4 q).2⟩, n5, fun _ => rfl⟩
      rcases (n3 q).2 with z | z
      · exact Or.inl z
      · exact Or.inr (sd_hX_shp h z)
    · rw [if_neg e, if_neg e, if_neg e, if_neg e]
      obtain ⟨m1, m2, m3, m4, m5, m6⟩ := h3 i (by omega)
      refine ⟨m1, m2, fun q => ⟨sd_hX_shp h (m3 q).1, ?_⟩, fun q => ⟨sd_hX_shp h (m4 q).1, (m4 q).2⟩, m5, m6⟩
      rcases (m3 q).2 with z | z
      · exact Or.inl z
      · exact Or.inr (sd_hX_shp h z)
  · intro i hi
    obtain ⟨m1, m2, m3, m4, m5⟩ := h4 i hi
    rw [sd_hX_o h (show ¬ 322 + i = 2 by omega) (by omega) (by omega), sd_hX_o h (show ¬ 338 + i = 2 by omega) (by omega) (by omega), sd_hX_o h (show ¬ 354 + i = 2 by omega) (by omega) (by omega), sd_hX_o h (show ¬ 370 + i = 2 by omega) (by omega) (by omega), sd_hX_o h (show ¬ 3 = 2 by omega) (by omega) (by omega)]
    refine ⟨m1, m2, m3, m4, fun q => ?_⟩
    rcases m5 q with z | z
    · exact Or.inl z
    · exact Or.inr (sd_hX_shp h z)
  · intro i hi
    obtain ⟨m1, m2, m3, m4⟩ := h7 i hi
    rw [sd_hX_o h (show ¬ 1272 + i = 2 by omega) (by omega) (by omega), sd_hX_o h (show ¬ 1278 + i = 2 by omega) (by omega) (by omega), sd_hX_o h (show ¬ 1284 + i = 2 by omega) (by omega) (by omega), sd_hX_o h (show ¬ 6 = 2 by omega) (by omega) (by omega), sd_hX_2 h]
    refine ⟨m1, m2, m3, fun q => ?_⟩
    have z := m4 q
    refine ⟨by omega, ?_, z.2.2⟩
    rw [sd_hX_10 h (by omega), if_neg (by omega)]
    exact z.2.1
  · unfold sd_H8
    rw [sd_hX_6, sd_hX_2 h, show (x 2 + 1).toNat = (x 2).toNat + 1 by omega]
    refine ⟨?_, hv8⟩
    have e10 := sd_hX_10 (k := k) (a := a) (b := b) (v := v) h (show (x 2).toNat < 24 by omega)
    rw [if_pos rfl] at e10
    refine hv.trans ?_
    rw [hn.1]
    simp only [sd_cnt]
    congr 1
    · exact sd_cnt_cong (fun i hi => by unfold sd_Pk; rw [sd_hX_10 h (by omega), if_neg (by omega)])
    · unfold sd_b
      by_cases q : k = 1 ∨ k = 2
      · rw [if_pos q, if_pos (show sd_isK (sd_hX x k a b v (10 + (x 2).toNat)) 1 by omega)]
      · rw [if_neg q, if_neg (show ¬ sd_isK (sd_hX x k a b v (10 + (x 2).toNat)) 1 by omega)]
