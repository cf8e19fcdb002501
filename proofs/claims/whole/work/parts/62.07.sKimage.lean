theorem sK_image {N : Nat} {x : sd_M} (hI : sd_Inv N x) : sd_Dn N x (spC_image x) (spM_image x) := by
  obtain ⟨z, a, b, c, d⟩ := id hI
  have lo : ∀ j, ¬ (2000 ≤ j ∧ j < 3554) → ¬ (7000 ≤ j ∧ j < 7544) → ¬ j = 4260 → sd_im x j = x j := by
    intro j q1 q2 q3
    unfold sd_im
    rw [if_neg q1, if_neg (by omega), if_neg (by omega), if_neg q3]
  refine ⟨rfl, sd_im x, ⟨z.cong (fun j hj => lo j (by omega) (by omega) (by omega)), by rw [lo _ (by omega) (by omega) (by omega)]; exact a, b.cong (fun j _ _ => lo j (by omega) (by omega) (by omega)) (fun j _ => lo j (by omega) (by omega) (by omega)), fun k hk => ?_, Or.inr ⟨?_, ?_, fun i hi => ?_⟩⟩, fun j hj => ?_, fun j hj => ?_, fun j hj => ?_⟩
  · have := c k hk
    rw [lo _ (by omega) (by omega) (by omega)]
    omega
  · unfold sd_im
    rw [if_neg (by omega), if_neg (by omega), if_neg (by omega), if_pos rfl]
  · refine z.cong (fun j hj => ?_)
    unfold sd_kv
    by_cases c1 : j < 1554
    · rw [if_pos c1]
      unfold sd_im
      rw [if_pos (by omega)]
      exact congrArg x (by omega)
    · rw [if_neg c1]
      by_cases c2 : 6000 ≤ j ∧ j < 6540
      · rw [if_pos c2]
        unfold sd_im
        rw [if_neg (by omega), if_pos (by omega)]
        exact congrArg x (by omega)
      · rw [if_neg c2]
        exact lo j (by omega) (by omega) (by omega)
  · unfold sd_im
    rw [if_neg (by omega), if_neg (by omega), if_pos (by omega), if_pos (by omega)]
    exact congrArg x (by omega)
  · have hb := sd_oC_w hj
    have e := sd_ckL_of sd_ckK j (by omega) hj
    show sd_up (sd_mov x sd_LK) 4260 1 j = _
    by_cases c1 : j = 4260
    · subst c1
      rw [sd_up_eq]
      unfold sd_im
      rw [if_neg (by omega), if_neg (by omega), if_neg (by omega), if_pos rfl]
    · rw [sd_up_ne c1, sd_mov_src_eq, e]
      unfold sd_tgK sd_im
      simp only [Bool.and_eq_true, Nat.ble_eq, Nat.blt_eq]
      by_cases c2 : 2000 ≤ j ∧ j < 3554
      · rw [if_pos c2, if_pos c2]
      · rw [if_neg c2, if_neg c2]
        by_cases c3 : 7000 ≤ j ∧ j < 7540
        · rw [if_pos c3, if_pos c3]
        · rw [if_neg c3, if_neg c3]
          by_cases c4 : 7540 ≤ j ∧ j < 7544
          · rw [if_pos c4, if_pos c4]
          · rw [if_neg c4, if_neg c4, if_neg c1]
  · have hb := sd_oM_d hj
    show sd_up (sd_cpm x 0 2000 1554) 4260 1 j = _
    unfold sd_im
    by_cases c1 : j = 4260
    · subst c1
      rw [sd_up_eq, if_neg (by omega), if_neg (by omega), if_neg (by omega), if_pos rfl]
    · rw [sd_up_ne c1]
      unfold sd_cpm
      by_cases c2 : 2000 ≤ j ∧ j < 3554
      · rw [if_pos (by omega), if_pos c2]
        exact congrArg x (by omega)
      · rw [if_neg (by omega), if_neg c2, if_neg (by omega), if_neg (by omega), if_neg c1]
  · by_cases c1 : j = 4260
    · refine Or.inl ?_
      subst c1
      show sd_im x 4260 = sd_up (sd_mov x sd_LK) 4260 1 4260
      rw [sd_up_eq]
      unfold sd_im
      rw [if_neg (by omega), if_neg (by omega), if_neg (by omega), if_pos rfl]
    · refine Or.inr (Or.inr ?_)
      unfold sd_im
      by_cases c2 : 2000 ≤ j ∧ j < 3554
      · exact ⟨j - 2000, by omega, by rw [if_pos c2]⟩
      · rw [if_neg c2]
        by_cases c3 : 7000 ≤ j ∧ j < 7540
        · exact ⟨j - 1000, by omega, by rw [if_pos c3]⟩
        · rw [if_neg c3]
          by_cases c4 : 7540 ≤ j ∧ j < 7544
          · exact ⟨j - 6272, by omega, by rw [if_pos c4]⟩
          · exact ⟨j, hj, by rw [if_neg c4, if_neg c1]⟩
