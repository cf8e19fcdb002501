theorem sK_undo {N : Nat} {x : sd_M} (hI : sd_Inv N x) : sd_Dn N x (spC_undo x) (spM_undo x) := by
  obtain ⟨z, a, b, c, d⟩ := id hI
  unfold spC_undo spM_undo
  refine sd_Dn.ifs (fun _ => .fd hI (by decide)) (fun c1 => ?_)
  rcases d with d | ⟨d, zk, k4⟩
  · exact absurd d c1
  have hi : ∀ j, 1554 ≤ j → ¬ (6000 ≤ j ∧ j < 6540) → sd_kv x j = x j := by
    intro j q1 q2
    unfold sd_kv
    rw [if_neg (by omega), if_neg q2]
  refine ⟨rfl, sd_kv x, ⟨zk, by rw [hi _ (by omega) (by omega)]; exact a, b.cong (fun j _ _ => hi j (by omega) (by omega)) (fun j _ => hi j (by omega) (by omega)), fun k hk => ?_, Or.inr ⟨by rw [hi _ (by omega) (by omega)]; exact d, zk.cong (fun j hj => ?_), fun i hi4 => ?_⟩⟩, fun j hj => ?_, fun j hj => ?_, fun j hj => Or.inr (Or.inr ?_)⟩
  · have := c k hk
    rw [hi _ (by omega) (by omega)]
    omega
  · show (if j < 1554 then sd_kv x (2000 + j) else if 6000 ≤ j ∧ j < 6540 then sd_kv x (1000 + j) else sd_kv x j) = sd_kv x j
    by_cases q1 : j < 1554
    · rw [if_pos q1, hi _ (by omega) (by omega)]
      unfold sd_kv
      rw [if_pos q1]
    · rw [if_neg q1]
      by_cases q2 : 6000 ≤ j ∧ j < 6540
      · rw [if_pos q2, hi _ (by omega) (by omega)]
        unfold sd_kv
        rw [if_neg q1, if_pos q2]
      · rw [if_neg q2]
  · rw [hi _ (by omega) (by omega), hi _ (by omega) (by omega)]
    exact k4 i hi4
  · have hb := sd_oC_w hj
    have e := sd_ckL_of sd_ckS j (by omega) hj
    show sd_mov x sd_LS j = _
    rw [sd_mov_src_eq, e]
    unfold sd_tgS sd_kv
    simp only [Bool.and_eq_true, Nat.ble_eq, Nat.blt_eq]
    by_cases q0 : 1268 ≤ j ∧ j < 1272
    · rw [if_pos q0, if_pos (by omega)]
      have w := k4 (j - 1268) (by omega)
      rw [show 7540 + (j - 1268) = j + 6272 by omega, show 3268 + (j - 1268) = 2000 + j by omega] at w
      exact w
    · rw [if_neg q0]
      by_cases q1 : j < 1554
      · rw [if_pos q1, if_pos q1]
      · rw [if_neg q1, if_neg q1]
        by_cases q2 : 6000 ≤ j ∧ j < 6540
        · rw [if_pos q2, if_pos q2]
        · rw [if_neg q2, if_neg q2]
  · have hb := sd_oM_d hj
    show sd_cpm x 2000 0 1554 j = _
    unfold sd_cpm sd_kv
    by_cases q1 : j < 1554
    · rw [if_pos (by omega), if_pos q1]
      exact congrArg x (by omega)
    · rw [if_neg (by omega), if_neg q1, if_neg (by omega)]
  · unfold sd_kv
    by_cases q1 : j < 1554
    · exact ⟨2000 + j, by omega, by rw [if_pos q1]⟩
    · by_cases q2 : 6000 ≤ j ∧ j < 6540
      · exact ⟨1000 + j, by omega, by rw [if_neg q1, if_pos q2]⟩
      · exact ⟨j, hj, by rw [if_neg q1, if_neg q2]⟩
