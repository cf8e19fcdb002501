theorem sK_copy {N : Nat} {x : sd_M} (hI : sd_Inv N x) (s f t g n : Int) : sd_Dn N x (spC_copy x s f t g n) (spM_copy x s f t g n) := by
  have hB := hI.2.2.1
  unfold spC_copy spM_copy sp_cpy
  refine sd_Dn.ifs (fun _ => .fd hI (by decide)) (fun c1 => sd_Dn.ifs (fun _ => .fd hI (by decide)) (fun c2 => sd_Dn.ifs (fun _ => .fd hI (by decide)) (fun c3 => sd_Dn.ifs (fun _ => .fd hI (by decide)) (fun c4 => ?_))))
  obtain ⟨b1, b2, b3, b4⟩ := hB s.toNat (by omega)
  obtain ⟨e1, e2, e3, e4⟩ := hB t.toNat (by omega)
  simp only [if_true, Bool.false_eq_true, if_false]
  refine sd_Dn.mg rfl ?_ (fun j hj h6 => ?_) (fun j a b => ?_)
  · dsimp only
    refine hI.sheets (fun j q1 q2 => ?_) (fun u hu => ?_)
    · unfold sd_mg sd_cpm
      split
      · rw [if_neg (by omega)]
      · rw [if_neg (by omega)]
    · obtain ⟨d1, d2, d3, d4⟩ := hB u hu
      have o : ∀ j, (4248 ≤ j ∧ j < 4260) ∨ (8100 ≤ j ∧ j < 8104) → sd_mg (sd_cpm x (8200 + 12 * s.toNat + f.toNat) (8200 + 12 * t.toNat + g.toNat) n.toNat) (sd_cpm x (4200 + (12 * s.toNat + f.toNat)) (4200 + (12 * t.toNat + g.toNat)) n.toNat) j = x j := by
        intro j q
        unfold sd_mg sd_cpm
        split
        · rw [if_neg (by omega)]
        · rw [if_neg (by omega)]
      rw [o (4250 + u) (by omega), o (8100 + u) (by omega), o (4254 + u) (by omega)]
      refine ⟨d1, d2, d3, fun q => ⟨(d4 q).1, fun k hk => ?_⟩⟩
      unfold sd_mg
      rw [if_pos (by omega), if_neg (by omega)]
      unfold sd_cpm
      by_cases e : 12 * t.toNat + g.toNat ≤ 12 * u + k ∧ 12 * u + k < 12 * t.toNat + g.toNat + n.toNat
      · rw [if_pos (by omega), if_pos (by omega)]
        have w := (b4 (by omega)).2 (f.toNat + (12 * u + k - (12 * t.toNat + g.toNat))) (by omega)
        rw [show 4200 + (12 * s.toNat + f.toNat) + (4200 + (12 * u + k) - (4200 + (12 * t.toNat + g.toNat))) = 4200 + (12 * s.toNat + (f.toNat + (12 * u + k - (12 * t.toNat + g.toNat)))) by omega, w]
        congr 1
        omega
      · rw [if_neg (by omega), if_neg (by omega)]
        exact (d4 q).2 k hk
  · have d := sd_oC_w hj
    dsimp only
    unfold sd_cpm
    rw [if_neg (by omega), if_neg (by omega)]
  · dsimp only
    unfold sd_cpm
    rw [if_neg (by omega), if_neg (by omega)]
