theorem sK_write {N : Nat} {x : sd_M} (hI : sd_Inv N x) (s i v : Int) : sd_Dn N x (spC_write x s i v) (spM_write x s i v) := by
  have hB := hI.2.2.1
  unfold spC_write spM_write
  refine sd_Dn.ifs (fun _ => .fd hI (by decide)) (fun c1 => sd_Dn.ifs (fun _ => .fd hI (by decide)) (fun c2 => sd_Dn.ifs (fun _ => .fd hI (by decide)) (fun c3 => ?_)))
  obtain ⟨b1, b2, b3, b4⟩ := hB s.toNat (by omega)
  refine sd_Dn.mg rfl ?_ (fun j hj h6 => ?_) (fun j a b => ?_)
  · dsimp only
    have o : ∀ j, ¬ j = 4200 + 12 * s.toNat + i.toNat → ¬ j = 8200 + 12 * s.toNat + i.toNat → sd_mg (sd_up x (8200 + 12 * s.toNat + i.toNat) (sd_cnv (x (4250 + s.toNat)) v)) (sd_up x (4200 + 12 * s.toNat + i.toNat) (sd_cnv (x (4250 + s.toNat)) v)) j = x j := by
      intro j q1 q2
      unfold sd_mg
      split
      · rw [sd_up_ne q1]
      · rw [sd_up_ne q2]
    refine hI.sheets (fun j q1 q2 => o j (by omega) (by omega)) (fun t ht => ?_)
    obtain ⟨d1, d2, d3, d4⟩ := hB t ht
    rw [o (4250 + t) (by omega) (by omega), o (8100 + t) (by omega) (by omega), o (4254 + t) (by omega) (by omega)]
    refine ⟨d1, d2, d3, fun q => ⟨(d4 q).1, fun k hk => ?_⟩⟩
    by_cases e : 12 * t + k = 12 * s.toNat + i.toNat
    · rw [show 4200 + (12 * t + k) = 4200 + 12 * s.toNat + i.toNat by omega, show 8200 + 12 * t + k = 8200 + 12 * s.toNat + i.toNat by omega]
      unfold sd_mg
      rw [if_pos (by omega), if_neg (by omega), sd_up_eq, sd_up_eq]
    · rw [o _ (by omega) (by omega), o _ (by omega) (by omega)]
      exact (d4 q).2 k hk
  · have d := sd_oC_w hj
    dsimp only
    rw [sd_up_ne (by omega), sd_up_ne (by omega)]
  · dsimp only
    rw [sd_up_ne (by omega), sd_up_ne (by omega)]
