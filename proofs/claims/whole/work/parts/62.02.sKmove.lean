theorem sK_move {N : Nat} {x : sd_M} (hI : sd_Inv N x) (s k w v : Int) : sd_Dn N x (spC_move x s k w v) (spM_move x s k w v) := by
  obtain ⟨⟨hJ, hc, h8, h9, hn⟩, hr⟩ := id hI
  unfold spC_move spM_move
  refine sd_Dn.ifs (fun _ => .fd hI (by decide)) (fun c1 => ?_)
  refine sd_Dn.mg rfl ?_ (fun j hj h6 => ?_) (fun j a b => ?_)
  · refine hI.site (fun j hj => ?_) (hI.1.wmove (fun j a b => ?_) ?_)
    · unfold sd_mg
      dsimp only
      split
      · rw [sd_up_ne (by omega), sd_up_ne (by omega)]
      · rw [sd_up_ne (by omega), sd_up_ne (by omega)]
    · unfold sd_mg
      dsimp only
      split
      · rw [sd_up_ne (by omega), sd_up_ne (by omega)]
      · rw [sd_up_ne (by omega), sd_up_ne (by omega)]
    · intro i hi
      have z := h9 i hi
      unfold sd_mg
      dsimp only
      rw [if_neg (by omega), if_neg (by omega), if_pos (by omega), if_pos (by omega)]
      rw [sd_up_ne (show ¬ 6520 + i = 6526 + (3 * s.toNat + k.toNat) by omega), sd_up_at, sd_up_at, sd_up_ne (show ¬ 6526 + i = 6520 + (3 * s.toNat + k.toNat) by omega)]
      unfold sd_up
      by_cases e : i = 3 * s.toNat + k.toNat
      · rw [if_pos e, if_pos e, if_neg (by omega), if_pos (by omega), if_pos (by omega)]
        omega
      · rw [if_neg e, if_neg e, if_neg (by omega), if_neg (by omega), if_neg (by omega), if_neg (by omega)]
        exact z
  · have d := sd_oC_w hj
    dsimp only
    rw [sd_up_ne (by omega), sd_up_ne (by omega), sd_up_ne (by omega), sd_up_ne (by omega)]
  · dsimp only
    rw [sd_up_ne (by omega), sd_up_ne (by omega), sd_up_ne (by omega), sd_up_ne (by omega)]
