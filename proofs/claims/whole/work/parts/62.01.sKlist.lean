theorem sK_list {N : Nat} {x : sd_M} (hI : sd_Inv N x) (k n f : Int) : sd_Dn N x (spC_list x k n f) (spM_list x k n f) := by
  obtain ⟨⟨hJ, hc, h8, h9, hn⟩, hr⟩ := id hI
  unfold spC_list spM_list
  refine sd_Dn.ifs (fun _ => .fd hI (by decide)) (fun c1 => ?_)
  refine sd_Dn.mg rfl ?_ (fun j hj h6 => ?_) (fun j a b => ?_)
  · refine hI.site (fun j hj => ?_) (hI.1.wlist (fun j a b => ?_) ?_)
    · unfold sd_mg
      dsimp only
      split
      · rw [sd_up_ne (by omega), sd_up_ne (by omega)]
      · rw [sd_up_ne (by omega), sd_up_ne (by omega)]
    · unfold sd_mg
      dsimp only
      split
      · rw [sd_up_ne (by omega), sd_up_ne (by omega)]
      · rw [sd_up_ne (by omega), sd_up_ne (by omega)]
    · intro i hi
      have z := h8 i hi
      unfold sd_mg
      dsimp only
      rw [if_neg (by omega), if_neg (by omega), if_pos (by omega), if_pos (by omega)]
      rw [sd_up_ne (show ¬ 6500 + i = 6506 + k.toNat by omega), sd_up_at, sd_up_at, sd_up_ne (show ¬ 6506 + i = 6500 + k.toNat by omega)]
      unfold sd_up
      by_cases e : i = k.toNat
      · rw [if_pos e, if_pos e, if_neg (by omega), if_pos (by omega), if_pos (by omega)]
        omega
      · rw [if_neg e, if_neg e, if_neg (by omega), if_neg (by omega), if_neg (by omega), if_neg (by omega)]
        exact z
  · have d := sd_oC_w hj
    dsimp only
    rw [sd_up_ne (by omega), sd_up_ne (by omega), sd_up_ne (by omega), sd_up_ne (by omega)]
  · dsimp only
    rw [sd_up_ne (by omega), sd_up_ne (by omega), sd_up_ne (by omega), sd_up_ne (by omega)]
