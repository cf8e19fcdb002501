theorem sN_feed {N : Nat} {x : sd_M} (hI : sd_Inv N x) (v n : Int) : sd_Inv (N + 1) (sp_feed x v n).2 := by
  have hp := hI.2.1
  unfold sp_feed
  refine sd_ifp (fun _ => hI.fd (by decide)) (fun c1 => sd_ifp (fun _ => hI.fd (by decide)) (fun c2 => ?_))
  refine hI.tape (fun j hj => ?_) ?_
  · show sd_fdm x v n j = x j
    unfold sd_fdm
    rw [if_neg (by omega), if_neg (by omega)]
  · show 0 ≤ sd_fdm x v n 4100 ∧ sd_fdm x v n 4100 ≤ 100
    unfold sd_fdm
    rw [if_neg (by omega), if_pos rfl]
    omega
