theorem sd_ifr {n : Nat} {c : Prop} [Decidable c] {p q : Int × sd_M} (h1 : sd_Inv n p.2) (h2 : sd_Inv n q.2) : sd_Inv n (if c then p else q).2 := by
  by_cases h : c
  · rw [if_pos h]; exact h1
  · rw [if_neg h]; exact h2
theorem sN_as {N : Nat} {x : sd_M} (hI : sd_Inv N x) (h k : Int) : sd_Inv (N + 1) (sp_as x h k).2 := by
  unfold sp_as
  exact sd_ifr (hI.fd (by decide)) (sd_ifr (hI.fd (by decide)) (hI.rf))
theorem sN_reach {N : Nat} {x : sd_M} (hI : sd_Inv N x) (h : Int) : sd_Inv (N + 1) (sp_reach x h).2 := by
  unfold sp_reach
  exact sd_ifr (hI.fd (by decide)) (sd_ifr (hI.fd (by decide)) (hI.rf))
theorem sN_whistle {N : Nat} {x : sd_M} (hI : sd_Inv N x) (h g : Int) : sd_Inv (N + 1) (sp_whistle x h g).2 := by
  unfold sp_whistle
  exact sd_ifr (hI.fd (by decide)) (sd_ifr (hI.fd (by decide)) (hI.rf))
theorem sN_force {N : Nat} {x : sd_M} (hI : sd_Inv N x) (g : Int) : sd_Inv (N + 1) (sp_force x g).2 := by
  unfold sp_force
  exact sd_ifr (hI.fd (by decide)) (sd_ifr (hI.fd (by decide)) (hI.rf))
theorem sN_part {N : Nat} {x : sd_M} (hI : sd_Inv N x) (p : Int) : sd_Inv (N + 1) (sp_part x p).2 := by
  unfold sp_part
  exact sd_ifr (hI.fd (by decide)) (hI.rf)
theorem sN_food {N : Nat} {x : sd_M} (hI : sd_Inv N x) (h : Int) : sd_Inv (N + 1) (sp_food x h).2 := by
  unfold sp_food
  exact sd_ifr (hI.fd (by decide)) (sd_ifr (hI.fd (by decide)) (sd_ifr (hI.fd (by decide)) (hI.rf)))
theorem sN_where {N : Nat} {x : sd_M} (hI : sd_Inv N x) (i w : Int) : sd_Inv (N + 1) (sp_where x i w).2 := by
  unfold sp_where
  exact sd_ifr (hI.fd (by decide)) (hI.rf)
theorem sN_book {N : Nat} {x : sd_M} (hI : sd_Inv N x) (d w : Int) : sd_Inv (N + 1) (sp_book x d w).2 := by
  unfold sp_book
  exact sd_ifr (hI.fd (by decide)) (sd_ifr (hI.rf) (hI.fd (by decide)))
theorem sN_status {N : Nat} {x : sd_M} (hI : sd_Inv N x) (w : Int) : sd_Inv (N + 1) (sp_status x w).2 := by
  unfold sp_status
  exact sd_ifr (hI.rf) (sd_ifr (hI.rf) (hI.rf))
theorem sN_cold {N : Nat} {x : sd_M} (hI : sd_Inv N x) (h v : Int) : sd_Inv (N + 1) (sp_cold x h v).2 := by
  unfold sp_cold
  exact sd_ifr (hI.fd (by decide)) (sd_ifr (hI.fd (by decide)) (sd_ifr (hI.fd (by decide)) (hI.rf)))
theorem sN_stay {N : Nat} {x : sd_M} (hI : sd_Inv N x) (i : Int) : sd_Inv (N + 1) (sp_stay x i).2 := by
  unfold sp_stay
  exact sd_ifr (hI.fd (by decide)) (sd_ifr (hI.fd (by decide)) (sd_ifr (hI.fd (by decide)) (hI.rf)))
theorem sN_unlike {N : Nat} {x : sd_M} (hI : sd_Inv N x) : sd_Inv (N + 1) (sp_unlike x ).2 := by
  unfold sp_unlike
  exact hI.rf
theorem sN_between {N : Nat} {x : sd_M} (hI : sd_Inv N x) (t : Int) : sd_Inv (N + 1) (sp_between x t).2 := by
  unfold sp_between
  exact sd_ifr (hI.fd (by decide)) (hI.rf)
theorem sN_want {N : Nat} {x : sd_M} (hI : sd_Inv N x) (w : Int) : sd_Inv (N + 1) (sp_want x w).2 := by
  unfold sp_want
  exact sd_ifr (hI.fd (by decide)) (sd_ifr (hI.rf) (hI.rf))
theorem sN_check {N : Nat} {x : sd_M} (hI : sd_Inv N x) (d s : Int) : sd_Inv (N + 1) (sp_check x d s).2 := by
  unfold sp_check
  exact sd_ifr (hI.fd (by decide)) (sd_ifr (hI.fd (by decide)) (sd_ifr (hI.fd (by decide)) (sd_ifr (hI.fd (by decide)) (hI.rf))))
theorem sN_play {N : Nat} {x : sd_M} (hI : sd_Inv N x) (w v k : Int) : sd_Inv (N + 1) (sp_play x w v k).2 := by
  unfold sp_play
  exact sd_ifr (hI.fd (by decide)) (hI.rf)
theorem sN_best {N : Nat} {x : sd_M} (hI : sd_Inv N x) (w v k : Int) : sd_Inv (N + 1) (sp_best x w v k).2 := by
  unfold sp_best
  exact sd_ifr (hI.fd (by decide)) (hI.rf)
theorem sN_judge {N : Nat} {x : sd_M} (hI : sd_Inv N x) (s w v : Int) : sd_Inv (N + 1) (sp_judge x s w v).2 := by
  unfold sp_judge
  exact sd_ifr (hI.fd (by decide)) (sd_ifr (hI.fd (by decide)) (sd_ifr (hI.fd (by decide)) (sd_ifr (hI.fd (by decide)) (hI.rf))))
theorem sN_sign {N : Nat} {x : sd_M} (hI : sd_Inv N x) (t a l : Int) : sd_Inv (N + 1) (sp_sign x t a l).2 := by
  unfold sp_sign
  exact sd_ifr (hI.fd (by decide)) (sd_ifr (hI.fd (by decide)) (sd_ifr (hI.fd (by decide)) (hI.rf)))
theorem sN_feint {N : Nat} {x : sd_M} (hI : sd_Inv N x) (g : Int) : sd_Inv (N + 1) (sp_feint x g).2 := by
  unfold sp_feint
  exact sd_ifr (hI.fd (by decide)) (sd_ifr (hI.fd (by decide)) (sd_ifr (hI.fd (by decide)) (sd_ifr (hI.fd (by decide)) (hI.rf))))
theorem sN_barred {N : Nat} {x : sd_M} (hI : sd_Inv N x) (w h : Int) : sd_Inv (N + 1) (sp_barred x w h).2 := by
  unfold sp_barred
  exact sd_ifr (hI.fd (by decide)) (sd_ifr (hI.fd (by decide)) (hI.rf))
theorem sN_why {N : Nat} {x : sd_M} (hI : sd_Inv N x) (w h : Int) : sd_Inv (N + 1) (sp_why x w h).2 := by
  unfold sp_why
  exact sd_ifr (hI.fd (by decide)) (sd_ifr (hI.fd (by decide)) (sd_ifr (hI.fd (by decide)) (hI.rf)))
theorem sN_of {N : Nat} {x : sd_M} (hI : sd_Inv N x) (h w : Int) : sd_Inv (N + 1) (sp_of x h w).2 := by
  unfold sp_of
  exact sd_ifr (hI.fd (by decide)) (sd_ifr (hI.fd (by decide)) (hI.rf))
theorem sN_count {N : Nat} {x : sd_M} (hI : sd_Inv N x) (w : Int) : sd_Inv (N + 1) (sp_count x w).2 := by
  unfold sp_count
  exact sd_ifr (hI.rf) (sd_ifr (hI.rf) (sd_ifr (hI.rf) (sd_ifr (hI.rf) (sd_ifr (hI.rf) (sd_ifr (hI.rf) (sd_ifr (hI.rf) (sd_ifr (hI.rf) (sd_ifr (hI.rf) (sd_ifr (hI.rf) (sd_ifr (hI.rf) (sd_ifr (hI.rf) (sd_ifr (hI.rf) (sd_ifr (hI.rf) (hI.fd (by decide)))))))))))))))
theorem sN_last {N : Nat} {x : sd_M} (hI : sd_Inv N x) (w v : Int) : sd_Inv (N + 1) (sp_last x w v).2 := by
  unfold sp_last
  exact sd_ifr (hI.fd (by decide)) (sd_ifr (hI.fd (by decide)) (hI.rf))
theorem sN_least {N : Nat} {x : sd_M} (hI : sd_Inv N x) (w : Int) : sd_Inv (N + 1) (sp_least x w).2 := by
  unfold sp_least
  exact sd_ifr (hI.fd (by decide)) (sd_ifr (hI.fd (by decide)) (hI.rf))
