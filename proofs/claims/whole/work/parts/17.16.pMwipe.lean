set_option maxRecDepth 100000 in
set_option maxHeartbeats 4000000 in
theorem pM_wipe (x m : sd_M) (hx : sd_ns x m)  (hF : ∀ k : Nat, k < 7 → 0 ≤ x (4101 + k) ∧ x (4101 + k) ≤ 1000000) : sd_Ct sd_SM 0 sY11_wipe [.inr 15] m (sd_Qp (sp_wipe x)) := by
  refine sd_ct rfl (Nat.le_of_ble_eq_true rfl) (fun hok hm => ?_)
  show sd_Wp sd_SM 0 sY11_wipe 0 [some (.inr 15), none] [] m _
  refine sd_aload_n sD11_wipe_0 rfl ?_
  refine sd_getfx (v := x 4100) hx sD11_wipe_1 sF11_186 sGM15_4 (by decide) rfl ?_
  refine sd_istore_n (ls' := [some (.inr 15), some (.inl (x 4100))]) sD11_wipe_4 (by decide) rfl ?_
  refine sd_aload_n sD11_wipe_5 rfl ?_
  refine sd_iconst sD11_wipe_6 (by decide) ?_
  refine sd_putfx sd_sokM sd_oneM hx sD11_wipe_7 sF11_186 sGM15_4 (Or.inl rfl) (fun m hx em7 => ?_)
  refine sd_iload_n sD11_wipe_10 rfl ?_
  refine sd_ireturn sD11_wipe_11 rfl (fun hr hm => ?_)
  exact sd_done (by unfold sp_wipe; ((repeat (first | rw [if_pos (by first | assumption | omega)] | rw [if_neg (by first | assumption | omega)])); try rfl)) hx
