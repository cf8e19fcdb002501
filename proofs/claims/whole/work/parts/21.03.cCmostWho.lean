set_option maxRecDepth 100000 in
set_option maxHeartbeats 4000000 in
theorem cC_mostWho (x m : sd_M) (hx : sd_ns x m) (h8 : sd_L8 x) : sd_Cp sd_SC 1 sY2_mostWho [.inr 45] m (.inl (min 4000 (sd_sum (fun i => x (6500 + i)) 6))) := by
  refine sd_ct rfl (Nat.le_of_ble_eq_true rfl) (fun hok hm => ?_)
  show sd_Wp sd_SC 1 sY2_mostWho 0 [some (.inr 45)] [] m _
  refine sd_sipush sD2_mostWho_0 rfl (by decide) ?_
  refine sd_aload_n sD2_mostWho_3 rfl ?_
  refine sd_getfr sD2_mostWho_4 sF2_9 sGC45_0 ?_
  refine sd_callNp (as := [.inr 43]) (st := [.inl 4000]) (v := .inl (sd_sum (fun i => x (6500 + i)) 6)) sD2_mostWho_7 sM2_28 rfl rfl (by decide) (Nat.le_of_ble_eq_true rfl) (cC_sumOfN _ m hx h8) (fun ho7 => ?_)
  refine sd_mmin sD2_mostWho_10 sM2_32 (by decide) (Nat.le_of_ble_eq_true rfl) ?_
  refine sd_iretp sD2_mostWho_13 rfl ?_
  first | rfl | omega | (congr 1; omega)
