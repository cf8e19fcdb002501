set_option maxRecDepth 100000 in
set_option maxHeartbeats 4000000 in
theorem cC_nextSubset (t : Int) (S : Int) (x m : sd_M) (hx : sd_ns x m)  (hb : 0 ≤ t ∧ t < 1073741824) (ht : 0 ≤ S ∧ S < 1073741824) : sd_Cp sd_SC 0 sY10_nextSubset [.inl t, .inl S] m (.inl (sd_and (t - S) S)) := by
  refine sd_ct rfl (Nat.le_of_ble_eq_true rfl) (fun hok hm => ?_)
  have r_t : sd_R t := hok (.inl t) (by simp)
  have r_S : sd_R S := hok (.inl S) (by simp)
  show sd_Wp sd_SC 0 sY10_nextSubset 0 [some (.inl t), some (.inl S)] [] m _
  refine sd_iload_n sD10_nextSubset_0 rfl ?_
  refine sd_iload_n sD10_nextSubset_1 rfl ?_
  refine sd_isub (z := (t - S)) sD10_nextSubset_2 (by omega) (by omega) ?_
  refine sd_iload_n sD10_nextSubset_3 rfl ?_
  refine sd_iand sD10_nextSubset_4 ?_
  refine sd_iretp sD10_nextSubset_5 rfl ?_
  first | rfl | omega | (congr 1; omega)
