set_option maxRecDepth 100000 in
set_option maxHeartbeats 4000000 in
theorem cM_becomeS (a v : Int) (x m : sd_M) (hx : sd_ns x m) (ha : 0 ≤ a ∧ a < 1554) : sd_Ct sd_SM 0 sY11_become [.inr 15, .inl a, .inl v] m (fun r m' => r = some (.inl (sd_b (¬ x a.toNat = v))) ∧ sd_ns (sd_up x a.toNat v) m' ∧ m' = sd_up m a.toNat v) := by
  refine sd_ct rfl (Nat.le_of_ble_eq_true rfl) (fun hok hm => ?_)
  show sd_Wp sd_SM 0 sY11_become 0 [some (.inr 15), some (.inl a), some (.inl v), none] [] m _
  refine sd_aload_n sD11_become_0 rfl ?_
  refine sd_getfr sD11_become_1 sF11_7 sGM15_0 ?_
  refine sd_iload_n sD11_become_4 rfl ?_
  refine sd_ialdx (a := a.toNat) (v := x a.toNat) hx sD11_become_5 sAM0 (by omega) rfl ?_
  refine sd_istore_n (ls' := [some (.inr 15), some (.inl a), some (.inl v), some (.inl (x a.toNat))]) sD11_become_6 (by decide) rfl ?_
  refine sd_aload_n sD11_become_7 rfl ?_
  refine sd_getfr sD11_become_8 sF11_7 sGM15_0 ?_
  refine sd_iload_n sD11_become_11 rfl ?_
  refine sd_iload_n sD11_become_12 rfl ?_
  refine sd_iastx (a := a.toNat) sd_sokM hx sD11_become_13 sAM0 (by omega) (fun m hx em13 => ?_)
  refine sd_iload_n sD11_become_14 rfl ?_
  refine sd_iload_n sD11_become_15 rfl ?_
  refine sd_icmp_ne (tgt := 23) sD11_become_16 (by decide) (fun zc16 => ?_) (fun zc16 => ?_)
  ·
    refine sd_iconst sD11_become_23 (by decide) ?_
    refine sd_ireturn sD11_become_24 rfl (fun hr hm => ?_)
    exact ⟨by first | rfl | (congr 2; exact (sd_b1 (by omega)).symm) | (congr 2; exact (sd_b0 (by omega)).symm), hx, em13⟩
  ·
    refine sd_iconst sD11_become_19 (by decide) ?_
    refine sd_goto (tgt := 24) sD11_become_20 (by decide) ?_
    refine sd_ireturn sD11_become_24 rfl (fun hr hm => ?_)
    exact ⟨by first | rfl | (congr 2; exact (sd_b1 (by omega)).symm) | (congr 2; exact (sd_b0 (by omega)).symm), hx, em13⟩
