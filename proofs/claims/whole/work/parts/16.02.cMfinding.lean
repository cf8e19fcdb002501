set_option maxRecDepth 100000 in
set_option maxHeartbeats 4000000 in
theorem cM_finding (k : Nat) (hk : k < 7) (x m : sd_M) (hx : sd_ns x m) (hb : 0 ≤ x (4101 + k) ∧ x (4101 + k) ≤ 1000000) : sd_Ct sd_SM 0 sY11_finding [.inr 15, .inl (k : Int)] m (fun r m' => r = some (.inl (-1000001 - (k : Int))) ∧ sd_ns (sd_fnd x k) m') := by
  refine sd_ct rfl (Nat.le_of_ble_eq_true rfl) (fun hok hm => ?_)
  show sd_Wp sd_SM 0 sY11_finding 0 [some (.inr 15), some (.inl (k : Int))] [] m _
  refine sd_aload_n sD11_finding_0 rfl ?_
  refine sd_getfr sD11_finding_1 sF11_19 sGM15_5 ?_
  refine sd_iload_n sD11_finding_4 rfl ?_
  refine sd_dup2 sD11_finding_5 ?_
  refine sd_ialdx (a := (4101 + k)) (v := x (4101 + k)) hx sD11_finding_6 sAM3 (by omega) rfl ?_
  refine sd_iconst sD11_finding_7 (by decide) ?_
  refine sd_iadd (z := (x (4101 + k) + 1)) sD11_finding_8 (by omega) (by omega) ?_
  refine sd_iastx (a := (4101 + k)) sd_sokM hx sD11_finding_9 sAM3 (by omega) (fun m hx em9 => ?_)
  refine sd_ldc (z := -1000001) sD11_finding_10 sK11_55 (by decide) ?_
  refine sd_iload_n sD11_finding_12 rfl ?_
  refine sd_isub (z := ((-1000001) - (k : Int))) sD11_finding_13 (by omega) (by omega) ?_
  refine sd_ireturn sD11_finding_14 rfl (fun hr hm => ?_)
  exact ⟨rfl, hx⟩
