theorem cM_readsT (x : sd_M) (hP : 0 ≤ x 4100 ∧ x 4100 ≤ 100) (hL : sd_LT x) (m : sd_M) (hx : sd_ns x m) : sd_Ct sd_SM 4 sY11_reads [.inr 15, .inl (-1), .inl (x 4100), .inl 0] m (sd_rdP (fun i => m (5504 + i)) 0 (sd_tpB x) (x 4100).toNat 5 0 0 (-1) (m 5511) m) := by
  have zz := cM_reads (-1) (sd_tpB x) (x 4100).toNat x (sd_tpB_RB hP) hL (fun i => m (5504 + i)) 0 m hx (fun i hi => rfl)
  rw [show ((x 4100).toNat : Int) = x 4100 from by omega] at zz
  exact zz
