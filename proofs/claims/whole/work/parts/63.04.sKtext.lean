theorem sK_text {N : Nat} {x : sd_M} (hI : sd_Inv N x) (j f to : Int) : sd_Go N x (sd_textC x j f to) (sd_textM x j f to) := by
  intro rC rM mC mM hC hM RC RM Rx
  have hp := hI.2.1
  have i5 := hI.1.1.1.2.2.2.2.2.1
  rcases hC with ⟨c1, hC⟩ | ⟨c1, c2, hC⟩ | ⟨c1, c2, X, hX, hC⟩
  · rcases hM with ⟨d1, hM⟩ | ⟨d1, d2, hM⟩ | ⟨d1, d2, hM⟩
    · exact (sd_Dn.fd hI (by decide)).go rC rM mC mM hC hM RC RM Rx
    · exact absurd c1 d1
    · exact absurd c1 d1
  · rcases hM with ⟨d1, hM⟩ | ⟨d1, d2, hM⟩ | ⟨d1, d2, hM⟩
    · exact absurd d1 c1
    · exact (sd_Dn.fd hI (by decide)).go rC rM mC mM hC hM RC RM Rx
    · omega
  · rcases hM with ⟨d1, hM⟩ | ⟨d1, d2, hM⟩ | ⟨d1, d2, hM⟩
    · exact absurd d1 c1
    · omega
    · rcases hC with ⟨e, t1, rfl, nC⟩ | ⟨cs, t1, rfl, t2, t3, nC⟩
      · rcases hM with ⟨e', s1, rfl, nM⟩ | ⟨cs', s1, rfl, nM⟩
        · rw [t1] at s1
          cases s1
          exact sd_mg_go (sd_tx_bad hI c2 hX) nC nM RC RM (fun q a b => hX q (by omega)) (fun q a b => (hX q (by omega)).symm)
        · rw [t1] at s1; cases s1
      · rcases hM with ⟨e', s1, rfl, nM⟩ | ⟨cs', s1, rfl, nM⟩
        · rw [t1] at s1; cases s1
        · refine sd_mg_go (sd_tx_good hI c2 hX c1 t1 t2 t3) nC nM RC RM (fun q a b => ?_) (fun q a b => ?_)
          · clear c1 d1
            have w := sd_oC_w a
            have hT8 : (x 5).toNat < 8 := by omega
            have vT := sd_aT_v (X := X) (j := j) (f := f) (to := to) (hr := x 0) hT8
            have vM := sd_aM_v (x := x) (j := j) (f := f) (to := to) hT8 hp
            by_cases q0 : q = 4100
            · subst q0; rw [vT.2.1, vM.2.1]
            by_cases q1 : q = 5
            · subst q1; rw [vT.1, vM.1]
            by_cases q2 : q = 428 + (x 5).toNat
            · subst q2; rw [vT.2.2.1, vM.2.2.1]
            by_cases q3 : q = 436 + (x 5).toNat
            · subst q3; rw [vT.2.2.2.1, vM.2.2.2.1]
            by_cases q4 : q = 444 + (x 5).toNat
            · subst q4; rw [vT.2.2.2.2.1, vM.2.2.2.2.1]
            by_cases q5 : q = 452 + (x 5).toNat
            · subst q5; rw [vT.2.2.2.2.2.1, vM.2.2.2.2.2.1]
            rw [sd_aM_o hT8 hp q0 q1 (by omega) (by omega)]
            by_cases q6 : 428 ≤ q ∧ q < 460
            · rw [vT.2.2.2.2.2.2 q q6.1 q6.2 q2 q3 q4 q5]
              exact hX q (by omega)
            · rw [sd_aT_o hT8 q0 q1 q6]
              exact hX q (by omega)
          · clear c1 d1
            have hT8 : (x 5).toNat < 8 := by omega
            rw [sd_aM_o hT8 hp (by omega) (by omega) (by omega) (by omega), sd_aT_o hT8 (by omega) (by omega) (by omega)]
            exact (hX q (by omega)).symm
