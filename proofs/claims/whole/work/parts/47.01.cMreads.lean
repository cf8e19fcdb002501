set_option maxRecDepth 100000 in
set_option maxHeartbeats 4000000 in
theorem cM_reads (fr : Int) (B : Nat → Int) (n : Nat) (x : sd_M) (hB : sd_RB x fr B n) (hL : sd_LT x) (f : Nat → Int) (w : Int) (m : sd_M) (hx : sd_ns x m) (hf : ∀ i, i < 4 → m (5504 + i) = f i) : sd_Ct sd_SM 4 sY11_reads [.inr 15, .inl fr, .inl (n : Int), .inl w] m (sd_rdP f w B n 5 0 0 (-1) (m 5511) m) := by
  obtain ⟨m0, hm0⟩ : ∃ m0 : sd_M, m0 = m := ⟨m, rfl⟩
  rw [show sd_rdP f w B n 5 0 0 (-1) (m 5511) m = sd_rdP f w B n 5 0 0 (-1) (m0 5511) m0 from by rw [hm0]]
  refine sd_ct rfl (Nat.le_of_ble_eq_true rfl) (fun hok hm => ?_)
  show sd_Wp sd_SM 4 sY11_reads 0 [some (.inr 15), some (.inl fr), some (.inl (n : Int)), some (.inl w), none, none, none, none, none, none, none, none, none] [] m _
  refine sd_aload_n sD11_reads_0 rfl ?_
  refine sd_iload_n sD11_reads_1 rfl ?_
  refine sd_putfc sd_sokM sd_oneM hx sD11_reads_2 sF11_154 sGM15_10 (by decide) (Or.inl rfl) (fun m hx em2 => ?_)
  refine sd_aload_n sD11_reads_5 rfl ?_
  refine sd_iload_n sD11_reads_6 rfl ?_
  refine sd_putfc sd_sokM sd_oneM hx sD11_reads_7 sF11_151 sGM15_11 (by decide) (Or.inl rfl) (fun m hx em7 => ?_)
  refine sd_aload_n sD11_reads_10 rfl ?_
  refine sd_iconst sD11_reads_11 (by decide) ?_
  refine sd_putfc sd_sokM sd_oneM hx sD11_reads_12 sF11_147 sGM15_12 (by decide) (Or.inl rfl) (fun m hx em12 => ?_)
  refine sd_aload_n sD11_reads_15 rfl ?_
  refine sd_iconst sD11_reads_16 (by decide) ?_
  refine sd_putfc sd_sokM sd_oneM hx sD11_reads_17 sF11_157 sGM15_13 (by decide) (Or.inl rfl) (fun m hx em17 => ?_)
  refine sd_aload_n sD11_reads_20 rfl ?_
  refine sd_iconst sD11_reads_21 (by decide) ?_
  refine sd_putfc sd_sokM sd_oneM hx sD11_reads_22 sF11_176 sGM15_15 (by decide) (Or.inl rfl) (fun m hx em22 => ?_)
  refine sd_iconst sD11_reads_25 (by decide) ?_
  refine sd_istore (ls' := [some (.inr 15), some (.inl fr), some (.inl (n : Int)), some (.inl w), some (.inl 1), none, none, none, none, none, none, none, none]) sD11_reads_26 (by decide) rfl ?_
  refine sd_iconst sD11_reads_28 (by decide) ?_
  refine sd_istore (ls' := [some (.inr 15), some (.inl fr), some (.inl (n : Int)), some (.inl w), some (.inl 1), some (.inl 0), none, none, none, none, none, none, none]) sD11_reads_29 (by decide) rfl ?_
  have hS : sd_RS m fr n 0 (-1) := ⟨by rw [em22, em17, em12, em7, em2]; simp [sd_up], by rw [em22, em17, em12, em7]; simp [sd_up], by rw [em22, em17, em12]; simp [sd_up], by rw [em22, em17]; simp [sd_up]⟩
  have hK6 : sd_k6 m0 m := by rw [hm0]; exact ((((sd_k6.up (fun _ _ => rfl) em2 (by omega)).up em7 (by omega)).up em12 (by omega)).up em17 (by omega)).up em22 (by omega)
  exact cM_rdAll fr B n x hB hL f w fr (n : Int) m0 _ 4 0 rfl (-1) (m0 5511) m 0 hx hS (by omega) hK6 (fun i hi => (hK6 _ (by omega)).trans (by rw [hm0]; exact hf i hi)) (by rw [em22]; simp [sd_up]) (by rw [em22, em17, em12, em7, em2, hm0]; simp [sd_up]) (by omega) (fun r m2 hq => hq)
