theorem sd_srf {s : State} {b : Nat} (hts : ∀ w ∈ lw_tbl, w.before #[Value.ref b] s = true) : ∀ i : Nat, i < 15 → (Cond.stringRef "SitDown$Tape" (sd_sx.getD i (0, "")).1 (sd_sx.getD i (0, "")).2).before #[Value.ref b] s = true := by
  intro i hi
  match i, hi with
  | 0, _ => exact (hts _ (List.mem_append_right _ (sd_it4_ (i := 21) rfl)))
  | 1, _ => exact (hts _ (List.mem_append_right _ (sd_it4_ (i := 22) rfl)))
  | 2, _ => exact (hts _ (List.mem_append_right _ (sd_it4_ (i := 23) rfl)))
  | 3, _ => exact (hts _ (List.mem_append_right _ (sd_it4_ (i := 88) rfl)))
  | 4, _ => exact (hts _ (List.mem_append_right _ (sd_it4_ (i := 89) rfl)))
  | 5, _ => exact (hts _ (List.mem_append_right _ (sd_it4_ (i := 90) rfl)))
  | 6, _ => exact (hts _ (List.mem_append_right _ (sd_it4_ (i := 91) rfl)))
  | 7, _ => exact (hts _ (List.mem_append_right _ (sd_it4_ (i := 92) rfl)))
  | 8, _ => exact (hts _ (List.mem_append_right _ (sd_it4_ (i := 101) rfl)))
  | 9, _ => exact (hts _ (List.mem_append_right _ (sd_it4_ (i := 102) rfl)))
  | 10, _ => exact (hts _ (List.mem_append_right _ (sd_it4_ (i := 103) rfl)))
  | 11, _ => exact (hts _ (List.mem_append_right _ (sd_it4_ (i := 104) rfl)))
  | 12, _ => exact (hts _ (List.mem_append_right _ (sd_it4_ (i := 105) rfl)))
  | 13, _ => exact (hts _ (List.mem_append_right _ (sd_it4_ (i := 106) rfl)))
  | 14, _ => exact (hts _ (List.mem_append_right _ (sd_it4_ (i := 107) rfl)))
  | i + 15, hi => omega
theorem sd_ROof {s : State} {b : Nat} (hts : ∀ w ∈ lw_tbl, w.before #[Value.ref b] s = true) (hgv : (Jvm.Cond.and given_1 narrow_1).before #[Value.ref b] s = true) : ∃ ro : Nat → Nat, ∀ g : sd_G, (∀ k, 900 ≤ k → g.1 k = ro k) → sd_RO g (fun q => s.heap.size ≤ q) s s.heap := by
  have hs : ∀ c ∈ sd_ygv, c.before #[Value.ref b] s = true := flat_of_before _ hgv
  have hA : ∀ a : Nat, a < s.heap.size → ¬ (fun q : Nat => s.heap.size ≤ q) a := fun a h => Nat.not_le.mpr h
  obtain ⟨t1, e1, T1⟩ := va_Tof (tm := .static "SitDown" "KIND_THAT_HAS" "[I") (ty := .int) (N := 13) (f := fun j => .int (Int32.ofInt (sd_kth.getD j 0))) (A := fun q : Nat => s.heap.size ≤ q) (by decide) (hs _ sd_gk1.1) (va_eqt (hs _ sd_gk1.2)) (fun j hj => va_eqt (hs _ (sd_gk2 j hj))) hA
  obtain ⟨t2, e2, T2⟩ := va_Tof (tm := .static "SitDown$Holds" "ABOVE" "[I") (ty := .int) (N := 7) (f := fun j => .int (Int32.ofInt (sd_abv.getD j 0))) (A := fun q : Nat => s.heap.size ≤ q) (by decide) (hs _ sd_ga1.1) (va_eqt (hs _ sd_ga1.2)) (fun j hj => va_eqt (hs _ (sd_ga2 j hj))) hA
  have Z1 := va_Zref (hts _ (List.mem_append_right _ (sd_it2_ (i := 202) rfl))) (hts _ (List.mem_append_right _ (sd_it1_ (i := 1) rfl))) e1 hA
  have Z2 := va_Zref (hts _ (List.mem_append_right _ (sd_it2_ (i := 168) rfl))) (hts _ (List.mem_append_right _ (sd_it1_ (i := 3) rfl))) e2 hA
  have Z3 := va_Zof (hts _ (List.mem_append_right _ (sd_it4_ (i := 45) rfl))) (hts _ (List.mem_append_right _ (sd_it1_ (i := 16) rfl))) (va_eqi (hs _ sd_gc1.1)) hA
  have Z4 := va_Zqof (hts _ (List.mem_append_right _ (sd_it4_ (i := 53) rfl))) (hts _ (List.mem_append_right _ (sd_it1_ (i := 18) rfl))) (hs _ sd_gc1.2) hA
  obtain ⟨adK, adV, S, eS⟩ := vk_Sof (args := #[Value.ref b]) (s := s) (N := 15) (tm := sd_tm) (len := sd_len) (byt := sd_byt) (A := fun q : Nat => s.heap.size ≤ q) sd_gs7 (fun i hi => hs _ (sd_gs1 i hi)) (fun i hi => hs _ (sd_gs2 i hi)) (fun i hi => hs _ (sd_gs3 i hi)) (fun i hi => hs _ (sd_gs4 i hi)) (fun i hi j hj => hs _ (sd_gs5 i hi j hj)) (fun i j hi hj hij => by
    rcases Nat.lt_or_gt_of_ne hij with h | h
    · exact Or.inl (hs _ (sd_gs6 j hj i h))
    · exact Or.inr (hs _ (sd_gs6 i hi j h))) hA
  have hN : ∀ w ∈ sd_nest, va_Nw w s := by
    intro w hw
    obtain ⟨h1, h2⟩ := List.mem_filter.mp hw
    have h3 := hts w (List.mem_append_right _ h1)
    obtain ⟨a, i, x, hh, rfl⟩ := sd_isn_of h2
    exact va_Nw.of rfl h3
  refine ⟨fun k => if k = 900 then t1 else if k = 901 then t2 else if k < 930 then adK (k - 910) else adV (k - 930), fun g hg => ?_⟩
  have g1 : g.1 900 = t1 := hg 900 (by decide)
  have g2 : g.1 901 = t2 := hg 901 (by decide)
  have g3 : ∀ i : Nat, i < 15 → g.1 (910 + i) = adK i := by
    intro i hi
    rw [hg (910 + i) (by omega)]
    show (if 910 + i = 900 then t1 else if 910 + i = 901 then t2 else if 910 + i < 930 then adK (910 + i - 910) else adV (910 + i - 930)) = adK i
    rw [if_neg (by omega), if_neg (by omega), if_pos (by omega), show 910 + i - 910 = i by omega]
  have g4 : ∀ i : Nat, i < 15 → g.1 (930 + i) = adV i := by
    intro i hi
    rw [hg (930 + i) (by omega)]
    show (if 930 + i = 900 then t1 else if 930 + i = 901 then t2 else if 930 + i < 930 then adK (930 + i - 910) else adV (930 + i - 930)) = adV i
    rw [if_neg (by omega), if_neg (by omega), if_neg (by omega), show 930 + i - 930 = i by omega]
  refine ⟨hN, ?_, ?_, Z3, ?_, ⟨fun i hi => ?_, fun i j hi hj e => S.2 i j hi hj ?_⟩, fun i q hq => ?_⟩
  · rw [g1]; exact ⟨Z1, T1⟩
  · rw [g2]; exact ⟨Z2, T2⟩
  · rcases Z4 with z | ⟨t, z⟩
    · exact ⟨.null, rfl, z⟩
    · exact ⟨.ref t, rfl, z⟩
  · have q1 := S.1 i hi
    rw [← g3 i hi, ← g4 i hi] at q1
    exact q1
  · rw [← g3 i hi, ← g3 j hj]; exact e
  · have hi : i < 15 := (List.getElem?_eq_some_iff.mp hq).1
    have hq2 : sd_sx.getD i (0, "") = q := by rw [List.getD_eq_getElem?_getD, hq]; rfl
    have h1 := sd_srf hts i hi
    have h2 := eS i hi
    unfold sd_tm at h2
    rw [hq2] at h1 h2
    rw [g3 i hi]
    exact vk_R.of h1 h2
