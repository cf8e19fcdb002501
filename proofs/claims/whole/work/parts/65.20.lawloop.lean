theorem lw_body {p : Program} {l : Launch} {e : Env} {s : State} {m : MethodId} {below : List Frame} {meth : Method} {c : Code} {b L : Nat} {xs : Nat → Int32} {gC gM : sd_G} {cells slots : Nat} {N i : Nat} {x mC mM : sd_M} (F : sd_LF p s m meth c b L xs gC gM cells slots) (hi : i + 6 ≤ L) (hN : N ≤ 1000000) (hA : sd_At N x mC mM) (kk : ∀ x' mC' mM', sd_At (N + 1) x' mC' mM' → sd_Lw p l e s m below meth c b gC gM cells slots 2008 [some (.inr 0), some (.inr 1), some (.inr 2), some (.inl (i : Int))] [] mC' mM') : sd_Lw p l e s m below meth c b gC gM cells slots 27 [some (.inr 0), some (.inr 1), some (.inr 2), some (.inl (i : Int))] [] mC mM := by
  refine lw_aload_n F sDL_27 rfl ?_
  refine lw_iload_n F sDL_28 rfl ?_
  refine lw_sld (j := i) F sDL_29 rfl (by omega) ?_
  refine lw_bipush F sDL_30 rfl (by decide) ?_
  refine lw_iand F sDL_32 ?_
  have hv := sd_and63 (xs i).toInt
  generalize sd_and (xs i).toInt 63 = v at *
  by_cases hd : 55 < v
  · exact lw_tsO F sDL_33 hd (by decide) (kk x mC mM ⟨hA.1.rf, hA.2.1, hA.2.2⟩)
  obtain ⟨k, rfl⟩ := Int.eq_ofNat_of_zero_le hv.1
  have hk : k < 56 := by omega
  clear hv
  match k, hk with
  | 0, _ => exact lw_tsI (k := 0) F sDL_33 rfl (by decide) rfl (by decide) (lw_case_0 F hi hN hA kk)
  | 1, _ => exact lw_tsI (k := 1) F sDL_33 rfl (by decide) rfl (by decide) (lw_case_1 F hi hN hA kk)
  | 2, _ => exact lw_tsI (k := 2) F sDL_33 rfl (by decide) rfl (by decide) (lw_case_2 F hi hN hA kk)
  | 3, _ => exact lw_tsI (k := 3) F sDL_33 rfl (by decide) rfl (by decide) (lw_case_3 F hi hN hA kk)
  | 4, _ => exact lw_tsI (k := 4) F sDL_33 rfl (by decide) rfl (by decide) (lw_case_4 F hi hN hA kk)
  | 5, _ => exact lw_tsI (k := 5) F sDL_33 rfl (by decide) rfl (by decide) (lw_case_5 F hi hN hA kk)
  | 6, _ => exact lw_tsI (k := 6) F sDL_33 rfl (by decide) rfl (by decide) (lw_case_6 F hi hN hA kk)
  | 7, _ => exact lw_tsI (k := 7) F sDL_33 rfl (by decide) rfl (by decide) (lw_case_7 F hi hN hA kk)
  | 8, _ => exact lw_tsI (k := 8) F sDL_33 rfl (by decide) rfl (by decide) (lw_case_8 F hi hN hA kk)
  | 9, _ => exact lw_tsI (k := 9) F sDL_33 rfl (by decide) rfl (by decide) (lw_case_9 F hi hN hA kk)
  | 10, _ => exact lw_tsI (k := 10) F sDL_33 rfl (by decide) rfl (by decide) (lw_case_10 F hi hN hA kk)
  | 11, _ => exact lw_tsI (k := 11) F sDL_33 rfl (by decide) rfl (by decide) (lw_case_11 F hi hN hA kk)
  | 12, _ => exact lw_tsI (k := 12) F sDL_33 rfl (by decide) rfl (by decide) (lw_case_12 F hi hN hA kk)
  | 13, _ => exact lw_tsI (k := 13) F sDL_33 rfl (by decide) rfl (by decide) (lw_case_13 F hi hN hA kk)
  | 14, _ => exact lw_tsI (k := 14) F sDL_33 rfl (by decide) rfl (by decide) (lw_case_14 F hi hN hA kk)
  | 15, _ => exact lw_tsI (k := 15) F sDL_33 rfl (by decide) rfl (by decide) (lw_case_15 F hi hN hA kk)
  | 16, _ => exact lw_tsI (k := 16) F sDL_33 rfl (by decide) rfl (by decide) (lw_case_16 F hi hN hA kk)
  | 17, _ => exact lw_tsI (k := 17) F sDL_33 rfl (by decide) rfl (by decide) (lw_case_17 F hi hN hA kk)
  | 18, _ => exact lw_tsI (k := 18) F sDL_33 rfl (by decide) rfl (by decide) (lw_case_18 F hi hN hA kk)
  | 19, _ => exact lw_tsI (k := 19) F sDL_33 rfl (by decide) rfl (by decide) (lw_case_19 F hi hN hA kk)
  | 20, _ => exact lw_tsI (k := 20) F sDL_33 rfl (by decide) rfl (by decide) (lw_case_20 F hi hN hA kk)
  | 21, _ => exact lw_tsI (k := 21) F sDL_33 rfl (by decide) rfl (by decide) (lw_case_21 F hi hN hA kk)
  | 22, _ => exact lw_tsI (k := 22) F sDL_33 rfl (by decide) rfl (by decide) (lw_case_22 F hi hN hA kk)
  | 23, _ => exact lw_tsI (k := 23) F sDL_33 rfl (by decide) rfl (by decide) (lw_case_23 F hi hN hA kk)
  | 24, _ => exact lw_tsI (k := 24) F sDL_33 rfl (by decide) rfl (by decide) (lw_case_24 F hi hN hA kk)
  | 25, _ => exact lw_tsI (k := 25) F sDL_33 rfl (by decide) rfl (by decide) (lw_case_25 F hi hN hA kk)
  | 26, _ => exact lw_tsI (k := 26) F sDL_33 rfl (by decide) rfl (by decide) (lw_case_26 F hi hN hA kk)
  | 27, _ => exact lw_tsI (k := 27) F sDL_33 rfl (by decide) rfl (by decide) (lw_case_27 F hi hN hA kk)
  | 28, _ => exact lw_tsI (k := 28) F sDL_33 rfl (by decide) rfl (by decide) (lw_case_28 F hi hN hA kk)
  | 29, _ => exact lw_tsI (k := 29) F sDL_33 rfl (by decide) rfl (by decide) (lw_case_29 F hi hN hA kk)
  | 30, _ => exact lw_tsI (k := 30) F sDL_33 rfl (by decide) rfl (by decide) (lw_case_30 F hi hN hA kk)
  | 31, _ => exact lw_tsI (k := 31) F sDL_33 rfl (by decide) rfl (by decide) (lw_case_31 F hi hN hA kk)
  | 32, _ => exact lw_tsI (k := 32) F sDL_33 rfl (by decide) rfl (by decide) (lw_case_32 F hi hN hA kk)
  | 33, _ => exact lw_tsI (k := 33) F sDL_33 rfl (by decide) rfl (by decide) (lw_case_33 F hi hN hA kk)
  | 34, _ => exact lw_tsI (k := 34) F sDL_33 rfl (by decide) rfl (by decide) (lw_case_34 F hi hN hA kk)
  | 35, _ => exact lw_tsI (k := 35) F sDL_33 rfl (by decide) rfl (by decide) (lw_case_35 F hi hN hA kk)
  | 36, _ => exact lw_tsI (k := 36) F sDL_33 rfl (by decide) rfl (by decide) (lw_case_36 F hi hN hA kk)
  | 37, _ => exact lw_tsI (k := 37) F sDL_33 rfl (by decide) rfl (by decide) (lw_case_37 F hi hN hA kk)
  | 38, _ => exact lw_tsI (k := 38) F sDL_33 rfl (by decide) rfl (by decide) (lw_case_38 F hi hN hA kk)
  | 39, _ => exact lw_tsI (k := 39) F sDL_33 rfl (by decide) rfl (by decide) (lw_case_39 F hi hN hA kk)
  | 40, _ => exact lw_tsI (k := 40) F sDL_33 rfl (by decide) rfl (by decide) (lw_case_40 F hi hN hA kk)
  | 41, _ => exact lw_tsI (k := 41) F sDL_33 rfl (by decide) rfl (by decide) (lw_case_41 F hi hN hA kk)
  | 42, _ => exact lw_tsI (k := 42) F sDL_33 rfl (by decide) rfl (by decide) (lw_case_42 F hi hN hA kk)
  | 43, _ => exact lw_tsI (k := 43) F sDL_33 rfl (by decide) rfl (by decide) (lw_case_43 F hi hN hA kk)
  | 44, _ => exact lw_tsI (k := 44) F sDL_33 rfl (by decide) rfl (by decide) (lw_case_44 F hi hN hA kk)
  | 45, _ => exact lw_tsI (k := 45) F sDL_33 rfl (by decide) rfl (by decide) (lw_case_45 F hi hN hA kk)
  | 46, _ => exact lw_tsI (k := 46) F sDL_33 rfl (by decide) rfl (by decide) (lw_case_46 F hi hN hA kk)
  | 47, _ => exact lw_tsI (k := 47) F sDL_33 rfl (by decide) rfl (by decide) (lw_case_47 F hi hN hA kk)
  | 48, _ => exact lw_tsI (k := 48) F sDL_33 rfl (by decide) rfl (by decide) (lw_case_48 F hi hN hA kk)
  | 49, _ => exact lw_tsI (k := 49) F sDL_33 rfl (by decide) rfl (by decide) (lw_case_49 F hi hN hA kk)
  | 50, _ => exact lw_tsI (k := 50) F sDL_33 rfl (by decide) rfl (by decide) (lw_case_50 F hi hN hA kk)
  | 51, _ => exact lw_tsI (k := 51) F sDL_33 rfl (by decide) rfl (by decide) (lw_case_51 F hi hN hA kk)
  | 52, _ => exact lw_tsI (k := 52) F sDL_33 rfl (by decide) rfl (by decide) (lw_case_52 F hi hN hA kk)
  | 53, _ => exact lw_tsI (k := 53) F sDL_33 rfl (by decide) rfl (by decide) (lw_case_53 F hi hN hA kk)
  | 54, _ => exact lw_tsI (k := 54) F sDL_33 rfl (by decide) rfl (by decide) (lw_case_54 F hi hN hA kk)
  | 55, _ => exact lw_tsI (k := 55) F sDL_33 rfl (by decide) rfl (by decide) (lw_case_55 F hi hN hA kk)
  | k + 56, hk => omega
theorem lw_loop {p : Program} {l : Launch} {e : Env} {s : State} {m : MethodId} {below : List Frame} {meth : Method} {c : Code} {b L : Nat} {xs : Nat → Int32} {gC gM : sd_G} {cells slots : Nat} (F : sd_LF p s m meth c b L xs gC gM cells slots) : ∀ (n i N : Nat) (x mC mM : sd_M), i ≤ L → L + 1 ≤ i + n → N ≤ i → sd_At N x mC mM → sd_Lw p l e s m below meth c b gC gM cells slots 18 [some (.inr 0), some (.inr 1), some (.inr 2), some (.inl (i : Int))] [] mC mM := by
  have hL : L ≤ 384 := F.2.2.2.2.2.2.2.2.2.1
  intro n
  induction n with
  | zero => intro i N x mC mM h1 h2; omega
  | succ n ih =>
    intro i N x mC mM h1 h2 h3 hA
    refine lw_iload_n F sDL_18 rfl ?_
    refine lw_aload_n F sDL_19 rfl ?_
    refine lw_len F sDL_20 ?_
    refine lw_bipush F sDL_21 rfl (by decide) ?_
    refine lw_isub (z := (L : Int) - 6) F sDL_23 rfl ⟨by omega, by omega⟩ ?_
    refine lw_icmp_gt (tgt := 2014) F sDL_24 (by decide) (fun _ => ?_) (fun hc => ?_)
    · refine lw_iconst F sDL_2014 (by decide) ?_
      exact lw_ret1 F sDL_2015
    · refine lw_body F (by omega) (by omega) hA (fun x' mC' mM' hA' => ?_)
      refine lw_iinc (y := ((i + 6 : Nat) : Int)) (ls' := [some (.inr 0), some (.inr 1), some (.inr 2), some (.inl ((i + 6 : Nat) : Int))]) F sDL_2008 rfl (by omega) ⟨by omega, by omega⟩ (by decide) rfl ?_
      refine lw_goto (tgt := 18) F sDL_2011 (by decide) ?_
      exact ih (i + 6) (N + 1) x' mC' mM' (by omega) (by omega) (by omega) hA'
