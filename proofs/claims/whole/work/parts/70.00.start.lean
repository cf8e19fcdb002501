theorem sd_own1 {S : List sd_C} {a : Nat → Nat} {G : va_G × ClassId × ClassId} {A : Nat → Prop} {w : va_W} (hD : va_D A w) (hp : w.Perm (sd_wsr 0 S (a, G) sd_x0)) : (∀ i j : Nat, i < S.length → j < S.length → a i = a j → i = j) ∧ (∀ i : Nat, i < S.length → A (a i)) ∧ ∀ i : Nat, i < S.length → a i ∈ w.map Prod.fst := by
  have h1 := sd_yDp hD hp
  have h2 : ∀ i : Nat, i < S.length → ∃ e : va_E, (sd_wsr 0 S (a, G) sd_x0)[i]? = some (a i, e) := by
    intro i hi
    refine ⟨sd_cell (a, G) sd_x0 S[i], ?_⟩
    rw [sd_wsr_get, List.getElem?_eq_getElem hi, Nat.zero_add]
    rfl
  refine ⟨fun i j hi hj e => ?_, fun i hi => ?_, fun i hi => ?_⟩
  · obtain ⟨x, hx⟩ := h2 i hi
    obtain ⟨y, hy⟩ := h2 j hj
    exact h1.1 i j _ _ hx hy e
  · obtain ⟨x, hx⟩ := h2 i hi
    exact h1.2 i _ hx
  · obtain ⟨x, hx⟩ := h2 i hi
    exact List.mem_map.mpr ⟨(a i, x), hp.mem_iff.mpr (List.mem_of_getElem? hx), rfl⟩
theorem sd_lkSC : sd_lkL 0 sd_SC.length sd_SC sd_SC = true := by decide +kernel
theorem sd_lkSM : sd_lkL 0 sd_SM.length sd_SM sd_SM = true := by decide +kernel
theorem sd_lenS : sd_SC.length = 121 ∧ sd_SM.length = 16 := ⟨rfl, rfl⟩
theorem sd_known {s : State} {b : Nat} (htb : ∀ w ∈ sd_tb, w.before #[Value.ref b] s = true) (hO : va_AO "SitDown$Sheet" s) : ∃ G : va_G × ClassId × ClassId, ∀ a : Nat → Nat, va_K G.1 sd_cl (sd_tys (a, G)) s := by
  obtain ⟨c0_, i0_, k0_⟩ := u_known (n := 4) htb sC0.2.1 (htb _ (sd_in2_ (i := 28) rfl rfl))
  obtain ⟨c1_, i1_, k1_⟩ := u_known (n := 15) htb sC1.2.1 (htb _ (sd_in1_ (i := 35) rfl rfl))
  obtain ⟨c2_, i2_, k2_⟩ := u_known (n := 2) htb sC2.2.1 (htb _ (sd_in2_ (i := 13) rfl rfl))
  obtain ⟨c3_, i3_, k3_⟩ := u_known (n := 5) htb sC3.2.1 (htb _ (sd_in1_ (i := 105) rfl rfl))
  obtain ⟨c4_, i4_, k4_⟩ := u_known (n := 7) htb sC4.2.1 (htb _ (sd_in1_ (i := 221) rfl rfl))
  obtain ⟨c5_, i5_, k5_⟩ := u_known (n := 3) htb sC5.2.1 (htb _ (sd_in2_ (i := 115) rfl rfl))
  obtain ⟨c6_, i6_, k6_⟩ := u_known (n := 12) htb sC6.2.1 (htb _ (sd_in1_ (i := 29) rfl rfl))
  obtain ⟨c7_, i7_, k7_⟩ := u_known (n := 3) htb sC7.2.1 (htb _ (sd_in2_ (i := 98) rfl rfl))
  obtain ⟨c8_, i8_, k8_⟩ := u_known (n := 13) htb sC8.2.1 (htb _ (sd_in1_ (i := 165) rfl rfl))
  obtain ⟨c9_, i9_, k9_⟩ := u_known (n := 6) htb sC9.2.1 (htb _ (sd_in1_ (i := 135) rfl rfl))
  obtain ⟨c10_, i10_, k10_⟩ := u_known (n := 6) htb sC10.2.1 (htb _ (sd_in1_ (i := 21) rfl rfl))
  obtain ⟨c11_, i11_, k11_⟩ := u_known (n := 24) htb sC11.2.1 (htb _ (sd_in5_ (i := 234) rfl rfl))
  obtain ⟨cA, kA, comp, q1, q2, q3⟩ := Cond.arrayClass_spec (htb _ sd_arI)
  obtain ⟨compS, cS, kS, f4, -, f2, f3, f1⟩ := Cond.arrayOver_spec hO
  refine ⟨((fun k => [c0_, c1_, c2_, c3_, c4_, c5_, c6_, c7_, c8_, c9_, c10_, c11_].getD k c0_, fun k => [i0_, i1_, i2_, i3_, i4_, i5_, i6_, i7_, i8_, i9_, i10_, i11_].getD k i0_), cA, cS), fun a => ⟨fun k q hq => ?_, fun k q hq => ?_⟩⟩
  · match k, hq with
    | 0, hq => cases hq; exact k0_
    | 1, hq => cases hq; exact k1_
    | 2, hq => cases hq; exact k2_
    | 3, hq => cases hq; exact k3_
    | 4, hq => cases hq; exact k4_
    | 5, hq => cases hq; exact k5_
    | 6, hq => cases hq; exact k6_
    | 7, hq => cases hq; exact k7_
    | 8, hq => cases hq; exact k8_
    | 9, hq => cases hq; exact k9_
    | 10, hq => cases hq; exact k10_
    | 11, hq => cases hq; exact k11_
    | k + 12, hq => simp at hq
  · match k, hq with
    | 0, hq => cases hq; exact ⟨fun n z => ⟨fun k h => (by cases h), kA, q2, comp, q3⟩, q1⟩
    | 1, hq => cases hq; exact ⟨fun n z => ⟨fun k h => (by cases h), kS, f2, compS, f3⟩, kS, compS, f2, f3, f4, f1⟩
    | k + 2, hq => simp at hq
