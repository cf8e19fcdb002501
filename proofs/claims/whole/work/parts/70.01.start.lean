set_option maxRecDepth 100000 in
theorem whole_start {p : Program} {e : Env} {s : State} {m : MethodId} {below : List Frame} {meth : Method} {c : Code} (l : Launch) (hflags : l.flags = flags0) {b L : Nat} {xs : Nat → Int32} (hL : L ≤ 384) (C0 : lw_At p s m meth c b L xs) : W p l e room_1 s m #[Value.ref b] below meth c s.heap [] 0 0 (lw_Z below #[Value.ref b] s) (entryFrame m ([Value.ref b] : List Value).toArray 4) := by
  obtain ⟨hx, hb, hr, hml, hown, hts, hX, hbl, hlocks, hgv⟩ := id C0
  have htb : ∀ w ∈ sd_tb, w.before #[Value.ref b] s = true := fun w hw => hts w (List.mem_filter.mp hw).1
  have hO : va_AO "SitDown$Sheet" s := va_AO.of (hts _ (List.mem_append_right _ (sd_it2_ (i := 96) rfl)))
  have hN : ∀ w ∈ sd_nest, va_Nw w s := by
    intro w hw
    obtain ⟨h1, h2⟩ := List.mem_filter.mp hw
    have h3 := hts w (List.mem_append_right _ h1)
    obtain ⟨a, i, x, hh, rfl⟩ := sd_isn_of h2
    exact va_Nw.of rfl h3
  obtain ⟨G, hKG⟩ := sd_known htb hO
  obtain ⟨ro, hro⟩ := sd_ROof hts hgv
  have F : sd_BF ((fun _ => 0), G) sd_sY p s m #[Value.ref b] c := ⟨hx, hb, hml, hown, htb, hKG _, hN, hO⟩
  have hl := lv_entry [.ref b] (n := 4) (Nat.le_of_ble_eq_true rfl)
  rw [lg_entry_eq]
  generalize (lg_sl [.ref b] ++ List.replicate (4 - (lg_sl [.ref b]).length) Slot.unset).toArray = ls at hl ⊢
  have hl : lv_has ls 4 [(0, .ref b)] := hl
  refine sd_born (R := room_1) (A := fun q => s.heap.size ≤ q) (ws := []) (N := 6) (Post := sd_yPo sd_SC) F sDL_0 sDL_3 sDL_4 sC10 tyX10 tyX10_ok (by decide) (sd_in1_ (i := 20) rfl rfl) (sd_in1_ (i := 21) rfl rfl) (sd_in1_ (i := 1) rfl rfl) (⟨Or.inr (sd_in1_ (i := 22) rfl rfl), sd_in1_ (i := 23) rfl rfl, sH10_init.1, sW10_init, sH10_init.2.1, sH10_init.2.2, rfl, rfl⟩ : sd_mi sd_sY.1.cls 9 "SitDown" sY10_init) bC_10 ⟨Nat.le_of_ble_eq_true rfl, Nat.le_of_ble_eq_true rfl⟩ (Nat.le_of_ble_eq_true rfl) (Nat.le_of_ble_eq_true rfl) (Nat.le_of_ble_eq_true rfl) (fun k q h => by simp at h) ⟨fun i j x y h => by simp at h, fun k q h => by simp at h⟩ va_S.rf (fun q h => h) hl rfl (fun qC wC H1 locs1 zC hP1 hD1 hS1 => ?_)
  refine lv_astore_n (lv' := [(1, .ref qC), (0, .ref b)]) hx hb sDL_7.1 rfl hl (by decide) rfl (fun ls1 hl1 => ?_)
  refine sd_born (R := room_1) (A := fun q => s.heap.size ≤ q) (N := 24) (Post := sd_yPo sd_SM) F sDL_8 sDL_11 sDL_12 sC11 tyX11 tyX11_ok (by decide) (sd_in5_ (i := 233) rfl rfl) (sd_in5_ (i := 234) rfl rfl) (sd_in1_ (i := 12) rfl rfl) (⟨Or.inr (sd_in5_ (i := 235) rfl rfl), sd_in5_ (i := 236) rfl rfl, sH11_init.1, sW11_init, sH11_init.2.1, sH11_init.2.2, rfl, rfl⟩ : sd_mi sd_sY.1.cls 12 "SitDown" sY11_init) bC_11 ⟨Nat.le_of_ble_eq_true rfl, Nat.le_of_ble_eq_true rfl⟩ (Nat.le_of_ble_eq_true rfl) (Nat.le_of_ble_eq_true rfl) (Nat.le_of_ble_eq_true rfl) hP1 hD1 hS1 (fun q h => h) hl1 rfl (fun qM wM H2 locs2 zM hP2 hD2 hS2 => ?_)
  refine lv_astore_n (lv' := [(2, .ref qM), (1, .ref qC), (0, .ref b)]) hx hb sDL_15.1 rfl hl1 (by decide) rfl (fun ls2 hl2 => ?_)
  refine lv_iconst (v := 0) hx hb sDL_16.1 (by decide) ?_
  refine lv_istore_n (lv' := [(3, .int 0), (2, .ref qM), (1, .ref qC), (0, .ref b)]) hx hb sDL_17.1 rfl hl2 (by decide) rfl (fun ls3 hl3 => ?_)
  obtain ⟨aC, eC, pC⟩ := zC
  have eC : aC 120 = qC := eC
  subst eC
  obtain ⟨aM, eM, pM⟩ := zM
  have eM : aM 15 = qM := eM
  subst eM
  have hD2 : va_D (fun q => s.heap.size ≤ q) (wC ++ wM) := hD2
  have hP2 : va_P G.1 sd_cl (wC ++ wM) H2 := hP2
  have hnd := (sd_yDm.mp hD2).1
  rw [List.map_append, List.nodup_append] at hnd
  have hDC : va_D (fun q => s.heap.size ≤ q) wC := sd_yDm.mpr ⟨hnd.1, fun q hq => (sd_yDm.mp hD2).2 q (List.mem_append_left _ hq)⟩
  have hDM : va_D (fun q => s.heap.size ≤ q) wM := sd_yDm.mpr ⟨hnd.2.1, fun q hq => (sd_yDm.mp hD2).2 q (List.mem_append_right _ hq)⟩
  have hPC : va_P G.1 sd_cl wC H2 := sd_yPm.mpr (fun q hq => sd_yPm.mp hP2 q (List.mem_append_left _ hq))
  have hPM : va_P G.1 sd_cl wM H2 := sd_yPm.mpr (fun q hq => sd_yPm.mp hP2 q (List.mem_append_right _ hq))
  obtain ⟨c1, c2, c3⟩ := sd_own1 hDC pC
  obtain ⟨m1, m2, m3⟩ := sd_own1 hDM pM
  obtain ⟨gC, hgC⟩ : ∃ gC : sd_G, gC = ((fun k => if k < 200 then aC k else ro k), G) := ⟨_, rfl⟩
  obtain ⟨gM, hgM⟩ : ∃ gM : sd_G, gM = ((fun k => if k < 200 then aM k else ro k), G) := ⟨_, rfl⟩
  have gC1 : ∀ k, k < 200 → gC.1 k = aC k := fun k hk => by rw [hgC]; show (if k < 200 then aC k else ro k) = aC k; rw [if_pos hk]
  have gM1 : ∀ k, k < 200 → gM.1 k = aM k := fun k hk => by rw [hgM]; show (if k < 200 then aM k else ro k) = aM k; rw [if_pos hk]
  have gC2 : ∀ k, 900 ≤ k → gC.1 k = ro k := fun k hk => by rw [hgC]; show (if k < 200 then aC k else ro k) = ro k; rw [if_neg (by omega)]
  have gM2 : ∀ k, 900 ≤ k → gM.1 k = ro k := fun k hk => by rw [hgM]; show (if k < 200 then aM k else ro k) = ro k; rw [if_neg (by omega)]
  have gC3 : gC.2 = G := by rw [hgC]
  have gM3 : gM.2 = G := by rw [hgM]
  have kC : sd_ws sd_SC gC sd_x0 = sd_wsr 0 sd_SC (aC, G) sd_x0 := by
    rw [sd_wsr_eq, sd_blk (g := gC) (a := aC) sd_lkSC (fun k hk => by rw [Nat.zero_add]; exact gC1 k (by have := sd_lenS.1; omega)), gC3]
  have kM : sd_ws sd_SM gM sd_x0 = sd_wsr 0 sd_SM (aM, G) sd_x0 := by
    rw [sd_wsr_eq, sd_blk (g := gM) (a := aM) sd_lkSM (fun k hk => by rw [Nat.zero_add]; exact gM1 k (by have := sd_lenS.2; omega)), gM3]
  have hF : sd_LF p s m meth c b L xs gC gM (0 + 1 + 120 + 1 + 15) (0 + 6 + 2900 + 24 + 3405) := by
    refine ⟨hx, hb, hr, hml, hown, htb, hX, hbl, hlocks, hL, ⟨Nat.le_of_ble_eq_true rfl, Nat.le_of_ble_eq_true rfl⟩, ⟨?_, ?_⟩, ?_, ⟨?_, ?_⟩, ⟨?_, ?_⟩, ⟨hro gC gC2, hro gM gM2⟩⟩
    · intro i j hi hj e
      rw [gC1 i (by have := sd_lenS.1; omega), gC1 j (by have := sd_lenS.1; omega)] at e
      exact c1 i j hi hj e
    · intro i j hi hj e
      rw [gM1 i (by have := sd_lenS.2; omega), gM1 j (by have := sd_lenS.2; omega)] at e
      exact m1 i j hi hj e
    · intro i j hi hj e
      rw [gC1 i (by have := sd_lenS.1; omega), gM1 j (by have := sd_lenS.2; omega)] at e
      exact hnd.2.2 _ (c3 i hi) _ (m3 j hj) e
    · intro i hi
      rw [gC1 i (by have := sd_lenS.1; omega)]
      exact c2 i hi
    · intro i hi
      rw [gM1 i (by have := sd_lenS.2; omega)]
      exact m2 i hi
    · rw [hgC]; exact hKG _
    · rw [hgM]; exact hKG _
  refine lw_loop hF (L + 1) 0 0 sd_x0 sd_x0 sd_x0 (Nat.zero_le _) (by omega) (Nat.le_refl _) ⟨sd_x0n, fun _ _ => rfl, fun _ _ => rfl⟩ H2 locs2 ls3 ?_ ?_ sd_x0R sd_x0R hS2 ⟨⟨hl3.1, hl3.2.1, ?_⟩, rfl, ?_⟩ (fun v hv => by cases hv)
  · rw [kC, gC3]; exact sd_yPp hPC pC
  · rw [kM, gM3]; exact sd_yPp hPM pM
  · rintro ⟨i, w⟩ hq
    obtain ⟨v, hv, rfl⟩ := sd_lvmem.mp hq
    match i, hv with
    | 0, hv =>
      have e0 : v = .inr 0 := (Option.some.inj (Option.some.inj hv)).symm
      subst e0
      exact lv_at hl3 3 rfl
    | 1, hv =>
      have e0 : v = .inr 1 := (Option.some.inj (Option.some.inj hv)).symm
      subst e0
      have := lv_at hl3 2 (i := 1) (v := .ref (aC 120)) rfl
      rw [← gC1 120 (by decide)] at this
      exact this
    | 2, hv =>
      have e0 : v = .inr 2 := (Option.some.inj (Option.some.inj hv)).symm
      subst e0
      have := lv_at hl3 1 (i := 2) (v := .ref (aM 15)) rfl
      rw [← gM1 15 (by decide)] at this
      exact this
    | 3, hv =>
      have e0 : v = .inl ((0 : Nat) : Int) := (Option.some.inj (Option.some.inj hv)).symm
      subst e0
      exact lv_at hl3 0 rfl
    | i + 4, hv => simp at hv
  · intro v hv
    simp only [List.mem_cons, Option.some.injEq, List.not_mem_nil, or_false] at hv
    rcases hv with rfl | rfl | rfl | rfl
    · trivial
    · trivial
    · trivial
    · exact ⟨by decide, by decide⟩
