/-! String constants. -/
theorem sd_vkS {S : List sd_C} {g : sd_G} {Y : sd_Y} {p : Program} {s : State} {mi : MethodId} {args : Array Value} {meth : Method} {c : Code} (F : sd_F S g Y p s mi args meth c) : vk_S 15 sd_len sd_byt (fun i => g.1 (910 + i)) (fun i => g.1 (930 + i)) (sd_A S g) s s.heap := F.2.2.2.2.2.2.2.2.2.2.2.2.2.2.1
def sd_wch (i k : Nat) : Int := ((sd_byt.getD i []).getD k 0).toInt
section Str
variable {S : List sd_C} {n : Nat} {Y : sd_Y} {pc pc' : Nat} {ls : List (Option sd_V)} {st : List sd_V} {m : sd_M} {Q : Option sd_V → sd_M → Prop}
theorem sd_nreturn {x : Int} {ty : FieldType} (hd : sd_dc Y pc .ireturn 1 pc') (hR : Y.2.2.2 = some ty) (hn : narrow ty (.int (Int32.ofInt x)) = .int (Int32.ofInt x)) (hQ : (∀ j, sd_R (m j)) → Q (some (.inl x)) m) : sd_Wp S n Y pc ls [.inl x] m Q := by
  intro d g p l e s mi args below meth c H locs lc h1 F h2 h3 h4 h5 h6
  obtain ⟨hx, hb, hml, hown, hts, hr, hlk, hi, hK, hRO⟩ := id F
  obtain ⟨hdg, rfl⟩ := hd
  exact W.zret hx hb (hr.trans hR) hn (fun t ht _ => ⟨⟨some (.inl x), m, rfl, hQ h3, fun v e => by cases e; exact sd_hd h6, h3, by rw [ht]; exact h2⟩, h4.F ht⟩) h4.2.2 hdg hlk
theorem sd_ldcS {i idx : Nat} {tx : String} (hd : sd_dc Y pc (.ldc idx) 2 pc') (hi : sd_sx[i]? = some (idx, tx)) (hY : Y.1.cls = "SitDown$Tape") (kk : sd_Wp S n Y pc' ls (.inr (910 + i) :: st) m Q) : sd_Wp S n Y pc ls st m Q := by
  intro d g p l e s mi args below meth c H locs lc h1 F h2 h3 h4 h5 h6
  obtain ⟨hx, hb, hml, hown, hts, hr, hlk, hin, hK, hRO⟩ := id F
  obtain ⟨hdg, rfl⟩ := hd
  rw [hY] at hown
  exact va_ldcS hx hb hown (hRO.2.2.2.2.2.2 i (idx, tx) hi) hdg (kk d g p l e s mi args below meth c H locs lc h1 F h2 h3 h4 h5 (sd_cons (v := .inr (910 + i)) trivial h6))
theorem sd_svalue {i idx : Nat} (hi : i < 15) (hd : sd_dc Y pc (.getfield idx) 3 pc') (hw : Cond.fieldLink Y.1.cls idx "java/lang/String" "value" "[B" ∈ sd_tb) (kk : sd_Wp S n Y pc' ls (.inr (930 + i) :: st) m Q) : sd_Wp S n Y pc ls (.inr (910 + i) :: st) m Q := by
  intro d g p l e s mi args below meth c H locs lc h1 F h2 h3 h4 h5 h6
  obtain ⟨hx, hb, hml, hown, hts, hr, hlk, hin, hK, hRO⟩ := id F
  obtain ⟨hdg, rfl⟩ := hd
  exact vk_getf hx hb ((sd_vkS F).1 i hi).2.2.1 h4 hown (hts _ hw) (fun _ h => h) hdg (kk d g p l e s mi args below meth c H locs lc h1 F h2 h3 h4 h5 (sd_cons (v := .inr (930 + i)) trivial (sd_tl h6)))
theorem sd_scoder {i idx : Nat} (hi : i < 15) (hd : sd_dc Y pc (.getfield idx) 3 pc') (hw : Cond.fieldLink Y.1.cls idx "java/lang/String" "coder" "B" ∈ sd_tb) (kk : sd_Wp S n Y pc' ls (.inl 0 :: st) m Q) : sd_Wp S n Y pc ls (.inr (910 + i) :: st) m Q := by
  intro d g p l e s mi args below meth c H locs lc h1 F h2 h3 h4 h5 h6
  obtain ⟨hx, hb, hml, hown, hts, hr, hlk, hin, hK, hRO⟩ := id F
  obtain ⟨hdg, rfl⟩ := hd
  exact vk_getf hx hb ((sd_vkS F).1 i hi).2.1 h4 hown (hts _ hw) (fun _ h => h) hdg (kk d g p l e s mi args below meth c H locs lc h1 F h2 h3 h4 h5 (sd_cons (v := .inl 0) sd_r0 (sd_tl h6)))
theorem sd_scs {idx : Nat} (hd : sd_dc Y pc (.getstatic idx) 3 pc') (hw : Cond.fieldLink Y.1.cls idx "java/lang/String" "COMPACT_STRINGS" "Z" ∈ sd_tb) (kk : sd_Wp S n Y pc' ls (.inl 1 :: st) m Q) : sd_Wp S n Y pc ls st m Q := by
  intro d g p l e s mi args below meth c H locs lc h1 F h2 h3 h4 h5 h6
  obtain ⟨hx, hb, hml, hown, hts, hr, hlk, hin, hK, hRO⟩ := id F
  obtain ⟨hdg, rfl⟩ := hd
  exact va_gets hx hb hRO.2.2.2.1 h4 hown (hts _ hw) (fun _ h => h) hdg (kk d g p l e s mi args below meth c H locs lc h1 F h2 h3 h4 h5 (sd_cons (v := .inl 1) ⟨by omega, by omega⟩ h6))
theorem sd_slen {i : Nat} (hi : i < 15) (hd : sd_dc Y pc .arraylength 1 pc') (kk : sd_Wp S n Y pc' ls (.inl ((sd_len.getD i 0 : Nat) : Int) :: st) m Q) : sd_Wp S n Y pc ls (.inr (930 + i) :: st) m Q := by
  intro d g p l e s mi args below meth c H locs lc h1 F h2 h3 h4 h5 h6
  obtain ⟨hx, hb, hml, hown, hts, hr, hlk, hin, hK, hRO⟩ := id F
  obtain ⟨hdg, rfl⟩ := hd
  have hlr : ∀ i : Fin 15, sd_R ((sd_len.getD i.val 0 : Nat) : Int) := by decide
  exact va_tlen hx hb ((sd_vkS F).1 i hi).2.2.2 h4 (v := Int32.ofInt ((sd_len.getD i 0 : Nat) : Int)) (by rw [Int32.ofInt_eq_ofNat]) hdg (kk d g p l e s mi args below meth c H locs lc h1 F h2 h3 h4 h5 (sd_cons (v := .inl _) (hlr ⟨i, hi⟩) (sd_tl h6)))
theorem sd_sbyte {i : Nat} {k : Int} (hi : i < 15) (hd : sd_dc Y pc .baload 1 pc') (hk : 0 ≤ k ∧ k < ((sd_len.getD i 0 : Nat) : Int)) (kk : sd_Wp S n Y pc' ls (.inl (sd_wch i k.toNat) :: st) m Q) : sd_Wp S n Y pc ls (.inl k :: .inr (930 + i) :: st) m Q := by
  intro d g p l e s mi args below meth c H locs lc h1 F h2 h3 h4 h5 h6
  obtain ⟨hx, hb, hml, hown, hts, hr, hlk, hin, hK, hRO⟩ := id F
  obtain ⟨hdg, rfl⟩ := hd
  have hxr : sd_R k := sd_hd h6
  exact va_tb hx hb ((sd_vkS F).1 i hi).2.2.2 h4 (sd_vpin hxr hk.1 (by omega)) (v := .int (Int32.ofInt (sd_wch i k.toNat))) (by rw [sd_clamp hxr]; unfold sd_wch; rw [Int32.ofInt_toInt]) hdg (kk d g p l e s mi args below meth c H locs lc h1 F h2 h3 h4 h5 (sd_cons (v := .inl _) (sd_rt _) (sd_tl (sd_tl h6))))
theorem sd_callVs {idx na i nc : Nat} {Yc : sd_Y} {as stk : List sd_V} {Q' : Option sd_V → sd_M → Prop} (hd : sd_dc Y pc (.invokevirtual idx) 3 pc') (hm : sd_mv Y.1.cls idx Yc na) (hstk : stk = as.reverse ++ .inr (910 + i) :: st) (hn : as.length = na) (hi : i < 15) (hc : Yc.1.cls = "java/lang/String") (hdep : nc + 1 ≤ n) (hst : st.length ≤ 8)
    (hC : sd_Ct S nc Yc (.inr (910 + i) :: as) m Q') (kk : ∀ (r : Option sd_V) (m' : sd_M), Q' r m' → (∀ v, r = some v → sd_ok v) → (∀ j, sd_R (m' j)) → sd_Wp S n Y pc' ls (r.toList ++ st) m' Q) : sd_Wp S n Y pc ls stk m Q := by
  intro d g p l e s mi args below meth c H locs lc h1 F h2 h3 h4 h5 h6
  obtain ⟨hx, hb, hml, hown, hts, hr, hlk, hin, hK, hRO⟩ := id F
  obtain ⟨hdg, rfl⟩ := hd
  obtain ⟨m1, m2, m3, m4, m5, ⟨m6, m7, m8⟩, m9⟩ := hm
  subst hstk
  have hok1 : ∀ a ∈ (Sum.inr (910 + i) : sd_V) :: as, sd_ok a := by
    intro a ha
    rcases List.mem_cons.mp ha with rfl | ha
    · trivial
    · exact h6 a (List.mem_append_left _ (List.mem_reverse.mpr ha))
  have hok2 : ∀ a ∈ st, sd_ok a := fun a ha => h6 a (List.mem_append_right _ (List.mem_cons_of_mem _ ha))
  obtain ⟨d, rfl⟩ : ∃ d', d = d' + 1 := ⟨d - 1, by omega⟩
  have cw : CallW (sd_rm (d + 1)) s args Y.1.cls Yc.1.cls idx Yc.1 Yc.2.1 Yc.2.2.1 Yc.2.2.2 (sd_wy Yc) (sd_rm d) 0 0 na := by
    refine ⟨callB_of na hts (sd_goodIn m5) rfl rfl rfl (hts _ m4) (hts _ m1) ⟨m6, m7, m8⟩ ⟨Nat.le_refl _, ?_⟩, hts _ m2, hts _ m3⟩
    show 8 + (Yc.2.2.1 + 11) + 64 * d ≤ 64 * (d + 1)
    omega
  have hrecv : ∃ cell : Cell, H[g.1 (910 + i)]? = some cell ∧ cell.vm.isStatics = false ∧ s.vm.findClass Yc.1.cls = some cell.cls := by
    rw [hc]
    exact vk_recv (i := i) (sd_vkS F) hi h4
  refine sd_cont (va_runV (As := as.map (sd_cv g)) (rest := st.map (sd_cv g)) ⟨hx, hb, hml, hown, hts⟩ (hC d (by omega) l g) cw ⟨sd_blind, hrecv, ?_⟩ rfl (by rw [List.length_map]; exact hn) h5.1.1 (by simp [List.map_append, List.map_reverse, sd_cv]) (lv_room (by rw [sd_catsum]; exact hst)) hdg ⟨Nat.zero_le _, Nat.zero_le _⟩) h4 (fun r m' H1 locs1 q1 q2 q3 q4 q5 => ?_)
  · exact sd_pre F h2 h3 h4 hok1
  · have k2 := kk r m' q1 q2 q3 (d + 1) g p l e s mi args below meth c H1 locs1 lc h1 F q4 q3 q5 h5 (sd_resok q2 hok2)
    have e2 : (r.toList ++ st).map (sd_cv g) = (r.map (sd_cv g)).toList ++ st.map (sd_cv g) := by cases r <;> rfl
    rw [e2] at k2
    exact k2
theorem sd_callVsp {idx na i nc : Nat} {Yc : sd_Y} {as stk : List sd_V} {v : sd_V} (hd : sd_dc Y pc (.invokevirtual idx) 3 pc') (hm : sd_mv Y.1.cls idx Yc na) (hi : i < 15) (hc : Yc.1.cls = "java/lang/String") (hstk : stk = as.reverse ++ .inr (910 + i) :: st) (hn : as.length = na) (hdep : nc + 1 ≤ n) (hst : st.length ≤ 8)
    (hC : sd_Cp S nc Yc (.inr (910 + i) :: as) m v) (kk : sd_ok v → sd_Wp S n Y pc' ls (v :: st) m Q) : sd_Wp S n Y pc ls stk m Q :=
  sd_callVs hd hm hstk hn hi hc hdep hst hC (fun r m' h h2 _ => by obtain ⟨rfl, rfl⟩ := h; exact kk (h2 v rfl))
end Str
