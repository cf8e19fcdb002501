theorem sd_mmin_w : Cond.code Lib.Math.min.name Lib.Math.min.code 2 (some .int) ∈ sd_tb := sd_in3_ (i := 33) rfl rfl
theorem sd_mmin_s : Cond.static Lib.Math.min.name ∈ sd_tb := sd_in3_ (i := 32) rfl rfl
theorem sd_mmax_w : Cond.code Lib.Math.max.name Lib.Math.max.code 2 (some .int) ∈ sd_tb := sd_in3_ (i := 81) rfl rfl
theorem sd_mmax_s : Cond.static Lib.Math.max.name ∈ sd_tb := sd_in3_ (i := 80) rfl rfl
theorem sd_m_i : Cond.initialized "java/lang/Math" ∈ sd_tb := sd_in1_ (i := 13) rfl rfl
section MaxMin
variable {S : List sd_C} {n : Nat} {Y : sd_Y} {pc pc' : Nat} {ls : List (Option sd_V)} {st : List sd_V} {m : sd_M} {Q : Option sd_V → sd_M → Prop}
theorem sd_mmin {idx : Nat} {x y : Int} (hd : sd_dc Y pc (.invokestatic idx) 3 pc') (hw : sd_ms Y.1.cls idx sYJ9_min_7cf53 2) (hn : 1 ≤ n) (hst : st.length ≤ 8) (kk : sd_Wp S n Y pc' ls (.inl (min x y) :: st) m Q) : sd_Wp S n Y pc ls (.inl y :: .inl x :: st) m Q := by
  intro d g p l e s mi args below meth c H locs lc h1 F h2 h3 h4 h5 h6
  obtain ⟨hx, hb, hml, hown, hts, hr, hlk, hi, hK, hRO⟩ := id F
  obtain ⟨hdg, rfl⟩ := hd
  have hxr : sd_R x := sd_hd (sd_tl h6)
  have hyr : sd_R y := sd_hd h6
  have hcv := sd_lt hyr hxr
  have ee : (if Int32.ofInt y < Int32.ofInt x then Int32.ofInt y else Int32.ofInt x) = Int32.ofInt (min x y) := by
    by_cases hc : Int32.ofInt y < Int32.ofInt x
    · rw [if_pos hc]; have := hcv.mp hc; congr 1; omega
    · rw [if_neg hc]; have := Int.not_lt.mp (fun z => hc (hcv.mpr z)); congr 1; omega
  refine va_mmin hx hb (hml.trans h5.1.1.symm) hown (hts _ hw.1) (hts _ sd_mmin_s) (hts _ sd_m_i) (hts _ sd_mmin_w) (show 1 ≤ d by omega) ?_ (Nat.zero_le _) (Nat.zero_le _) hdg ?_
  · have : ((st.map (sd_cv g)).map fun v => v.category).sum ≤ 8 := by rw [sd_catsum]; exact hst
    show ((st.map (sd_cv g)).map fun v => v.category).sum + 13 ≤ 64 * d
    omega
  · rw [ee]
    exact kk d g p l e s mi args below meth c H locs lc h1 F h2 h3 h4 h5 (sd_cons (v := .inl (min x y)) (by have a1 := hxr.1; have a2 := hxr.2; have a3 := hyr.1; have a4 := hyr.2; constructor <;> omega) (sd_tl (sd_tl h6)))
theorem sd_mmax {idx : Nat} {x y : Int} (hd : sd_dc Y pc (.invokestatic idx) 3 pc') (hw : sd_ms Y.1.cls idx sYJ9_max_7cf53 2) (hn : 1 ≤ n) (hst : st.length ≤ 8) (kk : sd_Wp S n Y pc' ls (.inl (max x y) :: st) m Q) : sd_Wp S n Y pc ls (.inl y :: .inl x :: st) m Q := by
  intro d g p l e s mi args below meth c H locs lc h1 F h2 h3 h4 h5 h6
  obtain ⟨hx, hb, hml, hown, hts, hr, hlk, hi, hK, hRO⟩ := id F
  obtain ⟨hdg, rfl⟩ := hd
  have hxr : sd_R x := sd_hd (sd_tl h6)
  have hyr : sd_R y := sd_hd h6
  have hcv := sd_lt hxr hyr
  have ee : (if Int32.ofInt x < Int32.ofInt y then Int32.ofInt y else Int32.ofInt x) = Int32.ofInt (max x y) := by
    by_cases hc : Int32.ofInt x < Int32.ofInt y
    · rw [if_pos hc]; have := hcv.mp hc; congr 1; omega
    · rw [if_neg hc]; have := Int.not_lt.mp (fun z => hc (hcv.mpr z)); congr 1; omega
  refine va_mmax hx hb (hml.trans h5.1.1.symm) hown (hts _ hw.1) (hts _ sd_mmax_s) (hts _ sd_m_i) (hts _ sd_mmax_w) (show 1 ≤ d by omega) ?_ (Nat.zero_le _) (Nat.zero_le _) hdg ?_
  · have : ((st.map (sd_cv g)).map fun v => v.category).sum ≤ 8 := by rw [sd_catsum]; exact hst
    show ((st.map (sd_cv g)).map fun v => v.category).sum + 13 ≤ 64 * d
    omega
  · rw [ee]
    exact kk d g p l e s mi args below meth c H locs lc h1 F h2 h3 h4 h5 (sd_cons (v := .inl (max x y)) (by have a1 := hxr.1; have a2 := hxr.2; have a3 := hyr.1; have a4 := hyr.2; constructor <;> omega) (sd_tl (sd_tl h6)))
end MaxMin
