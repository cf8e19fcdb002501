/-! One law an instruction, over the pure world. -/
def sd_dc (Y : sd_Y) (pc : Nat) (i : Instr) (len pc' : Nat) : Prop := decode Y.2.1 pc = .ok (i, len) ∧ pc + len = pc'
theorem sd_ti {x : Int} (h : sd_R x) : (Int32.ofInt x).toInt = x := Int32.toInt_ofInt_of_le (by have := h.1; omega) (by have := h.2; omega)
theorem sd_rt (c : Int32) : sd_R c.toInt := ⟨by have := c.le_toInt; omega, by have := c.toInt_lt; omega⟩
theorem sd_eq {x y : Int} (hx : sd_R x) (hy : sd_R y) : Int32.ofInt x = Int32.ofInt y ↔ x = y := by rw [← Int32.toInt_inj, sd_ti hx, sd_ti hy]
theorem sd_lt {x y : Int} (hx : sd_R x) (hy : sd_R y) : Int32.ofInt x < Int32.ofInt y ↔ x < y := by rw [Int32.lt_iff_toInt_lt, sd_ti hx, sd_ti hy]
theorem sd_le {x y : Int} (hx : sd_R x) (hy : sd_R y) : Int32.ofInt x ≤ Int32.ofInt y ↔ x ≤ y := by rw [Int32.le_iff_toInt_le, sd_ti hx, sd_ti hy]
theorem sd_r0 : sd_R 0 := ⟨by omega, by omega⟩
theorem sd_of0 : Int32.ofInt 0 = 0 := rfl
theorem sd_clamp {x : Int} (h : sd_R x) : (Int32.ofInt x).toNatClampNeg = x.toNat := Int32.toNatClampNeg_ofInt_of_le (by have := h.1; omega) (by have := h.2; omega)
theorem sd_vpin {x : Int} {nn : Nat} (h : sd_R x) (h0 : 0 ≤ x) (h1 : x < nn) : vp_in (Int32.ofInt x) nn := by
  intro h2
  rcases h2 with h2 | h2
  · rw [← sd_of0, sd_lt h sd_r0] at h2; omega
  · rw [sd_clamp h] at h2; omega
theorem sd_cons {st : List sd_V} {v : sd_V} (hv : sd_ok v) (h : ∀ v ∈ st, sd_ok v) : ∀ u ∈ v :: st, sd_ok u := by
  intro u hu
  rcases List.mem_cons.mp hu with rfl | hu
  · exact hv
  · exact h u hu
theorem sd_tl {st : List sd_V} {v : sd_V} (h : ∀ u ∈ v :: st, sd_ok u) : ∀ u ∈ st, sd_ok u := fun u hu => h u (List.mem_cons_of_mem _ hu)
theorem sd_hd {st : List sd_V} {v : sd_V} (h : ∀ u ∈ v :: st, sd_ok u) : sd_ok v := h v List.mem_cons_self
section Instrs
variable {S : List sd_C} {n : Nat} {Y : sd_Y} {pc pc' : Nat} {ls : List (Option sd_V)} {st : List sd_V} {m : sd_M} {Q : Option sd_V → sd_M → Prop}
theorem sd_mono {n' : Nat} (h : n' ≤ n) (k : sd_Wp S n' Y pc ls st m Q) : sd_Wp S n Y pc ls st m Q :=
  fun d g p l e s mi args below meth c H locs lc h1 => k d g p l e s mi args below meth c H locs lc (Nat.le_trans h h1)
theorem sd_iload_n {k : Fin 4} {x : Int} (hd : sd_dc Y pc (.iload_n k) 1 pc') (hl : ls[(k : Nat)]? = some (some (.inl x))) (kk : sd_Wp S n Y pc' ls (.inl x :: st) m Q) : sd_Wp S n Y pc ls st m Q := by
  intro d g p l e s mi args below meth c H locs lc h1 F h2 h3 h4 h5 h6
  obtain ⟨hx, hb, hml, hown, hts, hr, hlk, hi, hK, hRO⟩ := id F
  obtain ⟨hdg, rfl⟩ := hd
  exact lv_iload_n hx hb hdg rfl (sd_rd h5 hl) (kk d g p l e s mi args below meth c H locs lc h1 F h2 h3 h4 h5 (sd_cons (sd_rdok h5 hl) h6))
theorem sd_iload {i : Nat} {x : Int} (hd : sd_dc Y pc (.iload i) 2 pc') (hl : ls[i]? = some (some (.inl x))) (kk : sd_Wp S n Y pc' ls (.inl x :: st) m Q) : sd_Wp S n Y pc ls st m Q := by
  intro d g p l e s mi args below meth c H locs lc h1 F h2 h3 h4 h5 h6
  obtain ⟨hx, hb, hml, hown, hts, hr, hlk, hi, hK, hRO⟩ := id F
  obtain ⟨hdg, rfl⟩ := hd
  exact lv_iload hx hb hdg (sd_rd h5 hl) (kk d g p l e s mi args below meth c H locs lc h1 F h2 h3 h4 h5 (sd_cons (sd_rdok h5 hl) h6))
theorem sd_aload_n {k : Fin 4} {x : Nat} (hd : sd_dc Y pc (.aload_n k) 1 pc') (hl : ls[(k : Nat)]? = some (some (.inr x))) (kk : sd_Wp S n Y pc' ls (.inr x :: st) m Q) : sd_Wp S n Y pc ls st m Q := by
  intro d g p l e s mi args below meth c H locs lc h1 F h2 h3 h4 h5 h6
  obtain ⟨hx, hb, hml, hown, hts, hr, hlk, hi, hK, hRO⟩ := id F
  obtain ⟨hdg, rfl⟩ := hd
  exact lv_aload_n hx hb hdg rfl (sd_rd h5 hl) (kk d g p l e s mi args below meth c H locs lc h1 F h2 h3 h4 h5 (sd_cons (sd_rdok h5 hl) h6))
theorem sd_aload {i : Nat} {x : Nat} (hd : sd_dc Y pc (.aload i) 2 pc') (hl : ls[i]? = some (some (.inr x))) (kk : sd_Wp S n Y pc' ls (.inr x :: st) m Q) : sd_Wp S n Y pc ls st m Q := by
  intro d g p l e s mi args below meth c H locs lc h1 F h2 h3 h4 h5 h6
  obtain ⟨hx, hb, hml, hown, hts, hr, hlk, hi, hK, hRO⟩ := id F
  obtain ⟨hdg, rfl⟩ := hd
  exact lv_aload hx hb hdg (sd_rd h5 hl) (kk d g p l e s mi args below meth c H locs lc h1 F h2 h3 h4 h5 (sd_cons (sd_rdok h5 hl) h6))
theorem sd_istore_n {k : Fin 4} {x : Int} {ls' : List (Option sd_V)} (hd : sd_dc Y pc (.istore_n k) 1 pc') (hn : (k : Nat) < Y.2.2.1) (hl : ls.set (k : Nat) (some (.inl x)) = ls') (kk : sd_Wp S n Y pc' ls' st m Q) : sd_Wp S n Y pc ls (.inl x :: st) m Q := by
  intro d g p l e s mi args below meth c H locs lc h1 F h2 h3 h4 h5 h6
  obtain ⟨hx, hb, hml, hown, hts, hr, hlk, hi, hK, hRO⟩ := id F
  obtain ⟨hdg, rfl⟩ := hd
  subst hl
  exact lv_istore_n hx hb hdg rfl h5.1 hn rfl (fun lc' h' => kk d g p l e s mi args below meth c H locs lc' h1 F h2 h3 h4 (sd_st h5 (sd_hd h6) h') (sd_tl h6))
theorem sd_istore {i : Nat} {x : Int} {ls' : List (Option sd_V)} (hd : sd_dc Y pc (.istore i) 2 pc') (hn : i < Y.2.2.1) (hl : ls.set i (some (.inl x)) = ls') (kk : sd_Wp S n Y pc' ls' st m Q) : sd_Wp S n Y pc ls (.inl x :: st) m Q := by
  intro d g p l e s mi args below meth c H locs lc h1 F h2 h3 h4 h5 h6
  obtain ⟨hx, hb, hml, hown, hts, hr, hlk, hi, hK, hRO⟩ := id F
  obtain ⟨hdg, rfl⟩ := hd
  subst hl
  exact lv_istore hx hb hdg h5.1 hn rfl (fun lc' h' => kk d g p l e s mi args below meth c H locs lc' h1 F h2 h3 h4 (sd_st h5 (sd_hd h6) h') (sd_tl h6))
theorem sd_astore_n {k : Fin 4} {x : Nat} {ls' : List (Option sd_V)} (hd : sd_dc Y pc (.astore_n k) 1 pc') (hn : (k : Nat) < Y.2.2.1) (hl : ls.set (k : Nat) (some (.inr x)) = ls') (kk : sd_Wp S n Y pc' ls' st m Q) : sd_Wp S n Y pc ls (.inr x :: st) m Q := by
  intro d g p l e s mi args below meth c H locs lc h1 F h2 h3 h4 h5 h6
  obtain ⟨hx, hb, hml, hown, hts, hr, hlk, hi, hK, hRO⟩ := id F
  obtain ⟨hdg, rfl⟩ := hd
  subst hl
  exact lv_astore_n hx hb hdg rfl h5.1 hn rfl (fun lc' h' => kk d g p l e s mi args below meth c H locs lc' h1 F h2 h3 h4 (sd_st h5 (sd_hd h6) h') (sd_tl h6))
theorem sd_astore {i : Nat} {x : Nat} {ls' : List (Option sd_V)} (hd : sd_dc Y pc (.astore i) 2 pc') (hn : i < Y.2.2.1) (hl : ls.set i (some (.inr x)) = ls') (kk : sd_Wp S n Y pc' ls' st m Q) : sd_Wp S n Y pc ls (.inr x :: st) m Q := by
  intro d g p l e s mi args below meth c H locs lc h1 F h2 h3 h4 h5 h6
  obtain ⟨hx, hb, hml, hown, hts, hr, hlk, hi, hK, hRO⟩ := id F
  obtain ⟨hdg, rfl⟩ := hd
  subst hl
  exact lv_astore hx hb hdg h5.1 hn rfl (fun lc' h' => kk d g p l e s mi args below meth c H locs lc' h1 F h2 h3 h4 (sd_st h5 (sd_hd h6) h') (sd_tl h6))
theorem sd_iinc {i : Nat} {z x y : Int} {ls' : List (Option sd_V)} (hd : sd_dc Y pc (.iinc i z) 3 pc') (hl : ls[i]? = some (some (.inl x))) (hy : x + z = y) (hr0 : sd_R y) (hn : i < Y.2.2.1) (hs : ls.set i (some (.inl y)) = ls') (kk : sd_Wp S n Y pc' ls' st m Q) : sd_Wp S n Y pc ls st m Q := by
  intro d g p l e s mi args below meth c H locs lc h1 F h2 h3 h4 h5 h6
  obtain ⟨hx, hb, hml, hown, hts, hr, hlk, hi, hK, hRO⟩ := id F
  obtain ⟨hdg, rfl⟩ := hd
  subst hs
  subst hy
  obtain ⟨q, hq⟩ := List.getElem?_of_mem (sd_lvmem.mpr ⟨_, hl, rfl⟩ : (i, sd_cv g (.inl x)) ∈ sd_lv g ls)
  exact lv_iinc hx hb hdg h5.1 hq (by rw [Int32.ofInt_add]) hn rfl (fun lc' h' => kk d g p l e s mi args below meth c H locs lc' h1 F h2 h3 h4 (sd_st (v := .inl (x + z)) h5 hr0 h') h6)
theorem sd_iconst {z : Int} (hd : sd_dc Y pc (.iconst z) 1 pc') (hz : sd_R z) (kk : sd_Wp S n Y pc' ls (.inl z :: st) m Q) : sd_Wp S n Y pc ls st m Q := by
  intro d g p l e s mi args below meth c H locs lc h1 F h2 h3 h4 h5 h6
  obtain ⟨hx, hb, hml, hown, hts, hr, hlk, hi, hK, hRO⟩ := id F
  obtain ⟨hdg, rfl⟩ := hd
  exact lv_iconst hx hb hdg rfl (kk d g p l e s mi args below meth c H locs lc h1 F h2 h3 h4 h5 (sd_cons hz h6))
theorem sd_bipush {z : Int} (hd : sd_dc Y pc (.bipush z) 2 pc') (hv : (Int8.ofInt z).toInt32 = Int32.ofInt z) (hz : sd_R z) (kk : sd_Wp S n Y pc' ls (.inl z :: st) m Q) : sd_Wp S n Y pc ls st m Q := by
  intro d g p l e s mi args below meth c H locs lc h1 F h2 h3 h4 h5 h6
  obtain ⟨hx, hb, hml, hown, hts, hr, hlk, hi, hK, hRO⟩ := id F
  obtain ⟨hdg, rfl⟩ := hd
  exact lv_bipush hx hb hdg hv (kk d g p l e s mi args below meth c H locs lc h1 F h2 h3 h4 h5 (sd_cons hz h6))
theorem sd_sipush {z : Int} (hd : sd_dc Y pc (.sipush z) 3 pc') (hv : (Int16.ofInt z).toInt32 = Int32.ofInt z) (hz : sd_R z) (kk : sd_Wp S n Y pc' ls (.inl z :: st) m Q) : sd_Wp S n Y pc ls st m Q := by
  intro d g p l e s mi args below meth c H locs lc h1 F h2 h3 h4 h5 h6
  obtain ⟨hx, hb, hml, hown, hts, hr, hlk, hi, hK, hRO⟩ := id F
  obtain ⟨hdg, rfl⟩ := hd
  exact lv_sipush hx hb hdg hv (kk d g p l e s mi args below meth c H locs lc h1 F h2 h3 h4 h5 (sd_cons hz h6))
theorem sd_ldc {z : Int} {idx : Nat} (hd : sd_dc Y pc (.ldc idx) 2 pc') (hw : Cond.constant Y.1.cls idx (Int32.ofInt z) ∈ sd_tb) (hz : sd_R z) (kk : sd_Wp S n Y pc' ls (.inl z :: st) m Q) : sd_Wp S n Y pc ls st m Q := by
  intro d g p l e s mi args below meth c H locs lc h1 F h2 h3 h4 h5 h6
  obtain ⟨hx, hb, hml, hown, hts, hr, hlk, hi, hK, hRO⟩ := id F
  obtain ⟨hdg, rfl⟩ := hd
  exact lv_ldc hx hb hown (hts _ hw) hdg (kk d g p l e s mi args below meth c H locs lc h1 F h2 h3 h4 h5 (sd_cons hz h6))
theorem sd_ldcw {z : Int} {idx : Nat} (hd : sd_dc Y pc (.ldc_w idx) 3 pc') (hw : Cond.constant Y.1.cls idx (Int32.ofInt z) ∈ sd_tb) (hz : sd_R z) (kk : sd_Wp S n Y pc' ls (.inl z :: st) m Q) : sd_Wp S n Y pc ls st m Q := by
  intro d g p l e s mi args below meth c H locs lc h1 F h2 h3 h4 h5 h6
  obtain ⟨hx, hb, hml, hown, hts, hr, hlk, hi, hK, hRO⟩ := id F
  obtain ⟨hdg, rfl⟩ := hd
  exact lv_ldcw hx hb hown (hts _ hw) hdg (kk d g p l e s mi args below meth c H locs lc h1 F h2 h3 h4 h5 (sd_cons hz h6))
theorem sd_dup {v : sd_V} (hd : sd_dc Y pc .dup 1 pc') (kk : sd_Wp S n Y pc' ls (v :: v :: st) m Q) : sd_Wp S n Y pc ls (v :: st) m Q := by
  intro d g p l e s mi args below meth c H locs lc h1 F h2 h3 h4 h5 h6
  obtain ⟨hx, hb, hml, hown, hts, hr, hlk, hi, hK, hRO⟩ := id F
  obtain ⟨hdg, rfl⟩ := hd
  exact lv_dup hx hb hdg (sd_cat g v) (kk d g p l e s mi args below meth c H locs lc h1 F h2 h3 h4 h5 (sd_cons (sd_hd h6) h6))
theorem sd_dup2 {v u : sd_V} (hd : sd_dc Y pc .dup2 1 pc') (kk : sd_Wp S n Y pc' ls (v :: u :: v :: u :: st) m Q) : sd_Wp S n Y pc ls (v :: u :: st) m Q := by
  intro d g p l e s mi args below meth c H locs lc h1 F h2 h3 h4 h5 h6
  obtain ⟨hx, hb, hml, hown, hts, hr, hlk, hi, hK, hRO⟩ := id F
  obtain ⟨hdg, rfl⟩ := hd
  exact lv_dup2_11 hx hb hdg (sd_cat g v) (sd_cat g u) (kk d g p l e s mi args below meth c H locs lc h1 F h2 h3 h4 h5 (sd_cons (sd_hd h6) (sd_cons (sd_hd (sd_tl h6)) h6)))
theorem sd_pop {v : sd_V} (hd : sd_dc Y pc .pop 1 pc') (kk : sd_Wp S n Y pc' ls st m Q) : sd_Wp S n Y pc ls (v :: st) m Q := by
  intro d g p l e s mi args below meth c H locs lc h1 F h2 h3 h4 h5 h6
  obtain ⟨hx, hb, hml, hown, hts, hr, hlk, hi, hK, hRO⟩ := id F
  obtain ⟨hdg, rfl⟩ := hd
  exact lv_pop hx hb hdg (sd_cat g v) (kk d g p l e s mi args below meth c H locs lc h1 F h2 h3 h4 h5 (sd_tl h6))
theorem sd_iadd {x y z : Int} (hd : sd_dc Y pc .iadd 1 pc') (hz : x + y = z) (hr0 : sd_R z) (kk : sd_Wp S n Y pc' ls (.inl z :: st) m Q) : sd_Wp S n Y pc ls (.inl y :: .inl x :: st) m Q := by
  intro d g p l e s mi args below meth c H locs lc h1 F h2 h3 h4 h5 h6
  obtain ⟨hx, hb, hml, hown, hts, hr, hlk, hi, hK, hRO⟩ := id F
  obtain ⟨hdg, rfl⟩ := hd
  subst hz
  refine lv_iadd hx hb hdg ?_
  have k2 := kk d g p l e s mi args below meth c H locs lc h1 F h2 h3 h4 h5 (sd_cons (v := .inl (x + y)) hr0 (sd_tl (sd_tl h6)))
  simp only [List.map_cons, sd_cv, Int32.ofInt_add] at k2
  exact k2
theorem sd_isub {x y z : Int} (hd : sd_dc Y pc .isub 1 pc') (hz : x - y = z) (hr0 : sd_R z) (kk : sd_Wp S n Y pc' ls (.inl z :: st) m Q) : sd_Wp S n Y pc ls (.inl y :: .inl x :: st) m Q := by
  intro d g p l e s mi args below meth c H locs lc h1 F h2 h3 h4 h5 h6
  obtain ⟨hx, hb, hml, hown, hts, hr, hlk, hi, hK, hRO⟩ := id F
  obtain ⟨hdg, rfl⟩ := hd
  subst hz
  refine lv_isub hx hb hdg ?_
  have k2 := kk d g p l e s mi args below meth c H locs lc h1 F h2 h3 h4 h5 (sd_cons (v := .inl (x - y)) hr0 (sd_tl (sd_tl h6)))
  simp only [List.map_cons, sd_cv, Int32.ofInt_sub] at k2
  exact k2
theorem sd_imul {x y z : Int} (hd : sd_dc Y pc .imul 1 pc') (hz : x * y = z) (hr0 : sd_R z) (kk : sd_Wp S n Y pc' ls (.inl z :: st) m Q) : sd_Wp S n Y pc ls (.inl y :: .inl x :: st) m Q := by
  intro d g p l e s mi args below meth c H locs lc h1 F h2 h3 h4 h5 h6
  obtain ⟨hx, hb, hml, hown, hts, hr, hlk, hi, hK, hRO⟩ := id F
  obtain ⟨hdg, rfl⟩ := hd
  subst hz
  refine lv_imul hx hb hdg ?_
  have k2 := kk d g p l e s mi args below meth c H locs lc h1 F h2 h3 h4 h5 (sd_cons (v := .inl (x * y)) hr0 (sd_tl (sd_tl h6)))
  simp only [List.map_cons, sd_cv, Int32.ofInt_mul] at k2
  exact k2
theorem sd_idiv_e {x y : Int} (hx : sd_R x) (hy : sd_R y) : Int32.ofInt (x.tdiv y) = Int32.ofInt x / Int32.ofInt y := by
  apply Int32.ofInt_tdiv
  · exact hx.1
  · exact hx.2
  · exact hy.1
  · exact hy.2
theorem sd_irem_e {x y : Int} (hx : sd_R x) (hy : sd_R y) : Int32.ofInt (x.tmod y) = Int32.ofInt x % Int32.ofInt y := by
  apply Int32.ofInt_tmod
  · exact hx.1
  · exact hx.2
  · exact hy.1
  · exact hy.2
theorem sd_rem_e (x y : Int32) : x % y = x - x / y * y := by
  rw [← Int32.toInt_inj]
  simp only [Int32.toInt_sub, Int32.toInt_mul, Int32.toInt_div, Int32.toInt_mod]
  rw [Int.tmod_def]
  have hh : (x.toInt - y.toInt * x.toInt.tdiv y.toInt) = x.toInt - (x.toInt.tdiv y.toInt) * y.toInt := by rw [Int.mul_comm y.toInt]
  rw [hh]
  have hm : (x.toInt - (x.toInt.tdiv y.toInt) * y.toInt) = x.toInt.tmod y.toInt := by rw [Int.tmod_def, Int.mul_comm y.toInt]
  have hb : (x.toInt.tmod y.toInt).bmod (2 ^ 32) = x.toInt.tmod y.toInt := by
    have := Int32.toInt_mod x y
    rw [← this]
    exact Int32.toInt_bmod_size _
  rw [hm, ← hb, ← hm]
  simp
theorem sd_idiv {x y z : Int} (hd : sd_dc Y pc .idiv 1 pc') (h0 : y ≠ 0) (hz : x.tdiv y = z) (hr0 : sd_R z) (kk : sd_Wp S n Y pc' ls (.inl z :: st) m Q) : sd_Wp S n Y pc ls (.inl y :: .inl x :: st) m Q := by
  intro d g p l e s mi args below meth c H locs lc h1 F h2 h3 h4 h5 h6
  obtain ⟨hx, hb, hml, hown, hts, hr, hlk, hi, hK, hRO⟩ := id F
  obtain ⟨hdg, rfl⟩ := hd
  subst hz
  have hxr : sd_R x := sd_hd (sd_tl h6)
  have hyr : sd_R y := sd_hd h6
  refine lv_idiv hx hb hdg (fun q => h0 ((sd_eq hyr sd_r0).mp q)) ?_
  have k2 := kk d g p l e s mi args below meth c H locs lc h1 F h2 h3 h4 h5 (sd_cons (v := .inl (x.tdiv y)) hr0 (sd_tl (sd_tl h6)))
  simp only [List.map_cons, sd_cv, sd_idiv_e hxr hyr] at k2
  exact k2
theorem sd_irem {x y z : Int} (hd : sd_dc Y pc .irem 1 pc') (h0 : y ≠ 0) (hz : x.tmod y = z) (hr0 : sd_R z) (kk : sd_Wp S n Y pc' ls (.inl z :: st) m Q) : sd_Wp S n Y pc ls (.inl y :: .inl x :: st) m Q := by
  intro d g p l e s mi args below meth c H locs lc h1 F h2 h3 h4 h5 h6
  obtain ⟨hx, hb, hml, hown, hts, hr, hlk, hi, hK, hRO⟩ := id F
  obtain ⟨hdg, rfl⟩ := hd
  subst hz
  have hxr : sd_R x := sd_hd (sd_tl h6)
  have hyr : sd_R y := sd_hd h6
  refine lv_irem hx hb hdg (fun q => h0 ((sd_eq hyr sd_r0).mp q)) ?_
  have k2 := kk d g p l e s mi args below meth c H locs lc h1 F h2 h3 h4 h5 (sd_cons (v := .inl (x.tmod y)) hr0 (sd_tl (sd_tl h6)))
  simp only [List.map_cons, sd_cv, sd_irem_e hxr hyr, sd_rem_e] at k2
  exact k2
def sd_shl (x y : Int) : Int := ((Int32.ofInt x <<< (Int32.ofInt y &&& 31))).toInt
theorem sd_ishl {x y : Int} (hd : sd_dc Y pc .ishl 1 pc') (kk : sd_Wp S n Y pc' ls (.inl (sd_shl x y) :: st) m Q) : sd_Wp S n Y pc ls (.inl y :: .inl x :: st) m Q := by
  intro d g p l e s mi args below meth c H locs lc h1 F h2 h3 h4 h5 h6
  obtain ⟨hx, hb, hml, hown, hts, hr, hlk, hi, hK, hRO⟩ := id F
  obtain ⟨hdg, rfl⟩ := hd
  refine lv_ishl hx hb hdg ?_
  have k2 := kk d g p l e s mi args below meth c H locs lc h1 F h2 h3 h4 h5 (sd_cons (v := .inl (sd_shl x y)) (sd_rt _) (sd_tl (sd_tl h6)))
  simp only [List.map_cons, sd_cv, sd_shl, Int32.ofInt_toInt] at k2
  exact k2
def sd_shr (x y : Int) : Int := ((Int32.ofInt x >>> (Int32.ofInt y &&& 31))).toInt
theorem sd_ishr {x y : Int} (hd : sd_dc Y pc .ishr 1 pc') (kk : sd_Wp S n Y pc' ls (.inl (sd_shr x y) :: st) m Q) : sd_Wp S n Y pc ls (.inl y :: .inl x :: st) m Q := by
  intro d g p l e s mi args below meth c H locs lc h1 F h2 h3 h4 h5 h6
  obtain ⟨hx, hb, hml, hown, hts, hr, hlk, hi, hK, hRO⟩ := id F
  obtain ⟨hdg, rfl⟩ := hd
  refine lv_ishr hx hb hdg ?_
  have k2 := kk d g p l e s mi args below meth c H locs lc h1 F h2 h3 h4 h5 (sd_cons (v := .inl (sd_shr x y)) (sd_rt _) (sd_tl (sd_tl h6)))
  simp only [List.map_cons, sd_cv, sd_shr, Int32.ofInt_toInt] at k2
  exact k2
def sd_and (x y : Int) : Int := ((Int32.ofInt x &&& Int32.ofInt y)).toInt
theorem sd_iand {x y : Int} (hd : sd_dc Y pc .iand 1 pc') (kk : sd_Wp S n Y pc' ls (.inl (sd_and x y) :: st) m Q) : sd_Wp S n Y pc ls (.inl y :: .inl x :: st) m Q := by
  intro d g p l e s mi args below meth c H locs lc h1 F h2 h3 h4 h5 h6
  obtain ⟨hx, hb, hml, hown, hts, hr, hlk, hi, hK, hRO⟩ := id F
  obtain ⟨hdg, rfl⟩ := hd
  refine lv_iand hx hb hdg ?_
  have k2 := kk d g p l e s mi args below meth c H locs lc h1 F h2 h3 h4 h5 (sd_cons (v := .inl (sd_and x y)) (sd_rt _) (sd_tl (sd_tl h6)))
  simp only [List.map_cons, sd_cv, sd_and, Int32.ofInt_toInt] at k2
  exact k2
def sd_or (x y : Int) : Int := ((Int32.ofInt x ||| Int32.ofInt y)).toInt
theorem sd_ior {x y : Int} (hd : sd_dc Y pc .ior 1 pc') (kk : sd_Wp S n Y pc' ls (.inl (sd_or x y) :: st) m Q) : sd_Wp S n Y pc ls (.inl y :: .inl x :: st) m Q := by
  intro d g p l e s mi args below meth c H locs lc h1 F h2 h3 h4 h5 h6
  obtain ⟨hx, hb, hml, hown, hts, hr, hlk, hi, hK, hRO⟩ := id F
  obtain ⟨hdg, rfl⟩ := hd
  refine lv_ior hx hb hdg ?_
  have k2 := kk d g p l e s mi args below meth c H locs lc h1 F h2 h3 h4 h5 (sd_cons (v := .inl (sd_or x y)) (sd_rt _) (sd_tl (sd_tl h6)))
  simp only [List.map_cons, sd_cv, sd_or, Int32.ofInt_toInt] at k2
  exact k2
def sd_xor (x y : Int) : Int := ((Int32.ofInt x ^^^ Int32.ofInt y)).toInt
theorem sd_ixor {x y : Int} (hd : sd_dc Y pc .ixor 1 pc') (kk : sd_Wp S n Y pc' ls (.inl (sd_xor x y) :: st) m Q) : sd_Wp S n Y pc ls (.inl y :: .inl x :: st) m Q := by
  intro d g p l e s mi args below meth c H locs lc h1 F h2 h3 h4 h5 h6
  obtain ⟨hx, hb, hml, hown, hts, hr, hlk, hi, hK, hRO⟩ := id F
  obtain ⟨hdg, rfl⟩ := hd
  refine lv_ixor hx hb hdg ?_
  have k2 := kk d g p l e s mi args below meth c H locs lc h1 F h2 h3 h4 h5 (sd_cons (v := .inl (sd_xor x y)) (sd_rt _) (sd_tl (sd_tl h6)))
  simp only [List.map_cons, sd_cv, sd_xor, Int32.ofInt_toInt] at k2
  exact k2
def sd_ushr (x y : Int) : Int := (((Int32.ofInt x).toUInt32 >>> ((Int32.ofInt y).toUInt32 &&& Int32.toUInt32 31)).toInt32).toInt
theorem sd_iushr {x y : Int} (hd : sd_dc Y pc .iushr 1 pc') (kk : sd_Wp S n Y pc' ls (.inl (sd_ushr x y) :: st) m Q) : sd_Wp S n Y pc ls (.inl y :: .inl x :: st) m Q := by
  intro d g p l e s mi args below meth c H locs lc h1 F h2 h3 h4 h5 h6
  obtain ⟨hx, hb, hml, hown, hts, hr, hlk, hi, hK, hRO⟩ := id F
  obtain ⟨hdg, rfl⟩ := hd
  refine lv_iushr hx hb hdg rfl ?_
  have k2 := kk d g p l e s mi args below meth c H locs lc h1 F h2 h3 h4 h5 (sd_cons (v := .inl (sd_ushr x y)) (sd_rt _) (sd_tl (sd_tl h6)))
  simp only [List.map_cons, sd_cv, sd_ushr, Int32.ofInt_toInt] at k2
  exact k2
def sd_fi2b (x : Int) : Int := ((Int32.ofInt x).toInt8.toInt32).toInt
theorem sd_i2b {x : Int} (hd : sd_dc Y pc .i2b 1 pc') (kk : sd_Wp S n Y pc' ls (.inl (sd_fi2b x) :: st) m Q) : sd_Wp S n Y pc ls (.inl x :: st) m Q := by
  intro d g p l e s mi args below meth c H locs lc h1 F h2 h3 h4 h5 h6
  obtain ⟨hx, hb, hml, hown, hts, hr, hlk, hi, hK, hRO⟩ := id F
  obtain ⟨hdg, rfl⟩ := hd
  refine lv_i2b hx hb hdg rfl ?_
  have k2 := kk d g p l e s mi args below meth c H locs lc h1 F h2 h3 h4 h5 (sd_cons (v := .inl (sd_fi2b x)) (sd_rt _) (sd_tl h6))
  simp only [List.map_cons, sd_cv, sd_fi2b, Int32.ofInt_toInt] at k2
  exact k2
def sd_fi2s (x : Int) : Int := ((Int32.ofInt x).toInt16.toInt32).toInt
theorem sd_i2s {x : Int} (hd : sd_dc Y pc .i2s 1 pc') (kk : sd_Wp S n Y pc' ls (.inl (sd_fi2s x) :: st) m Q) : sd_Wp S n Y pc ls (.inl x :: st) m Q := by
  intro d g p l e s mi args below meth c H locs lc h1 F h2 h3 h4 h5 h6
  obtain ⟨hx, hb, hml, hown, hts, hr, hlk, hi, hK, hRO⟩ := id F
  obtain ⟨hdg, rfl⟩ := hd
  refine lv_i2s hx hb hdg rfl ?_
  have k2 := kk d g p l e s mi args below meth c H locs lc h1 F h2 h3 h4 h5 (sd_cons (v := .inl (sd_fi2s x)) (sd_rt _) (sd_tl h6))
  simp only [List.map_cons, sd_cv, sd_fi2s, Int32.ofInt_toInt] at k2
  exact k2
def sd_fi2c (x : Int) : Int := (((Int32.ofInt x).toUInt32 % 65536).toInt32).toInt
theorem sd_i2c {x : Int} (hd : sd_dc Y pc .i2c 1 pc') (kk : sd_Wp S n Y pc' ls (.inl (sd_fi2c x) :: st) m Q) : sd_Wp S n Y pc ls (.inl x :: st) m Q := by
  intro d g p l e s mi args below meth c H locs lc h1 F h2 h3 h4 h5 h6
  obtain ⟨hx, hb, hml, hown, hts, hr, hlk, hi, hK, hRO⟩ := id F
  obtain ⟨hdg, rfl⟩ := hd
  refine lv_i2c hx hb hdg rfl ?_
  have k2 := kk d g p l e s mi args below meth c H locs lc h1 F h2 h3 h4 h5 (sd_cons (v := .inl (sd_fi2c x)) (sd_rt _) (sd_tl h6))
  simp only [List.map_cons, sd_cv, sd_fi2c, Int32.ofInt_toInt] at k2
  exact k2
theorem sd_icmp_eq {x y off : Int} {tgt : Nat} (hd : sd_dc Y pc (.if_icmp .eq off) 3 pc') (ht : (pc : Int) + off = (tgt : Int)) (kt : x = y → sd_Wp S n Y tgt ls st m Q) (kf : ¬ x = y → sd_Wp S n Y pc' ls st m Q) : sd_Wp S n Y pc ls (.inl y :: .inl x :: st) m Q := by
  intro d g p l e s mi args below meth c H locs lc h1 F h2 h3 h4 h5 h6
  obtain ⟨hx, hb, hml, hown, hts, hr, hlk, hi, hK, hRO⟩ := id F
  obtain ⟨hdg, rfl⟩ := hd
  have hxr : sd_R x := sd_hd (sd_tl h6)
  have hyr : sd_R y := sd_hd h6
  have hcv := sd_eq hxr hyr
  refine lv_icmp_eq hx hb hdg ht (fun q => kt (by first | exact hcv.mp q | exact fun z => q (hcv.mpr z)) d g p l e s mi args below meth c H locs lc h1 F h2 h3 h4 h5 (sd_tl (sd_tl h6))) (fun q => kf (by first | exact hcv.mp q | exact fun z => q (hcv.mpr z) | exact Int.not_lt.mp (fun z => q (hcv.mpr z)) | exact Int.not_le.mp (fun z => q (hcv.mpr z))) d g p l e s mi args below meth c H locs lc h1 F h2 h3 h4 h5 (sd_tl (sd_tl h6)))
theorem sd_if_eq {x off : Int} {tgt : Nat} (hd : sd_dc Y pc (.ifCond .eq off) 3 pc') (ht : (pc : Int) + off = (tgt : Int)) (kt : x = 0 → sd_Wp S n Y tgt ls st m Q) (kf : ¬ x = 0 → sd_Wp S n Y pc' ls st m Q) : sd_Wp S n Y pc ls (.inl x :: st) m Q := by
  intro d g p l e s mi args below meth c H locs lc h1 F h2 h3 h4 h5 h6
  obtain ⟨hx, hb, hml, hown, hts, hr, hlk, hi, hK, hRO⟩ := id F
  obtain ⟨hdg, rfl⟩ := hd
  have hxr : sd_R x := sd_hd h6
  have hyr : sd_R 0 := sd_r0
  have hcv := sd_eq hxr hyr
  refine lv_if_eq hx hb hdg ht (fun q => kt (by first | exact hcv.mp q | exact fun z => q (hcv.mpr z)) d g p l e s mi args below meth c H locs lc h1 F h2 h3 h4 h5 (sd_tl h6)) (fun q => kf (by first | exact hcv.mp q | exact fun z => q (hcv.mpr z) | exact Int.not_lt.mp (fun z => q (hcv.mpr z)) | exact Int.not_le.mp (fun z => q (hcv.mpr z))) d g p l e s mi args below meth c H locs lc h1 F h2 h3 h4 h5 (sd_tl h6))
theorem sd_icmp_ne {x y off : Int} {tgt : Nat} (hd : sd_dc Y pc (.if_icmp .ne off) 3 pc') (ht : (pc : Int) + off = (tgt : Int)) (kt : ¬ x = y → sd_Wp S n Y tgt ls st m Q) (kf : x = y → sd_Wp S n Y pc' ls st m Q) : sd_Wp S n Y pc ls (.inl y :: .inl x :: st) m Q := by
  intro d g p l e s mi args below meth c H locs lc h1 F h2 h3 h4 h5 h6
  obtain ⟨hx, hb, hml, hown, hts, hr, hlk, hi, hK, hRO⟩ := id F
  obtain ⟨hdg, rfl⟩ := hd
  have hxr : sd_R x := sd_hd (sd_tl h6)
  have hyr : sd_R y := sd_hd h6
  have hcv := sd_eq hxr hyr
  refine lv_icmp_ne hx hb hdg ht (fun q => kt (by first | exact hcv.mp q | exact fun z => q (hcv.mpr z)) d g p l e s mi args below meth c H locs lc h1 F h2 h3 h4 h5 (sd_tl (sd_tl h6))) (fun q => kf (by first | exact hcv.mp q | exact fun z => q (hcv.mpr z) | exact Int.not_lt.mp (fun z => q (hcv.mpr z)) | exact Int.not_le.mp (fun z => q (hcv.mpr z))) d g p l e s mi args below meth c H locs lc h1 F h2 h3 h4 h5 (sd_tl (sd_tl h6)))
theorem sd_if_ne {x off : Int} {tgt : Nat} (hd : sd_dc Y pc (.ifCond .ne off) 3 pc') (ht : (pc : Int) + off = (tgt : Int)) (kt : ¬ x = 0 → sd_Wp S n Y tgt ls st m Q) (kf : x = 0 → sd_Wp S n Y pc' ls st m Q) : sd_Wp S n Y pc ls (.inl x :: st) m Q := by
  intro d g p l e s mi args below meth c H locs lc h1 F h2 h3 h4 h5 h6
  obtain ⟨hx, hb, hml, hown, hts, hr, hlk, hi, hK, hRO⟩ := id F
  obtain ⟨hdg, rfl⟩ := hd
  have hxr : sd_R x := sd_hd h6
  have hyr : sd_R 0 := sd_r0
  have hcv := sd_eq hxr hyr
  refine lv_if_ne hx hb hdg ht (fun q => kt (by first | exact hcv.mp q | exact fun z => q (hcv.mpr z)) d g p l e s mi args below meth c H locs lc h1 F h2 h3 h4 h5 (sd_tl h6)) (fun q => kf (by first | exact hcv.mp q | exact fun z => q (hcv.mpr z) | exact Int.not_lt.mp (fun z => q (hcv.mpr z)) | exact Int.not_le.mp (fun z => q (hcv.mpr z))) d g p l e s mi args below meth c H locs lc h1 F h2 h3 h4 h5 (sd_tl h6))
theorem sd_icmp_lt {x y off : Int} {tgt : Nat} (hd : sd_dc Y pc (.if_icmp .lt off) 3 pc') (ht : (pc : Int) + off = (tgt : Int)) (kt : x < y → sd_Wp S n Y tgt ls st m Q) (kf : y ≤ x → sd_Wp S n Y pc' ls st m Q) : sd_Wp S n Y pc ls (.inl y :: .inl x :: st) m Q := by
  intro d g p l e s mi args below meth c H locs lc h1 F h2 h3 h4 h5 h6
  obtain ⟨hx, hb, hml, hown, hts, hr, hlk, hi, hK, hRO⟩ := id F
  obtain ⟨hdg, rfl⟩ := hd
  have hxr : sd_R x := sd_hd (sd_tl h6)
  have hyr : sd_R y := sd_hd h6
  have hcv := sd_lt hxr hyr
  refine lv_icmp_lt hx hb hdg ht (fun q => kt (by first | exact hcv.mp q | exact fun z => q (hcv.mpr z)) d g p l e s mi args below meth c H locs lc h1 F h2 h3 h4 h5 (sd_tl (sd_tl h6))) (fun q => kf (by first | exact hcv.mp q | exact fun z => q (hcv.mpr z) | exact Int.not_lt.mp (fun z => q (hcv.mpr z)) | exact Int.not_le.mp (fun z => q (hcv.mpr z))) d g p l e s mi args below meth c H locs lc h1 F h2 h3 h4 h5 (sd_tl (sd_tl h6)))
theorem sd_if_lt {x off : Int} {tgt : Nat} (hd : sd_dc Y pc (.ifCond .lt off) 3 pc') (ht : (pc : Int) + off = (tgt : Int)) (kt : x < 0 → sd_Wp S n Y tgt ls st m Q) (kf : 0 ≤ x → sd_Wp S n Y pc' ls st m Q) : sd_Wp S n Y pc ls (.inl x :: st) m Q := by
  intro d g p l e s mi args below meth c H locs lc h1 F h2 h3 h4 h5 h6
  obtain ⟨hx, hb, hml, hown, hts, hr, hlk, hi, hK, hRO⟩ := id F
  obtain ⟨hdg, rfl⟩ := hd
  have hxr : sd_R x := sd_hd h6
  have hyr : sd_R 0 := sd_r0
  have hcv := sd_lt hxr hyr
  refine lv_if_lt hx hb hdg ht (fun q => kt (by first | exact hcv.mp q | exact fun z => q (hcv.mpr z)) d g p l e s mi args below meth c H locs lc h1 F h2 h3 h4 h5 (sd_tl h6)) (fun q => kf (by first | exact hcv.mp q | exact fun z => q (hcv.mpr z) | exact Int.not_lt.mp (fun z => q (hcv.mpr z)) | exact Int.not_le.mp (fun z => q (hcv.mpr z))) d g p l e s mi args below meth c H locs lc h1 F h2 h3 h4 h5 (sd_tl h6))
theorem sd_icmp_ge {x y off : Int} {tgt : Nat} (hd : sd_dc Y pc (.if_icmp .ge off) 3 pc') (ht : (pc : Int) + off = (tgt : Int)) (kt : y ≤ x → sd_Wp S n Y tgt ls st m Q) (kf : x < y → sd_Wp S n Y pc' ls st m Q) : sd_Wp S n Y pc ls (.inl y :: .inl x :: st) m Q := by
  intro d g p l e s mi args below meth c H locs lc h1 F h2 h3 h4 h5 h6
  obtain ⟨hx, hb, hml, hown, hts, hr, hlk, hi, hK, hRO⟩ := id F
  obtain ⟨hdg, rfl⟩ := hd
  have hxr : sd_R x := sd_hd (sd_tl h6)
  have hyr : sd_R y := sd_hd h6
  have hcv := sd_le hyr hxr
  refine lv_icmp_ge hx hb hdg ht (fun q => kt (by first | exact hcv.mp q | exact fun z => q (hcv.mpr z)) d g p l e s mi args below meth c H locs lc h1 F h2 h3 h4 h5 (sd_tl (sd_tl h6))) (fun q => kf (by first | exact hcv.mp q | exact fun z => q (hcv.mpr z) | exact Int.not_lt.mp (fun z => q (hcv.mpr z)) | exact Int.not_le.mp (fun z => q (hcv.mpr z))) d g p l e s mi args below meth c H locs lc h1 F h2 h3 h4 h5 (sd_tl (sd_tl h6)))
theorem sd_if_ge {x off : Int} {tgt : Nat} (hd : sd_dc Y pc (.ifCond .ge off) 3 pc') (ht : (pc : Int) + off = (tgt : Int)) (kt : 0 ≤ x → sd_Wp S n Y tgt ls st m Q) (kf : x < 0 → sd_Wp S n Y pc' ls st m Q) : sd_Wp S n Y pc ls (.inl x :: st) m Q := by
  intro d g p l e s mi args below meth c H locs lc h1 F h2 h3 h4 h5 h6
  obtain ⟨hx, hb, hml, hown, hts, hr, hlk, hi, hK, hRO⟩ := id F
  obtain ⟨hdg, rfl⟩ := hd
  have hxr : sd_R x := sd_hd h6
  have hyr : sd_R 0 := sd_r0
  have hcv := sd_le hyr hxr
  refine lv_if_ge hx hb hdg ht (fun q => kt (by first | exact hcv.mp q | exact fun z => q (hcv.mpr z)) d g p l e s mi args below meth c H locs lc h1 F h2 h3 h4 h5 (sd_tl h6)) (fun q => kf (by first | exact hcv.mp q | exact fun z => q (hcv.mpr z) | exact Int.not_lt.mp (fun z => q (hcv.mpr z)) | exact Int.not_le.mp (fun z => q (hcv.mpr z))) d g p l e s mi args below meth c H locs lc h1 F h2 h3 h4 h5 (sd_tl h6))
theorem sd_icmp_gt {x y off : Int} {tgt : Nat} (hd : sd_dc Y pc (.if_icmp .gt off) 3 pc') (ht : (pc : Int) + off = (tgt : Int)) (kt : y < x → sd_Wp S n Y tgt ls st m Q) (kf : x ≤ y → sd_Wp S n Y pc' ls st m Q) : sd_Wp S n Y pc ls (.inl y :: .inl x :: st) m Q := by
  intro d g p l e s mi args below meth c H locs lc h1 F h2 h3 h4 h5 h6
  obtain ⟨hx, hb, hml, hown, hts, hr, hlk, hi, hK, hRO⟩ := id F
  obtain ⟨hdg, rfl⟩ := hd
  have hxr : sd_R x := sd_hd (sd_tl h6)
  have hyr : sd_R y := sd_hd h6
  have hcv := sd_lt hyr hxr
  refine lv_icmp_gt hx hb hdg ht (fun q => kt (by first | exact hcv.mp q | exact fun z => q (hcv.mpr z)) d g p l e s mi args below meth c H locs lc h1 F h2 h3 h4 h5 (sd_tl (sd_tl h6))) (fun q => kf (by first | exact hcv.mp q | exact fun z => q (hcv.mpr z) | exact Int.not_lt.mp (fun z => q (hcv.mpr z)) | exact Int.not_le.mp (fun z => q (hcv.mpr z))) d g p l e s mi args below meth c H locs lc h1 F h2 h3 h4 h5 (sd_tl (sd_tl h6)))
theorem sd_if_gt {x off : Int} {tgt : Nat} (hd : sd_dc Y pc (.ifCond .gt off) 3 pc') (ht : (pc : Int) + off = (tgt : Int)) (kt : 0 < x → sd_Wp S n Y tgt ls st m Q) (kf : x ≤ 0 → sd_Wp S n Y pc' ls st m Q) : sd_Wp S n Y pc ls (.inl x :: st) m Q := by
  intro d g p l e s mi args below meth c H locs lc h1 F h2 h3 h4 h5 h6
  obtain ⟨hx, hb, hml, hown, hts, hr, hlk, hi, hK, hRO⟩ := id F
  obtain ⟨hdg, rfl⟩ := hd
  have hxr : sd_R x := sd_hd h6
  have hyr : sd_R 0 := sd_r0
  have hcv := sd_lt hyr hxr
  refine lv_if_gt hx hb hdg ht (fun q => kt (by first | exact hcv.mp q | exact fun z => q (hcv.mpr z)) d g p l e s mi args below meth c H locs lc h1 F h2 h3 h4 h5 (sd_tl h6)) (fun q => kf (by first | exact hcv.mp q | exact fun z => q (hcv.mpr z) | exact Int.not_lt.mp (fun z => q (hcv.mpr z)) | exact Int.not_le.mp (fun z => q (hcv.mpr z))) d g p l e s mi args below meth c H locs lc h1 F h2 h3 h4 h5 (sd_tl h6))
theorem sd_icmp_le {x y off : Int} {tgt : Nat} (hd : sd_dc Y pc (.if_icmp .le off) 3 pc') (ht : (pc : Int) + off = (tgt : Int)) (kt : x ≤ y → sd_Wp S n Y tgt ls st m Q) (kf : y < x → sd_Wp S n Y pc' ls st m Q) : sd_Wp S n Y pc ls (.inl y :: .inl x :: st) m Q := by
  intro d g p l e s mi args below meth c H locs lc h1 F h2 h3 h4 h5 h6
  obtain ⟨hx, hb, hml, hown, hts, hr, hlk, hi, hK, hRO⟩ := id F
  obtain ⟨hdg, rfl⟩ := hd
  have hxr : sd_R x := sd_hd (sd_tl h6)
  have hyr : sd_R y := sd_hd h6
  have hcv := sd_le hxr hyr
  refine lv_icmp_le hx hb hdg ht (fun q => kt (by first | exact hcv.mp q | exact fun z => q (hcv.mpr z)) d g p l e s mi args below meth c H locs lc h1 F h2 h3 h4 h5 (sd_tl (sd_tl h6))) (fun q => kf (by first | exact hcv.mp q | exact fun z => q (hcv.mpr z) | exact Int.not_lt.mp (fun z => q (hcv.mpr z)) | exact Int.not_le.mp (fun z => q (hcv.mpr z))) d g p l e s mi args below meth c H locs lc h1 F h2 h3 h4 h5 (sd_tl (sd_tl h6)))
theorem sd_if_le {x off : Int} {tgt : Nat} (hd : sd_dc Y pc (.ifCond .le off) 3 pc') (ht : (pc : Int) + off = (tgt : Int)) (kt : x ≤ 0 → sd_Wp S n Y tgt ls st m Q) (kf : 0 < x → sd_Wp S n Y pc' ls st m Q) : sd_Wp S n Y pc ls (.inl x :: st) m Q := by
  intro d g p l e s mi args below meth c H locs lc h1 F h2 h3 h4 h5 h6
  obtain ⟨hx, hb, hml, hown, hts, hr, hlk, hi, hK, hRO⟩ := id F
  obtain ⟨hdg, rfl⟩ := hd
  have hxr : sd_R x := sd_hd h6
  have hyr : sd_R 0 := sd_r0
  have hcv := sd_le hxr hyr
  refine lv_if_le hx hb hdg ht (fun q => kt (by first | exact hcv.mp q | exact fun z => q (hcv.mpr z)) d g p l e s mi args below meth c H locs lc h1 F h2 h3 h4 h5 (sd_tl h6)) (fun q => kf (by first | exact hcv.mp q | exact fun z => q (hcv.mpr z) | exact Int.not_lt.mp (fun z => q (hcv.mpr z)) | exact Int.not_le.mp (fun z => q (hcv.mpr z))) d g p l e s mi args below meth c H locs lc h1 F h2 h3 h4 h5 (sd_tl h6))
theorem sd_goto {off : Int} (hd : sd_dc Y pc (.goto off) 3 pc') {tgt : Nat} (ht : (pc : Int) + off = (tgt : Int)) (kk : sd_Wp S n Y tgt ls st m Q) : sd_Wp S n Y pc ls st m Q := by
  intro d g p l e s mi args below meth c H locs lc h1 F h2 h3 h4 h5 h6
  obtain ⟨hx, hb, hml, hown, hts, hr, hlk, hi, hK, hRO⟩ := id F
  obtain ⟨hdg, rfl⟩ := hd
  exact lv_goto hx hb hdg ht (kk d g p l e s mi args below meth c H locs lc h1 F h2 h3 h4 h5 h6)
/-- a boolean as the machine has it -/
def sd_b (P : Prop) [Decidable P] : Int := if P then 1 else 0
theorem sd_bR (P : Prop) [Decidable P] : sd_R (sd_b P) := by unfold sd_b; split <;> exact ⟨by omega, by omega⟩
theorem sd_b1 {P : Prop} [Decidable P] (h : P) : sd_b P = 1 := if_pos h
theorem sd_b0 {P : Prop} [Decidable P] (h : ¬ P) : sd_b P = 0 := if_neg h
theorem sd_bif_eq {P : Prop} [Decidable P] {off : Int} {tgt : Nat} (hd : sd_dc Y pc (.ifCond .eq off) 3 pc') (ht : (pc : Int) + off = (tgt : Int)) (kt : ¬ P → sd_Wp S n Y tgt ls st m Q) (kf : P → sd_Wp S n Y pc' ls st m Q) : sd_Wp S n Y pc ls (.inl (sd_b P) :: st) m Q :=
  sd_if_eq hd ht (fun h => kt (fun hp => by rw [sd_b1 hp] at h; omega)) (fun h => kf (Decidable.byContradiction fun hp => h (sd_b0 hp)))
theorem sd_bif_ne {P : Prop} [Decidable P] {off : Int} {tgt : Nat} (hd : sd_dc Y pc (.ifCond .ne off) 3 pc') (ht : (pc : Int) + off = (tgt : Int)) (kt : P → sd_Wp S n Y tgt ls st m Q) (kf : ¬ P → sd_Wp S n Y pc' ls st m Q) : sd_Wp S n Y pc ls (.inl (sd_b P) :: st) m Q :=
  sd_if_ne hd ht (fun h => kt (Decidable.byContradiction fun hp => h (sd_b0 hp))) (fun h => kf (fun hp => by rw [sd_b1 hp] at h; omega))
theorem sd_tsw {x dflt lo hi off : Int} {offs : Array Int} {len tgt : Nat} (hd : sd_dc Y pc (.tableswitch dflt lo hi offs) len pc') (h7 : lo ≤ x ∧ x ≤ hi) (ho : offs[(x - lo).toNat]? = some off) (ht : (pc : Int) + off = (tgt : Int)) (kk : sd_Wp S n Y tgt ls st m Q) : sd_Wp S n Y pc ls (.inl x :: st) m Q := by
  intro d g p l e s mi args below meth c H locs lc h1 F h2 h3 h4 h5 h6
  obtain ⟨hx, hb, hml, hown, hts, hr, hlk, hi, hK, hRO⟩ := id F
  obtain ⟨hdg, rfl⟩ := hd
  have hxr : sd_R x := sd_hd h6
  exact lv_tableIn hx hb hdg (by rw [sd_ti hxr]; omega) (by rw [sd_ti hxr]; omega) (by rw [sd_ti hxr]; exact ho) ht (kk d g p l e s mi args below meth c H locs lc h1 F h2 h3 h4 h5 (sd_tl h6))
theorem sd_tswd {x dflt lo hi : Int} {offs : Array Int} {len tgt : Nat} (hd : sd_dc Y pc (.tableswitch dflt lo hi offs) len pc') (h7 : x < lo ∨ hi < x) (ht : (pc : Int) + dflt = (tgt : Int)) (kk : sd_Wp S n Y tgt ls st m Q) : sd_Wp S n Y pc ls (.inl x :: st) m Q := by
  intro d g p l e s mi args below meth c H locs lc h1 F h2 h3 h4 h5 h6
  obtain ⟨hx, hb, hml, hown, hts, hr, hlk, hi, hK, hRO⟩ := id F
  obtain ⟨hdg, rfl⟩ := hd
  have hxr : sd_R x := sd_hd h6
  exact lv_tableOut hx hb hdg (by rw [sd_ti hxr]; exact h7) ht (kk d g p l e s mi args below meth c H locs lc h1 F h2 h3 h4 h5 (sd_tl h6))
theorem sd_lsw {x dflt off : Int} {ps : Array (Int × Int)} {len tgt : Nat} (hd : sd_dc Y pc (.lookupswitch dflt ps) len pc') (hp : (ps.toList.zip (ps.toList.drop 1)).all (fun (a, next) => a.1 < next.1) = true) (ho : Op.lookupswitch.offset ps.toList dflt x = off) (ht : (pc : Int) + off = (tgt : Int)) (kk : sd_Wp S n Y tgt ls st m Q) : sd_Wp S n Y pc ls (.inl x :: st) m Q := by
  intro d g p l e s mi args below meth c H locs lc h1 F h2 h3 h4 h5 h6
  obtain ⟨hx, hb, hml, hown, hts, hr, hlk, hi, hK, hRO⟩ := id F
  obtain ⟨hdg, rfl⟩ := hd
  have hxr : sd_R x := sd_hd h6
  exact lv_lookup hx hb hdg hp (by rw [sd_ti hxr]; exact ho) ht (kk d g p l e s mi args below meth c H locs lc h1 F h2 h3 h4 h5 (sd_tl h6))
end Instrs
