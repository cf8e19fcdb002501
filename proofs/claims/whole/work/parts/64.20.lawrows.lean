section LawRows
variable {p : Program} {l : Launch} {e : Env} {s : State} {m : MethodId} {below : List Frame} {meth : Method} {c : Code} {b L : Nat} {xs : Nat → Int32} {gC gM : sd_G} {cells slots : Nat} {pc pc' : Nat} {ls : List (Option sd_V)} {st : List sd_V} {mC mM : sd_M}
theorem lw_iload_n {k : Fin 4} {x : Int} (F : sd_LF p s m meth c b L xs gC gM cells slots) (hd : sd_dc sd_sY pc (.iload_n k) 1 pc') (hl : ls[(k : Nat)]? = some (some (.inl x))) (kk : sd_Lw p l e s m below meth c b gC gM cells slots pc' ls (.inl x :: st) mC mM) : sd_Lw p l e s m below meth c b gC gM cells slots pc ls st mC mM := by
  intro H locs lc h1 h2 h3 h4 h5 h6 h7
  obtain ⟨hx, hb, hr, hml, hown, hts, hX, hbl, hlk, hL, hcs, hij, hap, hge, hK, hRO⟩ := id F
  obtain ⟨hdg, rfl⟩ := hd
  exact lv_iload_n hx hb hdg rfl (sd_rd h6 hl) (kk H locs lc h1 h2 h3 h4 h5 h6 (sd_cons (sd_rdok h6 hl) h7))
theorem lw_aload_n {k : Fin 4} {x : Nat} (F : sd_LF p s m meth c b L xs gC gM cells slots) (hd : sd_dc sd_sY pc (.aload_n k) 1 pc') (hl : ls[(k : Nat)]? = some (some (.inr x))) (kk : sd_Lw p l e s m below meth c b gC gM cells slots pc' ls (.inr x :: st) mC mM) : sd_Lw p l e s m below meth c b gC gM cells slots pc ls st mC mM := by
  intro H locs lc h1 h2 h3 h4 h5 h6 h7
  obtain ⟨hx, hb, hr, hml, hown, hts, hX, hbl, hlk, hL, hcs, hij, hap, hge, hK, hRO⟩ := id F
  obtain ⟨hdg, rfl⟩ := hd
  exact lv_aload_n hx hb hdg rfl (sd_rd h6 hl) (kk H locs lc h1 h2 h3 h4 h5 h6 (sd_cons (sd_rdok h6 hl) h7))
theorem lw_iconst {z : Int} (F : sd_LF p s m meth c b L xs gC gM cells slots) (hd : sd_dc sd_sY pc (.iconst z) 1 pc') (hz : sd_R z) (kk : sd_Lw p l e s m below meth c b gC gM cells slots pc' ls (.inl z :: st) mC mM) : sd_Lw p l e s m below meth c b gC gM cells slots pc ls st mC mM := by
  intro H locs lc h1 h2 h3 h4 h5 h6 h7
  obtain ⟨hx, hb, hr, hml, hown, hts, hX, hbl, hlk, hL, hcs, hij, hap, hge, hK, hRO⟩ := id F
  obtain ⟨hdg, rfl⟩ := hd
  exact lv_iconst hx hb hdg rfl (kk H locs lc h1 h2 h3 h4 h5 h6 (sd_cons hz h7))
theorem lw_bipush {z : Int} (F : sd_LF p s m meth c b L xs gC gM cells slots) (hd : sd_dc sd_sY pc (.bipush z) 2 pc') (hv : (Int8.ofInt z).toInt32 = Int32.ofInt z) (hz : sd_R z) (kk : sd_Lw p l e s m below meth c b gC gM cells slots pc' ls (.inl z :: st) mC mM) : sd_Lw p l e s m below meth c b gC gM cells slots pc ls st mC mM := by
  intro H locs lc h1 h2 h3 h4 h5 h6 h7
  obtain ⟨hx, hb, hr, hml, hown, hts, hX, hbl, hlk, hL, hcs, hij, hap, hge, hK, hRO⟩ := id F
  obtain ⟨hdg, rfl⟩ := hd
  exact lv_bipush hx hb hdg hv (kk H locs lc h1 h2 h3 h4 h5 h6 (sd_cons hz h7))
theorem lw_iadd {x y z : Int} (F : sd_LF p s m meth c b L xs gC gM cells slots) (hd : sd_dc sd_sY pc (.iadd) 1 pc') (hz : x + y = z) (hr0 : sd_R z) (kk : sd_Lw p l e s m below meth c b gC gM cells slots pc' ls (.inl z :: st) mC mM) : sd_Lw p l e s m below meth c b gC gM cells slots pc ls (.inl y :: .inl x :: st) mC mM := by
  intro H locs lc h1 h2 h3 h4 h5 h6 h7
  obtain ⟨hx, hb, hr, hml, hown, hts, hX, hbl, hlk, hL, hcs, hij, hap, hge, hK, hRO⟩ := id F
  obtain ⟨hdg, rfl⟩ := hd
  subst hz
  refine lv_iadd hx hb hdg ?_
  have k2 := (kk H locs lc h1 h2 h3 h4 h5 h6 (sd_cons (v := .inl (x + y)) hr0 (sd_tl (sd_tl h7))))
  simp only [List.map_cons, sd_cv, Int32.ofInt_add] at k2
  exact k2
theorem lw_isub {x y z : Int} (F : sd_LF p s m meth c b L xs gC gM cells slots) (hd : sd_dc sd_sY pc (.isub) 1 pc') (hz : x - y = z) (hr0 : sd_R z) (kk : sd_Lw p l e s m below meth c b gC gM cells slots pc' ls (.inl z :: st) mC mM) : sd_Lw p l e s m below meth c b gC gM cells slots pc ls (.inl y :: .inl x :: st) mC mM := by
  intro H locs lc h1 h2 h3 h4 h5 h6 h7
  obtain ⟨hx, hb, hr, hml, hown, hts, hX, hbl, hlk, hL, hcs, hij, hap, hge, hK, hRO⟩ := id F
  obtain ⟨hdg, rfl⟩ := hd
  subst hz
  refine lv_isub hx hb hdg ?_
  have k2 := (kk H locs lc h1 h2 h3 h4 h5 h6 (sd_cons (v := .inl (x - y)) hr0 (sd_tl (sd_tl h7))))
  simp only [List.map_cons, sd_cv, Int32.ofInt_sub] at k2
  exact k2
theorem lw_iand {x y : Int} (F : sd_LF p s m meth c b L xs gC gM cells slots) (hd : sd_dc sd_sY pc (.iand) 1 pc')  (kk : sd_Lw p l e s m below meth c b gC gM cells slots pc' ls (.inl (sd_and x y) :: st) mC mM) : sd_Lw p l e s m below meth c b gC gM cells slots pc ls (.inl y :: .inl x :: st) mC mM := by
  intro H locs lc h1 h2 h3 h4 h5 h6 h7
  obtain ⟨hx, hb, hr, hml, hown, hts, hX, hbl, hlk, hL, hcs, hij, hap, hge, hK, hRO⟩ := id F
  obtain ⟨hdg, rfl⟩ := hd
  refine lv_iand hx hb hdg ?_
  have k2 := (kk H locs lc h1 h2 h3 h4 h5 h6 (sd_cons (v := .inl (sd_and x y)) (sd_rt _) (sd_tl (sd_tl h7))))
  simp only [List.map_cons, sd_cv, sd_and, Int32.ofInt_toInt] at k2
  exact k2
theorem lw_len  (F : sd_LF p s m meth c b L xs gC gM cells slots) (hd : sd_dc sd_sY pc (.arraylength) 1 pc')  (kk : sd_Lw p l e s m below meth c b gC gM cells slots pc' ls (.inl (L : Int) :: st) mC mM) : sd_Lw p l e s m below meth c b gC gM cells slots pc ls (.inr 0 :: st) mC mM := by
  intro H locs lc h1 h2 h3 h4 h5 h6 h7
  obtain ⟨hx, hb, hr, hml, hown, hts, hX, hbl, hlk, hL, hcs, hij, hap, hge, hK, hRO⟩ := id F
  obtain ⟨hdg, rfl⟩ := hd
  refine va_slen hx hb hX hbl (A := fun q => s.heap.size ≤ q) (Nat.not_le.mpr hbl) h5 hdg ?_
  have k2 := (kk H locs lc h1 h2 h3 h4 h5 h6 (sd_cons (v := .inl (L : Int)) ⟨by omega, by omega⟩ (sd_tl h7)))
  exact k2
theorem lw_sld {j : Nat} {z : Int} (F : sd_LF p s m meth c b L xs gC gM cells slots) (hd : sd_dc sd_sY pc (.iaload) 1 pc') (hz : z = (j : Int)) (hj : j < L) (kk : sd_Lw p l e s m below meth c b gC gM cells slots pc' ls (.inl (xs j).toInt :: st) mC mM) : sd_Lw p l e s m below meth c b gC gM cells slots pc ls (.inl z :: .inr 0 :: st) mC mM := by
  intro H locs lc h1 h2 h3 h4 h5 h6 h7
  obtain ⟨hx, hb, hr, hml, hown, hts, hX, hbl, hlk, hL, hcs, hij, hap, hge, hK, hRO⟩ := id F
  obtain ⟨hdg, rfl⟩ := hd
  subst hz
  have hr0 : sd_R (j : Int) := ⟨by omega, by omega⟩
  refine va_sld hx hb hX hbl (A := fun q => s.heap.size ≤ q) (i := Int32.ofInt (j : Int)) (Nat.not_le.mpr hbl) h5 (sd_vpin hr0 (by omega) (by omega)) hdg ?_
  have k2 := (kk H locs lc h1 h2 h3 h4 h5 h6 (sd_cons (v := .inl (xs j).toInt) (sd_rt _) (sd_tl (sd_tl h7))))
  simp only [List.map_cons, sd_cv, Int32.ofInt_toInt] at k2
  rw [sd_clamp hr0, Int.toNat_natCast]
  exact k2
theorem lw_iinc {i : Nat} {z x y : Int} {ls' : List (Option sd_V)} (F : sd_LF p s m meth c b L xs gC gM cells slots) (hd : sd_dc sd_sY pc (.iinc i z) 3 pc') (hl : ls[i]? = some (some (.inl x))) (hy : x + z = y) (hr0 : sd_R y) (hn : i < 4) (hs : ls.set i (some (.inl y)) = ls') (kk : sd_Lw p l e s m below meth c b gC gM cells slots pc' ls' st mC mM) : sd_Lw p l e s m below meth c b gC gM cells slots pc ls st mC mM := by
  intro H locs lc h1 h2 h3 h4 h5 h6 h7
  obtain ⟨hx, hb, hr, hml, hown, hts, hX, hbl, hlk, hL, hcs, hij, hap, hge, hK, hRO⟩ := id F
  obtain ⟨hdg, rfl⟩ := hd
  subst hs
  subst hy
  obtain ⟨q, hq⟩ := List.getElem?_of_mem (sd_lvmem.mpr ⟨_, hl, rfl⟩ : (i, sd_cv (sd_gL b gC gM) (.inl x)) ∈ sd_lv (sd_gL b gC gM) ls)
  exact lv_iinc hx hb hdg h6.1 hq (by rw [Int32.ofInt_add]) hn rfl (fun lc' h' => kk H locs lc' h1 h2 h3 h4 h5 (sd_st (v := .inl (x + z)) h6 hr0 h') h7)
theorem lw_goto {off : Int} {tgt : Nat} (F : sd_LF p s m meth c b L xs gC gM cells slots) (hd : sd_dc sd_sY pc (.goto off) 3 pc') (ht : (pc : Int) + off = (tgt : Int)) (kk : sd_Lw p l e s m below meth c b gC gM cells slots tgt ls st mC mM) : sd_Lw p l e s m below meth c b gC gM cells slots pc ls st mC mM := by
  intro H locs lc h1 h2 h3 h4 h5 h6 h7
  obtain ⟨hx, hb, hr, hml, hown, hts, hX, hbl, hlk, hL, hcs, hij, hap, hge, hK, hRO⟩ := id F
  obtain ⟨hdg, rfl⟩ := hd
  exact lv_goto hx hb hdg ht (kk H locs lc h1 h2 h3 h4 h5 h6 h7)
theorem lw_icmp_gt {x y off : Int} {tgt : Nat} (F : sd_LF p s m meth c b L xs gC gM cells slots) (hd : sd_dc sd_sY pc (.if_icmp .gt off) 3 pc') (ht : (pc : Int) + off = (tgt : Int)) (kt : y < x → sd_Lw p l e s m below meth c b gC gM cells slots tgt ls st mC mM) (kf : x ≤ y → sd_Lw p l e s m below meth c b gC gM cells slots pc' ls st mC mM) : sd_Lw p l e s m below meth c b gC gM cells slots pc ls (.inl y :: .inl x :: st) mC mM := by
  intro H locs lc h1 h2 h3 h4 h5 h6 h7
  obtain ⟨hx, hb, hr, hml, hown, hts, hX, hbl, hlk, hL, hcs, hij, hap, hge, hK, hRO⟩ := id F
  obtain ⟨hdg, rfl⟩ := hd
  have hxr : sd_R x := sd_hd (sd_tl h7)
  have hyr : sd_R y := sd_hd h7
  have hcv := sd_lt hyr hxr
  exact lv_icmp_gt hx hb hdg ht (fun q => kt (hcv.mp q) H locs lc h1 h2 h3 h4 h5 h6 (sd_tl (sd_tl h7))) (fun q => kf (Int.not_lt.mp (fun z => q (hcv.mpr z))) H locs lc h1 h2 h3 h4 h5 h6 (sd_tl (sd_tl h7)))
theorem lw_icmp_eq {x off : Int} {tgt : Nat} (F : sd_LF p s m meth c b L xs gC gM cells slots) (hd : sd_dc sd_sY pc (.if_icmp .eq off) 3 pc') (ht : (pc : Int) + off = (tgt : Int)) (kt : sd_Lw p l e s m below meth c b gC gM cells slots tgt ls st mC mM) : sd_Lw p l e s m below meth c b gC gM cells slots pc ls (.inl x :: .inl x :: st) mC mM := by
  intro H locs lc h1 h2 h3 h4 h5 h6 h7
  obtain ⟨hx, hb, hr, hml, hown, hts, hX, hbl, hlk, hL, hcs, hij, hap, hge, hK, hRO⟩ := id F
  obtain ⟨hdg, rfl⟩ := hd
  exact lv_icmp_eq hx hb hdg ht (fun _ => kt H locs lc h1 h2 h3 h4 h5 h6 (sd_tl (sd_tl h7))) (fun q => absurd rfl q)
theorem lw_b {x o1 o2 : Int} {p1 p2 p3 p4 : Nat} (F : sd_LF p s m meth c b L xs gC gM cells slots) (hd : sd_dc sd_sY pc (.ifCond .eq o1) 3 p1) (ht : (pc : Int) + o1 = (p3 : Int)) (d1 : sd_dc sd_sY p1 (.iconst 1) 1 p2) (d2 : sd_dc sd_sY p2 (.goto o2) 3 p3) (ht2 : (p2 : Int) + o2 = (p4 : Int)) (d3 : sd_dc sd_sY p3 (.iconst 0) 1 p4) (kk : sd_Lw p l e s m below meth c b gC gM cells slots p4 ls (.inl (sd_b (¬ x = 0)) :: st) mC mM) : sd_Lw p l e s m below meth c b gC gM cells slots pc ls (.inl x :: st) mC mM := by
  have k1 : ¬ x = 0 → sd_Lw p l e s m below meth c b gC gM cells slots p1 ls st mC mM := fun q => lw_iconst F d1 (by decide) (lw_goto F d2 ht2 (by rw [sd_b1 q] at kk; exact kk))
  have k0 : x = 0 → sd_Lw p l e s m below meth c b gC gM cells slots p3 ls st mC mM := fun q => lw_iconst F d3 (by decide) (by rw [sd_b0 (fun z => z q)] at kk; exact kk)
  intro H locs lc h1 h2 h3 h4 h5 h6 h7
  obtain ⟨hx, hb, hr, hml, hown, hts, hX, hbl, hlk, hL, hcs, hij, hap, hge, hK, hRO⟩ := id F
  obtain ⟨hdg, rfl⟩ := hd
  have hxr : sd_R x := sd_hd h7
  have hcv := sd_eq hxr sd_r0
  exact lv_if_eq hx hb hdg ht (fun q => k0 (hcv.mp q) H locs lc h1 h2 h3 h4 h5 h6 (sd_tl h7)) (fun q => k1 (fun z => q (hcv.mpr z)) H locs lc h1 h2 h3 h4 h5 h6 (sd_tl h7))
theorem lw_tsO {x dflt hi : Int} {offs : Array Int} {tgt len : Nat} (F : sd_LF p s m meth c b L xs gC gM cells slots) (hd : sd_dc sd_sY pc (.tableswitch dflt 0 hi offs) len pc') (hv : hi < x) (ht : (pc : Int) + dflt = (tgt : Int)) (kk : sd_Lw p l e s m below meth c b gC gM cells slots tgt ls st mC mM) : sd_Lw p l e s m below meth c b gC gM cells slots pc ls (.inl x :: st) mC mM := by
  intro H locs lc h1 h2 h3 h4 h5 h6 h7
  obtain ⟨hx, hb, hr, hml, hown, hts, hX, hbl, hlk, hL, hcs, hij, hap, hge, hK, hRO⟩ := id F
  obtain ⟨hdg, rfl⟩ := hd
  exact lv_tableOut hx hb hdg (Or.inr (by rw [sd_ti (sd_hd h7)]; exact hv)) ht (kk H locs lc h1 h2 h3 h4 h5 h6 (sd_tl h7))
theorem lw_tsI {x dflt hi off : Int} {k : Nat} {offs : Array Int} {tgt len : Nat} (F : sd_LF p s m meth c b L xs gC gM cells slots) (hd : sd_dc sd_sY pc (.tableswitch dflt 0 hi offs) len pc') (hv : x = (k : Int)) (hk : (k : Int) ≤ hi) (ho : offs[k]? = some off) (ht : (pc : Int) + off = (tgt : Int)) (kk : sd_Lw p l e s m below meth c b gC gM cells slots tgt ls st mC mM) : sd_Lw p l e s m below meth c b gC gM cells slots pc ls (.inl x :: st) mC mM := by
  intro H locs lc h1 h2 h3 h4 h5 h6 h7
  obtain ⟨hx, hb, hr, hml, hown, hts, hX, hbl, hlk, hL, hcs, hij, hap, hge, hK, hRO⟩ := id F
  obtain ⟨hdg, rfl⟩ := hd
  have e1 : (Int32.ofInt x).toInt = (k : Int) := (sd_ti (sd_hd h7)).trans hv
  refine lv_tableIn hx hb hdg (x := Int32.ofInt x) (off := off) (by rw [e1]; omega) (by rw [e1]; omega) ?_ ht (kk H locs lc h1 h2 h3 h4 h5 h6 (sd_tl h7))
  rw [e1, show ((k : Int) - 0).toNat = k by omega]
  exact ho
theorem lw_arg {i k : Nat} {zk : Int} {p1 p2 p3 p4 p5 : Nat} (F : sd_LF p s m meth c b L xs gC gM cells slots) (a1 : sd_dc sd_sY pc (.aload_n 0) 1 p1) (a2 : sd_dc sd_sY p1 (.iload_n 3) 1 p2) (a3 : sd_dc sd_sY p2 (.iconst zk) 1 p3) (a4 : sd_dc sd_sY p3 .iadd 1 p4) (a5 : sd_dc sd_sY p4 .iaload 1 p5) (hz : zk = (k : Int)) (hi : i + k < L) (kk : sd_Lw p l e s m below meth c b gC gM cells slots p5 [some (.inr 0), some (.inr 1), some (.inr 2), some (.inl (i : Int))] (.inl (xs (i + k)).toInt :: st) mC mM) : sd_Lw p l e s m below meth c b gC gM cells slots pc [some (.inr 0), some (.inr 1), some (.inr 2), some (.inl (i : Int))] st mC mM := by
  have hL : L ≤ 384 := F.2.2.2.2.2.2.2.2.2.1
  exact lw_aload_n F a1 rfl (lw_iload_n F a2 rfl (lw_iconst F a3 ⟨by omega, by omega⟩ (lw_iadd (z := ((i + k : Nat) : Int)) F a4 (by omega) ⟨by omega, by omega⟩ (lw_sld F a5 rfl hi kk))))
theorem lw_callC {idx na nc : Nat} {Yc : sd_Y} {stk : List sd_V} {Q' : Option sd_V → sd_M → Prop} (zs : List Int) (F : sd_LF p s m meth c b L xs gC gM cells slots) (hd : sd_dc sd_sY pc (.invokevirtual idx) 3 pc') (hm : sd_mv R_law idx Yc na) (hc : Yc.1.cls = "SitDown") (hstk : stk = (zs.map Sum.inl).reverse ++ .inr 1 :: st) (hn : zs.length = na) (hdep : nc ≤ 100) (hst : st.length ≤ 8)
    (hC : sd_Ct sd_SC nc Yc (.inr 120 :: zs.map Sum.inl) mC Q') (kk : ∀ (r : Option sd_V) (m' : sd_M), Q' r m' → (∀ j, sd_R (m' j)) → sd_Lw p l e s m below meth c b gC gM cells slots pc' ls (r.toList ++ st) m' mM) (hres : ∀ (r : Option sd_V) (m' : sd_M), Q' r m' → ∀ v, r = some v → ∃ z : Int, v = .inl z) : sd_Lw p l e s m below meth c b gC gM cells slots pc ls stk mC mM := by
  intro H locs lc h1 h2 h3 h4 h5 h6 h7
  obtain ⟨hx, hb, hr, hml, hown, hts, hX, hbl, hlk, hL, hcs, hij, hap, hge, hK, hRO⟩ := id F
  obtain ⟨hdg, rfl⟩ := hd
  obtain ⟨m1, m2, m3, m4, m5, ⟨m6, m7, m8⟩, m9⟩ := hm
  subst hstk
  generalize has : (zs.map Sum.inl : List sd_V) = as at *
  have hint : ∀ v ∈ as, ∃ z : Int, v = .inl z := by
    intro v hv
    rw [← has] at hv
    obtain ⟨z, -, e⟩ := List.mem_map.mp hv
    exact ⟨z, e.symm⟩
  have hn : as.length = na := by rw [← has, List.length_map]; exact hn
  have hcvi : ∀ v : sd_V, (∃ z : Int, v = .inl z) → sd_cv (sd_gL b gC gM) v = sd_cv gC v := by
    rintro v ⟨z, rfl⟩
    rfl
  have hmap : as.map (sd_cv (sd_gL b gC gM)) = as.map (sd_cv gC) := List.map_congr_left (fun v hv => hcvi v (hint v hv))
  have hok1 : ∀ a ∈ (Sum.inr 120 : sd_V) :: as, sd_ok a := by
    intro a ha
    rcases List.mem_cons.mp ha with rfl | ha
    · trivial
    · exact h7 a (List.mem_append_left _ (List.mem_reverse.mpr ha))
  have hok2 : ∀ a ∈ st, sd_ok a := fun a ha => h7 a (List.mem_append_right _ (List.mem_cons_of_mem _ ha))
  have cw : CallW room_1 s #[Value.ref b] R_law Yc.1.cls idx Yc.1 Yc.2.1 Yc.2.2.1 Yc.2.2.2 (sd_wy Yc) (sd_rm nc) 0 0 na := by
    refine ⟨callB_of na hts (sd_goodIn m5) rfl rfl rfl (hts _ m4) (hts _ m1) ⟨m6, m7, m8⟩ ⟨?_, ?_⟩, hts _ m2, hts _ m3⟩
    · show nc + 1 ≤ 2048
      omega
    · show 8 + (Yc.2.2.1 + 11) + 64 * nc ≤ 84000
      omega
  have hrecv : ∃ cell : Cell, H[gC.1 120]? = some cell ∧ cell.vm.isStatics = false ∧ s.vm.findClass Yc.1.cls = some cell.cls := by
    rw [hc]
    exact va_recv (q := sd_cl[10]) hK.1 h1 rfl (sd_wsget sOC120)
  have hAsub : ∀ q, sd_A sd_SC gC q → s.heap.size ≤ q := by
    rintro q ⟨k, hk, rfl⟩
    exact hge.1 k hk
  have hpre : ∀ U : State, U.heap = H → s.WarmedH U.vm → sd_Pc sd_SC gC (.inr 120 :: as) mC (((.inr 120 : sd_V) :: as).map (sd_cv gC)).toArray U := by
    intro U hU hW
    exact ⟨rfl, hok1, h3, by rw [hU]; exact h1, hij.1, va_K.moved hW.alike hK.1, by rw [hU]; exact ((hRO.1.kept h5.2.1).warm hW).narrow hAsub⟩
  have hrun := va_runV (l := l) (e := e) (below := below) (meth := meth) (locs := locs) (cells := cells) (slots := slots) (As := as.map (sd_cv gC)) (rest := st.map (sd_cv (sd_gL b gC gM))) (g := F0 m pc lc ((as.reverse ++ .inr 1 :: st).map (sd_cv (sd_gL b gC gM)))) (b := gC.1 120) ⟨hx, hb, hml, hown, hts⟩ (hC nc (Nat.le_refl _) l gC) cw ⟨sd_blind, hrecv, hpre⟩ rfl (by rw [List.length_map]; exact hn) h6.1.1 (by
    show List.map _ _ = _
    rw [List.map_append, List.map_reverse, hmap]
    rfl) (lv_room (by rw [sd_catsum]; exact hst)) hdg ⟨hcs.1, hcs.2⟩
  intro T hT X
  obtain ⟨v, st₀, t, T', Lc, h0, X', hLc, e1, e2, ⟨⟨r, m', hv, hp, hok, hm', hb'⟩, hz, hk⟩, stp⟩ := hrun T hT X
  cases hv
  rw [h0] at hz hk
  have k2 := kk r m' hp hm'
  have w1 : va_P gC.2.1 sd_cl (sd_ws sd_SC gC m') T'.heap := by rw [e1]; exact hb'
  have w2 : va_P gM.2.1 sd_cl (sd_ws sd_SM gM _) T'.heap := sd_keptP h2 (fun i hi => by
    rw [e1]
    refine hk _ (sd_ltP h2 hi) ?_
    rintro ⟨k, hk, q⟩
    exact absurd q (fun q => hap k i hk hi q.symm))
  have w5 : va_S (fun q => s.heap.size ≤ q) s.heap T'.heap (locs ++ Lc) := ⟨Nat.le_trans h5.1 (by rw [e1]; exact hz), fun q a1 a2 => by rw [e1, hk q (Nat.lt_of_lt_of_le a1 h5.1) (fun z => a2 (hAsub q z))]; exact h5.2.1 q a1 a2, fun q hq => by
    rcases List.mem_append.mp hq with h | h
    · exact h5.2.2 q h
    · exact hAsub _ (hLc q h)⟩
  have k3 := k2 T'.heap (locs ++ Lc) lc w1 w2 hm' h4 w5 h6 (sd_resok hok hok2)
  have e3 : (r.toList ++ st).map (sd_cv (sd_gL b gC gM)) = (r.map (sd_cv gC)).toList ++ st.map (sd_cv (sd_gL b gC gM)) := by
    cases r with
    | none => rfl
    | some v => show _ :: _ = _ :: _; rw [hcvi v (hres _ _ hp v rfl)]; rfl
  rw [e3] at k3
  obtain ⟨t2, a1, b1⟩ := k3 T' rfl X'
  exact ⟨t2, stp t2 a1, b1⟩
theorem lw_callM {idx na nc : Nat} {Yc : sd_Y} {stk : List sd_V} {Q' : Option sd_V → sd_M → Prop} (zs : List Int) (F : sd_LF p s m meth c b L xs gC gM cells slots) (hd : sd_dc sd_sY pc (.invokevirtual idx) 3 pc') (hm : sd_mv R_law idx Yc na) (hc : Yc.1.cls = "SitDownModel") (hstk : stk = (zs.map Sum.inl).reverse ++ .inr 2 :: st) (hn : zs.length = na) (hdep : nc ≤ 100) (hst : st.length ≤ 8)
    (hC : sd_Ct sd_SM nc Yc (.inr 15 :: zs.map Sum.inl) mM Q') (kk : ∀ (r : Option sd_V) (m' : sd_M), Q' r m' → (∀ j, sd_R (m' j)) → sd_Lw p l e s m below meth c b gC gM cells slots pc' ls (r.toList ++ st) mC m') (hres : ∀ (r : Option sd_V) (m' : sd_M), Q' r m' → ∀ v, r = some v → ∃ z : Int, v = .inl z) : sd_Lw p l e s m below meth c b gC gM cells slots pc ls stk mC mM := by
  intro H locs lc h1 h2 h3 h4 h5 h6 h7
  obtain ⟨hx, hb, hr, hml, hown, hts, hX, hbl, hlk, hL, hcs, hij, hap, hge, hK, hRO⟩ := id F
  obtain ⟨hdg, rfl⟩ := hd
  obtain ⟨m1, m2, m3, m4, m5, ⟨m6, m7, m8⟩, m9⟩ := hm
  subst hstk
  generalize has : (zs.map Sum.inl : List sd_V) = as at *
  have hint : ∀ v ∈ as, ∃ z : Int, v = .inl z := by
    intro v hv
    rw [← has] at hv
    obtain ⟨z, -, e⟩ := List.mem_map.mp hv
    exact ⟨z, e.symm⟩
  have hn : as.length = na := by rw [← has, List.length_map]; exact hn
  have hcvi : ∀ v : sd_V, (∃ z : Int, v = .inl z) → sd_cv (sd_gL b gC gM) v = sd_cv gM v := by
    rintro v ⟨z, rfl⟩
    rfl
  have hmap : as.map (sd_cv (sd_gL b gC gM)) = as.map (sd_cv gM) := List.map_congr_left (fun v hv => hcvi v (hint v hv))
  have hok1 : ∀ a ∈ (Sum.inr 15 : sd_V) :: as, sd_ok a := by
    intro a ha
    rcases List.mem_cons.mp ha with rfl | ha
    · trivial
    · exact h7 a (List.mem_append_left _ (List.mem_reverse.mpr ha))
  have hok2 : ∀ a ∈ st, sd_ok a := fun a ha => h7 a (List.mem_append_right _ (List.mem_cons_of_mem _ ha))
  have cw : CallW room_1 s #[Value.ref b] R_law Yc.1.cls idx Yc.1 Yc.2.1 Yc.2.2.1 Yc.2.2.2 (sd_wy Yc) (sd_rm nc) 0 0 na := by
    refine ⟨callB_of na hts (sd_goodIn m5) rfl rfl rfl (hts _ m4) (hts _ m1) ⟨m6, m7, m8⟩ ⟨?_, ?_⟩, hts _ m2, hts _ m3⟩
    · show nc + 1 ≤ 2048
      omega
    · show 8 + (Yc.2.2.1 + 11) + 64 * nc ≤ 84000
      omega
  have hrecv : ∃ cell : Cell, H[gM.1 15]? = some cell ∧ cell.vm.isStatics = false ∧ s.vm.findClass Yc.1.cls = some cell.cls := by
    rw [hc]
    exact va_recv (q := sd_cl[11]) hK.2 h2 rfl (sd_wsget sOM15)
  have hAsub : ∀ q, sd_A sd_SM gM q → s.heap.size ≤ q := by
    rintro q ⟨k, hk, rfl⟩
    exact hge.2 k hk
  have hpre : ∀ U : State, U.heap = H → s.WarmedH U.vm → sd_Pc sd_SM gM (.inr 15 :: as) mM (((.inr 15 : sd_V) :: as).map (sd_cv gM)).toArray U := by
    intro U hU hW
    exact ⟨rfl, hok1, h4, by rw [hU]; exact h2, hij.2, va_K.moved hW.alike hK.2, by rw [hU]; exact ((hRO.2.kept h5.2.1).warm hW).narrow hAsub⟩
  have hrun := va_runV (l := l) (e := e) (below := below) (meth := meth) (locs := locs) (cells := cells) (slots := slots) (As := as.map (sd_cv gM)) (rest := st.map (sd_cv (sd_gL b gC gM))) (g := F0 m pc lc ((as.reverse ++ .inr 2 :: st).map (sd_cv (sd_gL b gC gM)))) (b := gM.1 15) ⟨hx, hb, hml, hown, hts⟩ (hC nc (Nat.le_refl _) l gM) cw ⟨sd_blind, hrecv, hpre⟩ rfl (by rw [List.length_map]; exact hn) h6.1.1 (by
    show List.map _ _ = _
    rw [List.map_append, List.map_reverse, hmap]
    rfl) (lv_room (by rw [sd_catsum]; exact hst)) hdg ⟨hcs.1, hcs.2⟩
  intro T hT X
  obtain ⟨v, st₀, t, T', Lc, h0, X', hLc, e1, e2, ⟨⟨r, m', hv, hp, hok, hm', hb'⟩, hz, hk⟩, stp⟩ := hrun T hT X
  cases hv
  rw [h0] at hz hk
  have k2 := kk r m' hp hm'
  have w1 : va_P gM.2.1 sd_cl (sd_ws sd_SM gM m') T'.heap := by rw [e1]; exact hb'
  have w2 : va_P gC.2.1 sd_cl (sd_ws sd_SC gC _) T'.heap := sd_keptP h1 (fun i hi => by
    rw [e1]
    refine hk _ (sd_ltP h1 hi) ?_
    rintro ⟨k, hk, q⟩
    exact absurd q (fun q => hap i k hi hk q))
  have w5 : va_S (fun q => s.heap.size ≤ q) s.heap T'.heap (locs ++ Lc) := ⟨Nat.le_trans h5.1 (by rw [e1]; exact hz), fun q a1 a2 => by rw [e1, hk q (Nat.lt_of_lt_of_le a1 h5.1) (fun z => a2 (hAsub q z))]; exact h5.2.1 q a1 a2, fun q hq => by
    rcases List.mem_append.mp hq with h | h
    · exact h5.2.2 q h
    · exact hAsub _ (hLc q h)⟩
  have k3 := k2 T'.heap (locs ++ Lc) lc w2 w1 h3 hm' w5 h6 (sd_resok hok hok2)
  have e3 : (r.toList ++ st).map (sd_cv (sd_gL b gC gM)) = (r.map (sd_cv gM)).toList ++ st.map (sd_cv (sd_gL b gC gM)) := by
    cases r with
    | none => rfl
    | some v => show _ :: _ = _ :: _; rw [hcvi v (hres _ _ hp v rfl)]; rfl
  rw [e3] at k3
  obtain ⟨t2, a1, b1⟩ := k3 T' rfl X'
  exact ⟨t2, stp t2 a1, b1⟩
theorem lw_fin {N : Nat} {X : sd_M} (F : sd_LF p s m meth c b L xs gC gM cells slots) (hI : sd_Inv N X) (eC : ∀ j, sd_oC j → mC j = X j) (eM : ∀ j, sd_oM j → mM j = X j) (hR : ∀ j, (j < 5000 ∨ 6000 ≤ j) → sd_R (X j)) (kk : ∀ x' mC' mM', sd_At N x' mC' mM' → sd_Lw p l e s m below meth c b gC gM cells slots pc ls st mC' mM') : sd_Lw p l e s m below meth c b gC gM cells slots pc ls st mC mM := by
  intro H locs lc h1 h2 h3 h4 h5 h6 h7
  rw [sd_wsC eC] at h1
  rw [sd_wsM eM] at h2
  exact kk X _ _ ⟨hI, sd_xm_ns _ _, sd_xm_ns _ _⟩ H locs lc h1 h2 (sd_xmR hR h3) (sd_xmR hR h4) h5 h6 h7
theorem lw_R (kk : (∀ j, sd_R (mC j)) → sd_Lw p l e s m below meth c b gC gM cells slots pc ls st mC mM) : sd_Lw p l e s m below meth c b gC gM cells slots pc ls st mC mM := fun H locs lc h1 h2 h3 h4 h5 h6 h7 => kk h3 H locs lc h1 h2 h3 h4 h5 h6 h7
theorem lw_ret1 (F : sd_LF p s m meth c b L xs gC gM cells slots) (hd : sd_dc sd_sY pc .ireturn 1 pc') : sd_Lw p l e s m below meth c b gC gM cells slots pc ls [.inl 1] mC mM := by
  intro H locs lc h1 h2 h3 h4 h5 h6 h7
  obtain ⟨hx, hb, hr, hml, hown, hts, hX, hbl, hlk, hL, hcs, hij, hap, hge, hK, hRO⟩ := id F
  obtain ⟨hdg, rfl⟩ := hd
  refine va_forget h5.2.2 (W.widen hcs.1 hcs.2 ?_)
  exact lw_ret hx hb hr hlk hdg
end LawRows
