set_option maxRecDepth 100000 in
set_option maxHeartbeats 8000000 in
theorem cM_rdStep (fr : Int) (B : Nat → Int) (n : Nat) (x : sd_M) (hB : sd_RB x fr B n) (hL : sd_LT x) (f : Nat → Int) (w pl mn : Int) (m0 : sd_M) (Q : Option sd_V → sd_M → Prop) (k c : Nat) (hck : c + 1 + k = 5) (ih : 0 < k → ∀ (g b : Int) (m : sd_M) (p : Nat), sd_ns x m → sd_RS m fr n p (-1) → p ≤ n → sd_k6 m0 m → (∀ i, i < 4 → m (5504 + i) = f i) → m 5510 = g → m 5511 = b → -1 ≤ g → (∀ r m', sd_rdP f w B n k (c + 1) p g b m0 r m' → Q r m') → sd_Wp sd_SM 4 sY11_reads 31 [some (.inr 15), some (.inl pl), some (.inl mn), some (.inl w), some (.inl 1), some (.inl (((c + 1) : Nat) : Int)), none, none, none, none, none, none, none] [] m Q) (g b : Int) (m : sd_M) (p : Nat) (hx : sd_ns x m) (hS : sd_RS m fr n p (-1)) (hp100 : p ≤ n) (hK6 : sd_k6 m0 m) (hf : ∀ i, i < 4 → m (5504 + i) = f i) (hg : m 5510 = g) (hgb : m 5511 = b) (hgr : -1 ≤ g) (hQ : ∀ r m', sd_rdP f w B n (k + 1) c p g b m0 r m' → Q r m') : sd_Wp sd_SM 4 sY11_reads 31 [some (.inr 15), some (.inl pl), some (.inl mn), some (.inl w), some (.inl 1), some (.inl (c : Int)), none, none, none, none, none, none, none] [] m Q := by
  have hn1 := hB.1
  refine sd_iload sD11_reads_31 rfl ?_
  refine sd_iconst sD11_reads_33 (by decide) ?_
  refine sd_icmp_ge (tgt := 298) sD11_reads_34 (by decide) (fun zc34 => (by exfalso; omega)) (fun zc34 => ?_)
  refine sd_iload sD11_reads_37 rfl ?_
  refine sd_if_eq (tgt := 298) sD11_reads_39 (by decide) (fun zc39 => (by exfalso; omega)) (fun zc39 => ?_)
  refine sd_aload_n sD11_reads_42 rfl ?_
  refine sd_iconst sD11_reads_43 (by decide) ?_
  refine sd_iconst sD11_reads_44 (by decide) ?_
  refine sd_callV (as := [.inl 0, .inl 1]) (st := []) sD11_reads_45 sM11_173 rfl rfl sOM15 rfl (by decide) (Nat.le_of_ble_eq_true rfl) (cM_wordA fr B n p _ m hx hB hS (by omega) hL) (fun r m hq ho45 hm => ?_)
  obtain ⟨hk45_1, hq45_1⟩ := hq
  replace hx := hk45_1.ns hx
  replace hK6 := hK6.k2 hk45_1
  replace hf : ∀ i, i < 4 → m (5504 + i) = f i := fun i hi => (hk45_1 _ (by omega) (by omega)).trans (hf i hi)
  replace hg := (hk45_1 5510 (by decide) (by decide)).trans hg
  replace hgb := (hk45_1 5511 (by decide) (by decide)).trans hgb
  rcases hq45_1 with ⟨q45_1, hz45_1, rfl, hS, hn45_1⟩ | ⟨j45_1, q45_1, hz45_1, rfl, hS, hn45_1, hj45_1⟩
  ·
    show sd_Wp sd_SM 4 sY11_reads 48 [some (.inr 15), some (.inl pl), some (.inl mn), some (.inl w), some (.inl 1), some (.inl (c : Int)), none, none, none, none, none, none, none] [.inl (-1)] m _
    refine sd_iconst sD11_reads_48 (by decide) ?_
    refine sd_icmp_ne (tgt := 56) sD11_reads_49 (by decide) (fun zc49 => ?_) (fun zc49 => (by exfalso; omega))
    refine sd_iconst sD11_reads_56 (by decide) ?_
    refine sd_istore (ls' := [some (.inr 15), some (.inl pl), some (.inl mn), some (.inl w), some (.inl 1), some (.inl (c : Int)), some (.inl 0), none, none, none, none, none, none]) sD11_reads_57 (by decide) rfl ?_
    refine sd_aload_n sD11_reads_59 rfl ?_
    refine sd_bipush sD11_reads_60 rfl (by decide) ?_
    refine sd_callV (as := [.inl 32]) (st := []) sD11_reads_62 sM11_170 rfl rfl sOM15 rfl (by decide) (Nat.le_of_ble_eq_true rfl) (cM_byteIs0 32 fr n q45_1 q45_1 _ m hx hS) (fun r m hq ho62 hm => ?_)
    obtain ⟨rfl, hk62_2, hS⟩ := hq
    replace hx := hk62_2.ns hx
    replace hK6 := hK6.k2 hk62_2
    replace hf : ∀ i, i < 4 → m (5504 + i) = f i := fun i hi => (hk62_2 _ (by omega) (by omega)).trans (hf i hi)
    replace hg := (hk62_2 5510 (by decide) (by decide)).trans hg
    replace hgb := (hk62_2 5511 (by decide) (by decide)).trans hgb
    rcases (⟨trivial⟩ : Nonempty True) with hy62_2
    ·
      show sd_Wp sd_SM 4 sY11_reads 65 [some (.inr 15), some (.inl pl), some (.inl mn), some (.inl w), some (.inl 1), some (.inl (c : Int)), some (.inl 0), none, none, none, none, none, none] [] m _
      refine sd_aload_n sD11_reads_65 rfl ?_
      refine sd_iconst sD11_reads_66 (by decide) ?_
      refine sd_iconst sD11_reads_67 (by decide) ?_
      refine sd_callV (as := [.inl 2, .inl 5]) (st := []) sD11_reads_68 sM11_173 rfl rfl sOM15 rfl (by decide) (Nat.le_of_ble_eq_true rfl) (cM_wordB0 fr B n q45_1 q45_1 _ m hx hB hS hL) (fun r m hq ho68 hm => ?_)
      obtain ⟨rfl, hk68_3, hS⟩ := hq
      replace hx := hk68_3.ns hx
      replace hK6 := hK6.k2 hk68_3
      replace hf : ∀ i, i < 4 → m (5504 + i) = f i := fun i hi => (hk68_3 _ (by omega) (by omega)).trans (hf i hi)
      replace hg := (hk68_3 5510 (by decide) (by decide)).trans hg
      replace hgb := (hk68_3 5511 (by decide) (by decide)).trans hgb
      rcases (⟨trivial⟩ : Nonempty True) with hy68_3
      ·
        show sd_Wp sd_SM 4 sY11_reads 71 [some (.inr 15), some (.inl pl), some (.inl mn), some (.inl w), some (.inl 1), some (.inl (c : Int)), some (.inl 0), none, none, none, none, none, none] [.inl (-1)] m _
        refine sd_istore (ls' := [some (.inr 15), some (.inl pl), some (.inl mn), some (.inl w), some (.inl 1), some (.inl (c : Int)), some (.inl 0), some (.inl (-1)), none, none, none, none, none]) sD11_reads_71 (by decide) rfl ?_
        refine sd_iconst sD11_reads_73 (by decide) ?_
        refine sd_istore (ls' := [some (.inr 15), some (.inl pl), some (.inl mn), some (.inl w), some (.inl 1), some (.inl (c : Int)), some (.inl 0), some (.inl (-1)), some (.inl 1), none, none, none, none]) sD11_reads_74 (by decide) rfl ?_
        refine sd_aload_n sD11_reads_76 rfl ?_
        refine sd_callVp (as := []) (st := []) (v := .inl 0) sD11_reads_77 sM11_160 sOM15 rfl rfl rfl (by decide) (Nat.le_of_ble_eq_true rfl) (cM_isGood0 fr n q45_1 q45_1 _ m hx hS) (fun ho77 => ?_)
        refine sd_if_eq (tgt := 205) sD11_reads_80 (by decide) (fun zc80 => ?_) (fun zc80 => (by exfalso; omega))
        refine sd_aload_n sD11_reads_205 rfl ?_
        refine sd_callVp (as := []) (st := []) (v := .inl 0) sD11_reads_206 sM11_160 sOM15 rfl rfl rfl (by decide) (Nat.le_of_ble_eq_true rfl) (cM_isGood0 fr n q45_1 q45_1 _ m hx hS) (fun ho206 => ?_)
        refine sd_if_eq (tgt := 244) sD11_reads_209 (by decide) (fun zc209 => ?_) (fun zc209 => (by exfalso; omega))
        refine sd_iload sD11_reads_244 rfl ?_
        refine sd_iconst sD11_reads_246 (by decide) ?_
        refine sd_icmp_ge (tgt := 270) sD11_reads_247 (by decide) (fun zc247 => ?_) (fun zc247 => ?_)
        ·
          refine sd_iconst sD11_reads_270 (by decide) ?_
          refine sd_istore (ls' := [some (.inr 15), some (.inl pl), some (.inl mn), some (.inl w), some (.inl 0), some (.inl (c : Int)), some (.inl 0), some (.inl (-1)), some (.inl 1), none, none, none, none]) sD11_reads_271 (by decide) rfl ?_
          refine sd_aload_n sD11_reads_273 rfl ?_
          refine sd_dup sD11_reads_274 ?_
          refine sd_getfi sD11_reads_275 sF11_147 sGM15_12 ?_
          rw [show m 5492 = (q45_1 : Int) from hS.2.2.1]
          refine sd_iload sD11_reads_278 rfl ?_
          refine sd_if_eq (tgt := 287) sD11_reads_280 (by decide) (fun zc280 => ?_) (fun zc280 => (by exfalso; omega))
          refine sd_iconst sD11_reads_287 (by decide) ?_
          refine sd_iadd (z := (q45_1 : Int)) sD11_reads_288 (by omega) (by omega) ?_
          refine sd_putfc sd_sokM sd_oneM hx sD11_reads_289 sF11_147 sGM15_12 (by decide) (Or.inl rfl) (fun m hx em289 => ?_)
          have hk289x := sd_k2.up em289 (Or.inl rfl)
          replace hK6 := hK6.k2 hk289x
          replace hf : ∀ i, i < 4 → m (5504 + i) = f i := fun i hi => (hk289x _ (by omega) (by omega)).trans (hf i hi)
          replace hg := (hk289x 5510 (by decide) (by decide)).trans hg
          replace hgb := (hk289x 5511 (by decide) (by decide)).trans hgb
          replace hS : sd_RS m fr n q45_1 (q45_1 : Int) := ⟨by rw [em289, sd_up_ne (by decide)]; exact hS.1, by rw [em289, sd_up_ne (by decide)]; exact hS.2.1, by rw [em289, sd_up_eq]; (try omega), by rw [em289, sd_up_ne (by decide)]; exact hS.2.2.2⟩
          refine sd_iinc (y := ((c : Int) + 1)) (ls' := [some (.inr 15), some (.inl pl), some (.inl mn), some (.inl w), some (.inl 0), some (.inl ((c : Int) + 1)), some (.inl 0), some (.inl (-1)), some (.inl 1), none, none, none, none]) sD11_reads_292 rfl (by omega) (by omega) (by decide) rfl ?_
          refine sd_goto (tgt := 31) sD11_reads_295 (by decide) ?_
          refine sd_iload sD11_reads_31 rfl ?_
          refine sd_iconst sD11_reads_33 (by decide) ?_
          refine sd_icmp_ge (tgt := 298) sD11_reads_34 (by decide) (fun zc34 => ?_) (fun zc34 => ?_)
          ·
            refine sd_aload_n sD11_reads_298 rfl ?_
            refine sd_getfi sD11_reads_299 sF11_147 sGM15_12 ?_
            rw [show m 5492 = (q45_1 : Int) from hS.2.2.1]
            refine sd_aload_n sD11_reads_302 rfl ?_
            refine sd_getfi sD11_reads_303 sF11_151 sGM15_11 ?_
            rw [show m 5491 = (n : Int) from hS.2.1]
            refine sd_icmp_ge (tgt := 313) sD11_reads_306 (by decide) (fun zc306 => ?_) (fun zc306 => ?_)
            ·
              refine sd_vreturn sD11_reads_313 rfl (fun hm => hQ _ _ ⟨rfl, hK6, ?_⟩)
              exact Or.inl ⟨q45_1, by simp only [sd_txt, sd_cls, sd_wd, hz45_1], hS.2.2.2⟩
            ·
              refine sd_aload_n sD11_reads_309 rfl ?_
              refine sd_callV (as := []) (st := []) sD11_reads_310 sM11_167 rfl rfl sOM15 rfl (by decide) (Nat.le_of_ble_eq_true rfl) (cM_wrong0 fr n q45_1 q45_1 _ m hx hS) (fun r m hq ho310 hm => ?_)
              obtain ⟨rfl, hk310_4, hS⟩ := hq
              replace hx := hk310_4.ns hx
              replace hK6 := hK6.k2 hk310_4
              replace hf : ∀ i, i < 4 → m (5504 + i) = f i := fun i hi => (hk310_4 _ (by omega) (by omega)).trans (hf i hi)
              replace hg := (hk310_4 5510 (by decide) (by decide)).trans hg
              replace hgb := (hk310_4 5511 (by decide) (by decide)).trans hgb
              rcases (⟨trivial⟩ : Nonempty True) with hy310_4
              ·
                show sd_Wp sd_SM 4 sY11_reads 313 [some (.inr 15), some (.inl pl), some (.inl mn), some (.inl w), some (.inl 0), some (.inl ((c : Int) + 1)), some (.inl 0), some (.inl (-1)), some (.inl 1), none, none, none, none] [] m _
                refine sd_vreturn sD11_reads_313 rfl (fun hm => hQ _ _ ⟨rfl, hK6, ?_⟩)
                exact Or.inl ⟨q45_1, by simp only [sd_txt, sd_cls, sd_wd, hz45_1], hS.2.2.2⟩
          ·
            refine sd_iload sD11_reads_37 rfl ?_
            refine sd_if_eq (tgt := 298) sD11_reads_39 (by decide) (fun zc39 => ?_) (fun zc39 => (by exfalso; omega))
            refine sd_aload_n sD11_reads_298 rfl ?_
            refine sd_getfi sD11_reads_299 sF11_147 sGM15_12 ?_
            rw [show m 5492 = (q45_1 : Int) from hS.2.2.1]
            refine sd_aload_n sD11_reads_302 rfl ?_
            refine sd_getfi sD11_reads_303 sF11_151 sGM15_11 ?_
            rw [show m 5491 = (n : Int) from hS.2.1]
            refine sd_icmp_ge (tgt := 313) sD11_reads_306 (by decide) (fun zc306 => ?_) (fun zc306 => ?_)
            ·
              refine sd_vreturn sD11_reads_313 rfl (fun hm => hQ _ _ ⟨rfl, hK6, ?_⟩)
              exact Or.inl ⟨q45_1, by simp only [sd_txt, sd_cls, sd_wd, hz45_1], hS.2.2.2⟩
            ·
              refine sd_aload_n sD11_reads_309 rfl ?_
              refine sd_callV (as := []) (st := []) sD11_reads_310 sM11_167 rfl rfl sOM15 rfl (by decide) (Nat.le_of_ble_eq_true rfl) (cM_wrong0 fr n q45_1 q45_1 _ m hx hS) (fun r m hq ho310 hm => ?_)
              obtain ⟨rfl, hk310_5, hS⟩ := hq
              replace hx := hk310_5.ns hx
              replace hK6 := hK6.k2 hk310_5
              replace hf : ∀ i, i < 4 → m (5504 + i) = f i := fun i hi => (hk310_5 _ (by omega) (by omega)).trans (hf i hi)
              replace hg := (hk310_5 5510 (by decide) (by decide)).trans hg
              replace hgb := (hk310_5 5511 (by decide) (by decide)).trans hgb
              rcases (⟨trivial⟩ : Nonempty True) with hy310_5
              ·
                show sd_Wp sd_SM 4 sY11_reads 313 [some (.inr 15), some (.inl pl), some (.inl mn), some (.inl w), some (.inl 0), some (.inl ((c : Int) + 1)), some (.inl 0), some (.inl (-1)), some (.inl 1), none, none, none, none] [] m _
                refine sd_vreturn sD11_reads_313 rfl (fun hm => hQ _ _ ⟨rfl, hK6, ?_⟩)
                exact Or.inl ⟨q45_1, by simp only [sd_txt, sd_cls, sd_wd, hz45_1], hS.2.2.2⟩
        ·
          refine sd_aload_n sD11_reads_250 rfl ?_
          refine sd_callVp (as := []) (st := []) (v := .inl 0) sD11_reads_251 sM11_160 sOM15 rfl rfl rfl (by decide) (Nat.le_of_ble_eq_true rfl) (cM_isGood0 fr n q45_1 q45_1 _ m hx hS) (fun ho251 => ?_)
          refine sd_if_eq (tgt := 270) sD11_reads_254 (by decide) (fun zc254 => ?_) (fun zc254 => (by exfalso; omega))
          refine sd_iconst sD11_reads_270 (by decide) ?_
          refine sd_istore (ls' := [some (.inr 15), some (.inl pl), some (.inl mn), some (.inl w), some (.inl 0), some (.inl (c : Int)), some (.inl 0), some (.inl (-1)), some (.inl 1), none, none, none, none]) sD11_reads_271 (by decide) rfl ?_
          refine sd_aload_n sD11_reads_273 rfl ?_
          refine sd_dup sD11_reads_274 ?_
          refine sd_getfi sD11_reads_275 sF11_147 sGM15_12 ?_
          rw [show m 5492 = (q45_1 : Int) from hS.2.2.1]
          refine sd_iload sD11_reads_278 rfl ?_
          refine sd_if_eq (tgt := 287) sD11_reads_280 (by decide) (fun zc280 => ?_) (fun zc280 => (by exfalso; omega))
          refine sd_iconst sD11_reads_287 (by decide) ?_
          refine sd_iadd (z := (q45_1 : Int)) sD11_reads_288 (by omega) (by omega) ?_
          refine sd_putfc sd_sokM sd_oneM hx sD11_reads_289 sF11_147 sGM15_12 (by decide) (Or.inl rfl) (fun m hx em289 => ?_)
          have hk289x := sd_k2.up em289 (Or.inl rfl)
          replace hK6 := hK6.k2 hk289x
          replace hf : ∀ i, i < 4 → m (5504 + i) = f i := fun i hi => (hk289x _ (by omega) (by omega)).trans (hf i hi)
          replace hg := (hk289x 5510 (by decide) (by decide)).trans hg
          replace hgb := (hk289x 5511 (by decide) (by decide)).trans hgb
          replace hS : sd_RS m fr n q45_1 (q45_1 : Int) := ⟨by rw [em289, sd_up_ne (by decide)]; exact hS.1, by rw [em289, sd_up_ne (by decide)]; exact hS.2.1, by rw [em289, sd_up_eq]; (try omega), by rw [em289, sd_up_ne (by decide)]; exact hS.2.2.2⟩
          refine sd_iinc (y := ((c : Int) + 1)) (ls' := [some (.inr 15), some (.inl pl), some (.inl mn), some (.inl w), some (.inl 0), some (.inl ((c : Int) + 1)), some (.inl 0), some (.inl (-1)), some (.inl 1), none, none, none, none]) sD11_reads_292 rfl (by omega) (by omega) (by decide) rfl ?_
          refine sd_goto (tgt := 31) sD11_reads_295 (by decide) ?_
          refine sd_iload sD11_reads_31 rfl ?_
          refine sd_iconst sD11_reads_33 (by decide) ?_
          refine sd_icmp_ge (tgt := 298) sD11_reads_34 (by decide) (fun zc34 => ?_) (fun zc34 => ?_)
          ·
            refine sd_aload_n sD11_reads_298 rfl ?_
            refine sd_getfi sD11_reads_299 sF11_147 sGM15_12 ?_
            rw [show m 5492 = (q45_1 : Int) from hS.2.2.1]
            refine sd_aload_n sD11_reads_302 rfl ?_
            refine sd_getfi sD11_reads_303 sF11_151 sGM15_11 ?_
            rw [show m 5491 = (n : Int) from hS.2.1]
            refine sd_icmp_ge (tgt := 313) sD11_reads_306 (by decide) (fun zc306 => ?_) (fun zc306 => ?_)
            ·
              refine sd_vreturn sD11_reads_313 rfl (fun hm => hQ _ _ ⟨rfl, hK6, ?_⟩)
              exact Or.inl ⟨q45_1, by simp only [sd_txt, sd_cls, sd_wd, hz45_1], hS.2.2.2⟩
            ·
              refine sd_aload_n sD11_reads_309 rfl ?_
              refine sd_callV (as := []) (st := []) sD11_reads_310 sM11_167 rfl rfl sOM15 rfl (by decide) (Nat.le_of_ble_eq_true rfl) (cM_wrong0 fr n q45_1 q45_1 _ m hx hS) (fun r m hq ho310 hm => ?_)
              obtain ⟨rfl, hk310_6, hS⟩ := hq
              replace hx := hk310_6.ns hx
              replace hK6 := hK6.k2 hk310_6
              replace hf : ∀ i, i < 4 → m (5504 + i) = f i := fun i hi => (hk310_6 _ (by omega) (by omega)).trans (hf i hi)
              replace hg := (hk310_6 5510 (by decide) (by decide)).trans hg
              replace hgb := (hk310_6 5511 (by decide) (by decide)).trans hgb
              rcases (⟨trivial⟩ : Nonempty True) with hy310_6
              ·
                show sd_Wp sd_SM 4 sY11_reads 313 [some (.inr 15), some (.inl pl), some (.inl mn), some (.inl w), some (.inl 0), some (.inl ((c : Int) + 1)), some (.inl 0), some (.inl (-1)), some (.inl 1), none, none, none, none] [] m _
                refine sd_vreturn sD11_reads_313 rfl (fun hm => hQ _ _ ⟨rfl, hK6, ?_⟩)
                exact Or.inl ⟨q45_1, by simp only [sd_txt, sd_cls, sd_wd, hz45_1], hS.2.2.2⟩
          ·
            refine sd_iload sD11_reads_37 rfl ?_
            refine sd_if_eq (tgt := 298) sD11_reads_39 (by decide) (fun zc39 => ?_) (fun zc39 => (by exfalso; omega))
            refine sd_aload_n sD11_reads_298 rfl ?_
            refine sd_getfi sD11_reads_299 sF11_147 sGM15_12 ?_
            rw [show m 5492 = (q45_1 : Int) from hS.2.2.1]
            refine sd_aload_n sD11_reads_302 rfl ?_
            refine sd_getfi sD11_reads_303 sF11_151 sGM15_11 ?_
            rw [show m 5491 = (n : Int) from hS.2.1]
            refine sd_icmp_ge (tgt := 313) sD11_reads_306 (by decide) (fun zc306 => ?_) (fun zc306 => ?_)
            ·
              refine sd_vreturn sD11_reads_313 rfl (fun hm => hQ _ _ ⟨rfl, hK6, ?_⟩)
              exact Or.inl ⟨q45_1, by simp only [sd_txt, sd_cls, sd_wd, hz45_1], hS.2.2.2⟩
            ·
              refine sd_aload_n sD11_reads_309 rfl ?_
              refine sd_callV (as := []) (st := []) sD11_reads_310 sM11_167 rfl rfl sOM15 rfl (by decide) (Nat.le_of_ble_eq_true rfl) (cM_wrong0 fr n q45_1 q45_1 _ m hx hS) (fun r m hq ho310 hm => ?_)
              obtain ⟨rfl, hk310_7, hS⟩ := hq
              replace hx := hk310_7.ns hx
              replace hK6 := hK6.k2 hk310_7
              replace hf : ∀ i, i < 4 → m (5504 + i) = f i := fun i hi => (hk310_7 _ (by omega) (by omega)).trans (hf i hi)
              replace hg := (hk310_7 5510 (by decide) (by decide)).trans hg
              replace hgb := (hk310_7 5511 (by decide) (by decide)).trans hgb
              rcases (⟨trivial⟩ : Nonempty True) with hy310_7
              ·
                show sd_Wp sd_SM 4 sY11_reads 313 [some (.inr 15), some (.inl pl), some (.inl mn), some (.inl w), some (.inl 0), some (.inl ((c : Int) + 1)), some (.inl 0), some (.inl (-1)), some (.inl 1), none, none, none, none] [] m _
                refine sd_vreturn sD11_reads_313 rfl (fun hm => hQ _ _ ⟨rfl, hK6, ?_⟩)
                exact Or.inl ⟨q45_1, by simp only [sd_txt, sd_cls, sd_wd, hz45_1], hS.2.2.2⟩
  ·
    show sd_Wp sd_SM 4 sY11_reads 48 [some (.inr 15), some (.inl pl), some (.inl mn), some (.inl w), some (.inl 1), some (.inl (c : Int)), none, none, none, none, none, none, none] [.inl (0 + (j45_1 : Int))] m _
    refine sd_iconst sD11_reads_48 (by decide) ?_
    refine sd_cut (J := 57) (ls := [some (.inr 15), some (.inl pl), some (.inl mn), some (.inl w), some (.inl 1), some (.inl (c : Int)), none, none, none, none, none, none, none]) (st := []) (fun zv => zv = (sd_b ((0 + (j45_1 : Int)) = 1))) (fun zv hzv => ?_) (fun K49 => ?_)
    ·
      subst hzv
      refine sd_istore (ls' := [some (.inr 15), some (.inl pl), some (.inl mn), some (.inl w), some (.inl 1), some (.inl (c : Int)), some (.inl (sd_b ((0 + (j45_1 : Int)) = 1))), none, none, none, none, none, none]) sD11_reads_57 (by decide) rfl ?_
      have hja := sd_roA_j2 hz45_1
      refine sd_aload_n sD11_reads_59 rfl ?_
      refine sd_bipush sD11_reads_60 rfl (by decide) ?_
      refine sd_callV (as := [.inl 32]) (st := []) sD11_reads_62 sM11_170 rfl rfl sOM15 rfl (by decide) (Nat.le_of_ble_eq_true rfl) (cM_byteIs1 32 (by decide) fr B n q45_1 _ m hx hB hS (by omega)) (fun r m hq ho62 hm => ?_)
      obtain ⟨rfl, hk62_8, hq62_8⟩ := hq
      replace hx := hk62_8.ns hx
      replace hK6 := hK6.k2 hk62_8
      replace hf : ∀ i, i < 4 → m (5504 + i) = f i := fun i hi => (hk62_8 _ (by omega) (by omega)).trans (hf i hi)
      replace hg := (hk62_8 5510 (by decide) (by decide)).trans hg
      replace hgb := (hk62_8 5511 (by decide) (by decide)).trans hgb
      rcases hq62_8 with ⟨hb62_8, hS⟩ | ⟨hb62_8, hS⟩
      ·
        have hn62_8 := hB.in (p := q45_1) (by omega)
        show sd_Wp sd_SM 4 sY11_reads 65 [some (.inr 15), some (.inl pl), some (.inl mn), some (.inl w), some (.inl 1), some (.inl (c : Int)), some (.inl (sd_b ((0 + (j45_1 : Int)) = 1))), none, none, none, none, none, none] [] m _
        refine sd_aload_n sD11_reads_65 rfl ?_
        refine sd_iconst sD11_reads_66 (by decide) ?_
        refine sd_iconst sD11_reads_67 (by decide) ?_
        refine sd_callV (as := [.inl 2, .inl 5]) (st := []) sD11_reads_68 sM11_173 rfl rfl sOM15 rfl (by decide) (Nat.le_of_ble_eq_true rfl) (cM_wordB fr B n (q45_1 + 1) _ m hx hB hS (by omega) hL) (fun r m hq ho68 hm => ?_)
        obtain ⟨hk68_9, hq68_9⟩ := hq
        replace hx := hk68_9.ns hx
        replace hK6 := hK6.k2 hk68_9
        replace hf : ∀ i, i < 4 → m (5504 + i) = f i := fun i hi => (hk68_9 _ (by omega) (by omega)).trans (hf i hi)
        replace hg := (hk68_9 5510 (by decide) (by decide)).trans hg
        replace hgb := (hk68_9 5511 (by decide) (by decide)).trans hgb
        rcases hq68_9 with ⟨q68_9, hz68_9, rfl, hS, hn68_9⟩ | ⟨j68_9, q68_9, hz68_9, rfl, hS, hn68_9, hj68_9⟩
        ·
          show sd_Wp sd_SM 4 sY11_reads 71 [some (.inr 15), some (.inl pl), some (.inl mn), some (.inl w), some (.inl 1), some (.inl (c : Int)), some (.inl (sd_b ((0 + (j45_1 : Int)) = 1))), none, none, none, none, none, none] [.inl (-1)] m _
          refine sd_istore (ls' := [some (.inr 15), some (.inl pl), some (.inl mn), some (.inl w), some (.inl 1), some (.inl (c : Int)), some (.inl (sd_b ((0 + (j45_1 : Int)) = 1))), some (.inl (-1)), none, none, none, none, none]) sD11_reads_71 (by decide) rfl ?_
          refine sd_iconst sD11_reads_73 (by decide) ?_
          refine sd_istore (ls' := [some (.inr 15), some (.inl pl), some (.inl mn), some (.inl w), some (.inl 1), some (.inl (c : Int)), some (.inl (sd_b ((0 + (j45_1 : Int)) = 1))), some (.inl (-1)), some (.inl 1), none, none, none, none]) sD11_reads_74 (by decide) rfl ?_
          refine sd_aload_n sD11_reads_76 rfl ?_
          refine sd_callVp (as := []) (st := []) (v := .inl 0) sD11_reads_77 sM11_160 sOM15 rfl rfl rfl (by decide) (Nat.le_of_ble_eq_true rfl) (cM_isGood0 fr n q68_9 q68_9 _ m hx hS) (fun ho77 => ?_)
          refine sd_if_eq (tgt := 205) sD11_reads_80 (by decide) (fun zc80 => ?_) (fun zc80 => (by exfalso; omega))
          refine sd_aload_n sD11_reads_205 rfl ?_
          refine sd_callVp (as := []) (st := []) (v := .inl 0) sD11_reads_206 sM11_160 sOM15 rfl rfl rfl (by decide) (Nat.le_of_ble_eq_true rfl) (cM_isGood0 fr n q68_9 q68_9 _ m hx hS) (fun ho206 => ?_)
          refine sd_if_eq (tgt := 244) sD11_reads_209 (by decide) (fun zc209 => ?_) (fun zc209 => (by exfalso; omega))
          refine sd_iload sD11_reads_244 rfl ?_
          refine sd_iconst sD11_reads_246 (by decide) ?_
          refine sd_icmp_ge (tgt := 270) sD11_reads_247 (by decide) (fun zc247 => ?_) (fun zc247 => ?_)
          ·
            refine sd_iconst sD11_reads_270 (by decide) ?_
            refine sd_istore (ls' := [some (.inr 15), some (.inl pl), some (.inl mn), some (.inl w), some (.inl 0), some (.inl (c : Int)), some (.inl (sd_b ((0 + (j45_1 : Int)) = 1))), some (.inl (-1)), some (.inl 1), none, none, none, none]) sD11_reads_271 (by decide) rfl ?_
            refine sd_aload_n sD11_reads_273 rfl ?_
            refine sd_dup sD11_reads_274 ?_
            refine sd_getfi sD11_reads_275 sF11_147 sGM15_12 ?_
            rw [show m 5492 = (q68_9 : Int) from hS.2.2.1]
            refine sd_iload sD11_reads_278 rfl ?_
            refine sd_if_eq (tgt := 287) sD11_reads_280 (by decide) (fun zc280 => ?_) (fun zc280 => (by exfalso; omega))
            refine sd_iconst sD11_reads_287 (by decide) ?_
            refine sd_iadd (z := (q68_9 : Int)) sD11_reads_288 (by omega) (by omega) ?_
            refine sd_putfc sd_sokM sd_oneM hx sD11_reads_289 sF11_147 sGM15_12 (by decide) (Or.inl rfl) (fun m hx em289 => ?_)
            have hk289x := sd_k2.up em289 (Or.inl rfl)
            replace hK6 := hK6.k2 hk289x
            replace hf : ∀ i, i < 4 → m (5504 + i) = f i := fun i hi => (hk289x _ (by omega) (by omega)).trans (hf i hi)
            replace hg := (hk289x 5510 (by decide) (by decide)).trans hg
            replace hgb := (hk289x 5511 (by decide) (by decide)).trans hgb
            replace hS : sd_RS m fr n q68_9 (q68_9 : Int) := ⟨by rw [em289, sd_up_ne (by decide)]; exact hS.1, by rw [em289, sd_up_ne (by decide)]; exact hS.2.1, by rw [em289, sd_up_eq]; (try omega), by rw [em289, sd_up_ne (by decide)]; exact hS.2.2.2⟩
            refine sd_iinc (y := ((c : Int) + 1)) (ls' := [some (.inr 15), some (.inl pl), some (.inl mn), some (.inl w), some (.inl 0), some (.inl ((c : Int) + 1)), some (.inl (sd_b ((0 + (j45_1 : Int)) = 1))), some (.inl (-1)), some (.inl 1), none, none, none, none]) sD11_reads_292 rfl (by omega) (by omega) (by decide) rfl ?_
            refine sd_goto (tgt := 31) sD11_reads_295 (by decide) ?_
            refine sd_iload sD11_reads_31 rfl ?_
            refine sd_iconst sD11_reads_33 (by decide) ?_
            refine sd_icmp_ge (tgt := 298) sD11_reads_34 (by decide) (fun zc34 => ?_) (fun zc34 => ?_)
            ·
              refine sd_aload_n sD11_reads_298 rfl ?_
              refine sd_getfi sD11_reads_299 sF11_147 sGM15_12 ?_
              rw [show m 5492 = (q68_9 : Int) from hS.2.2.1]
              refine sd_aload_n sD11_reads_302 rfl ?_
              refine sd_getfi sD11_reads_303 sF11_151 sGM15_11 ?_
              rw [show m 5491 = (n : Int) from hS.2.1]
              refine sd_icmp_ge (tgt := 313) sD11_reads_306 (by decide) (fun zc306 => ?_) (fun zc306 => ?_)
              ·
                refine sd_vreturn sD11_reads_313 rfl (fun hm => hQ _ _ ⟨rfl, hK6, ?_⟩)
                exact Or.inl ⟨q68_9, by simp only [sd_txt, sd_cls, sd_wd, hz45_1]; rw [if_pos hb62_8, hz68_9], hS.2.2.2⟩
              ·
                refine sd_aload_n sD11_reads_309 rfl ?_
                refine sd_callV (as := []) (st := []) sD11_reads_310 sM11_167 rfl rfl sOM15 rfl (by decide) (Nat.le_of_ble_eq_true rfl) (cM_wrong0 fr n q68_9 q68_9 _ m hx hS) (fun r m hq ho310 hm => ?_)
                obtain ⟨rfl, hk310_10, hS⟩ := hq
                replace hx := hk310_10.ns hx
                replace hK6 := hK6.k2 hk310_10
                replace hf : ∀ i, i < 4 → m (5504 + i) = f i := fun i hi => (hk310_10 _ (by omega) (by omega)).trans (hf i hi)
                replace hg := (hk310_10 5510 (by decide) (by decide)).trans hg
                replace hgb := (hk310_10 5511 (by decide) (by decide)).trans hgb
                rcases (⟨trivial⟩ : Nonempty True) with hy310_10
                ·
                  show sd_Wp sd_SM 4 sY11_reads 313 [some (.inr 15), some (.inl pl), some (.inl mn), some (.inl w), some (.inl 0), some (.inl ((c : Int) + 1)), some (.inl (sd_b ((0 + (j45_1 : Int)) = 1))), some (.inl (-1)), some (.inl 1), none, none, none, none] [] m _
                  refine sd_vreturn sD11_reads_313 rfl (fun hm => hQ _ _ ⟨rfl, hK6, ?_⟩)
                  exact Or.inl ⟨q68_9, by simp only [sd_txt, sd_cls, sd_wd, hz45_1]; rw [if_pos hb62_8, hz68_9], hS.2.2.2⟩
            ·
              refine sd_iload sD11_reads_37 rfl ?_
              refine sd_if_eq (tgt := 298) sD11_reads_39 (by decide) (fun zc39 => ?_) (fun zc39 => (by exfalso; omega))
              refine sd_aload_n sD11_reads_298 rfl ?_
              refine sd_getfi sD11_reads_299 sF11_147 sGM15_12 ?_
              rw [show m 5492 = (q68_9 : Int) from hS.2.2.1]
              refine sd_aload_n sD11_reads_302 rfl ?_
              refine sd_getfi sD11_reads_303 sF11_151 sGM15_11 ?_
              rw [show m 5491 = (n : Int) from hS.2.1]
              refine sd_icmp_ge (tgt := 313) sD11_reads_306 (by decide) (fun zc306 => ?_) (fun zc306 => ?_)
              ·
                refine sd_vreturn sD11_reads_313 rfl (fun hm => hQ _ _ ⟨rfl, hK6, ?_⟩)
                exact Or.inl ⟨q68_9, by simp only [sd_txt, sd_cls, sd_wd, hz45_1]; rw [if_pos hb62_8, hz68_9], hS.2.2.2⟩
              ·
                refine sd_aload_n sD11_reads_309 rfl ?_
                refine sd_callV (as := []) (st := []) sD11_reads_310 sM11_167 rfl rfl sOM15 rfl (by decide) (Nat.le_of_ble_eq_true rfl) (cM_wrong0 fr n q68_9 q68_9 _ m hx hS) (fun r m hq ho310 hm => ?_)
                obtain ⟨rfl, hk310_11, hS⟩ := hq
                replace hx := hk310_11.ns hx
                replace hK6 := hK6.k2 hk310_11
                replace hf : ∀ i, i < 4 → m (5504 + i) = f i := fun i hi => (hk310_11 _ (by omega) (by omega)).trans (hf i hi)
                replace hg := (hk310_11 5510 (by decide) (by decide)).trans hg
                replace hgb := (hk310_11 5511 (by decide) (by decide)).trans hgb
                rcases (⟨trivial⟩ : Nonempty True) with hy310_11
                ·
                  show sd_Wp sd_SM 4 sY11_reads 313 [some (.inr 15), some (.inl pl), some (.inl mn), some (.inl w), some (.inl 0), some (.inl ((c : Int) + 1)), some (.inl (sd_b ((0 + (j45_1 : Int)) = 1))), some (.inl (-1)), some (.inl 1), none, none, none, none] [] m _
                  refine sd_vreturn sD11_reads_313 rfl (fun hm => hQ _ _ ⟨rfl, hK6, ?_⟩)
                  exact Or.inl ⟨q68_9, by simp only [sd_txt, sd_cls, sd_wd, hz45_1]; rw [if_pos hb62_8, hz68_9], hS.2.2.2⟩
          ·
            refine sd_aload_n sD11_reads_250 rfl ?_
            refine sd_callVp (as := []) (st := []) (v := .inl 0) sD11_reads_251 sM11_160 sOM15 rfl rfl rfl (by decide) (Nat.le_of_ble_eq_true rfl) (cM_isGood0 fr n q68_9 q68_9 _ m hx hS) (fun ho251 => ?_)
            refine sd_if_eq (tgt := 270) sD11_reads_254 (by decide) (fun zc254 => ?_) (fun zc254 => (by exfalso; omega))
            refine sd_iconst sD11_reads_270 (by decide) ?_
            refine sd_istore (ls' := [some (.inr 15), some (.inl pl), some (.inl mn), some (.inl w), some (.inl 0), some (.inl (c : Int)), some (.inl (sd_b ((0 + (j45_1 : Int)) = 1))), some (.inl (-1)), some (.inl 1), none, none, none, none]) sD11_reads_271 (by decide) rfl ?_
            refine sd_aload_n sD11_reads_273 rfl ?_
            refine sd_dup sD11_reads_274 ?_
            refine sd_getfi sD11_reads_275 sF11_147 sGM15_12 ?_
            rw [show m 5492 = (q68_9 : Int) from hS.2.2.1]
            refine sd_iload sD11_reads_278 rfl ?_
            refine sd_if_eq (tgt := 287) sD11_reads_280 (by decide) (fun zc280 => ?_) (fun zc280 => (by exfalso; omega))
            refine sd_iconst sD11_reads_287 (by decide) ?_
            refine sd_iadd (z := (q68_9 : Int)) sD11_reads_288 (by omega) (by omega) ?_
            refine sd_putfc sd_sokM sd_oneM hx sD11_reads_289 sF11_147 sGM15_12 (by decide) (Or.inl rfl) (fun m hx em289 => ?_)
            have hk289x := sd_k2.up em289 (Or.inl rfl)
            replace hK6 := hK6.k2 hk289x
            replace hf : ∀ i, i < 4 → m (5504 + i) = f i := fun i hi => (hk289x _ (by omega) (by omega)).trans (hf i hi)
            replace hg := (hk289x 5510 (by decide) (by decide)).trans hg
            replace hgb := (hk289x 5511 (by decide) (by decide)).trans hgb
            replace hS : sd_RS m fr n q68_9 (q68_9 : Int) := ⟨by rw [em289, sd_up_ne (by decide)]; exact hS.1, by rw [em289, sd_up_ne (by decide)]; exact hS.2.1, by rw [em289, sd_up_eq]; (try omega), by rw [em289, sd_up_ne (by decide)]; exact hS.2.2.2⟩
            refine sd_iinc (y := ((c : Int) + 1)) (ls' := [some (.inr 15), some (.inl pl), some (.inl mn), some (.inl w), some (.inl 0), some (.inl ((c : Int) + 1)), some (.inl (sd_b ((0 + (j45_1 : Int)) = 1))), some (.inl (-1)), some (.inl 1), none, none, none, none]) sD11_reads_292 rfl (by omega) (by omega) (by decide) rfl ?_
            refine sd_goto (tgt := 31) sD11_reads_295 (by decide) ?_
            refine sd_iload sD11_reads_31 rfl ?_
            refine sd_iconst sD11_reads_33 (by decide) ?_
            refine sd_icmp_ge (tgt := 298) sD11_reads_34 (by decide) (fun zc34 => ?_) (fun zc34 => ?_)
            ·
              refine sd_aload_n sD11_reads_298 rfl ?_
              refine sd_getfi sD11_reads_299 sF11_147 sGM15_12 ?_
              rw [show m 5492 = (q68_9 : Int) from hS.2.2.1]
              refine sd_aload_n sD11_reads_302 rfl ?_
              refine sd_getfi sD11_reads_303 sF11_151 sGM15_11 ?_
              rw [show m 5491 = (n : Int) from hS.2.1]
              refine sd_icmp_ge (tgt := 313) sD11_reads_306 (by decide) (fun zc306 => ?_) (fun zc306 => ?_)
              ·
                refine sd_vreturn sD11_reads_313 rfl (fun hm => hQ _ _ ⟨rfl, hK6, ?_⟩)
                exact Or.inl ⟨q68_9, by simp only [sd_txt, sd_cls, sd_wd, hz45_1]; rw [if_pos hb62_8, hz68_9], hS.2.2.2⟩
              ·
                refine sd_aload_n sD11_reads_309 rfl ?_
                refine sd_callV (as := []) (st := []) sD11_reads_310 sM11_167 rfl rfl sOM15 rfl (by decide) (Nat.le_of_ble_eq_true rfl) (cM_wrong0 fr n q68_9 q68_9 _ m hx hS) (fun r m hq ho310 hm => ?_)
                obtain ⟨rfl, hk310_12, hS⟩ := hq
                replace hx := hk310_12.ns hx
                replace hK6 := hK6.k2 hk310_12
                replace hf : ∀ i, i < 4 → m (5504 + i) = f i := fun i hi => (hk310_12 _ (by omega) (by omega)).trans (hf i hi)
                replace hg := (hk310_12 5510 (by decide) (by decide)).trans hg
                replace hgb := (hk310_12 5511 (by decide) (by decide)).trans hgb
                rcases (⟨trivial⟩ : Nonempty True) with hy310_12
                ·
                  show sd_Wp sd_SM 4 sY11_reads 313 [some (.inr 15), some (.inl pl), some (.inl mn), some (.inl w), some (.inl 0), some (.inl ((c : Int) + 1)), some (.inl (sd_b ((0 + (j45_1 : Int)) = 1))), some (.inl (-1)), some (.inl 1), none, none, none, none] [] m _
                  refine sd_vreturn sD11_reads_313 rfl (fun hm => hQ _ _ ⟨rfl, hK6, ?_⟩)
                  exact Or.inl ⟨q68_9, by simp only [sd_txt, sd_cls, sd_wd, hz45_1]; rw [if_pos hb62_8, hz68_9], hS.2.2.2⟩
            ·
              refine sd_iload sD11_reads_37 rfl ?_
              refine sd_if_eq (tgt := 298) sD11_reads_39 (by decide) (fun zc39 => ?_) (fun zc39 => (by exfalso; omega))
              refine sd_aload_n sD11_reads_298 rfl ?_
              refine sd_getfi sD11_reads_299 sF11_147 sGM15_12 ?_
              rw [show m 5492 = (q68_9 : Int) from hS.2.2.1]
              refine sd_aload_n sD11_reads_302 rfl ?_
              refine sd_getfi sD11_reads_303 sF11_151 sGM15_11 ?_
              rw [show m 5491 = (n : Int) from hS.2.1]
              refine sd_icmp_ge (tgt := 313) sD11_reads_306 (by decide) (fun zc306 => ?_) (fun zc306 => ?_)
              ·
                refine sd_vreturn sD11_reads_313 rfl (fun hm => hQ _ _ ⟨rfl, hK6, ?_⟩)
                exact Or.inl ⟨q68_9, by simp only [sd_txt, sd_cls, sd_wd, hz45_1]; rw [if_pos hb62_8, hz68_9], hS.2.2.2⟩
              ·
                refine sd_aload_n sD11_reads_309 rfl ?_
                refine sd_callV (as := []) (st := []) sD11_reads_310 sM11_167 rfl rfl sOM15 rfl (by decide) (Nat.le_of_ble_eq_true rfl) (cM_wrong0 fr n q68_9 q68_9 _ m hx hS) (fun r m hq ho310 hm => ?_)
                obtain ⟨rfl, hk310_13, hS⟩ := hq
                replace hx := hk310_13.ns hx
                replace hK6 := hK6.k2 hk310_13
                replace hf : ∀ i, i < 4 → m (5504 + i) = f i := fun i hi => (hk310_13 _ (by omega) (by omega)).trans (hf i hi)
                replace hg := (hk310_13 5510 (by decide) (by decide)).trans hg
                replace hgb := (hk310_13 5511 (by decide) (by decide)).trans hgb
                rcases (⟨trivial⟩ : Nonempty True) with hy310_13
                ·
                  show sd_Wp sd_SM 4 sY11_reads 313 [some (.inr 15), some (.inl pl), some (.inl mn), some (.inl w), some (.inl 0), some (.inl ((c : Int) + 1)), some (.inl (sd_b ((0 + (j45_1 : Int)) = 1))), some (.inl (-1)), some (.inl 1), none, none, none, none] [] m _
                  refine sd_vreturn sD11_reads_313 rfl (fun hm => hQ _ _ ⟨rfl, hK6, ?_⟩)
                  exact Or.inl ⟨q68_9, by simp only [sd_txt, sd_cls, sd_wd, hz45_1]; rw [if_pos hb62_8, hz68_9], hS.2.2.2⟩
        ·
          show sd_Wp sd_SM 4 sY11_reads 71 [some (.inr 15), some (.inl pl), some (.inl mn), some (.inl w), some (.inl 1), some (.inl (c : Int)), some (.inl (sd_b ((0 + (j45_1 : Int)) = 1))), none, none, none, none, none, none] [.inl (2 + (j68_9 : Int))] m _
          refine sd_istore (ls' := [some (.inr 15), some (.inl pl), some (.inl mn), some (.inl w), some (.inl 1), some (.inl (c : Int)), some (.inl (sd_b ((0 + (j45_1 : Int)) = 1))), some (.inl (2 + (j68_9 : Int))), none, none, none, none, none]) sD11_reads_71 (by decide) rfl ?_
          refine sd_iconst sD11_reads_73 (by decide) ?_
          refine sd_istore (ls' := [some (.inr 15), some (.inl pl), some (.inl mn), some (.inl w), some (.inl 1), some (.inl (c : Int)), some (.inl (sd_b ((0 + (j45_1 : Int)) = 1))), some (.inl (2 + (j68_9 : Int))), some (.inl 1), none, none, none, none]) sD11_reads_74 (by decide) rfl ?_
          refine sd_aload_n sD11_reads_76 rfl ?_
          refine sd_callVp (as := []) (st := []) (v := .inl 1) sD11_reads_77 sM11_160 sOM15 rfl rfl rfl (by decide) (Nat.le_of_ble_eq_true rfl) (cM_isGood1 fr n q68_9 _ m hx hS) (fun ho77 => ?_)
          refine sd_if_eq (tgt := 205) sD11_reads_80 (by decide) (fun zc80 => (by exfalso; omega)) (fun zc80 => ?_)
          refine sd_aload_n sD11_reads_83 rfl ?_
          refine sd_callVp (as := []) (st := []) (v := .inl (B q68_9)) sD11_reads_84 sM11_164 sOM15 rfl rfl rfl (by decide) (Nat.le_of_ble_eq_true rfl) (cM_byteAt _ fr B n q68_9 _ m hx hB hS) (fun ho84 => ?_)
          refine sd_bipush sD11_reads_87 rfl (by decide) ?_
          refine sd_icmp_ne (tgt := 205) sD11_reads_89 (by decide) (fun zc89 => ?_) (fun zc89 => ?_)
          ·
            have hwd : sd_wd B p = .inr ((j45_1, j68_9), q68_9) := by simp only [sd_wd, hz45_1]; rw [if_pos hb62_8, hz68_9]
            have hcl : sd_cls B p = .inr ((j45_1, j68_9, []), q68_9) := by simp only [sd_cls, hwd]; rw [if_neg (by assumption)]
            refine sd_aload_n sD11_reads_205 rfl ?_
            refine sd_callVp (as := []) (st := []) (v := .inl 1) sD11_reads_206 sM11_160 sOM15 rfl rfl rfl (by decide) (Nat.le_of_ble_eq_true rfl) (cM_isGood1 fr n q68_9 _ m hx hS) (fun ho206 => ?_)
            refine sd_if_eq (tgt := 244) sD11_reads_209 (by decide) (fun zc209 => (by exfalso; omega)) (fun zc209 => ?_)
            refine sd_iload sD11_reads_212 rfl ?_
            refine sd_if_eq (tgt := 244) sD11_reads_214 (by decide) (fun zc214 => (by exfalso; omega)) (fun zc214 => ?_)
            refine sd_iload sD11_reads_217 rfl ?_
            refine sd_iconst sD11_reads_219 (by decide) ?_
            refine sd_isub (z := (j68_9 : Int)) sD11_reads_220 (by omega) (by omega) ?_
            refine sd_iload_n sD11_reads_221 rfl ?_
            refine sd_icmp_ne (tgt := 244) sD11_reads_222 (by decide) (fun zc222 => ?_) (fun zc222 => ?_)
            ·
              have hmt : ¬ sd_mt f w (j45_1, j68_9, ([] : List (Nat × Nat × Int))) := fun qm => by have qm1 : (j68_9 : Int) = w := qm.1; have qm2 := qm.2; omega
              rcases (show ¬ g = -1 ∨ g = -1 by omega) with hgc | hgc
              ·
                refine sd_iload sD11_reads_244 rfl ?_
                refine sd_iconst sD11_reads_246 (by decide) ?_
                refine sd_icmp_ge (tgt := 270) sD11_reads_247 (by decide) (fun zc247 => ?_) (fun zc247 => ?_)
                ·
                  refine sd_iconst sD11_reads_270 (by decide) ?_
                  refine sd_istore (ls' := [some (.inr 15), some (.inl pl), some (.inl mn), some (.inl w), some (.inl 0), some (.inl (c : Int)), some (.inl (sd_b ((0 + (j45_1 : Int)) = 1))), some (.inl (2 + (j68_9 : Int))), some (.inl 1), none, none, none, none]) sD11_reads_271 (by decide) rfl ?_
                  refine sd_aload_n sD11_reads_273 rfl ?_
                  refine sd_dup sD11_reads_274 ?_
                  refine sd_getfi sD11_reads_275 sF11_147 sGM15_12 ?_
                  rw [show m 5492 = (q68_9 : Int) from hS.2.2.1]
                  refine sd_iload sD11_reads_278 rfl ?_
                  refine sd_if_eq (tgt := 287) sD11_reads_280 (by decide) (fun zc280 => ?_) (fun zc280 => (by exfalso; omega))
                  refine sd_iconst sD11_reads_287 (by decide) ?_
                  refine sd_iadd (z := (q68_9 : Int)) sD11_reads_288 (by omega) (by omega) ?_
                  refine sd_putfc sd_sokM sd_oneM hx sD11_reads_289 sF11_147 sGM15_12 (by decide) (Or.inl rfl) (fun m hx em289 => ?_)
                  have hk289x := sd_k2.up em289 (Or.inl rfl)
                  replace hK6 := hK6.k2 hk289x
                  replace hf : ∀ i, i < 4 → m (5504 + i) = f i := fun i hi => (hk289x _ (by omega) (by omega)).trans (hf i hi)
                  replace hg := (hk289x 5510 (by decide) (by decide)).trans hg
                  replace hgb := (hk289x 5511 (by decide) (by decide)).trans hgb
                  replace hS : sd_RS m fr n q68_9 (-1) := ⟨by rw [em289, sd_up_ne (by decide)]; exact hS.1, by rw [em289, sd_up_ne (by decide)]; exact hS.2.1, by rw [em289, sd_up_eq]; (try omega), by rw [em289, sd_up_ne (by decide)]; exact hS.2.2.2⟩
                  refine sd_iinc (y := ((c : Int) + 1)) (ls' := [some (.inr 15), some (.inl pl), some (.inl mn), some (.inl w), some (.inl 0), some (.inl ((c : Int) + 1)), some (.inl (sd_b ((0 + (j45_1 : Int)) = 1))), some (.inl (2 + (j68_9 : Int))), some (.inl 1), none, none, none, none]) sD11_reads_292 rfl (by omega) (by omega) (by decide) rfl ?_
                  refine sd_goto (tgt := 31) sD11_reads_295 (by decide) ?_
                  refine sd_iload sD11_reads_31 rfl ?_
                  refine sd_iconst sD11_reads_33 (by decide) ?_
                  refine sd_icmp_ge (tgt := 298) sD11_reads_34 (by decide) (fun zc34 => ?_) (fun zc34 => ?_)
                  ·
                    refine sd_aload_n sD11_reads_298 rfl ?_
                    refine sd_getfi sD11_reads_299 sF11_147 sGM15_12 ?_
                    rw [show m 5492 = (q68_9 : Int) from hS.2.2.1]
                    refine sd_aload_n sD11_reads_302 rfl ?_
                    refine sd_getfi sD11_reads_303 sF11_151 sGM15_11 ?_
                    rw [show m 5491 = (n : Int) from hS.2.1]
                    refine sd_icmp_ge (tgt := 313) sD11_reads_306 (by decide) (fun zc306 => ?_) (fun zc306 => ?_)
                    ·
                      refine sd_vreturn sD11_reads_313 rfl (fun hm => hQ _ _ ⟨rfl, hK6, ?_⟩)
                      exact Or.inr ⟨[(j45_1, j68_9, ([] : List (Nat × Nat × Int)))], by simp only [sd_txt, hcl]; rw [if_pos (by omega)], hS.2.2.2, Or.inl ⟨by omega, hg, hgb⟩⟩
                    ·
                      refine sd_aload_n sD11_reads_309 rfl ?_
                      refine sd_callV (as := []) (st := []) sD11_reads_310 sM11_167 rfl rfl sOM15 rfl (by decide) (Nat.le_of_ble_eq_true rfl) (cM_wrong1 fr n q68_9 _ m hx hS) (fun r m hq ho310 hm => ?_)
                      obtain ⟨rfl, hk310_14, hS⟩ := hq
                      replace hx := hk310_14.ns hx
                      replace hK6 := hK6.k2 hk310_14
                      replace hf : ∀ i, i < 4 → m (5504 + i) = f i := fun i hi => (hk310_14 _ (by omega) (by omega)).trans (hf i hi)
                      replace hg := (hk310_14 5510 (by decide) (by decide)).trans hg
                      replace hgb := (hk310_14 5511 (by decide) (by decide)).trans hgb
                      rcases (⟨trivial⟩ : Nonempty True) with hy310_14
                      ·
                        show sd_Wp sd_SM 4 sY11_reads 313 [some (.inr 15), some (.inl pl), some (.inl mn), some (.inl w), some (.inl 0), some (.inl ((c : Int) + 1)), some (.inl (sd_b ((0 + (j45_1 : Int)) = 1))), some (.inl (2 + (j68_9 : Int))), some (.inl 1), none, none, none, none] [] m _
                        refine sd_vreturn sD11_reads_313 rfl (fun hm => hQ _ _ ⟨rfl, hK6, ?_⟩)
                        exact Or.inl ⟨q68_9, by simp only [sd_txt, hcl]; rw [if_neg (by omega)]; first | (rw [if_pos (by omega)]; done) | (rw [if_neg (by omega), if_neg (by assumption)]; done), hS.2.2.2⟩
                  ·
                    refine sd_iload sD11_reads_37 rfl ?_
                    refine sd_if_eq (tgt := 298) sD11_reads_39 (by decide) (fun zc39 => ?_) (fun zc39 => (by exfalso; omega))
                    refine sd_aload_n sD11_reads_298 rfl ?_
                    refine sd_getfi sD11_reads_299 sF11_147 sGM15_12 ?_
                    rw [show m 5492 = (q68_9 : Int) from hS.2.2.1]
                    refine sd_aload_n sD11_reads_302 rfl ?_
                    refine sd_getfi sD11_reads_303 sF11_151 sGM15_11 ?_
                    rw [show m 5491 = (n : Int) from hS.2.1]
                    refine sd_icmp_ge (tgt := 313) sD11_reads_306 (by decide) (fun zc306 => ?_) (fun zc306 => ?_)
                    ·
                      refine sd_vreturn sD11_reads_313 rfl (fun hm => hQ _ _ ⟨rfl, hK6, ?_⟩)
                      exact Or.inr ⟨[(j45_1, j68_9, ([] : List (Nat × Nat × Int)))], by simp only [sd_txt, hcl]; rw [if_pos (by omega)], hS.2.2.2, Or.inl ⟨by omega, hg, hgb⟩⟩
                    ·
                      refine sd_aload_n sD11_reads_309 rfl ?_
                      refine sd_callV (as := []) (st := []) sD11_reads_310 sM11_167 rfl rfl sOM15 rfl (by decide) (Nat.le_of_ble_eq_true rfl) (cM_wrong1 fr n q68_9 _ m hx hS) (fun r m hq ho310 hm => ?_)
                      obtain ⟨rfl, hk310_15, hS⟩ := hq
                      replace hx := hk310_15.ns hx
                      replace hK6 := hK6.k2 hk310_15
                      replace hf : ∀ i, i < 4 → m (5504 + i) = f i := fun i hi => (hk310_15 _ (by omega) (by omega)).trans (hf i hi)
                      replace hg := (hk310_15 5510 (by decide) (by decide)).trans hg
                      replace hgb := (hk310_15 5511 (by decide) (by decide)).trans hgb
                      rcases (⟨trivial⟩ : Nonempty True) with hy310_15
                      ·
                        show sd_Wp sd_SM 4 sY11_reads 313 [some (.inr 15), some (.inl pl), some (.inl mn), some (.inl w), some (.inl 0), some (.inl ((c : Int) + 1)), some (.inl (sd_b ((0 + (j45_1 : Int)) = 1))), some (.inl (2 + (j68_9 : Int))), some (.inl 1), none, none, none, none] [] m _
                        refine sd_vreturn sD11_reads_313 rfl (fun hm => hQ _ _ ⟨rfl, hK6, ?_⟩)
                        exact Or.inl ⟨q68_9, by simp only [sd_txt, hcl]; rw [if_neg (by omega)]; first | (rw [if_pos (by omega)]; done) | (rw [if_neg (by omega), if_neg (by assumption)]; done), hS.2.2.2⟩
                ·
                  refine sd_aload_n sD11_reads_250 rfl ?_
                  refine sd_callVp (as := []) (st := []) (v := .inl 1) sD11_reads_251 sM11_160 sOM15 rfl rfl rfl (by decide) (Nat.le_of_ble_eq_true rfl) (cM_isGood1 fr n q68_9 _ m hx hS) (fun ho251 => ?_)
                  refine sd_if_eq (tgt := 270) sD11_reads_254 (by decide) (fun zc254 => (by exfalso; omega)) (fun zc254 => ?_)
                  refine sd_aload_n sD11_reads_257 rfl ?_
                  refine sd_callVp (as := []) (st := []) (v := .inl (B q68_9)) sD11_reads_258 sM11_164 sOM15 rfl rfl rfl (by decide) (Nat.le_of_ble_eq_true rfl) (cM_byteAt _ fr B n q68_9 _ m hx hB hS) (fun ho258 => ?_)
                  refine sd_bipush sD11_reads_261 rfl (by decide) ?_
                  refine sd_icmp_ne (tgt := 270) sD11_reads_263 (by decide) (fun zc263 => ?_) (fun zc263 => ?_)
                  ·
                    refine sd_iconst sD11_reads_270 (by decide) ?_
                    refine sd_istore (ls' := [some (.inr 15), some (.inl pl), some (.inl mn), some (.inl w), some (.inl 0), some (.inl (c : Int)), some (.inl (sd_b ((0 + (j45_1 : Int)) = 1))), some (.inl (2 + (j68_9 : Int))), some (.inl 1), none, none, none, none]) sD11_reads_271 (by decide) rfl ?_
                    refine sd_aload_n sD11_reads_273 rfl ?_
                    refine sd_dup sD11_reads_274 ?_
                    refine sd_getfi sD11_reads_275 sF11_147 sGM15_12 ?_
                    rw [show m 5492 = (q68_9 : Int) from hS.2.2.1]
                    refine sd_iload sD11_reads_278 rfl ?_
                    refine sd_if_eq (tgt := 287) sD11_reads_280 (by decide) (fun zc280 => ?_) (fun zc280 => (by exfalso; omega))
                    refine sd_iconst sD11_reads_287 (by decide) ?_
                    refine sd_iadd (z := (q68_9 : Int)) sD11_reads_288 (by omega) (by omega) ?_
                    refine sd_putfc sd_sokM sd_oneM hx sD11_reads_289 sF11_147 sGM15_12 (by decide) (Or.inl rfl) (fun m hx em289 => ?_)
                    have hk289x := sd_k2.up em289 (Or.inl rfl)
                    replace hK6 := hK6.k2 hk289x
                    replace hf : ∀ i, i < 4 → m (5504 + i) = f i := fun i hi => (hk289x _ (by omega) (by omega)).trans (hf i hi)
                    replace hg := (hk289x 5510 (by decide) (by decide)).trans hg
                    replace hgb := (hk289x 5511 (by decide) (by decide)).trans hgb
                    replace hS : sd_RS m fr n q68_9 (-1) := ⟨by rw [em289, sd_up_ne (by decide)]; exact hS.1, by rw [em289, sd_up_ne (by decide)]; exact hS.2.1, by rw [em289, sd_up_eq]; (try omega), by rw [em289, sd_up_ne (by decide)]; exact hS.2.2.2⟩
                    refine sd_iinc (y := ((c : Int) + 1)) (ls' := [some (.inr 15), some (.inl pl), some (.inl mn), some (.inl w), some (.inl 0), some (.inl ((c : Int) + 1)), some (.inl (sd_b ((0 + (j45_1 : Int)) = 1))), some (.inl (2 + (j68_9 : Int))), some (.inl 1), none, none, none, none]) sD11_reads_292 rfl (by omega) (by omega) (by decide) rfl ?_
                    refine sd_goto (tgt := 31) sD11_reads_295 (by decide) ?_
                    refine sd_iload sD11_reads_31 rfl ?_
                    refine sd_iconst sD11_reads_33 (by decide) ?_
                    refine sd_icmp_ge (tgt := 298) sD11_reads_34 (by decide) (fun zc34 => ?_) (fun zc34 => ?_)
                    ·
                      refine sd_aload_n sD11_reads_298 rfl ?_
                      refine sd_getfi sD11_reads_299 sF11_147 sGM15_12 ?_
                      rw [show m 5492 = (q68_9 : Int) from hS.2.2.1]
                      refine sd_aload_n sD11_reads_302 rfl ?_
                      refine sd_getfi sD11_reads_303 sF11_151 sGM15_11 ?_
                      rw [show m 5491 = (n : Int) from hS.2.1]
                      refine sd_icmp_ge (tgt := 313) sD11_reads_306 (by decide) (fun zc306 => ?_) (fun zc306 => ?_)
                      ·
                        refine sd_vreturn sD11_reads_313 rfl (fun hm => hQ _ _ ⟨rfl, hK6, ?_⟩)
                        exact Or.inr ⟨[(j45_1, j68_9, ([] : List (Nat × Nat × Int)))], by simp only [sd_txt, hcl]; rw [if_pos (by omega)], hS.2.2.2, Or.inl ⟨by omega, hg, hgb⟩⟩
                      ·
                        refine sd_aload_n sD11_reads_309 rfl ?_
                        refine sd_callV (as := []) (st := []) sD11_reads_310 sM11_167 rfl rfl sOM15 rfl (by decide) (Nat.le_of_ble_eq_true rfl) (cM_wrong1 fr n q68_9 _ m hx hS) (fun r m hq ho310 hm => ?_)
                        obtain ⟨rfl, hk310_16, hS⟩ := hq
                        replace hx := hk310_16.ns hx
                        replace hK6 := hK6.k2 hk310_16
                        replace hf : ∀ i, i < 4 → m (5504 + i) = f i := fun i hi => (hk310_16 _ (by omega) (by omega)).trans (hf i hi)
                        replace hg := (hk310_16 5510 (by decide) (by decide)).trans hg
                        replace hgb := (hk310_16 5511 (by decide) (by decide)).trans hgb
                        rcases (⟨trivial⟩ : Nonempty True) with hy310_16
                        ·
                          show sd_Wp sd_SM 4 sY11_reads 313 [some (.inr 15), some (.inl pl), some (.inl mn), some (.inl w), some (.inl 0), some (.inl ((c : Int) + 1)), some (.inl (sd_b ((0 + (j45_1 : Int)) = 1))), some (.inl (2 + (j68_9 : Int))), some (.inl 1), none, none, none, none] [] m _
                          refine sd_vreturn sD11_reads_313 rfl (fun hm => hQ _ _ ⟨rfl, hK6, ?_⟩)
                          exact Or.inl ⟨q68_9, by simp only [sd_txt, hcl]; rw [if_neg (by omega)]; first | (rw [if_pos (by omega)]; done) | (rw [if_neg (by omega), if_neg (by assumption)]; done), hS.2.2.2⟩
                    ·
                      refine sd_iload sD11_reads_37 rfl ?_
                      refine sd_if_eq (tgt := 298) sD11_reads_39 (by decide) (fun zc39 => ?_) (fun zc39 => (by exfalso; omega))
                      refine sd_aload_n sD11_reads_298 rfl ?_
                      refine sd_getfi sD11_reads_299 sF11_147 sGM15_12 ?_
                      rw [show m 5492 = (q68_9 : Int) from hS.2.2.1]
                      refine sd_aload_n sD11_reads_302 rfl ?_
                      refine sd_getfi sD11_reads_303 sF11_151 sGM15_11 ?_
                      rw [show m 5491 = (n : Int) from hS.2.1]
                      refine sd_icmp_ge (tgt := 313) sD11_reads_306 (by decide) (fun zc306 => ?_) (fun zc306 => ?_)
                      ·
                        refine sd_vreturn sD11_reads_313 rfl (fun hm => hQ _ _ ⟨rfl, hK6, ?_⟩)
                        exact Or.inr ⟨[(j45_1, j68_9, ([] : List (Nat × Nat × Int)))], by simp only [sd_txt, hcl]; rw [if_pos (by omega)], hS.2.2.2, Or.inl ⟨by omega, hg, hgb⟩⟩
                      ·
                        refine sd_aload_n sD11_reads_309 rfl ?_
                        refine sd_callV (as := []) (st := []) sD11_reads_310 sM11_167 rfl rfl sOM15 rfl (by decide) (Nat.le_of_ble_eq_true rfl) (cM_wrong1 fr n q68_9 _ m hx hS) (fun r m hq ho310 hm => ?_)
                        obtain ⟨rfl, hk310_17, hS⟩ := hq
                        replace hx := hk310_17.ns hx
                        replace hK6 := hK6.k2 hk310_17
                        replace hf : ∀ i, i < 4 → m (5504 + i) = f i := fun i hi => (hk310_17 _ (by omega) (by omega)).trans (hf i hi)
                        replace hg := (hk310_17 5510 (by decide) (by decide)).trans hg
                        replace hgb := (hk310_17 5511 (by decide) (by decide)).trans hgb
                        rcases (⟨trivial⟩ : Nonempty True) with hy310_17
                        ·
                          show sd_Wp sd_SM 4 sY11_reads 313 [some (.inr 15), some (.inl pl), some (.inl mn), some (.inl w), some (.inl 0), some (.inl ((c : Int) + 1)), some (.inl (sd_b ((0 + (j45_1 : Int)) = 1))), some (.inl (2 + (j68_9 : Int))), some (.inl 1), none, none, none, none] [] m _
                          refine sd_vreturn sD11_reads_313 rfl (fun hm => hQ _ _ ⟨rfl, hK6, ?_⟩)
                          exact Or.inl ⟨q68_9, by simp only [sd_txt, hcl]; rw [if_neg (by omega)]; first | (rw [if_pos (by omega)]; done) | (rw [if_neg (by omega), if_neg (by assumption)]; done), hS.2.2.2⟩
                  ·
                    have hsm : B q68_9 = 59 := by assumption
                    have hin3 := hB.in (p := q68_9) (by omega)
                    have hn1 := hB.1
                    refine sd_iconst sD11_reads_266 (by decide) ?_
                    refine sd_goto (tgt := 271) sD11_reads_267 (by decide) ?_
                    refine sd_istore (ls' := [some (.inr 15), some (.inl pl), some (.inl mn), some (.inl w), some (.inl 1), some (.inl (c : Int)), some (.inl (sd_b ((0 + (j45_1 : Int)) = 1))), some (.inl (2 + (j68_9 : Int))), some (.inl 1), none, none, none, none]) sD11_reads_271 (by decide) rfl ?_
                    refine sd_aload_n sD11_reads_273 rfl ?_
                    refine sd_dup sD11_reads_274 ?_
                    refine sd_getfi sD11_reads_275 sF11_147 sGM15_12 ?_
                    rw [show m 5492 = (q68_9 : Int) from hS.2.2.1]
                    refine sd_iload sD11_reads_278 rfl ?_
                    refine sd_if_eq (tgt := 287) sD11_reads_280 (by decide) (fun zc280 => (by exfalso; omega)) (fun zc280 => ?_)
                    refine sd_iconst sD11_reads_283 (by decide) ?_
                    refine sd_goto (tgt := 288) sD11_reads_284 (by decide) ?_
                    refine sd_iadd (z := ((q68_9 : Int) + 1)) sD11_reads_288 (by omega) (by omega) ?_
                    refine sd_putfc sd_sokM sd_oneM hx sD11_reads_289 sF11_147 sGM15_12 (by decide) (Or.inl rfl) (fun m hx em289 => ?_)
                    have hk289x := sd_k2.up em289 (Or.inl rfl)
                    replace hK6 := hK6.k2 hk289x
                    replace hf : ∀ i, i < 4 → m (5504 + i) = f i := fun i hi => (hk289x _ (by omega) (by omega)).trans (hf i hi)
                    replace hg := (hk289x 5510 (by decide) (by decide)).trans hg
                    replace hgb := (hk289x 5511 (by decide) (by decide)).trans hgb
                    replace hS : sd_RS m fr n (q68_9 + 1) (-1) := ⟨by rw [em289, sd_up_ne (by decide)]; exact hS.1, by rw [em289, sd_up_ne (by decide)]; exact hS.2.1, by rw [em289, sd_up_eq]; (try omega), by rw [em289, sd_up_ne (by decide)]; exact hS.2.2.2⟩
                    refine sd_iinc (y := ((c : Int) + 1)) (ls' := [some (.inr 15), some (.inl pl), some (.inl mn), some (.inl w), some (.inl 1), some (.inl ((c : Int) + 1)), some (.inl (sd_b ((0 + (j45_1 : Int)) = 1))), some (.inl (2 + (j68_9 : Int))), some (.inl 1), none, none, none, none]) sD11_reads_292 rfl (by omega) (by omega) (by decide) rfl ?_
                    refine sd_goto (tgt := 31) sD11_reads_295 (by decide) ?_
                    refine sd_less (ls' := [some (.inr 15), some (.inl pl), some (.inl mn), some (.inl w), some (.inl 1), some (.inl ((c : Int) + 1)), none, none, none, none, none, none, none]) ?_ rfl (by intro zi zv zh; rcases zi with _ | _ | _ | _ | _ | _ | _ | _ | _ | _ | _ | _ | _ | zi <;> first | exact zh | cases zh)
                    refine sd_eqw (ls' := [some (.inr 15), some (.inl pl), some (.inl mn), some (.inl w), some (.inl 1), some (.inl ((c + 1 : Nat) : Int)), none, none, none, none, none, none, none]) ?_ (sd_cg rfl (sd_cg rfl (sd_cg rfl (sd_cg rfl (sd_cg rfl (sd_cg (sd_ce (by omega)) rfl)))))) rfl
                    exact ih (by omega) g b m (q68_9 + 1) hx hS (by omega) hK6 hf hg hgb (by omega) (fun r m2 hq => hQ r m2 (sd_rd_A hcl (by omega) (by omega) hsm (by omega) hq))
              ·
                refine sd_iload sD11_reads_244 rfl ?_
                refine sd_iconst sD11_reads_246 (by decide) ?_
                refine sd_icmp_ge (tgt := 270) sD11_reads_247 (by decide) (fun zc247 => ?_) (fun zc247 => ?_)
                ·
                  refine sd_iconst sD11_reads_270 (by decide) ?_
                  refine sd_istore (ls' := [some (.inr 15), some (.inl pl), some (.inl mn), some (.inl w), some (.inl 0), some (.inl (c : Int)), some (.inl (sd_b ((0 + (j45_1 : Int)) = 1))), some (.inl (2 + (j68_9 : Int))), some (.inl 1), none, none, none, none]) sD11_reads_271 (by decide) rfl ?_
                  refine sd_aload_n sD11_reads_273 rfl ?_
                  refine sd_dup sD11_reads_274 ?_
                  refine sd_getfi sD11_reads_275 sF11_147 sGM15_12 ?_
                  rw [show m 5492 = (q68_9 : Int) from hS.2.2.1]
                  refine sd_iload sD11_reads_278 rfl ?_
                  refine sd_if_eq (tgt := 287) sD11_reads_280 (by decide) (fun zc280 => ?_) (fun zc280 => (by exfalso; omega))
                  refine sd_iconst sD11_reads_287 (by decide) ?_
                  refine sd_iadd (z := (q68_9 : Int)) sD11_reads_288 (by omega) (by omega) ?_
                  refine sd_putfc sd_sokM sd_oneM hx sD11_reads_289 sF11_147 sGM15_12 (by decide) (Or.inl rfl) (fun m hx em289 => ?_)
                  have hk289x := sd_k2.up em289 (Or.inl rfl)
                  replace hK6 := hK6.k2 hk289x
                  replace hf : ∀ i, i < 4 → m (5504 + i) = f i := fun i hi => (hk289x _ (by omega) (by omega)).trans (hf i hi)
                  replace hg := (hk289x 5510 (by decide) (by decide)).trans hg
                  replace hgb := (hk289x 5511 (by decide) (by decide)).trans hgb
                  replace hS : sd_RS m fr n q68_9 (-1) := ⟨by rw [em289, sd_up_ne (by decide)]; exact hS.1, by rw [em289, sd_up_ne (by decide)]; exact hS.2.1, by rw [em289, sd_up_eq]; (try omega), by rw [em289, sd_up_ne (by decide)]; exact hS.2.2.2⟩
                  refine sd_iinc (y := ((c : Int) + 1)) (ls' := [some (.inr 15), some (.inl pl), some (.inl mn), some (.inl w), some (.inl 0), some (.inl ((c : Int) + 1)), some (.inl (sd_b ((0 + (j45_1 : Int)) = 1))), some (.inl (2 + (j68_9 : Int))), some (.inl 1), none, none, none, none]) sD11_reads_292 rfl (by omega) (by omega) (by decide) rfl ?_
                  refine sd_goto (tgt := 31) sD11_reads_295 (by decide) ?_
                  refine sd_iload sD11_reads_31 rfl ?_
                  refine sd_iconst sD11_reads_33 (by decide) ?_
                  refine sd_icmp_ge (tgt := 298) sD11_reads_34 (by decide) (fun zc34 => ?_) (fun zc34 => ?_)
                  ·
                    refine sd_aload_n sD11_reads_298 rfl ?_
                    refine sd_getfi sD11_reads_299 sF11_147 sGM15_12 ?_
                    rw [show m 5492 = (q68_9 : Int) from hS.2.2.1]
                    refine sd_aload_n sD11_reads_302 rfl ?_
                    refine sd_getfi sD11_reads_303 sF11_151 sGM15_11 ?_
                    rw [show m 5491 = (n : Int) from hS.2.1]
                    refine sd_icmp_ge (tgt := 313) sD11_reads_306 (by decide) (fun zc306 => ?_) (fun zc306 => ?_)
                    ·
                      refine sd_vreturn sD11_reads_313 rfl (fun hm => hQ _ _ ⟨rfl, hK6, ?_⟩)
                      exact Or.inr ⟨[(j45_1, j68_9, ([] : List (Nat × Nat × Int)))], by simp only [sd_txt, hcl]; rw [if_pos (by omega)], hS.2.2.2, Or.inr (Or.inl ⟨by omega, sd_fcl_n hmt, by rw [hg]; omega⟩)⟩
                    ·
                      refine sd_aload_n sD11_reads_309 rfl ?_
                      refine sd_callV (as := []) (st := []) sD11_reads_310 sM11_167 rfl rfl sOM15 rfl (by decide) (Nat.le_of_ble_eq_true rfl) (cM_wrong1 fr n q68_9 _ m hx hS) (fun r m hq ho310 hm => ?_)
                      obtain ⟨rfl, hk310_18, hS⟩ := hq
                      replace hx := hk310_18.ns hx
                      replace hK6 := hK6.k2 hk310_18
                      replace hf : ∀ i, i < 4 → m (5504 + i) = f i := fun i hi => (hk310_18 _ (by omega) (by omega)).trans (hf i hi)
                      replace hg := (hk310_18 5510 (by decide) (by decide)).trans hg
                      replace hgb := (hk310_18 5511 (by decide) (by decide)).trans hgb
                      rcases (⟨trivial⟩ : Nonempty True) with hy310_18
                      ·
                        show sd_Wp sd_SM 4 sY11_reads 313 [some (.inr 15), some (.inl pl), some (.inl mn), some (.inl w), some (.inl 0), some (.inl ((c : Int) + 1)), some (.inl (sd_b ((0 + (j45_1 : Int)) = 1))), some (.inl (2 + (j68_9 : Int))), some (.inl 1), none, none, none, none] [] m _
                        refine sd_vreturn sD11_reads_313 rfl (fun hm => hQ _ _ ⟨rfl, hK6, ?_⟩)
                        exact Or.inl ⟨q68_9, by simp only [sd_txt, hcl]; rw [if_neg (by omega)]; first | (rw [if_pos (by omega)]; done) | (rw [if_neg (by omega), if_neg (by assumption)]; done), hS.2.2.2⟩
                  ·
                    refine sd_iload sD11_reads_37 rfl ?_
                    refine sd_if_eq (tgt := 298) sD11_reads_39 (by decide) (fun zc39 => ?_) (fun zc39 => (by exfalso; omega))
                    refine sd_aload_n sD11_reads_298 rfl ?_
                    refine sd_getfi sD11_reads_299 sF11_147 sGM15_12 ?_
                    rw [show m 5492 = (q68_9 : Int) from hS.2.2.1]
                    refine sd_aload_n sD11_reads_302 rfl ?_
                    refine sd_getfi sD11_reads_303 sF11_151 sGM15_11 ?_
                    rw [show m 5491 = (n : Int) from hS.2.1]
                    refine sd_icmp_ge (tgt := 313) sD11_reads_306 (by decide) (fun zc306 => ?_) (fun zc306 => ?_)
                    ·
                      refine sd_vreturn sD11_reads_313 rfl (fun hm => hQ _ _ ⟨rfl, hK6, ?_⟩)
                      exact Or.inr ⟨[(j45_1, j68_9, ([] : List (Nat × Nat × Int)))], by simp only [sd_txt, hcl]; rw [if_pos (by omega)], hS.2.2.2, Or.inr (Or.inl ⟨by omega, sd_fcl_n hmt, by rw [hg]; omega⟩)⟩
                    ·
                      refine sd_aload_n sD11_reads_309 rfl ?_
                      refine sd_callV (as := []) (st := []) sD11_reads_310 sM11_167 rfl rfl sOM15 rfl (by decide) (Nat.le_of_ble_eq_true rfl) (cM_wrong1 fr n q68_9 _ m hx hS) (fun r m hq ho310 hm => ?_)
                      obtain ⟨rfl, hk310_19, hS⟩ := hq
                      replace hx := hk310_19.ns hx
                      replace hK6 := hK6.k2 hk310_19
                      replace hf : ∀ i, i < 4 → m (5504 + i) = f i := fun i hi => (hk310_19 _ (by omega) (by omega)).trans (hf i hi)
                      replace hg := (hk310_19 5510 (by decide) (by decide)).trans hg
                      replace hgb := (hk310_19 5511 (by decide) (by decide)).trans hgb
                      rcases (⟨trivial⟩ : Nonempty True) with hy310_19
                      ·
                        show sd_Wp sd_SM 4 sY11_reads 313 [some (.inr 15), some (.inl pl), some (.inl mn), some (.inl w), some (.inl 0), some (.inl ((c : Int) + 1)), some (.inl (sd_b ((0 + (j45_1 : Int)) = 1))), some (.inl (2 + (j68_9 : Int))), some (.inl 1), none, none, none, none] [] m _
                        refine sd_vreturn sD11_reads_313 rfl (fun hm => hQ _ _ ⟨rfl, hK6, ?_⟩)
                        exact Or.inl ⟨q68_9, by simp only [sd_txt, hcl]; rw [if_neg (by omega)]; first | (rw [if_pos (by omega)]; done) | (rw [if_neg (by omega), if_neg (by assumption)]; done), hS.2.2.2⟩
                ·
                  refine sd_aload_n sD11_reads_250 rfl ?_
                  refine sd_callVp (as := []) (st := []) (v := .inl 1) sD11_reads_251 sM11_160 sOM15 rfl rfl rfl (by decide) (Nat.le_of_ble_eq_true rfl) (cM_isGood1 fr n q68_9 _ m hx hS) (fun ho251 => ?_)
                  refine sd_if_eq (tgt := 270) sD11_reads_254 (by decide) (fun zc254 => (by exfalso; omega)) (fun zc254 => ?_)
                  refine sd_aload_n sD11_reads_257 rfl ?_
                  refine sd_callVp (as := []) (st := []) (v := .inl (B q68_9)) sD11_reads_258 sM11_164 sOM15 rfl rfl rfl (by decide) (Nat.le_of_ble_eq_true rfl) (cM_byteAt _ fr B n q68_9 _ m hx hB hS) (fun ho258 => ?_)
                  refine sd_bipush sD11_reads_261 rfl (by decide) ?_
                  refine sd_icmp_ne (tgt := 270) sD11_reads_263 (by decide) (fun zc263 => ?_) (fun zc263 => ?_)
                  ·
                    refine sd_iconst sD11_reads_270 (by decide) ?_
                    refine sd_istore (ls' := [some (.inr 15), some (.inl pl), some (.inl mn), some (.inl w), some (.inl 0), some (.inl (c : Int)), some (.inl (sd_b ((0 + (j45_1 : Int)) = 1))), some (.inl (2 + (j68_9 : Int))), some (.inl 1), none, none, none, none]) sD11_reads_271 (by decide) rfl ?_
                    refine sd_aload_n sD11_reads_273 rfl ?_
                    refine sd_dup sD11_reads_274 ?_
                    refine sd_getfi sD11_reads_275 sF11_147 sGM15_12 ?_
                    rw [show m 5492 = (q68_9 : Int) from hS.2.2.1]
                    refine sd_iload sD11_reads_278 rfl ?_
                    refine sd_if_eq (tgt := 287) sD11_reads_280 (by decide) (fun zc280 => ?_) (fun zc280 => (by exfalso; omega))
                    refine sd_iconst sD11_reads_287 (by decide) ?_
                    refine sd_iadd (z := (q68_9 : Int)) sD11_reads_288 (by omega) (by omega) ?_
                    refine sd_putfc sd_sokM sd_oneM hx sD11_reads_289 sF11_147 sGM15_12 (by decide) (Or.inl rfl) (fun m hx em289 => ?_)
                    have hk289x := sd_k2.up em289 (Or.inl rfl)
                    replace hK6 := hK6.k2 hk289x
                    replace hf : ∀ i, i < 4 → m (5504 + i) = f i := fun i hi => (hk289x _ (by omega) (by omega)).trans (hf i hi)
                    replace hg := (hk289x 5510 (by decide) (by decide)).trans hg
                    replace hgb := (hk289x 5511 (by decide) (by decide)).trans hgb
                    replace hS : sd_RS m fr n q68_9 (-1) := ⟨by rw [em289, sd_up_ne (by decide)]; exact hS.1, by rw [em289, sd_up_ne (by decide)]; exact hS.2.1, by rw [em289, sd_up_eq]; (try omega), by rw [em289, sd_up_ne (by decide)]; exact hS.2.2.2⟩
                    refine sd_iinc (y := ((c : Int) + 1)) (ls' := [some (.inr 15), some (.inl pl), some (.inl mn), some (.inl w), some (.inl 0), some (.inl ((c : Int) + 1)), some (.inl (sd_b ((0 + (j45_1 : Int)) = 1))), some (.inl (2 + (j68_9 : Int))), some (.inl 1), none, none, none, none]) sD11_reads_292 rfl (by omega) (by omega) (by decide) rfl ?_
                    refine sd_goto (tgt := 31) sD11_reads_295 (by decide) ?_
                    refine sd_iload sD11_reads_31 rfl ?_
                    refine sd_iconst sD11_reads_33 (by decide) ?_
                    refine sd_icmp_ge (tgt := 298) sD11_reads_34 (by decide) (fun zc34 => ?_) (fun zc34 => ?_)
                    ·
                      refine sd_aload_n sD11_reads_298 rfl ?_
                      refine sd_getfi sD11_reads_299 sF11_147 sGM15_12 ?_
                      rw [show m 5492 = (q68_9 : Int) from hS.2.2.1]
                      refine sd_aload_n sD11_reads_302 rfl ?_
                      refine sd_getfi sD11_reads_303 sF11_151 sGM15_11 ?_
                      rw [show m 5491 = (n : Int) from hS.2.1]
                      refine sd_icmp_ge (tgt := 313) sD11_reads_306 (by decide) (fun zc306 => ?_) (fun zc306 => ?_)
                      ·
                        refine sd_vreturn sD11_reads_313 rfl (fun hm => hQ _ _ ⟨rfl, hK6, ?_⟩)
                        exact Or.inr ⟨[(j45_1, j68_9, ([] : List (Nat × Nat × Int)))], by simp only [sd_txt, hcl]; rw [if_pos (by omega)], hS.2.2.2, Or.inr (Or.inl ⟨by omega, sd_fcl_n hmt, by rw [hg]; omega⟩)⟩
                      ·
                        refine sd_aload_n sD11_reads_309 rfl ?_
                        refine sd_callV (as := []) (st := []) sD11_reads_310 sM11_167 rfl rfl sOM15 rfl (by decide) (Nat.le_of_ble_eq_true rfl) (cM_wrong1 fr n q68_9 _ m hx hS) (fun r m hq ho310 hm => ?_)
                        obtain ⟨rfl, hk310_20, hS⟩ := hq
                        replace hx := hk310_20.ns hx
                        replace hK6 := hK6.k2 hk310_20
                        replace hf : ∀ i, i < 4 → m (5504 + i) = f i := fun i hi => (hk310_20 _ (by omega) (by omega)).trans (hf i hi)
                        replace hg := (hk310_20 5510 (by decide) (by decide)).trans hg
                        replace hgb := (hk310_20 5511 (by decide) (by decide)).trans hgb
                        rcases (⟨trivial⟩ : Nonempty True) with hy310_20
                        ·
                          show sd_Wp sd_SM 4 sY11_reads 313 [some (.inr 15), some (.inl pl), some (.inl mn), some (.inl w), some (.inl 0), some (.inl ((c : Int) + 1)), some (.inl (sd_b ((0 + (j45_1 : Int)) = 1))), some (.inl (2 + (j68_9 : Int))), some (.inl 1), none, none, none, none] [] m _
                          refine sd_vreturn sD11_reads_313 rfl (fun hm => hQ _ _ ⟨rfl, hK6, ?_⟩)
                          exact Or.inl ⟨q68_9, by simp only [sd_txt, hcl]; rw [if_neg (by omega)]; first | (rw [if_pos (by omega)]; done) | (rw [if_neg (by omega), if_neg (by assumption)]; done), hS.2.2.2⟩
                    ·
                      refine sd_iload sD11_reads_37 rfl ?_
                      refine sd_if_eq (tgt := 298) sD11_reads_39 (by decide) (fun zc39 => ?_) (fun zc39 => (by exfalso; omega))
                      refine sd_aload_n sD11_reads_298 rfl ?_
                      refine sd_getfi sD11_reads_299 sF11_147 sGM15_12 ?_
                      rw [show m 5492 = (q68_9 : Int) from hS.2.2.1]
                      refine sd_aload_n sD11_reads_302 rfl ?_
                      refine sd_getfi sD11_reads_303 sF11_151 sGM15_11 ?_
                      rw [show m 5491 = (n : Int) from hS.2.1]
                      refine sd_icmp_ge (tgt := 313) sD11_reads_306 (by decide) (fun zc306 => ?_) (fun zc306 => ?_)
                      ·
                        refine sd_vreturn sD11_reads_313 rfl (fun hm => hQ _ _ ⟨rfl, hK6, ?_⟩)
                        exact Or.inr ⟨[(j45_1, j68_9, ([] : List (Nat × Nat × Int)))], by simp only [sd_txt, hcl]; rw [if_pos (by omega)], hS.2.2.2, Or.inr (Or.inl ⟨by omega, sd_fcl_n hmt, by rw [hg]; omega⟩)⟩
                      ·
                        refine sd_aload_n sD11_reads_309 rfl ?_
                        refine sd_callV (as := []) (st := []) sD11_reads_310 sM11_167 rfl rfl sOM15 rfl (by decide) (Nat.le_of_ble_eq_true rfl) (cM_wrong1 fr n q68_9 _ m hx hS) (fun r m hq ho310 hm => ?_)
                        obtain ⟨rfl, hk310_21, hS⟩ := hq
                        replace hx := hk310_21.ns hx
                        replace hK6 := hK6.k2 hk310_21
                        replace hf : ∀ i, i < 4 → m (5504 + i) = f i := fun i hi => (hk310_21 _ (by omega) (by omega)).trans (hf i hi)
                        replace hg := (hk310_21 5510 (by decide) (by decide)).trans hg
                        replace hgb := (hk310_21 5511 (by decide) (by decide)).trans hgb
                        rcases (⟨trivial⟩ : Nonempty True) with hy310_21
                        ·
                          show sd_Wp sd_SM 4 sY11_reads 313 [some (.inr 15), some (.inl pl), some (.inl mn), some (.inl w), some (.inl 0), some (.inl ((c : Int) + 1)), some (.inl (sd_b ((0 + (j45_1 : Int)) = 1))), some (.inl (2 + (j68_9 : Int))), some (.inl 1), none, none, none, none] [] m _
                          refine sd_vreturn sD11_reads_313 rfl (fun hm => hQ _ _ ⟨rfl, hK6, ?_⟩)
                          exact Or.inl ⟨q68_9, by simp only [sd_txt, hcl]; rw [if_neg (by omega)]; first | (rw [if_pos (by omega)]; done) | (rw [if_neg (by omega), if_neg (by assumption)]; done), hS.2.2.2⟩
                  ·
                    have hsm : B q68_9 = 59 := by assumption
                    have hin3 := hB.in (p := q68_9) (by omega)
                    have hn1 := hB.1
                    refine sd_iconst sD11_reads_266 (by decide) ?_
                    refine sd_goto (tgt := 271) sD11_reads_267 (by decide) ?_
                    refine sd_istore (ls' := [some (.inr 15), some (.inl pl), some (.inl mn), some (.inl w), some (.inl 1), some (.inl (c : Int)), some (.inl (sd_b ((0 + (j45_1 : Int)) = 1))), some (.inl (2 + (j68_9 : Int))), some (.inl 1), none, none, none, none]) sD11_reads_271 (by decide) rfl ?_
                    refine sd_aload_n sD11_reads_273 rfl ?_
                    refine sd_dup sD11_reads_274 ?_
                    refine sd_getfi sD11_reads_275 sF11_147 sGM15_12 ?_
                    rw [show m 5492 = (q68_9 : Int) from hS.2.2.1]
                    refine sd_iload sD11_reads_278 rfl ?_
                    refine sd_if_eq (tgt := 287) sD11_reads_280 (by decide) (fun zc280 => (by exfalso; omega)) (fun zc280 => ?_)
                    refine sd_iconst sD11_reads_283 (by decide) ?_
                    refine sd_goto (tgt := 288) sD11_reads_284 (by decide) ?_
                    refine sd_iadd (z := ((q68_9 : Int) + 1)) sD11_reads_288 (by omega) (by omega) ?_
                    refine sd_putfc sd_sokM sd_oneM hx sD11_reads_289 sF11_147 sGM15_12 (by decide) (Or.inl rfl) (fun m hx em289 => ?_)
                    have hk289x := sd_k2.up em289 (Or.inl rfl)
                    replace hK6 := hK6.k2 hk289x
                    replace hf : ∀ i, i < 4 → m (5504 + i) = f i := fun i hi => (hk289x _ (by omega) (by omega)).trans (hf i hi)
                    replace hg := (hk289x 5510 (by decide) (by decide)).trans hg
                    replace hgb := (hk289x 5511 (by decide) (by decide)).trans hgb
                    replace hS : sd_RS m fr n (q68_9 + 1) (-1) := ⟨by rw [em289, sd_up_ne (by decide)]; exact hS.1, by rw [em289, sd_up_ne (by decide)]; exact hS.2.1, by rw [em289, sd_up_eq]; (try omega), by rw [em289, sd_up_ne (by decide)]; exact hS.2.2.2⟩
                    refine sd_iinc (y := ((c : Int) + 1)) (ls' := [some (.inr 15), some (.inl pl), some (.inl mn), some (.inl w), some (.inl 1), some (.inl ((c : Int) + 1)), some (.inl (sd_b ((0 + (j45_1 : Int)) = 1))), some (.inl (2 + (j68_9 : Int))), some (.inl 1), none, none, none, none]) sD11_reads_292 rfl (by omega) (by omega) (by decide) rfl ?_
                    refine sd_goto (tgt := 31) sD11_reads_295 (by decide) ?_
                    refine sd_less (ls' := [some (.inr 15), some (.inl pl), some (.inl mn), some (.inl w), some (.inl 1), some (.inl ((c : Int) + 1)), none, none, none, none, none, none, none]) ?_ rfl (by intro zi zv zh; rcases zi with _ | _ | _ | _ | _ | _ | _ | _ | _ | _ | _ | _ | _ | zi <;> first | exact zh | cases zh)
                    refine sd_eqw (ls' := [some (.inr 15), some (.inl pl), some (.inl mn), some (.inl w), some (.inl 1), some (.inl ((c + 1 : Nat) : Int)), none, none, none, none, none, none, none]) ?_ (sd_cg rfl (sd_cg rfl (sd_cg rfl (sd_cg rfl (sd_cg rfl (sd_cg (sd_ce (by omega)) rfl)))))) rfl
                    exact ih (by omega) g b m (q68_9 + 1) hx hS (by omega) hK6 hf hg hgb (by omega) (fun r m2 hq => hQ r m2 (sd_rd_C hcl (by omega) (by omega) hsm (by omega) hmt hq))
            ·
              refine sd_aload_n sD11_reads_225 rfl ?_
              refine sd_getfi sD11_reads_226 sF11_176 sGM15_15 ?_
              rw [show m 5510 = g from hg]
              refine sd_if_ge (tgt := 244) sD11_reads_229 (by decide) (fun zc229 => ?_) (fun zc229 => ?_)
              ·
                refine sd_iload sD11_reads_244 rfl ?_
                refine sd_iconst sD11_reads_246 (by decide) ?_
                refine sd_icmp_ge (tgt := 270) sD11_reads_247 (by decide) (fun zc247 => ?_) (fun zc247 => ?_)
                ·
                  refine sd_iconst sD11_reads_270 (by decide) ?_
                  refine sd_istore (ls' := [some (.inr 15), some (.inl pl), some (.inl mn), some (.inl w), some (.inl 0), some (.inl (c : Int)), some (.inl (sd_b ((0 + (j45_1 : Int)) = 1))), some (.inl (2 + (j68_9 : Int))), some (.inl 1), none, none, none, none]) sD11_reads_271 (by decide) rfl ?_
                  refine sd_aload_n sD11_reads_273 rfl ?_
                  refine sd_dup sD11_reads_274 ?_
                  refine sd_getfi sD11_reads_275 sF11_147 sGM15_12 ?_
                  rw [show m 5492 = (q68_9 : Int) from hS.2.2.1]
                  refine sd_iload sD11_reads_278 rfl ?_
                  refine sd_if_eq (tgt := 287) sD11_reads_280 (by decide) (fun zc280 => ?_) (fun zc280 => (by exfalso; omega))
                  refine sd_iconst sD11_reads_287 (by decide) ?_
                  refine sd_iadd (z := (q68_9 : Int)) sD11_reads_288 (by omega) (by omega) ?_
                  refine sd_putfc sd_sokM sd_oneM hx sD11_reads_289 sF11_147 sGM15_12 (by decide) (Or.inl rfl) (fun m hx em289 => ?_)
                  have hk289x := sd_k2.up em289 (Or.inl rfl)
                  replace hK6 := hK6.k2 hk289x
                  replace hf : ∀ i, i < 4 → m (5504 + i) = f i := fun i hi => (hk289x _ (by omega) (by omega)).trans (hf i hi)
                  replace hg := (hk289x 5510 (by decide) (by decide)).trans hg
                  replace hgb := (hk289x 5511 (by decide) (by decide)).trans hgb
                  replace hS : sd_RS m fr n q68_9 (-1) := ⟨by rw [em289, sd_up_ne (by decide)]; exact hS.1, by rw [em289, sd_up_ne (by decide)]; exact hS.2.1, by rw [em289, sd_up_eq]; (try omega), by rw [em289, sd_up_ne (by decide)]; exact hS.2.2.2⟩
                  refine sd_iinc (y := ((c : Int) + 1)) (ls' := [some (.inr 15), some (.inl pl), some (.inl mn), some (.inl w), some (.inl 0), some (.inl ((c : Int) + 1)), some (.inl (sd_b ((0 + (j45_1 : Int)) = 1))), some (.inl (2 + (j68_9 : Int))), some (.inl 1), none, none, none, none]) sD11_reads_292 rfl (by omega) (by omega) (by decide) rfl ?_
                  refine sd_goto (tgt := 31) sD11_reads_295 (by decide) ?_
                  refine sd_iload sD11_reads_31 rfl ?_
                  refine sd_iconst sD11_reads_33 (by decide) ?_
                  refine sd_icmp_ge (tgt := 298) sD11_reads_34 (by decide) (fun zc34 => ?_) (fun zc34 => ?_)
                  ·
                    refine sd_aload_n sD11_reads_298 rfl ?_
                    refine sd_getfi sD11_reads_299 sF11_147 sGM15_12 ?_
                    rw [show m 5492 = (q68_9 : Int) from hS.2.2.1]
                    refine sd_aload_n sD11_reads_302 rfl ?_
                    refine sd_getfi sD11_reads_303 sF11_151 sGM15_11 ?_
                    rw [show m 5491 = (n : Int) from hS.2.1]
                    refine sd_icmp_ge (tgt := 313) sD11_reads_306 (by decide) (fun zc306 => ?_) (fun zc306 => ?_)
                    ·
                      refine sd_vreturn sD11_reads_313 rfl (fun hm => hQ _ _ ⟨rfl, hK6, ?_⟩)
                      exact Or.inr ⟨[(j45_1, j68_9, ([] : List (Nat × Nat × Int)))], by simp only [sd_txt, hcl]; rw [if_pos (by omega)], hS.2.2.2, Or.inl ⟨by omega, hg, hgb⟩⟩
                    ·
                      refine sd_aload_n sD11_reads_309 rfl ?_
                      refine sd_callV (as := []) (st := []) sD11_reads_310 sM11_167 rfl rfl sOM15 rfl (by decide) (Nat.le_of_ble_eq_true rfl) (cM_wrong1 fr n q68_9 _ m hx hS) (fun r m hq ho310 hm => ?_)
                      obtain ⟨rfl, hk310_22, hS⟩ := hq
                      replace hx := hk310_22.ns hx
                      replace hK6 := hK6.k2 hk310_22
                      replace hf : ∀ i, i < 4 → m (5504 + i) = f i := fun i hi => (hk310_22 _ (by omega) (by omega)).trans (hf i hi)
                      replace hg := (hk310_22 5510 (by decide) (by decide)).trans hg
                      replace hgb := (hk310_22 5511 (by decide) (by decide)).trans hgb
                      rcases (⟨trivial⟩ : Nonempty True) with hy310_22
                      ·
                        show sd_Wp sd_SM 4 sY11_reads 313 [some (.inr 15), some (.inl pl), some (.inl mn), some (.inl w), some (.inl 0), some (.inl ((c : Int) + 1)), some (.inl (sd_b ((0 + (j45_1 : Int)) = 1))), some (.inl (2 + (j68_9 : Int))), some (.inl 1), none, none, none, none] [] m _
                        refine sd_vreturn sD11_reads_313 rfl (fun hm => hQ _ _ ⟨rfl, hK6, ?_⟩)
                        exact Or.inl ⟨q68_9, by simp only [sd_txt, hcl]; rw [if_neg (by omega)]; first | (rw [if_pos (by omega)]; done) | (rw [if_neg (by omega), if_neg (by assumption)]; done), hS.2.2.2⟩
                  ·
                    refine sd_iload sD11_reads_37 rfl ?_
                    refine sd_if_eq (tgt := 298) sD11_reads_39 (by decide) (fun zc39 => ?_) (fun zc39 => (by exfalso; omega))
                    refine sd_aload_n sD11_reads_298 rfl ?_
                    refine sd_getfi sD11_reads_299 sF11_147 sGM15_12 ?_
                    rw [show m 5492 = (q68_9 : Int) from hS.2.2.1]
                    refine sd_aload_n sD11_reads_302 rfl ?_
                    refine sd_getfi sD11_reads_303 sF11_151 sGM15_11 ?_
                    rw [show m 5491 = (n : Int) from hS.2.1]
                    refine sd_icmp_ge (tgt := 313) sD11_reads_306 (by decide) (fun zc306 => ?_) (fun zc306 => ?_)
                    ·
                      refine sd_vreturn sD11_reads_313 rfl (fun hm => hQ _ _ ⟨rfl, hK6, ?_⟩)
                      exact Or.inr ⟨[(j45_1, j68_9, ([] : List (Nat × Nat × Int)))], by simp only [sd_txt, hcl]; rw [if_pos (by omega)], hS.2.2.2, Or.inl ⟨by omega, hg, hgb⟩⟩
                    ·
                      refine sd_aload_n sD11_reads_309 rfl ?_
                      refine sd_callV (as := []) (st := []) sD11_reads_310 sM11_167 rfl rfl sOM15 rfl (by decide) (Nat.le_of_ble_eq_true rfl) (cM_wrong1 fr n q68_9 _ m hx hS) (fun r m hq ho310 hm => ?_)
                      obtain ⟨rfl, hk310_23, hS⟩ := hq
                      replace hx := hk310_23.ns hx
                      replace hK6 := hK6.k2 hk310_23
                      replace hf : ∀ i, i < 4 → m (5504 + i) = f i := fun i hi => (hk310_23 _ (by omega) (by omega)).trans (hf i hi)
                      replace hg := (hk310_23 5510 (by decide) (by decide)).trans hg
                      replace hgb := (hk310_23 5511 (by decide) (by decide)).trans hgb
                      rcases (⟨trivial⟩ : Nonempty True) with hy310_23
                      ·
                        show sd_Wp sd_SM 4 sY11_reads 313 [some (.inr 15), some (.inl pl), some (.inl mn), some (.inl w), some (.inl 0), some (.inl ((c : Int) + 1)), some (.inl (sd_b ((0 + (j45_1 : Int)) = 1))), some (.inl (2 + (j68_9 : Int))), some (.inl 1), none, none, none, none] [] m _
                        refine sd_vreturn sD11_reads_313 rfl (fun hm => hQ _ _ ⟨rfl, hK6, ?_⟩)
                        exact Or.inl ⟨q68_9, by simp only [sd_txt, hcl]; rw [if_neg (by omega)]; first | (rw [if_pos (by omega)]; done) | (rw [if_neg (by omega), if_neg (by assumption)]; done), hS.2.2.2⟩
                ·
                  refine sd_aload_n sD11_reads_250 rfl ?_
                  refine sd_callVp (as := []) (st := []) (v := .inl 1) sD11_reads_251 sM11_160 sOM15 rfl rfl rfl (by decide) (Nat.le_of_ble_eq_true rfl) (cM_isGood1 fr n q68_9 _ m hx hS) (fun ho251 => ?_)
                  refine sd_if_eq (tgt := 270) sD11_reads_254 (by decide) (fun zc254 => (by exfalso; omega)) (fun zc254 => ?_)
                  refine sd_aload_n sD11_reads_257 rfl ?_
                  refine sd_callVp (as := []) (st := []) (v := .inl (B q68_9)) sD11_reads_258 sM11_164 sOM15 rfl rfl rfl (by decide) (Nat.le_of_ble_eq_true rfl) (cM_byteAt _ fr B n q68_9 _ m hx hB hS) (fun ho258 => ?_)
                  refine sd_bipush sD11_reads_261 rfl (by decide) ?_
                  refine sd_icmp_ne (tgt := 270) sD11_reads_263 (by decide) (fun zc263 => ?_) (fun zc263 => ?_)
                  ·
                    refine sd_iconst sD11_reads_270 (by decide) ?_
                    refine sd_istore (ls' := [some (.inr 15), some (.inl pl), some (.inl mn), some (.inl w), some (.inl 0), some (.inl (c : Int)), some (.inl (sd_b ((0 + (j45_1 : Int)) = 1))), some (.inl (2 + (j68_9 : Int))), some (.inl 1), none, none, none, none]) sD11_reads_271 (by decide) rfl ?_
                    refine sd_aload_n sD11_reads_273 rfl ?_
                    refine sd_dup sD11_reads_274 ?_
                    refine sd_getfi sD11_reads_275 sF11_147 sGM15_12 ?_
                    rw [show m 5492 = (q68_9 : Int) from hS.2.2.1]
                    refine sd_iload sD11_reads_278 rfl ?_
                    refine sd_if_eq (tgt := 287) sD11_reads_280 (by decide) (fun zc280 => ?_) (fun zc280 => (by exfalso; omega))
                    refine sd_iconst sD11_reads_287 (by decide) ?_
                    refine sd_iadd (z := (q68_9 : Int)) sD11_reads_288 (by omega) (by omega) ?_
                    refine sd_putfc sd_sokM sd_oneM hx sD11_reads_289 sF11_147 sGM15_12 (by decide) (Or.inl rfl) (fun m hx em289 => ?_)
                    have hk289x := sd_k2.up em289 (Or.inl rfl)
                    replace hK6 := hK6.k2 hk289x
                    replace hf : ∀ i, i < 4 → m (5504 + i) = f i := fun i hi => (hk289x _ (by omega) (by omega)).trans (hf i hi)
                    replace hg := (hk289x 5510 (by decide) (by decide)).trans hg
                    replace hgb := (hk289x 5511 (by decide) (by decide)).trans hgb
                    replace hS : sd_RS m fr n q68_9 (-1) := ⟨by rw [em289, sd_up_ne (by decide)]; exact hS.1, by rw [em289, sd_up_ne (by decide)]; exact hS.2.1, by rw [em289, sd_up_eq]; (try omega), by rw [em289, sd_up_ne (by decide)]; exact hS.2.2.2⟩
                    refine sd_iinc (y := ((c : Int) + 1)) (ls' := [some (.inr 15), some (.inl pl), some (.inl mn), some (.inl w), some (.inl 0), some (.inl ((c : Int) + 1)), some (.inl (sd_b ((0 + (j45_1 : Int)) = 1))), some (.inl (2 + (j68_9 : Int))), some (.inl 1), none, none, none, none]) sD11_reads_292 rfl (by omega) (by omega) (by decide) rfl ?_
                    refine sd_goto (tgt := 31) sD11_reads_295 (by decide) ?_
                    refine sd_iload sD11_reads_31 rfl ?_
                    refine sd_iconst sD11_reads_33 (by decide) ?_
                    refine sd_icmp_ge (tgt := 298) sD11_reads_34 (by decide) (fun zc34 => ?_) (fun zc34 => ?_)
                    ·
                      refine sd_aload_n sD11_reads_298 rfl ?_
                      refine sd_getfi sD11_reads_299 sF11_147 sGM15_12 ?_
                      rw [show m 5492 = (q68_9 : Int) from hS.2.2.1]
                      refine sd_aload_n sD11_reads_302 rfl ?_
                      refine sd_getfi sD11_reads_303 sF11_151 sGM15_11 ?_
                      rw [show m 5491 = (n : Int) from hS.2.1]
                      refine sd_icmp_ge (tgt := 313) sD11_reads_306 (by decide) (fun zc306 => ?_) (fun zc306 => ?_)
                      ·
                        refine sd_vreturn sD11_reads_313 rfl (fun hm => hQ _ _ ⟨rfl, hK6, ?_⟩)
                        exact Or.inr ⟨[(j45_1, j68_9, ([] : List (Nat × Nat × Int)))], by simp only [sd_txt, hcl]; rw [if_pos (by omega)], hS.2.2.2, Or.inl ⟨by omega, hg, hgb⟩⟩
                      ·
                        refine sd_aload_n sD11_reads_309 rfl ?_
                        refine sd_callV (as := []) (st := []) sD11_reads_310 sM11_167 rfl rfl sOM15 rfl (by decide) (Nat.le_of_ble_eq_true rfl) (cM_wrong1 fr n q68_9 _ m hx hS) (fun r m hq ho310 hm => ?_)
                        obtain ⟨rfl, hk310_24, hS⟩ := hq
                        replace hx := hk310_24.ns hx
                        replace hK6 := hK6.k2 hk310_24
                        replace hf : ∀ i, i < 4 → m (5504 + i) = f i := fun i hi => (hk310_24 _ (by omega) (by omega)).trans (hf i hi)
                        replace hg := (hk310_24 5510 (by decide) (by decide)).trans hg
                        replace hgb := (hk310_24 5511 (by decide) (by decide)).trans hgb
                        rcases (⟨trivial⟩ : Nonempty True) with hy310_24
                        ·
                          show sd_Wp sd_SM 4 sY11_reads 313 [some (.inr 15), some (.inl pl), some (.inl mn), some (.inl w), some (.inl 0), some (.inl ((c : Int) + 1)), some (.inl (sd_b ((0 + (j45_1 : Int)) = 1))), some (.inl (2 + (j68_9 : Int))), some (.inl 1), none, none, none, none] [] m _
                          refine sd_vreturn sD11_reads_313 rfl (fun hm => hQ _ _ ⟨rfl, hK6, ?_⟩)
                          exact Or.inl ⟨q68_9, by simp only [sd_txt, hcl]; rw [if_neg (by omega)]; first | (rw [if_pos (by omega)]; done) | (rw [if_neg (by omega), if_neg (by assumption)]; done), hS.2.2.2⟩
                    ·
                      refine sd_iload sD11_reads_37 rfl ?_
                      refine sd_if_eq (tgt := 298) sD11_reads_39 (by decide) (fun zc39 => ?_) (fun zc39 => (by exfalso; omega))
                      refine sd_aload_n sD11_reads_298 rfl ?_
                      refine sd_getfi sD11_reads_299 sF11_147 sGM15_12 ?_
                      rw [show m 5492 = (q68_9 : Int) from hS.2.2.1]
                      refine sd_aload_n sD11_reads_302 rfl ?_
                      refine sd_getfi sD11_reads_303 sF11_151 sGM15_11 ?_
                      rw [show m 5491 = (n : Int) from hS.2.1]
                      refine sd_icmp_ge (tgt := 313) sD11_reads_306 (by decide) (fun zc306 => ?_) (fun zc306 => ?_)
                      ·
                        refine sd_vreturn sD11_reads_313 rfl (fun hm => hQ _ _ ⟨rfl, hK6, ?_⟩)
                        exact Or.inr ⟨[(j45_1, j68_9, ([] : List (Nat × Nat × Int)))], by simp only [sd_txt, hcl]; rw [if_pos (by omega)], hS.2.2.2, Or.inl ⟨by omega, hg, hgb⟩⟩
                      ·
                        refine sd_aload_n sD11_reads_309 rfl ?_
                        refine sd_callV (as := []) (st := []) sD11_reads_310 sM11_167 rfl rfl sOM15 rfl (by decide) (Nat.le_of_ble_eq_true rfl) (cM_wrong1 fr n q68_9 _ m hx hS) (fun r m hq ho310 hm => ?_)
                        obtain ⟨rfl, hk310_25, hS⟩ := hq
                        replace hx := hk310_25.ns hx
                        replace hK6 := hK6.k2 hk310_25
                        replace hf : ∀ i, i < 4 → m (5504 + i) = f i := fun i hi => (hk310_25 _ (by omega) (by omega)).trans (hf i hi)
                        replace hg := (hk310_25 5510 (by decide) (by decide)).trans hg
                        replace hgb := (hk310_25 5511 (by decide) (by decide)).trans hgb
                        rcases (⟨trivial⟩ : Nonempty True) with hy310_25
                        ·
                          show sd_Wp sd_SM 4 sY11_reads 313 [some (.inr 15), some (.inl pl), some (.inl mn), some (.inl w), some (.inl 0), some (.inl ((c : Int) + 1)), some (.inl (sd_b ((0 + (j45_1 : Int)) = 1))), some (.inl (2 + (j68_9 : Int))), some (.inl 1), none, none, none, none] [] m _
                          refine sd_vreturn sD11_reads_313 rfl (fun hm => hQ _ _ ⟨rfl, hK6, ?_⟩)
                          exact Or.inl ⟨q68_9, by simp only [sd_txt, hcl]; rw [if_neg (by omega)]; first | (rw [if_pos (by omega)]; done) | (rw [if_neg (by omega), if_neg (by assumption)]; done), hS.2.2.2⟩
                  ·
                    have hsm : B q68_9 = 59 := by assumption
                    have hin3 := hB.in (p := q68_9) (by omega)
                    have hn1 := hB.1
                    refine sd_iconst sD11_reads_266 (by decide) ?_
                    refine sd_goto (tgt := 271) sD11_reads_267 (by decide) ?_
                    refine sd_istore (ls' := [some (.inr 15), some (.inl pl), some (.inl mn), some (.inl w), some (.inl 1), some (.inl (c : Int)), some (.inl (sd_b ((0 + (j45_1 : Int)) = 1))), some (.inl (2 + (j68_9 : Int))), some (.inl 1), none, none, none, none]) sD11_reads_271 (by decide) rfl ?_
                    refine sd_aload_n sD11_reads_273 rfl ?_
                    refine sd_dup sD11_reads_274 ?_
                    refine sd_getfi sD11_reads_275 sF11_147 sGM15_12 ?_
                    rw [show m 5492 = (q68_9 : Int) from hS.2.2.1]
                    refine sd_iload sD11_reads_278 rfl ?_
                    refine sd_if_eq (tgt := 287) sD11_reads_280 (by decide) (fun zc280 => (by exfalso; omega)) (fun zc280 => ?_)
                    refine sd_iconst sD11_reads_283 (by decide) ?_
                    refine sd_goto (tgt := 288) sD11_reads_284 (by decide) ?_
                    refine sd_iadd (z := ((q68_9 : Int) + 1)) sD11_reads_288 (by omega) (by omega) ?_
                    refine sd_putfc sd_sokM sd_oneM hx sD11_reads_289 sF11_147 sGM15_12 (by decide) (Or.inl rfl) (fun m hx em289 => ?_)
                    have hk289x := sd_k2.up em289 (Or.inl rfl)
                    replace hK6 := hK6.k2 hk289x
                    replace hf : ∀ i, i < 4 → m (5504 + i) = f i := fun i hi => (hk289x _ (by omega) (by omega)).trans (hf i hi)
                    replace hg := (hk289x 5510 (by decide) (by decide)).trans hg
                    replace hgb := (hk289x 5511 (by decide) (by decide)).trans hgb
                    replace hS : sd_RS m fr n (q68_9 + 1) (-1) := ⟨by rw [em289, sd_up_ne (by decide)]; exact hS.1, by rw [em289, sd_up_ne (by decide)]; exact hS.2.1, by rw [em289, sd_up_eq]; (try omega), by rw [em289, sd_up_ne (by decide)]; exact hS.2.2.2⟩
                    refine sd_iinc (y := ((c : Int) + 1)) (ls' := [some (.inr 15), some (.inl pl), some (.inl mn), some (.inl w), some (.inl 1), some (.inl ((c : Int) + 1)), some (.inl (sd_b ((0 + (j45_1 : Int)) = 1))), some (.inl (2 + (j68_9 : Int))), some (.inl 1), none, none, none, none]) sD11_reads_292 rfl (by omega) (by omega) (by decide) rfl ?_
                    refine sd_goto (tgt := 31) sD11_reads_295 (by decide) ?_
                    refine sd_less (ls' := [some (.inr 15), some (.inl pl), some (.inl mn), some (.inl w), some (.inl 1), some (.inl ((c : Int) + 1)), none, none, none, none, none, none, none]) ?_ rfl (by intro zi zv zh; rcases zi with _ | _ | _ | _ | _ | _ | _ | _ | _ | _ | _ | _ | _ | zi <;> first | exact zh | cases zh)
                    refine sd_eqw (ls' := [some (.inr 15), some (.inl pl), some (.inl mn), some (.inl w), some (.inl 1), some (.inl ((c + 1 : Nat) : Int)), none, none, none, none, none, none, none]) ?_ (sd_cg rfl (sd_cg rfl (sd_cg rfl (sd_cg rfl (sd_cg rfl (sd_cg (sd_ce (by omega)) rfl)))))) rfl
                    exact ih (by omega) g b m (q68_9 + 1) hx hS (by omega) hK6 hf hg hgb (by omega) (fun r m2 hq => hQ r m2 (sd_rd_A hcl (by omega) (by omega) hsm (by omega) hq))
              ·
                refine sd_aload_n sD11_reads_232 rfl ?_
                refine sd_iload sD11_reads_233 rfl ?_
                refine sd_putfc sd_sokM sd_oneM hx sD11_reads_235 sF11_176 sGM15_15 (by decide) (Or.inl rfl) (fun m hx em235 => ?_)
                replace hK6 := hK6.up em235 (by omega)
                replace hf : ∀ i, i < 4 → m (5504 + i) = f i := fun i hi => by rw [em235, sd_up_ne (by omega)]; exact hf i hi
                replace hS : sd_RS m fr n q68_9 (-1) := ⟨by rw [em235, sd_up_ne (by decide)]; exact hS.1, by rw [em235, sd_up_ne (by decide)]; exact hS.2.1, by rw [em235, sd_up_ne (by decide)]; exact hS.2.2.1, by rw [em235, sd_up_ne (by decide)]; exact hS.2.2.2⟩
                replace hg : m 5510 = (c : Int) := by rw [em235, sd_up_eq]
                replace hgb : m 5511 = b := by rw [em235, sd_up_ne (by decide)]; exact hgb
                refine sd_aload_n sD11_reads_238 rfl ?_
                refine sd_iload sD11_reads_239 rfl ?_
                refine sd_putfc sd_sokM sd_oneM hx sD11_reads_241 sF11_182 sGM15_16 (by decide) (Or.inr ⟨rfl, sd_b01 _⟩) (fun m hx em241 => ?_)
                replace hK6 := hK6.up em241 (by omega)
                replace hf : ∀ i, i < 4 → m (5504 + i) = f i := fun i hi => by rw [em241, sd_up_ne (by omega)]; exact hf i hi
                replace hS : sd_RS m fr n q68_9 (-1) := ⟨by rw [em241, sd_up_ne (by decide)]; exact hS.1, by rw [em241, sd_up_ne (by decide)]; exact hS.2.1, by rw [em241, sd_up_ne (by decide)]; exact hS.2.2.1, by rw [em241, sd_up_ne (by decide)]; exact hS.2.2.2⟩
                replace hg : m 5510 = (c : Int) := by rw [em241, sd_up_ne (by decide)]; exact hg
                replace hgb : m 5511 = sd_b ((0 + (j45_1 : Int)) = 1) := by rw [em241, sd_up_eq]
                have hmt : sd_mt f w (j45_1, j68_9, ([] : List (Nat × Nat × Int))) := ⟨by show (j68_9 : Int) = w; omega, (fun t ht => by simp at ht)⟩
                refine sd_iload sD11_reads_244 rfl ?_
                refine sd_iconst sD11_reads_246 (by decide) ?_
                refine sd_icmp_ge (tgt := 270) sD11_reads_247 (by decide) (fun zc247 => ?_) (fun zc247 => ?_)
                ·
                  refine sd_iconst sD11_reads_270 (by decide) ?_
                  refine sd_istore (ls' := [some (.inr 15), some (.inl pl), some (.inl mn), some (.inl w), some (.inl 0), some (.inl (c : Int)), some (.inl (sd_b ((0 + (j45_1 : Int)) = 1))), some (.inl (2 + (j68_9 : Int))), some (.inl 1), none, none, none, none]) sD11_reads_271 (by decide) rfl ?_
                  refine sd_aload_n sD11_reads_273 rfl ?_
                  refine sd_dup sD11_reads_274 ?_
                  refine sd_getfi sD11_reads_275 sF11_147 sGM15_12 ?_
                  rw [show m 5492 = (q68_9 : Int) from hS.2.2.1]
                  refine sd_iload sD11_reads_278 rfl ?_
                  refine sd_if_eq (tgt := 287) sD11_reads_280 (by decide) (fun zc280 => ?_) (fun zc280 => (by exfalso; omega))
                  refine sd_iconst sD11_reads_287 (by decide) ?_
                  refine sd_iadd (z := (q68_9 : Int)) sD11_reads_288 (by omega) (by omega) ?_
                  refine sd_putfc sd_sokM sd_oneM hx sD11_reads_289 sF11_147 sGM15_12 (by decide) (Or.inl rfl) (fun m hx em289 => ?_)
                  have hk289x := sd_k2.up em289 (Or.inl rfl)
                  replace hK6 := hK6.k2 hk289x
                  replace hf : ∀ i, i < 4 → m (5504 + i) = f i := fun i hi => (hk289x _ (by omega) (by omega)).trans (hf i hi)
                  replace hg := (hk289x 5510 (by decide) (by decide)).trans hg
                  replace hgb := (hk289x 5511 (by decide) (by decide)).trans hgb
                  replace hS : sd_RS m fr n q68_9 (-1) := ⟨by rw [em289, sd_up_ne (by decide)]; exact hS.1, by rw [em289, sd_up_ne (by decide)]; exact hS.2.1, by rw [em289, sd_up_eq]; (try omega), by rw [em289, sd_up_ne (by decide)]; exact hS.2.2.2⟩
                  refine sd_iinc (y := ((c : Int) + 1)) (ls' := [some (.inr 15), some (.inl pl), some (.inl mn), some (.inl w), some (.inl 0), some (.inl ((c : Int) + 1)), some (.inl (sd_b ((0 + (j45_1 : Int)) = 1))), some (.inl (2 + (j68_9 : Int))), some (.inl 1), none, none, none, none]) sD11_reads_292 rfl (by omega) (by omega) (by decide) rfl ?_
                  refine sd_goto (tgt := 31) sD11_reads_295 (by decide) ?_
                  refine sd_iload sD11_reads_31 rfl ?_
                  refine sd_iconst sD11_reads_33 (by decide) ?_
                  refine sd_icmp_ge (tgt := 298) sD11_reads_34 (by decide) (fun zc34 => ?_) (fun zc34 => ?_)
                  ·
                    refine sd_aload_n sD11_reads_298 rfl ?_
                    refine sd_getfi sD11_reads_299 sF11_147 sGM15_12 ?_
                    rw [show m 5492 = (q68_9 : Int) from hS.2.2.1]
                    refine sd_aload_n sD11_reads_302 rfl ?_
                    refine sd_getfi sD11_reads_303 sF11_151 sGM15_11 ?_
                    rw [show m 5491 = (n : Int) from hS.2.1]
                    refine sd_icmp_ge (tgt := 313) sD11_reads_306 (by decide) (fun zc306 => ?_) (fun zc306 => ?_)
                    ·
                      refine sd_vreturn sD11_reads_313 rfl (fun hm => hQ _ _ ⟨rfl, hK6, ?_⟩)
                      exact Or.inr ⟨[(j45_1, j68_9, ([] : List (Nat × Nat × Int)))], by simp only [sd_txt, hcl]; rw [if_pos (by omega)], hS.2.2.2, Or.inr (Or.inr ⟨by omega, by rw [(sd_fcl_y hmt).1]; decide, by rw [hg, (sd_fcl_y hmt).1]; omega, by rw [hgb, (sd_fcl_y hmt).2]; exact sd_b1j (by omega)⟩)⟩
                    ·
                      refine sd_aload_n sD11_reads_309 rfl ?_
                      refine sd_callV (as := []) (st := []) sD11_reads_310 sM11_167 rfl rfl sOM15 rfl (by decide) (Nat.le_of_ble_eq_true rfl) (cM_wrong1 fr n q68_9 _ m hx hS) (fun r m hq ho310 hm => ?_)
                      obtain ⟨rfl, hk310_26, hS⟩ := hq
                      replace hx := hk310_26.ns hx
                      replace hK6 := hK6.k2 hk310_26
                      replace hf : ∀ i, i < 4 → m (5504 + i) = f i := fun i hi => (hk310_26 _ (by omega) (by omega)).trans (hf i hi)
                      replace hg := (hk310_26 5510 (by decide) (by decide)).trans hg
                      replace hgb := (hk310_26 5511 (by decide) (by decide)).trans hgb
                      rcases (⟨trivial⟩ : Nonempty True) with hy310_26
                      ·
                        show sd_Wp sd_SM 4 sY11_reads 313 [some (.inr 15), some (.inl pl), some (.inl mn), some (.inl w), some (.inl 0), some (.inl ((c : Int) + 1)), some (.inl (sd_b ((0 + (j45_1 : Int)) = 1))), some (.inl (2 + (j68_9 : Int))), some (.inl 1), none, none, none, none] [] m _
                        refine sd_vreturn sD11_reads_313 rfl (fun hm => hQ _ _ ⟨rfl, hK6, ?_⟩)
                        exact Or.inl ⟨q68_9, by simp only [sd_txt, hcl]; rw [if_neg (by omega)]; first | (rw [if_pos (by omega)]; done) | (rw [if_neg (by omega), if_neg (by assumption)]; done), hS.2.2.2⟩
                  ·
                    refine sd_iload sD11_reads_37 rfl ?_
                    refine sd_if_eq (tgt := 298) sD11_reads_39 (by decide) (fun zc39 => ?_) (fun zc39 => (by exfalso; omega))
                    refine sd_aload_n sD11_reads_298 rfl ?_
                    refine sd_getfi sD11_reads_299 sF11_147 sGM15_12 ?_
                    rw [show m 5492 = (q68_9 : Int) from hS.2.2.1]
                    refine sd_aload_n sD11_reads_302 rfl ?_
                    refine sd_getfi sD11_reads_303 sF11_151 sGM15_11 ?_
                    rw [show m 5491 = (n : Int) from hS.2.1]
                    refine sd_icmp_ge (tgt := 313) sD11_reads_306 (by decide) (fun zc306 => ?_) (fun zc306 => ?_)
                    ·
                      refine sd_vreturn sD11_reads_313 rfl (fun hm => hQ _ _ ⟨rfl, hK6, ?_⟩)
                      exact Or.inr ⟨[(j45_1, j68_9, ([] : List (Nat × Nat × Int)))], by simp only [sd_txt, hcl]; rw [if_pos (by omega)], hS.2.2.2, Or.inr (Or.inr ⟨by omega, by rw [(sd_fcl_y hmt).1]; decide, by rw [hg, (sd_fcl_y hmt).1]; omega, by rw [hgb, (sd_fcl_y hmt).2]; exact sd_b1j (by omega)⟩)⟩
                    ·
                      refine sd_aload_n sD11_reads_309 rfl ?_
                      refine sd_callV (as := []) (st := []) sD11_reads_310 sM11_167 rfl rfl sOM15 rfl (by decide) (Nat.le_of_ble_eq_true rfl) (cM_wrong1 fr n q68_9 _ m hx hS) (fun r m hq ho310 hm => ?_)
                      obtain ⟨rfl, hk310_27, hS⟩ := hq
                      replace hx := hk310_27.ns hx
                      replace hK6 := hK6.k2 hk310_27
                      replace hf : ∀ i, i < 4 → m (5504 + i) = f i := fun i hi => (hk310_27 _ (by omega) (by omega)).trans (hf i hi)
                      replace hg := (hk310_27 5510 (by decide) (by decide)).trans hg
                      replace hgb := (hk310_27 5511 (by decide) (by decide)).trans hgb
                      rcases (⟨trivial⟩ : Nonempty True) with hy310_27
                      ·
                        show sd_Wp sd_SM 4 sY11_reads 313 [some (.inr 15), some (.inl pl), some (.inl mn), some (.inl w), some (.inl 0), some (.inl ((c : Int) + 1)), some (.inl (sd_b ((0 + (j45_1 : Int)) = 1))), some (.inl (2 + (j68_9 : Int))), some (.inl 1), none, none, none, none] [] m _
                        refine sd_vreturn sD11_reads_313 rfl (fun hm => hQ _ _ ⟨rfl, hK6, ?_⟩)
                        exact Or.inl ⟨q68_9, by simp only [sd_txt, hcl]; rw [if_neg (by omega)]; first | (rw [if_pos (by omega)]; done) | (rw [if_neg (by omega), if_neg (by assumption)]; done), hS.2.2.2⟩
                ·
                  refine sd_aload_n sD11_reads_250 rfl ?_
                  refine sd_callVp (as := []) (st := []) (v := .inl 1) sD11_reads_251 sM11_160 sOM15 rfl rfl rfl (by decide) (Nat.le_of_ble_eq_true rfl) (cM_isGood1 fr n q68_9 _ m hx hS) (fun ho251 => ?_)
                  refine sd_if_eq (tgt := 270) sD11_reads_254 (by decide) (fun zc254 => (by exfalso; omega)) (fun zc254 => ?_)
                  refine sd_aload_n sD11_reads_257 rfl ?_
                  refine sd_callVp (as := []) (st := []) (v := .inl (B q68_9)) sD11_reads_258 sM11_164 sOM15 rfl rfl rfl (by decide) (Nat.le_of_ble_eq_true rfl) (cM_byteAt _ fr B n q68_9 _ m hx hB hS) (fun ho258 => ?_)
                  refine sd_bipush sD11_reads_261 rfl (by decide) ?_
                  refine sd_icmp_ne (tgt := 270) sD11_reads_263 (by decide) (fun zc263 => ?_) (fun zc263 => ?_)
                  ·
                    refine sd_iconst sD11_reads_270 (by decide) ?_
                    refine sd_istore (ls' := [some (.inr 15), some (.inl pl), some (.inl mn), some (.inl w), some (.inl 0), some (.inl (c : Int)), some (.inl (sd_b ((0 + (j45_1 : Int)) = 1))), some (.inl (2 + (j68_9 : Int))), some (.inl 1), none, none, none, none]) sD11_reads_271 (by decide) rfl ?_
                    refine sd_aload_n sD11_reads_273 rfl ?_
                    refine sd_dup sD11_reads_274 ?_
                    refine sd_getfi sD11_reads_275 sF11_147 sGM15_12 ?_
                    rw [show m 5492 = (q68_9 : Int) from hS.2.2.1]
                    refine sd_iload sD11_reads_278 rfl ?_
                    refine sd_if_eq (tgt := 287) sD11_reads_280 (by decide) (fun zc280 => ?_) (fun zc280 => (by exfalso; omega))
                    refine sd_iconst sD11_reads_287 (by decide) ?_
                    refine sd_iadd (z := (q68_9 : Int)) sD11_reads_288 (by omega) (by omega) ?_
                    refine sd_putfc sd_sokM sd_oneM hx sD11_reads_289 sF11_147 sGM15_12 (by decide) (Or.inl rfl) (fun m hx em289 => ?_)
                    have hk289x := sd_k2.up em289 (Or.inl rfl)
                    replace hK6 := hK6.k2 hk289x
                    replace hf : ∀ i, i < 4 → m (5504 + i) = f i := fun i hi => (hk289x _ (by omega) (by omega)).trans (hf i hi)
                    replace hg := (hk289x 5510 (by decide) (by decide)).trans hg
                    replace hgb := (hk289x 5511 (by decide) (by decide)).trans hgb
                    replace hS : sd_RS m fr n q68_9 (-1) := ⟨by rw [em289, sd_up_ne (by decide)]; exact hS.1, by rw [em289, sd_up_ne (by decide)]; exact hS.2.1, by rw [em289, sd_up_eq]; (try omega), by rw [em289, sd_up_ne (by decide)]; exact hS.2.2.2⟩
                    refine sd_iinc (y := ((c : Int) + 1)) (ls' := [some (.inr 15), some (.inl pl), some (.inl mn), some (.inl w), some (.inl 0), some (.inl ((c : Int) + 1)), some (.inl (sd_b ((0 + (j45_1 : Int)) = 1))), some (.inl (2 + (j68_9 : Int))), some (.inl 1), none, none, none, none]) sD11_reads_292 rfl (by omega) (by omega) (by decide) rfl ?_
                    refine sd_goto (tgt := 31) sD11_reads_295 (by decide) ?_
                    refine sd_iload sD11_reads_31 rfl ?_
                    refine sd_iconst sD11_reads_33 (by decide) ?_
                    refine sd_icmp_ge (tgt := 298) sD11_reads_34 (by decide) (fun zc34 => ?_) (fun zc34 => ?_)
                    ·
                      refine sd_aload_n sD11_reads_298 rfl ?_
                      refine sd_getfi sD11_reads_299 sF11_147 sGM15_12 ?_
                      rw [show m 5492 = (q68_9 : Int) from hS.2.2.1]
                      refine sd_aload_n sD11_reads_302 rfl ?_
                      refine sd_getfi sD11_reads_303 sF11_151 sGM15_11 ?_
                      rw [show m 5491 = (n : Int) from hS.2.1]
                      refine sd_icmp_ge (tgt := 313) sD11_reads_306 (by decide) (fun zc306 => ?_) (fun zc306 => ?_)
                      ·
                        refine sd_vreturn sD11_reads_313 rfl (fun hm => hQ _ _ ⟨rfl, hK6, ?_⟩)
                        exact Or.inr ⟨[(j45_1, j68_9, ([] : List (Nat × Nat × Int)))], by simp only [sd_txt, hcl]; rw [if_pos (by omega)], hS.2.2.2, Or.inr (Or.inr ⟨by omega, by rw [(sd_fcl_y hmt).1]; decide, by rw [hg, (sd_fcl_y hmt).1]; omega, by rw [hgb, (sd_fcl_y hmt).2]; exact sd_b1j (by omega)⟩)⟩
                      ·
                        refine sd_aload_n sD11_reads_309 rfl ?_
                        refine sd_callV (as := []) (st := []) sD11_reads_310 sM11_167 rfl rfl sOM15 rfl (by decide) (Nat.le_of_ble_eq_true rfl) (cM_wrong1 fr n q68_9 _ m hx hS) (fun r m hq ho310 hm => ?_)
                        obtain ⟨rfl, hk310_28, hS⟩ := hq
                        replace hx := hk310_28.ns hx
                        replace hK6 := hK6.k2 hk310_28
                        replace hf : ∀ i, i < 4 → m (5504 + i) = f i := fun i hi => (hk310_28 _ (by omega) (by omega)).trans (hf i hi)
                        replace hg := (hk310_28 5510 (by decide) (by decide)).trans hg
                        replace hgb := (hk310_28 5511 (by decide) (by decide)).trans hgb
                        rcases (⟨trivial⟩ : Nonempty True) with hy310_28
                        ·
                          show sd_Wp sd_SM 4 sY11_reads 313 [some (.inr 15), some (.inl pl), some (.inl mn), some (.inl w), some (.inl 0), some (.inl ((c : Int) + 1)), some (.inl (sd_b ((0 + (j45_1 : Int)) = 1))), some (.inl (2 + (j68_9 : Int))), some (.inl 1), none, none, none, none] [] m _
                          refine sd_vreturn sD11_reads_313 rfl (fun hm => hQ _ _ ⟨rfl, hK6, ?_⟩)
                          exact Or.inl ⟨q68_9, by simp only [sd_txt, hcl]; rw [if_neg (by omega)]; first | (rw [if_pos (by omega)]; done) | (rw [if_neg (by omega), if_neg (by assumption)]; done), hS.2.2.2⟩
                    ·
                      refine sd_iload sD11_reads_37 rfl ?_
                      refine sd_if_eq (tgt := 298) sD11_reads_39 (by decide) (fun zc39 => ?_) (fun zc39 => (by exfalso; omega))
                      refine sd_aload_n sD11_reads_298 rfl ?_
                      refine sd_getfi sD11_reads_299 sF11_147 sGM15_12 ?_
                      rw [show m 5492 = (q68_9 : Int) from hS.2.2.1]
                      refine sd_aload_n sD11_reads_302 rfl ?_
                      refine sd_getfi sD11_reads_303 sF11_151 sGM15_11 ?_
                      rw [show m 5491 = (n : Int) from hS.2.1]
                      refine sd_icmp_ge (tgt := 313) sD11_reads_306 (by decide) (fun zc306 => ?_) (fun zc306 => ?_)
                      ·
                        refine sd_vreturn sD11_reads_313 rfl (fun hm => hQ _ _ ⟨rfl, hK6, ?_⟩)
                        exact Or.inr ⟨[(j45_1, j68_9, ([] : List (Nat × Nat × Int)))], by simp only [sd_txt, hcl]; rw [if_pos (by omega)], hS.2.2.2, Or.inr (Or.inr ⟨by omega, by rw [(sd_fcl_y hmt).1]; decide, by rw [hg, (sd_fcl_y hmt).1]; omega, by rw [hgb, (sd_fcl_y hmt).2]; exact sd_b1j (by omega)⟩)⟩
                      ·
                        refine sd_aload_n sD11_reads_309 rfl ?_
                        refine sd_callV (as := []) (st := []) sD11_reads_310 sM11_167 rfl rfl sOM15 rfl (by decide) (Nat.le_of_ble_eq_true rfl) (cM_wrong1 fr n q68_9 _ m hx hS) (fun r m hq ho310 hm => ?_)
                        obtain ⟨rfl, hk310_29, hS⟩ := hq
                        replace hx := hk310_29.ns hx
                        replace hK6 := hK6.k2 hk310_29
                        replace hf : ∀ i, i < 4 → m (5504 + i) = f i := fun i hi => (hk310_29 _ (by omega) (by omega)).trans (hf i hi)
                        replace hg := (hk310_29 5510 (by decide) (by decide)).trans hg
                        replace hgb := (hk310_29 5511 (by decide) (by decide)).trans hgb
                        rcases (⟨trivial⟩ : Nonempty True) with hy310_29
                        ·
                          show sd_Wp sd_SM 4 sY11_reads 313 [some (.inr 15), some (.inl pl), some (.inl mn), some (.inl w), some (.inl 0), some (.inl ((c : Int) + 1)), some (.inl (sd_b ((0 + (j45_1 : Int)) = 1))), some (.inl (2 + (j68_9 : Int))), some (.inl 1), none, none, none, none] [] m _
                          refine sd_vreturn sD11_reads_313 rfl (fun hm => hQ _ _ ⟨rfl, hK6, ?_⟩)
                          exact Or.inl ⟨q68_9, by simp only [sd_txt, hcl]; rw [if_neg (by omega)]; first | (rw [if_pos (by omega)]; done) | (rw [if_neg (by omega), if_neg (by assumption)]; done), hS.2.2.2⟩
                  ·
                    have hsm : B q68_9 = 59 := by assumption
                    have hin3 := hB.in (p := q68_9) (by omega)
                    have hn1 := hB.1
                    refine sd_iconst sD11_reads_266 (by decide) ?_
                    refine sd_goto (tgt := 271) sD11_reads_267 (by decide) ?_
                    refine sd_istore (ls' := [some (.inr 15), some (.inl pl), some (.inl mn), some (.inl w), some (.inl 1), some (.inl (c : Int)), some (.inl (sd_b ((0 + (j45_1 : Int)) = 1))), some (.inl (2 + (j68_9 : Int))), some (.inl 1), none, none, none, none]) sD11_reads_271 (by decide) rfl ?_
                    refine sd_aload_n sD11_reads_273 rfl ?_
                    refine sd_dup sD11_reads_274 ?_
                    refine sd_getfi sD11_reads_275 sF11_147 sGM15_12 ?_
                    rw [show m 5492 = (q68_9 : Int) from hS.2.2.1]
                    refine sd_iload sD11_reads_278 rfl ?_
                    refine sd_if_eq (tgt := 287) sD11_reads_280 (by decide) (fun zc280 => (by exfalso; omega)) (fun zc280 => ?_)
                    refine sd_iconst sD11_reads_283 (by decide) ?_
                    refine sd_goto (tgt := 288) sD11_reads_284 (by decide) ?_
                    refine sd_iadd (z := ((q68_9 : Int) + 1)) sD11_reads_288 (by omega) (by omega) ?_
                    refine sd_putfc sd_sokM sd_oneM hx sD11_reads_289 sF11_147 sGM15_12 (by decide) (Or.inl rfl) (fun m hx em289 => ?_)
                    have hk289x := sd_k2.up em289 (Or.inl rfl)
                    replace hK6 := hK6.k2 hk289x
                    replace hf : ∀ i, i < 4 → m (5504 + i) = f i := fun i hi => (hk289x _ (by omega) (by omega)).trans (hf i hi)
                    replace hg := (hk289x 5510 (by decide) (by decide)).trans hg
                    replace hgb := (hk289x 5511 (by decide) (by decide)).trans hgb
                    replace hS : sd_RS m fr n (q68_9 + 1) (-1) := ⟨by rw [em289, sd_up_ne (by decide)]; exact hS.1, by rw [em289, sd_up_ne (by decide)]; exact hS.2.1, by rw [em289, sd_up_eq]; (try omega), by rw [em289, sd_up_ne (by decide)]; exact hS.2.2.2⟩
                    refine sd_iinc (y := ((c : Int) + 1)) (ls' := [some (.inr 15), some (.inl pl), some (.inl mn), some (.inl w), some (.inl 1), some (.inl ((c : Int) + 1)), some (.inl (sd_b ((0 + (j45_1 : Int)) = 1))), some (.inl (2 + (j68_9 : Int))), some (.inl 1), none, none, none, none]) sD11_reads_292 rfl (by omega) (by omega) (by decide) rfl ?_
                    refine sd_goto (tgt := 31) sD11_reads_295 (by decide) ?_
                    refine sd_less (ls' := [some (.inr 15), some (.inl pl), some (.inl mn), some (.inl w), some (.inl 1), some (.inl ((c : Int) + 1)), none, none, none, none, none, none, none]) ?_ rfl (by intro zi zv zh; rcases zi with _ | _ | _ | _ | _ | _ | _ | _ | _ | _ | _ | _ | _ | zi <;> first | exact zh | cases zh)
                    refine sd_eqw (ls' := [some (.inr 15), some (.inl pl), some (.inl mn), some (.inl w), some (.inl 1), some (.inl ((c + 1 : Nat) : Int)), none, none, none, none, none, none, none]) ?_ (sd_cg rfl (sd_cg rfl (sd_cg rfl (sd_cg rfl (sd_cg rfl (sd_cg (sd_ce (by omega)) rfl)))))) rfl
                    replace hgb : m 5511 = (j45_1 : Int) := by rw [hgb]; exact sd_b1j (by have := hja; omega)
                    exact ih (by omega) (c : Int) (j45_1 : Int) m (q68_9 + 1) hx hS (by omega) hK6 hf hg hgb (by omega) (fun r m2 hq => hQ r m2 (sd_rd_B hcl (by omega) (by omega) hsm (by omega) hmt hq))
          ·
            have hsp2 : B q68_9 = 32 := by assumption
            have hin2 := hB.in (p := q68_9) (by omega)
            have hn1 := hB.1
            refine sd_aload_n sD11_reads_92 rfl ?_
            refine sd_dup sD11_reads_93 ?_
            refine sd_getfi sD11_reads_94 sF11_147 sGM15_12 ?_
            rw [show m 5492 = (q68_9 : Int) from hS.2.2.1]
            refine sd_iconst sD11_reads_97 (by decide) ?_
            refine sd_iadd (z := ((q68_9 : Int) + 1)) sD11_reads_98 (by omega) (by omega) ?_
            refine sd_putfc sd_sokM sd_oneM hx sD11_reads_99 sF11_147 sGM15_12 (by decide) (Or.inl rfl) (fun m hx em99 => ?_)
            have hk99x := sd_k2.up em99 (Or.inl rfl)
            replace hK6 := hK6.k2 hk99x
            replace hf : ∀ i, i < 4 → m (5504 + i) = f i := fun i hi => (hk99x _ (by omega) (by omega)).trans (hf i hi)
            replace hg := (hk99x 5510 (by decide) (by decide)).trans hg
            replace hgb := (hk99x 5511 (by decide) (by decide)).trans hgb
            replace hS : sd_RS m fr n (q68_9 + 1) (-1) := ⟨by rw [em99, sd_up_ne (by decide)]; exact hS.1, by rw [em99, sd_up_ne (by decide)]; exact hS.2.1, by rw [em99, sd_up_eq]; (try omega), by rw [em99, sd_up_ne (by decide)]; exact hS.2.2.2⟩
            refine sd_aload_n sD11_reads_102 rfl ?_
            refine sd_bipush sD11_reads_103 rfl (by decide) ?_
            refine sd_bipush sD11_reads_105 rfl (by decide) ?_
            refine sd_callV (as := [.inl 6, .inl 6]) (st := []) sD11_reads_107 sM11_173 rfl rfl sOM15 rfl (by decide) (Nat.le_of_ble_eq_true rfl) (cM_wordW fr B n (q68_9 + 1) _ m hx hB hS (by omega) hL) (fun r m hq ho107 hm => ?_)
            obtain ⟨hk107_30, hq107_30⟩ := hq
            replace hx := hk107_30.ns hx
            replace hK6 := hK6.k2 hk107_30
            replace hf : ∀ i, i < 4 → m (5504 + i) = f i := fun i hi => (hk107_30 _ (by omega) (by omega)).trans (hf i hi)
            replace hg := (hk107_30 5510 (by decide) (by decide)).trans hg
            replace hgb := (hk107_30 5511 (by decide) (by decide)).trans hgb
            rcases hq107_30 with ⟨q107_30, hz107_30, rfl, hS, hn107_30⟩ | ⟨j107_30, q107_30, hz107_30, rfl, hS, hn107_30, hj107_30⟩
            ·
              show sd_Wp sd_SM 4 sY11_reads 110 [some (.inr 15), some (.inl pl), some (.inl mn), some (.inl w), some (.inl 1), some (.inl (c : Int)), some (.inl (sd_b ((0 + (j45_1 : Int)) = 1))), some (.inl (2 + (j68_9 : Int))), some (.inl 1), none, none, none, none] [.inl (-1)] m _
              refine sd_istore (ls' := [some (.inr 15), some (.inl pl), some (.inl mn), some (.inl w), some (.inl 1), some (.inl (c : Int)), some (.inl (sd_b ((0 + (j45_1 : Int)) = 1))), some (.inl (2 + (j68_9 : Int))), some (.inl 1), some (.inl (-1)), none, none, none]) sD11_reads_110 (by decide) rfl ?_
              refine sd_aload_n sD11_reads_112 rfl ?_
              refine sd_bipush sD11_reads_113 rfl (by decide) ?_
              refine sd_callV (as := [.inl 32]) (st := []) sD11_reads_115 sM11_170 rfl rfl sOM15 rfl (by decide) (Nat.le_of_ble_eq_true rfl) (cM_byteIs0 32 fr n q107_30 q107_30 _ m hx hS) (fun r m hq ho115 hm => ?_)
              obtain ⟨rfl, hk115_31, hS⟩ := hq
              replace hx := hk115_31.ns hx
              replace hK6 := hK6.k2 hk115_31
              replace hf : ∀ i, i < 4 → m (5504 + i) = f i := fun i hi => (hk115_31 _ (by omega) (by omega)).trans (hf i hi)
              replace hg := (hk115_31 5510 (by decide) (by decide)).trans hg
              replace hgb := (hk115_31 5511 (by decide) (by decide)).trans hgb
              rcases (⟨trivial⟩ : Nonempty True) with hy115_31
              ·
                show sd_Wp sd_SM 4 sY11_reads 118 [some (.inr 15), some (.inl pl), some (.inl mn), some (.inl w), some (.inl 1), some (.inl (c : Int)), some (.inl (sd_b ((0 + (j45_1 : Int)) = 1))), some (.inl (2 + (j68_9 : Int))), some (.inl 1), some (.inl (-1)), none, none, none] [] m _
                have hff := sd_w5n0 (B := B) (p := q68_9 + 1) hz107_30
                refine sd_aload_n sD11_reads_118 rfl ?_
                refine sd_callVp (as := []) (st := []) (v := .inl 0) sD11_reads_119 sM11_160 sOM15 rfl rfl rfl (by decide) (Nat.le_of_ble_eq_true rfl) (cM_isGood0 fr n q107_30 q107_30 _ m hx hS) (fun ho119 => ?_)
                refine sd_istore (ls' := [some (.inr 15), some (.inl pl), some (.inl mn), some (.inl w), some (.inl 1), some (.inl (c : Int)), some (.inl (sd_b ((0 + (j45_1 : Int)) = 1))), some (.inl (2 + (j68_9 : Int))), some (.inl 1), some (.inl (-1)), some (.inl 0), none, none]) sD11_reads_122 (by decide) rfl ?_
                refine sd_iconst sD11_reads_124 (by decide) ?_
                refine sd_istore (ls' := [some (.inr 15), some (.inl pl), some (.inl mn), some (.inl w), some (.inl 1), some (.inl (c : Int)), some (.inl (sd_b ((0 + (j45_1 : Int)) = 1))), some (.inl (2 + (j68_9 : Int))), some (.inl 1), some (.inl (-1)), some (.inl 0), some (.inl 0), none]) sD11_reads_125 (by decide) rfl ?_
                refine sd_iload sD11_reads_127 rfl ?_
                refine sd_iconst sD11_reads_129 (by decide) ?_
                refine sd_icmp_ge (tgt := 205) sD11_reads_130 (by decide) (fun zc130 => (by exfalso; omega)) (fun zc130 => ?_)
                refine sd_iload sD11_reads_133 rfl ?_
                refine sd_if_eq (tgt := 205) sD11_reads_135 (by decide) (fun zc135 => ?_) (fun zc135 => (by exfalso; omega))
                refine sd_aload_n sD11_reads_205 rfl ?_
                refine sd_callVp (as := []) (st := []) (v := .inl 0) sD11_reads_206 sM11_160 sOM15 rfl rfl rfl (by decide) (Nat.le_of_ble_eq_true rfl) (cM_isGood0 fr n q107_30 q107_30 _ m hx hS) (fun ho206 => ?_)
                refine sd_if_eq (tgt := 244) sD11_reads_209 (by decide) (fun zc209 => ?_) (fun zc209 => (by exfalso; omega))
                refine sd_iload sD11_reads_244 rfl ?_
                refine sd_iconst sD11_reads_246 (by decide) ?_
                refine sd_icmp_ge (tgt := 270) sD11_reads_247 (by decide) (fun zc247 => ?_) (fun zc247 => ?_)
                ·
                  refine sd_iconst sD11_reads_270 (by decide) ?_
                  refine sd_istore (ls' := [some (.inr 15), some (.inl pl), some (.inl mn), some (.inl w), some (.inl 0), some (.inl (c : Int)), some (.inl (sd_b ((0 + (j45_1 : Int)) = 1))), some (.inl (2 + (j68_9 : Int))), some (.inl 1), some (.inl (-1)), some (.inl 0), some (.inl 0), none]) sD11_reads_271 (by decide) rfl ?_
                  refine sd_aload_n sD11_reads_273 rfl ?_
                  refine sd_dup sD11_reads_274 ?_
                  refine sd_getfi sD11_reads_275 sF11_147 sGM15_12 ?_
                  rw [show m 5492 = (q107_30 : Int) from hS.2.2.1]
                  refine sd_iload sD11_reads_278 rfl ?_
                  refine sd_if_eq (tgt := 287) sD11_reads_280 (by decide) (fun zc280 => ?_) (fun zc280 => (by exfalso; omega))
                  refine sd_iconst sD11_reads_287 (by decide) ?_
                  refine sd_iadd (z := (q107_30 : Int)) sD11_reads_288 (by omega) (by omega) ?_
                  refine sd_putfc sd_sokM sd_oneM hx sD11_reads_289 sF11_147 sGM15_12 (by decide) (Or.inl rfl) (fun m hx em289 => ?_)
                  have hk289x := sd_k2.up em289 (Or.inl rfl)
                  replace hK6 := hK6.k2 hk289x
                  replace hf : ∀ i, i < 4 → m (5504 + i) = f i := fun i hi => (hk289x _ (by omega) (by omega)).trans (hf i hi)
                  replace hg := (hk289x 5510 (by decide) (by decide)).trans hg
                  replace hgb := (hk289x 5511 (by decide) (by decide)).trans hgb
                  replace hS : sd_RS m fr n q107_30 (q107_30 : Int) := ⟨by rw [em289, sd_up_ne (by decide)]; exact hS.1, by rw [em289, sd_up_ne (by decide)]; exact hS.2.1, by rw [em289, sd_up_eq]; (try omega), by rw [em289, sd_up_ne (by decide)]; exact hS.2.2.2⟩
                  refine sd_iinc (y := ((c : Int) + 1)) (ls' := [some (.inr 15), some (.inl pl), some (.inl mn), some (.inl w), some (.inl 0), some (.inl ((c : Int) + 1)), some (.inl (sd_b ((0 + (j45_1 : Int)) = 1))), some (.inl (2 + (j68_9 : Int))), some (.inl 1), some (.inl (-1)), some (.inl 0), some (.inl 0), none]) sD11_reads_292 rfl (by omega) (by omega) (by decide) rfl ?_
                  refine sd_goto (tgt := 31) sD11_reads_295 (by decide) ?_
                  refine sd_iload sD11_reads_31 rfl ?_
                  refine sd_iconst sD11_reads_33 (by decide) ?_
                  refine sd_icmp_ge (tgt := 298) sD11_reads_34 (by decide) (fun zc34 => ?_) (fun zc34 => ?_)
                  ·
                    refine sd_aload_n sD11_reads_298 rfl ?_
                    refine sd_getfi sD11_reads_299 sF11_147 sGM15_12 ?_
                    rw [show m 5492 = (q107_30 : Int) from hS.2.2.1]
                    refine sd_aload_n sD11_reads_302 rfl ?_
                    refine sd_getfi sD11_reads_303 sF11_151 sGM15_11 ?_
                    rw [show m 5491 = (n : Int) from hS.2.1]
                    refine sd_icmp_ge (tgt := 313) sD11_reads_306 (by decide) (fun zc306 => ?_) (fun zc306 => ?_)
                    ·
                      refine sd_vreturn sD11_reads_313 rfl (fun hm => hQ _ _ ⟨rfl, hK6, ?_⟩)
                      have hwd : sd_wd B p = .inr ((j45_1, j68_9), q68_9) := by simp only [sd_wd, hz45_1]; rw [if_pos hb62_8, hz68_9]
                      exact Or.inl ⟨q107_30, by simp only [sd_txt, sd_cls, hwd]; rw [if_pos hsp2, if_neg hff.1, hff.2], hS.2.2.2⟩
                    ·
                      refine sd_aload_n sD11_reads_309 rfl ?_
                      refine sd_callV (as := []) (st := []) sD11_reads_310 sM11_167 rfl rfl sOM15 rfl (by decide) (Nat.le_of_ble_eq_true rfl) (cM_wrong0 fr n q107_30 q107_30 _ m hx hS) (fun r m hq ho310 hm => ?_)
                      obtain ⟨rfl, hk310_32, hS⟩ := hq
                      replace hx := hk310_32.ns hx
                      replace hK6 := hK6.k2 hk310_32
                      replace hf : ∀ i, i < 4 → m (5504 + i) = f i := fun i hi => (hk310_32 _ (by omega) (by omega)).trans (hf i hi)
                      replace hg := (hk310_32 5510 (by decide) (by decide)).trans hg
                      replace hgb := (hk310_32 5511 (by decide) (by decide)).trans hgb
                      rcases (⟨trivial⟩ : Nonempty True) with hy310_32
                      ·
                        show sd_Wp sd_SM 4 sY11_reads 313 [some (.inr 15), some (.inl pl), some (.inl mn), some (.inl w), some (.inl 0), some (.inl ((c : Int) + 1)), some (.inl (sd_b ((0 + (j45_1 : Int)) = 1))), some (.inl (2 + (j68_9 : Int))), some (.inl 1), some (.inl (-1)), some (.inl 0), some (.inl 0), none] [] m _
                        refine sd_vreturn sD11_reads_313 rfl (fun hm => hQ _ _ ⟨rfl, hK6, ?_⟩)
                        have hwd : sd_wd B p = .inr ((j45_1, j68_9), q68_9) := by simp only [sd_wd, hz45_1]; rw [if_pos hb62_8, hz68_9]
                        exact Or.inl ⟨q107_30, by simp only [sd_txt, sd_cls, hwd]; rw [if_pos hsp2, if_neg hff.1, hff.2], hS.2.2.2⟩
                  ·
                    refine sd_iload sD11_reads_37 rfl ?_
                    refine sd_if_eq (tgt := 298) sD11_reads_39 (by decide) (fun zc39 => ?_) (fun zc39 => (by exfalso; omega))
                    refine sd_aload_n sD11_reads_298 rfl ?_
                    refine sd_getfi sD11_reads_299 sF11_147 sGM15_12 ?_
                    rw [show m 5492 = (q107_30 : Int) from hS.2.2.1]
                    refine sd_aload_n sD11_reads_302 rfl ?_
                    refine sd_getfi sD11_reads_303 sF11_151 sGM15_11 ?_
                    rw [show m 5491 = (n : Int) from hS.2.1]
                    refine sd_icmp_ge (tgt := 313) sD11_reads_306 (by decide) (fun zc306 => ?_) (fun zc306 => ?_)
                    ·
                      refine sd_vreturn sD11_reads_313 rfl (fun hm => hQ _ _ ⟨rfl, hK6, ?_⟩)
                      have hwd : sd_wd B p = .inr ((j45_1, j68_9), q68_9) := by simp only [sd_wd, hz45_1]; rw [if_pos hb62_8, hz68_9]
                      exact Or.inl ⟨q107_30, by simp only [sd_txt, sd_cls, hwd]; rw [if_pos hsp2, if_neg hff.1, hff.2], hS.2.2.2⟩
                    ·
                      refine sd_aload_n sD11_reads_309 rfl ?_
                      refine sd_callV (as := []) (st := []) sD11_reads_310 sM11_167 rfl rfl sOM15 rfl (by decide) (Nat.le_of_ble_eq_true rfl) (cM_wrong0 fr n q107_30 q107_30 _ m hx hS) (fun r m hq ho310 hm => ?_)
                      obtain ⟨rfl, hk310_33, hS⟩ := hq
                      replace hx := hk310_33.ns hx
                      replace hK6 := hK6.k2 hk310_33
                      replace hf : ∀ i, i < 4 → m (5504 + i) = f i := fun i hi => (hk310_33 _ (by omega) (by omega)).trans (hf i hi)
                      replace hg := (hk310_33 5510 (by decide) (by decide)).trans hg
                      replace hgb := (hk310_33 5511 (by decide) (by decide)).trans hgb
                      rcases (⟨trivial⟩ : Nonempty True) with hy310_33
                      ·
                        show sd_Wp sd_SM 4 sY11_reads 313 [some (.inr 15), some (.inl pl), some (.inl mn), some (.inl w), some (.inl 0), some (.inl ((c : Int) + 1)), some (.inl (sd_b ((0 + (j45_1 : Int)) = 1))), some (.inl (2 + (j68_9 : Int))), some (.inl 1), some (.inl (-1)), some (.inl 0), some (.inl 0), none] [] m _
                        refine sd_vreturn sD11_reads_313 rfl (fun hm => hQ _ _ ⟨rfl, hK6, ?_⟩)
                        have hwd : sd_wd B p = .inr ((j45_1, j68_9), q68_9) := by simp only [sd_wd, hz45_1]; rw [if_pos hb62_8, hz68_9]
                        exact Or.inl ⟨q107_30, by simp only [sd_txt, sd_cls, hwd]; rw [if_pos hsp2, if_neg hff.1, hff.2], hS.2.2.2⟩
                ·
                  refine sd_aload_n sD11_reads_250 rfl ?_
                  refine sd_callVp (as := []) (st := []) (v := .inl 0) sD11_reads_251 sM11_160 sOM15 rfl rfl rfl (by decide) (Nat.le_of_ble_eq_true rfl) (cM_isGood0 fr n q107_30 q107_30 _ m hx hS) (fun ho251 => ?_)
                  refine sd_if_eq (tgt := 270) sD11_reads_254 (by decide) (fun zc254 => ?_) (fun zc254 => (by exfalso; omega))
                  refine sd_iconst sD11_reads_270 (by decide) ?_
                  refine sd_istore (ls' := [some (.inr 15), some (.inl pl), some (.inl mn), some (.inl w), some (.inl 0), some (.inl (c : Int)), some (.inl (sd_b ((0 + (j45_1 : Int)) = 1))), some (.inl (2 + (j68_9 : Int))), some (.inl 1), some (.inl (-1)), some (.inl 0), some (.inl 0), none]) sD11_reads_271 (by decide) rfl ?_
                  refine sd_aload_n sD11_reads_273 rfl ?_
                  refine sd_dup sD11_reads_274 ?_
                  refine sd_getfi sD11_reads_275 sF11_147 sGM15_12 ?_
                  rw [show m 5492 = (q107_30 : Int) from hS.2.2.1]
                  refine sd_iload sD11_reads_278 rfl ?_
                  refine sd_if_eq (tgt := 287) sD11_reads_280 (by decide) (fun zc280 => ?_) (fun zc280 => (by exfalso; omega))
                  refine sd_iconst sD11_reads_287 (by decide) ?_
                  refine sd_iadd (z := (q107_30 : Int)) sD11_reads_288 (by omega) (by omega) ?_
                  refine sd_putfc sd_sokM sd_oneM hx sD11_reads_289 sF11_147 sGM15_12 (by decide) (Or.inl rfl) (fun m hx em289 => ?_)
                  have hk289x := sd_k2.up em289 (Or.inl rfl)
                  replace hK6 := hK6.k2 hk289x
                  replace hf : ∀ i, i < 4 → m (5504 + i) = f i := fun i hi => (hk289x _ (by omega) (by omega)).trans (hf i hi)
                  replace hg := (hk289x 5510 (by decide) (by decide)).trans hg
                  replace hgb := (hk289x 5511 (by decide) (by decide)).trans hgb
                  replace hS : sd_RS m fr n q107_30 (q107_30 : Int) := ⟨by rw [em289, sd_up_ne (by decide)]; exact hS.1, by rw [em289, sd_up_ne (by decide)]; exact hS.2.1, by rw [em289, sd_up_eq]; (try omega), by rw [em289, sd_up_ne (by decide)]; exact hS.2.2.2⟩
                  refine sd_iinc (y := ((c : Int) + 1)) (ls' := [some (.inr 15), some (.inl pl), some (.inl mn), some (.inl w), some (.inl 0), some (.inl ((c : Int) + 1)), some (.inl (sd_b ((0 + (j45_1 : Int)) = 1))), some (.inl (2 + (j68_9 : Int))), some (.inl 1), some (.inl (-1)), some (.inl 0), some (.inl 0), none]) sD11_reads_292 rfl (by omega) (by omega) (by decide) rfl ?_
                  refine sd_goto (tgt := 31) sD11_reads_295 (by decide) ?_
                  refine sd_iload sD11_reads_31 rfl ?_
                  refine sd_iconst sD11_reads_33 (by decide) ?_
                  refine sd_icmp_ge (tgt := 298) sD11_reads_34 (by decide) (fun zc34 => ?_) (fun zc34 => ?_)
                  ·
                    refine sd_aload_n sD11_reads_298 rfl ?_
                    refine sd_getfi sD11_reads_299 sF11_147 sGM15_12 ?_
                    rw [show m 5492 = (q107_30 : Int) from hS.2.2.1]
                    refine sd_aload_n sD11_reads_302 rfl ?_
                    refine sd_getfi sD11_reads_303 sF11_151 sGM15_11 ?_
                    rw [show m 5491 = (n : Int) from hS.2.1]
                    refine sd_icmp_ge (tgt := 313) sD11_reads_306 (by decide) (fun zc306 => ?_) (fun zc306 => ?_)
                    ·
                      refine sd_vreturn sD11_reads_313 rfl (fun hm => hQ _ _ ⟨rfl, hK6, ?_⟩)
                      have hwd : sd_wd B p = .inr ((j45_1, j68_9), q68_9) := by simp only [sd_wd, hz45_1]; rw [if_pos hb62_8, hz68_9]
                      exact Or.inl ⟨q107_30, by simp only [sd_txt, sd_cls, hwd]; rw [if_pos hsp2, if_neg hff.1, hff.2], hS.2.2.2⟩
                    ·
                      refine sd_aload_n sD11_reads_309 rfl ?_
                      refine sd_callV (as := []) (st := []) sD11_reads_310 sM11_167 rfl rfl sOM15 rfl (by decide) (Nat.le_of_ble_eq_true rfl) (cM_wrong0 fr n q107_30 q107_30 _ m hx hS) (fun r m hq ho310 hm => ?_)
                      obtain ⟨rfl, hk310_34, hS⟩ := hq
                      replace hx := hk310_34.ns hx
                      replace hK6 := hK6.k2 hk310_34
                      replace hf : ∀ i, i < 4 → m (5504 + i) = f i := fun i hi => (hk310_34 _ (by omega) (by omega)).trans (hf i hi)
                      replace hg := (hk310_34 5510 (by decide) (by decide)).trans hg
                      replace hgb := (hk310_34 5511 (by decide) (by decide)).trans hgb
                      rcases (⟨trivial⟩ : Nonempty True) with hy310_34
                      ·
                        show sd_Wp sd_SM 4 sY11_reads 313 [some (.inr 15), some (.inl pl), some (.inl mn), some (.inl w), some (.inl 0), some (.inl ((c : Int) + 1)), some (.inl (sd_b ((0 + (j45_1 : Int)) = 1))), some (.inl (2 + (j68_9 : Int))), some (.inl 1), some (.inl (-1)), some (.inl 0), some (.inl 0), none] [] m _
                        refine sd_vreturn sD11_reads_313 rfl (fun hm => hQ _ _ ⟨rfl, hK6, ?_⟩)
                        have hwd : sd_wd B p = .inr ((j45_1, j68_9), q68_9) := by simp only [sd_wd, hz45_1]; rw [if_pos hb62_8, hz68_9]
                        exact Or.inl ⟨q107_30, by simp only [sd_txt, sd_cls, hwd]; rw [if_pos hsp2, if_neg hff.1, hff.2], hS.2.2.2⟩
                  ·
                    refine sd_iload sD11_reads_37 rfl ?_
                    refine sd_if_eq (tgt := 298) sD11_reads_39 (by decide) (fun zc39 => ?_) (fun zc39 => (by exfalso; omega))
                    refine sd_aload_n sD11_reads_298 rfl ?_
                    refine sd_getfi sD11_reads_299 sF11_147 sGM15_12 ?_
                    rw [show m 5492 = (q107_30 : Int) from hS.2.2.1]
                    refine sd_aload_n sD11_reads_302 rfl ?_
                    refine sd_getfi sD11_reads_303 sF11_151 sGM15_11 ?_
                    rw [show m 5491 = (n : Int) from hS.2.1]
                    refine sd_icmp_ge (tgt := 313) sD11_reads_306 (by decide) (fun zc306 => ?_) (fun zc306 => ?_)
                    ·
                      refine sd_vreturn sD11_reads_313 rfl (fun hm => hQ _ _ ⟨rfl, hK6, ?_⟩)
                      have hwd : sd_wd B p = .inr ((j45_1, j68_9), q68_9) := by simp only [sd_wd, hz45_1]; rw [if_pos hb62_8, hz68_9]
                      exact Or.inl ⟨q107_30, by simp only [sd_txt, sd_cls, hwd]; rw [if_pos hsp2, if_neg hff.1, hff.2], hS.2.2.2⟩
                    ·
                      refine sd_aload_n sD11_reads_309 rfl ?_
                      refine sd_callV (as := []) (st := []) sD11_reads_310 sM11_167 rfl rfl sOM15 rfl (by decide) (Nat.le_of_ble_eq_true rfl) (cM_wrong0 fr n q107_30 q107_30 _ m hx hS) (fun r m hq ho310 hm => ?_)
                      obtain ⟨rfl, hk310_35, hS⟩ := hq
                      replace hx := hk310_35.ns hx
                      replace hK6 := hK6.k2 hk310_35
                      replace hf : ∀ i, i < 4 → m (5504 + i) = f i := fun i hi => (hk310_35 _ (by omega) (by omega)).trans (hf i hi)
                      replace hg := (hk310_35 5510 (by decide) (by decide)).trans hg
                      replace hgb := (hk310_35 5511 (by decide) (by decide)).trans hgb
                      rcases (⟨trivial⟩ : Nonempty True) with hy310_35
                      ·
                        show sd_Wp sd_SM 4 sY11_reads 313 [some (.inr 15), some (.inl pl), some (.inl mn), some (.inl w), some (.inl 0), some (.inl ((c : Int) + 1)), some (.inl (sd_b ((0 + (j45_1 : Int)) = 1))), some (.inl (2 + (j68_9 : Int))), some (.inl 1), some (.inl (-1)), some (.inl 0), some (.inl 0), none] [] m _
                        refine sd_vreturn sD11_reads_313 rfl (fun hm => hQ _ _ ⟨rfl, hK6, ?_⟩)
                        have hwd : sd_wd B p = .inr ((j45_1, j68_9), q68_9) := by simp only [sd_wd, hz45_1]; rw [if_pos hb62_8, hz68_9]
                        exact Or.inl ⟨q107_30, by simp only [sd_txt, sd_cls, hwd]; rw [if_pos hsp2, if_neg hff.1, hff.2], hS.2.2.2⟩
            ·
              show sd_Wp sd_SM 4 sY11_reads 110 [some (.inr 15), some (.inl pl), some (.inl mn), some (.inl w), some (.inl 1), some (.inl (c : Int)), some (.inl (sd_b ((0 + (j45_1 : Int)) = 1))), some (.inl (2 + (j68_9 : Int))), some (.inl 1), none, none, none, none] [.inl (6 + (j107_30 : Int))] m _
              refine sd_istore (ls' := [some (.inr 15), some (.inl pl), some (.inl mn), some (.inl w), some (.inl 1), some (.inl (c : Int)), some (.inl (sd_b ((0 + (j45_1 : Int)) = 1))), some (.inl (2 + (j68_9 : Int))), some (.inl 1), some (.inl (6 + (j107_30 : Int))), none, none, none]) sD11_reads_110 (by decide) rfl ?_
              refine sd_aload_n sD11_reads_112 rfl ?_
              refine sd_bipush sD11_reads_113 rfl (by decide) ?_
              refine sd_callV (as := [.inl 32]) (st := []) sD11_reads_115 sM11_170 rfl rfl sOM15 rfl (by decide) (Nat.le_of_ble_eq_true rfl) (cM_byteIs1 32 (by decide) fr B n q107_30 _ m hx hB hS (by omega)) (fun r m hq ho115 hm => ?_)
              obtain ⟨rfl, hk115_36, hq115_36⟩ := hq
              replace hx := hk115_36.ns hx
              replace hK6 := hK6.k2 hk115_36
              replace hf : ∀ i, i < 4 → m (5504 + i) = f i := fun i hi => (hk115_36 _ (by omega) (by omega)).trans (hf i hi)
              replace hg := (hk115_36 5510 (by decide) (by decide)).trans hg
              replace hgb := (hk115_36 5511 (by decide) (by decide)).trans hgb
              rcases hq115_36 with ⟨hb115_36, hS⟩ | ⟨hb115_36, hS⟩
              ·
                have hn115_36 := hB.in (p := q107_30) (by omega)
                show sd_Wp sd_SM 4 sY11_reads 118 [some (.inr 15), some (.inl pl), some (.inl mn), some (.inl w), some (.inl 1), some (.inl (c : Int)), some (.inl (sd_b ((0 + (j45_1 : Int)) = 1))), some (.inl (2 + (j68_9 : Int))), some (.inl 1), some (.inl (6 + (j107_30 : Int))), none, none, none] [] m _
                have hff := sd_w5y (B := B) (p := q68_9 + 1) hz107_30 hb115_36
                have hfe : sd_fe B (q68_9 + 1) 7 = (q107_30 + 1) := by rw [hff.2]; have zz := sd_zW_q hz107_30; omega
                replace hff := hff.1
                refine sd_aload_n sD11_reads_118 rfl ?_
                refine sd_callVp (as := []) (st := []) (v := .inl 1) sD11_reads_119 sM11_160 sOM15 rfl rfl rfl (by decide) (Nat.le_of_ble_eq_true rfl) (cM_isGood1 fr n (q107_30 + 1) _ m hx hS) (fun ho119 => ?_)
                refine sd_istore (ls' := [some (.inr 15), some (.inl pl), some (.inl mn), some (.inl w), some (.inl 1), some (.inl (c : Int)), some (.inl (sd_b ((0 + (j45_1 : Int)) = 1))), some (.inl (2 + (j68_9 : Int))), some (.inl 1), some (.inl (6 + (j107_30 : Int))), some (.inl 1), none, none]) sD11_reads_122 (by decide) rfl ?_
                refine sd_iconst sD11_reads_124 (by decide) ?_
                refine sd_istore (ls' := [some (.inr 15), some (.inl pl), some (.inl mn), some (.inl w), some (.inl 1), some (.inl (c : Int)), some (.inl (sd_b ((0 + (j45_1 : Int)) = 1))), some (.inl (2 + (j68_9 : Int))), some (.inl 1), some (.inl (6 + (j107_30 : Int))), some (.inl 1), some (.inl 0), none]) sD11_reads_125 (by decide) rfl ?_
                refine sd_iload sD11_reads_127 rfl ?_
                refine sd_iconst sD11_reads_129 (by decide) ?_
                refine sd_icmp_ge (tgt := 205) sD11_reads_130 (by decide) (fun zc130 => (by exfalso; omega)) (fun zc130 => ?_)
                refine sd_iload sD11_reads_133 rfl ?_
                refine sd_if_eq (tgt := 205) sD11_reads_135 (by decide) (fun zc135 => (by exfalso; omega)) (fun zc135 => ?_)
                refine sd_aload_n sD11_reads_138 rfl ?_
                refine sd_callV (as := []) (st := []) sD11_reads_139 sM11_179 rfl rfl sOM15 rfl (by decide) (Nat.le_of_ble_eq_true rfl) (cM_test1 f m hf fr B n (q107_30 + 1) _ m hx hB hS (by omega) hL sd_k2.rf) (fun r m hq ho139 hm => ?_)
                obtain ⟨hk139_37, hq139_37⟩ := hq
                replace hx := hk139_37.ns hx
                replace hK6 := hK6.k2 hk139_37
                replace hf : ∀ i, i < 4 → m (5504 + i) = f i := fun i hi => (hk139_37 _ (by omega) (by omega)).trans (hf i hi)
                replace hg := (hk139_37 5510 (by decide) (by decide)).trans hg
                replace hgb := (hk139_37 5511 (by decide) (by decide)).trans hgb
                rcases hq139_37 with ⟨q139_37, hz139_37, rfl, hS, hn139_37⟩ | ⟨t139_37, q139_37, hz139_37, rfl, hS, hn139_37⟩
                ·
                  show sd_Wp sd_SM 4 sY11_reads 142 [some (.inr 15), some (.inl pl), some (.inl mn), some (.inl w), some (.inl 1), some (.inl (c : Int)), some (.inl (sd_b ((0 + (j45_1 : Int)) = 1))), some (.inl (2 + (j68_9 : Int))), some (.inl 1), some (.inl (6 + (j107_30 : Int))), some (.inl 1), some (.inl 0), none] [.inl 0] m _
                  refine sd_istore (ls' := [some (.inr 15), some (.inl pl), some (.inl mn), some (.inl w), some (.inl 1), some (.inl (c : Int)), some (.inl (sd_b ((0 + (j45_1 : Int)) = 1))), some (.inl (2 + (j68_9 : Int))), some (.inl 1), some (.inl (6 + (j107_30 : Int))), some (.inl 1), some (.inl 0), some (.inl 0)]) sD11_reads_142 (by decide) rfl ?_
                  refine sd_iload sD11_reads_144 rfl ?_
                  refine sd_iload sD11_reads_146 rfl ?_
                  refine sd_iand sD11_reads_148 ?_
                  refine sd_istore (ls' := [some (.inr 15), some (.inl pl), some (.inl mn), some (.inl w), some (.inl 1), some (.inl (c : Int)), some (.inl (sd_b ((0 + (j45_1 : Int)) = 1))), some (.inl (2 + (j68_9 : Int))), some (.inl (sd_and 1 0)), some (.inl (6 + (j107_30 : Int))), some (.inl 1), some (.inl 0), some (.inl 0)]) sD11_reads_149 (by decide) rfl ?_
                  refine sd_iload sD11_reads_151 rfl ?_
                  refine sd_iconst sD11_reads_153 (by decide) ?_
                  refine sd_icmp_ge (tgt := 177) sD11_reads_154 (by decide) (fun zc154 => (by exfalso; omega)) (fun zc154 => ?_)
                  refine sd_aload_n sD11_reads_157 rfl ?_
                  refine sd_callVp (as := []) (st := []) (v := .inl 0) sD11_reads_158 sM11_160 sOM15 rfl rfl rfl (by decide) (Nat.le_of_ble_eq_true rfl) (cM_isGood0 fr n q139_37 q139_37 _ m hx hS) (fun ho158 => ?_)
                  refine sd_if_eq (tgt := 177) sD11_reads_161 (by decide) (fun zc161 => ?_) (fun zc161 => (by exfalso; omega))
                  refine sd_iconst sD11_reads_177 (by decide) ?_
                  refine sd_istore (ls' := [some (.inr 15), some (.inl pl), some (.inl mn), some (.inl w), some (.inl 1), some (.inl (c : Int)), some (.inl (sd_b ((0 + (j45_1 : Int)) = 1))), some (.inl (2 + (j68_9 : Int))), some (.inl (sd_and 1 0)), some (.inl (6 + (j107_30 : Int))), some (.inl 0), some (.inl 0), some (.inl 0)]) sD11_reads_178 (by decide) rfl ?_
                  refine sd_aload_n sD11_reads_180 rfl ?_
                  refine sd_dup sD11_reads_181 ?_
                  refine sd_getfi sD11_reads_182 sF11_147 sGM15_12 ?_
                  rw [show m 5492 = (q139_37 : Int) from hS.2.2.1]
                  refine sd_iload sD11_reads_185 rfl ?_
                  refine sd_if_eq (tgt := 194) sD11_reads_187 (by decide) (fun zc187 => ?_) (fun zc187 => (by exfalso; omega))
                  refine sd_iconst sD11_reads_194 (by decide) ?_
                  refine sd_iadd (z := (q139_37 : Int)) sD11_reads_195 (by omega) (by omega) ?_
                  refine sd_putfc sd_sokM sd_oneM hx sD11_reads_196 sF11_147 sGM15_12 (by decide) (Or.inl rfl) (fun m hx em196 => ?_)
                  have hk196x := sd_k2.up em196 (Or.inl rfl)
                  replace hK6 := hK6.k2 hk196x
                  replace hf : ∀ i, i < 4 → m (5504 + i) = f i := fun i hi => (hk196x _ (by omega) (by omega)).trans (hf i hi)
                  replace hg := (hk196x 5510 (by decide) (by decide)).trans hg
                  replace hgb := (hk196x 5511 (by decide) (by decide)).trans hgb
                  replace hS : sd_RS m fr n q139_37 (q139_37 : Int) := ⟨by rw [em196, sd_up_ne (by decide)]; exact hS.1, by rw [em196, sd_up_ne (by decide)]; exact hS.2.1, by rw [em196, sd_up_eq]; (try omega), by rw [em196, sd_up_ne (by decide)]; exact hS.2.2.2⟩
                  refine sd_iinc (y := 1) (ls' := [some (.inr 15), some (.inl pl), some (.inl mn), some (.inl w), some (.inl 1), some (.inl (c : Int)), some (.inl (sd_b ((0 + (j45_1 : Int)) = 1))), some (.inl (2 + (j68_9 : Int))), some (.inl (sd_and 1 0)), some (.inl (6 + (j107_30 : Int))), some (.inl 0), some (.inl 1), some (.inl 0)]) sD11_reads_199 rfl (by omega) (by omega) (by decide) rfl ?_
                  refine sd_goto (tgt := 127) sD11_reads_202 (by decide) ?_
                  refine sd_iload sD11_reads_127 rfl ?_
                  refine sd_iconst sD11_reads_129 (by decide) ?_
                  refine sd_icmp_ge (tgt := 205) sD11_reads_130 (by decide) (fun zc130 => (by exfalso; omega)) (fun zc130 => ?_)
                  refine sd_iload sD11_reads_133 rfl ?_
                  refine sd_if_eq (tgt := 205) sD11_reads_135 (by decide) (fun zc135 => ?_) (fun zc135 => (by exfalso; omega))
                  refine sd_aload_n sD11_reads_205 rfl ?_
                  refine sd_callVp (as := []) (st := []) (v := .inl 0) sD11_reads_206 sM11_160 sOM15 rfl rfl rfl (by decide) (Nat.le_of_ble_eq_true rfl) (cM_isGood0 fr n q139_37 q139_37 _ m hx hS) (fun ho206 => ?_)
                  refine sd_if_eq (tgt := 244) sD11_reads_209 (by decide) (fun zc209 => ?_) (fun zc209 => (by exfalso; omega))
                  refine sd_iload sD11_reads_244 rfl ?_
                  refine sd_iconst sD11_reads_246 (by decide) ?_
                  refine sd_icmp_ge (tgt := 270) sD11_reads_247 (by decide) (fun zc247 => ?_) (fun zc247 => ?_)
                  ·
                    refine sd_iconst sD11_reads_270 (by decide) ?_
                    refine sd_istore (ls' := [some (.inr 15), some (.inl pl), some (.inl mn), some (.inl w), some (.inl 0), some (.inl (c : Int)), some (.inl (sd_b ((0 + (j45_1 : Int)) = 1))), some (.inl (2 + (j68_9 : Int))), some (.inl (sd_and 1 0)), some (.inl (6 + (j107_30 : Int))), some (.inl 0), some (.inl 1), some (.inl 0)]) sD11_reads_271 (by decide) rfl ?_
                    refine sd_aload_n sD11_reads_273 rfl ?_
                    refine sd_dup sD11_reads_274 ?_
                    refine sd_getfi sD11_reads_275 sF11_147 sGM15_12 ?_
                    rw [show m 5492 = (q139_37 : Int) from hS.2.2.1]
                    refine sd_iload sD11_reads_278 rfl ?_
                    refine sd_if_eq (tgt := 287) sD11_reads_280 (by decide) (fun zc280 => ?_) (fun zc280 => (by exfalso; omega))
                    refine sd_iconst sD11_reads_287 (by decide) ?_
                    refine sd_iadd (z := (q139_37 : Int)) sD11_reads_288 (by omega) (by omega) ?_
                    refine sd_putfc sd_sokM sd_oneM hx sD11_reads_289 sF11_147 sGM15_12 (by decide) (Or.inl rfl) (fun m hx em289 => ?_)
                    have hk289x := sd_k2.up em289 (Or.inl rfl)
                    replace hK6 := hK6.k2 hk289x
                    replace hf : ∀ i, i < 4 → m (5504 + i) = f i := fun i hi => (hk289x _ (by omega) (by omega)).trans (hf i hi)
                    replace hg := (hk289x 5510 (by decide) (by decide)).trans hg
                    replace hgb := (hk289x 5511 (by decide) (by decide)).trans hgb
                    replace hS : sd_RS m fr n q139_37 (q139_37 : Int) := ⟨by rw [em289, sd_up_ne (by decide)]; exact hS.1, by rw [em289, sd_up_ne (by decide)]; exact hS.2.1, by rw [em289, sd_up_eq]; (try omega), by rw [em289, sd_up_ne (by decide)]; exact hS.2.2.2⟩
                    refine sd_iinc (y := ((c : Int) + 1)) (ls' := [some (.inr 15), some (.inl pl), some (.inl mn), some (.inl w), some (.inl 0), some (.inl ((c : Int) + 1)), some (.inl (sd_b ((0 + (j45_1 : Int)) = 1))), some (.inl (2 + (j68_9 : Int))), some (.inl (sd_and 1 0)), some (.inl (6 + (j107_30 : Int))), some (.inl 0), some (.inl 1), some (.inl 0)]) sD11_reads_292 rfl (by omega) (by omega) (by decide) rfl ?_
                    refine sd_goto (tgt := 31) sD11_reads_295 (by decide) ?_
                    refine sd_iload sD11_reads_31 rfl ?_
                    refine sd_iconst sD11_reads_33 (by decide) ?_
                    refine sd_icmp_ge (tgt := 298) sD11_reads_34 (by decide) (fun zc34 => ?_) (fun zc34 => ?_)
                    ·
                      refine sd_aload_n sD11_reads_298 rfl ?_
                      refine sd_getfi sD11_reads_299 sF11_147 sGM15_12 ?_
                      rw [show m 5492 = (q139_37 : Int) from hS.2.2.1]
                      refine sd_aload_n sD11_reads_302 rfl ?_
                      refine sd_getfi sD11_reads_303 sF11_151 sGM15_11 ?_
                      rw [show m 5491 = (n : Int) from hS.2.1]
                      refine sd_icmp_ge (tgt := 313) sD11_reads_306 (by decide) (fun zc306 => ?_) (fun zc306 => ?_)
                      ·
                        refine sd_vreturn sD11_reads_313 rfl (fun hm => hQ _ _ ⟨rfl, hK6, ?_⟩)
                        have hwd : sd_wd B p = .inr ((j45_1, j68_9), q68_9) := by simp only [sd_wd, hz45_1]; rw [if_pos hb62_8, hz68_9]
                        have htt : sd_tt B 3 (sd_fe B (q68_9 + 1) 7) = .inl q139_37 := by rw [hfe]; simp only [sd_tt, hz139_37]
                        exact Or.inl ⟨q139_37, by simp only [sd_txt, sd_cls, hwd]; rw [if_pos hsp2, if_pos hff, htt], hS.2.2.2⟩
                      ·
                        refine sd_aload_n sD11_reads_309 rfl ?_
                        refine sd_callV (as := []) (st := []) sD11_reads_310 sM11_167 rfl rfl sOM15 rfl (by decide) (Nat.le_of_ble_eq_true rfl) (cM_wrong0 fr n q139_37 q139_37 _ m hx hS) (fun r m hq ho310 hm => ?_)
                        obtain ⟨rfl, hk310_38, hS⟩ := hq
                        replace hx := hk310_38.ns hx
                        replace hK6 := hK6.k2 hk310_38
                        replace hf : ∀ i, i < 4 → m (5504 + i) = f i := fun i hi => (hk310_38 _ (by omega) (by omega)).trans (hf i hi)
                        replace hg := (hk310_38 5510 (by decide) (by decide)).trans hg
                        replace hgb := (hk310_38 5511 (by decide) (by decide)).trans hgb
                        rcases (⟨trivial⟩ : Nonempty True) with hy310_38
                        ·
                          show sd_Wp sd_SM 4 sY11_reads 313 [some (.inr 15), some (.inl pl), some (.inl mn), some (.inl w), some (.inl 0), some (.inl ((c : Int) + 1)), some (.inl (sd_b ((0 + (j45_1 : Int)) = 1))), some (.inl (2 + (j68_9 : Int))), some (.inl (sd_and 1 0)), some (.inl (6 + (j107_30 : Int))), some (.inl 0), some (.inl 1), some (.inl 0)] [] m _
                          refine sd_vreturn sD11_reads_313 rfl (fun hm => hQ _ _ ⟨rfl, hK6, ?_⟩)
                          have hwd : sd_wd B p = .inr ((j45_1, j68_9), q68_9) := by simp only [sd_wd, hz45_1]; rw [if_pos hb62_8, hz68_9]
                          have htt : sd_tt B 3 (sd_fe B (q68_9 + 1) 7) = .inl q139_37 := by rw [hfe]; simp only [sd_tt, hz139_37]
                          exact Or.inl ⟨q139_37, by simp only [sd_txt, sd_cls, hwd]; rw [if_pos hsp2, if_pos hff, htt], hS.2.2.2⟩
                    ·
                      refine sd_iload sD11_reads_37 rfl ?_
                      refine sd_if_eq (tgt := 298) sD11_reads_39 (by decide) (fun zc39 => ?_) (fun zc39 => (by exfalso; omega))
                      refine sd_aload_n sD11_reads_298 rfl ?_
                      refine sd_getfi sD11_reads_299 sF11_147 sGM15_12 ?_
                      rw [show m 5492 = (q139_37 : Int) from hS.2.2.1]
                      refine sd_aload_n sD11_reads_302 rfl ?_
                      refine sd_getfi sD11_reads_303 sF11_151 sGM15_11 ?_
                      rw [show m 5491 = (n : Int) from hS.2.1]
                      refine sd_icmp_ge (tgt := 313) sD11_reads_306 (by decide) (fun zc306 => ?_) (fun zc306 => ?_)
                      ·
                        refine sd_vreturn sD11_reads_313 rfl (fun hm => hQ _ _ ⟨rfl, hK6, ?_⟩)
                        have hwd : sd_wd B p = .inr ((j45_1, j68_9), q68_9) := by simp only [sd_wd, hz45_1]; rw [if_pos hb62_8, hz68_9]
                        have htt : sd_tt B 3 (sd_fe B (q68_9 + 1) 7) = .inl q139_37 := by rw [hfe]; simp only [sd_tt, hz139_37]
                        exact Or.inl ⟨q139_37, by simp only [sd_txt, sd_cls, hwd]; rw [if_pos hsp2, if_pos hff, htt], hS.2.2.2⟩
                      ·
                        refine sd_aload_n sD11_reads_309 rfl ?_
                        refine sd_callV (as := []) (st := []) sD11_reads_310 sM11_167 rfl rfl sOM15 rfl (by decide) (Nat.le_of_ble_eq_true rfl) (cM_wrong0 fr n q139_37 q139_37 _ m hx hS) (fun r m hq ho310 hm => ?_)
                        obtain ⟨rfl, hk310_39, hS⟩ := hq
                        replace hx := hk310_39.ns hx
                        replace hK6 := hK6.k2 hk310_39
                        replace hf : ∀ i, i < 4 → m (5504 + i) = f i := fun i hi => (hk310_39 _ (by omega) (by omega)).trans (hf i hi)
                        replace hg := (hk310_39 5510 (by decide) (by decide)).trans hg
                        replace hgb := (hk310_39 5511 (by decide) (by decide)).trans hgb
                        rcases (⟨trivial⟩ : Nonempty True) with hy310_39
                        ·
                          show sd_Wp sd_SM 4 sY11_reads 313 [some (.inr 15), some (.inl pl), some (.inl mn), some (.inl w), some (.inl 0), some (.inl ((c : Int) + 1)), some (.inl (sd_b ((0 + (j45_1 : Int)) = 1))), some (.inl (2 + (j68_9 : Int))), some (.inl (sd_and 1 0)), some (.inl (6 + (j107_30 : Int))), some (.inl 0), some (.inl 1), some (.inl 0)] [] m _
                          refine sd_vreturn sD11_reads_313 rfl (fun hm => hQ _ _ ⟨rfl, hK6, ?_⟩)
                          have hwd : sd_wd B p = .inr ((j45_1, j68_9), q68_9) := by simp only [sd_wd, hz45_1]; rw [if_pos hb62_8, hz68_9]
                          have htt : sd_tt B 3 (sd_fe B (q68_9 + 1) 7) = .inl q139_37 := by rw [hfe]; simp only [sd_tt, hz139_37]
                          exact Or.inl ⟨q139_37, by simp only [sd_txt, sd_cls, hwd]; rw [if_pos hsp2, if_pos hff, htt], hS.2.2.2⟩
                  ·
                    refine sd_aload_n sD11_reads_250 rfl ?_
                    refine sd_callVp (as := []) (st := []) (v := .inl 0) sD11_reads_251 sM11_160 sOM15 rfl rfl rfl (by decide) (Nat.le_of_ble_eq_true rfl) (cM_isGood0 fr n q139_37 q139_37 _ m hx hS) (fun ho251 => ?_)
                    refine sd_if_eq (tgt := 270) sD11_reads_254 (by decide) (fun zc254 => ?_) (fun zc254 => (by exfalso; omega))
                    refine sd_iconst sD11_reads_270 (by decide) ?_
                    refine sd_istore (ls' := [some (.inr 15), some (.inl pl), some (.inl mn), some (.inl w), some (.inl 0), some (.inl (c : Int)), some (.inl (sd_b ((0 + (j45_1 : Int)) = 1))), some (.inl (2 + (j68_9 : Int))), some (.inl (sd_and 1 0)), some (.inl (6 + (j107_30 : Int))), some (.inl 0), some (.inl 1), some (.inl 0)]) sD11_reads_271 (by decide) rfl ?_
                    refine sd_aload_n sD11_reads_273 rfl ?_
                    refine sd_dup sD11_reads_274 ?_
                    refine sd_getfi sD11_reads_275 sF11_147 sGM15_12 ?_
                    rw [show m 5492 = (q139_37 : Int) from hS.2.2.1]
                    refine sd_iload sD11_reads_278 rfl ?_
                    refine sd_if_eq (tgt := 287) sD11_reads_280 (by decide) (fun zc280 => ?_) (fun zc280 => (by exfalso; omega))
                    refine sd_iconst sD11_reads_287 (by decide) ?_
                    refine sd_iadd (z := (q139_37 : Int)) sD11_reads_288 (by omega) (by omega) ?_
                    refine sd_putfc sd_sokM sd_oneM hx sD11_reads_289 sF11_147 sGM15_12 (by decide) (Or.inl rfl) (fun m hx em289 => ?_)
                    have hk289x := sd_k2.up em289 (Or.inl rfl)
                    replace hK6 := hK6.k2 hk289x
                    replace hf : ∀ i, i < 4 → m (5504 + i) = f i := fun i hi => (hk289x _ (by omega) (by omega)).trans (hf i hi)
                    replace hg := (hk289x 5510 (by decide) (by decide)).trans hg
                    replace hgb := (hk289x 5511 (by decide) (by decide)).trans hgb
                    replace hS : sd_RS m fr n q139_37 (q139_37 : Int) := ⟨by rw [em289, sd_up_ne (by decide)]; exact hS.1, by rw [em289, sd_up_ne (by decide)]; exact hS.2.1, by rw [em289, sd_up_eq]; (try omega), by rw [em289, sd_up_ne (by decide)]; exact hS.2.2.2⟩
                    refine sd_iinc (y := ((c : Int) + 1)) (ls' := [some (.inr 15), some (.inl pl), some (.inl mn), some (.inl w), some (.inl 0), some (.inl ((c : Int) + 1)), some (.inl (sd_b ((0 + (j45_1 : Int)) = 1))), some (.inl (2 + (j68_9 : Int))), some (.inl (sd_and 1 0)), some (.inl (6 + (j107_30 : Int))), some (.inl 0), some (.inl 1), some (.inl 0)]) sD11_reads_292 rfl (by omega) (by omega) (by decide) rfl ?_
                    refine sd_goto (tgt := 31) sD11_reads_295 (by decide) ?_
                    refine sd_iload sD11_reads_31 rfl ?_
                    refine sd_iconst sD11_reads_33 (by decide) ?_
                    refine sd_icmp_ge (tgt := 298) sD11_reads_34 (by decide) (fun zc34 => ?_) (fun zc34 => ?_)
                    ·
                      refine sd_aload_n sD11_reads_298 rfl ?_
                      refine sd_getfi sD11_reads_299 sF11_147 sGM15_12 ?_
                      rw [show m 5492 = (q139_37 : Int) from hS.2.2.1]
                      refine sd_aload_n sD11_reads_302 rfl ?_
                      refine sd_getfi sD11_reads_303 sF11_151 sGM15_11 ?_
                      rw [show m 5491 = (n : Int) from hS.2.1]
                      refine sd_icmp_ge (tgt := 313) sD11_reads_306 (by decide) (fun zc306 => ?_) (fun zc306 => ?_)
                      ·
                        refine sd_vreturn sD11_reads_313 rfl (fun hm => hQ _ _ ⟨rfl, hK6, ?_⟩)
                        have hwd : sd_wd B p = .inr ((j45_1, j68_9), q68_9) := by simp only [sd_wd, hz45_1]; rw [if_pos hb62_8, hz68_9]
                        have htt : sd_tt B 3 (sd_fe B (q68_9 + 1) 7) = .inl q139_37 := by rw [hfe]; simp only [sd_tt, hz139_37]
                        exact Or.inl ⟨q139_37, by simp only [sd_txt, sd_cls, hwd]; rw [if_pos hsp2, if_pos hff, htt], hS.2.2.2⟩
                      ·
                        refine sd_aload_n sD11_reads_309 rfl ?_
                        refine sd_callV (as := []) (st := []) sD11_reads_310 sM11_167 rfl rfl sOM15 rfl (by decide) (Nat.le_of_ble_eq_true rfl) (cM_wrong0 fr n q139_37 q139_37 _ m hx hS) (fun r m hq ho310 hm => ?_)
                        obtain ⟨rfl, hk310_40, hS⟩ := hq
                        replace hx := hk310_40.ns hx
                        replace hK6 := hK6.k2 hk310_40
                        replace hf : ∀ i, i < 4 → m (5504 + i) = f i := fun i hi => (hk310_40 _ (by omega) (by omega)).trans (hf i hi)
                        replace hg := (hk310_40 5510 (by decide) (by decide)).trans hg
                        replace hgb := (hk310_40 5511 (by decide) (by decide)).trans hgb
                        rcases (⟨trivial⟩ : Nonempty True) with hy310_40
                        ·
                          show sd_Wp sd_SM 4 sY11_reads 313 [some (.inr 15), some (.inl pl), some (.inl mn), some (.inl w), some (.inl 0), some (.inl ((c : Int) + 1)), some (.inl (sd_b ((0 + (j45_1 : Int)) = 1))), some (.inl (2 + (j68_9 : Int))), some (.inl (sd_and 1 0)), some (.inl (6 + (j107_30 : Int))), some (.inl 0), some (.inl 1), some (.inl 0)] [] m _
                          refine sd_vreturn sD11_reads_313 rfl (fun hm => hQ _ _ ⟨rfl, hK6, ?_⟩)
                          have hwd : sd_wd B p = .inr ((j45_1, j68_9), q68_9) := by simp only [sd_wd, hz45_1]; rw [if_pos hb62_8, hz68_9]
                          have htt : sd_tt B 3 (sd_fe B (q68_9 + 1) 7) = .inl q139_37 := by rw [hfe]; simp only [sd_tt, hz139_37]
                          exact Or.inl ⟨q139_37, by simp only [sd_txt, sd_cls, hwd]; rw [if_pos hsp2, if_pos hff, htt], hS.2.2.2⟩
                    ·
                      refine sd_iload sD11_reads_37 rfl ?_
                      refine sd_if_eq (tgt := 298) sD11_reads_39 (by decide) (fun zc39 => ?_) (fun zc39 => (by exfalso; omega))
                      refine sd_aload_n sD11_reads_298 rfl ?_
                      refine sd_getfi sD11_reads_299 sF11_147 sGM15_12 ?_
                      rw [show m 5492 = (q139_37 : Int) from hS.2.2.1]
                      refine sd_aload_n sD11_reads_302 rfl ?_
                      refine sd_getfi sD11_reads_303 sF11_151 sGM15_11 ?_
                      rw [show m 5491 = (n : Int) from hS.2.1]
                      refine sd_icmp_ge (tgt := 313) sD11_reads_306 (by decide) (fun zc306 => ?_) (fun zc306 => ?_)
                      ·
                        refine sd_vreturn sD11_reads_313 rfl (fun hm => hQ _ _ ⟨rfl, hK6, ?_⟩)
                        have hwd : sd_wd B p = .inr ((j45_1, j68_9), q68_9) := by simp only [sd_wd, hz45_1]; rw [if_pos hb62_8, hz68_9]
                        have htt : sd_tt B 3 (sd_fe B (q68_9 + 1) 7) = .inl q139_37 := by rw [hfe]; simp only [sd_tt, hz139_37]
                        exact Or.inl ⟨q139_37, by simp only [sd_txt, sd_cls, hwd]; rw [if_pos hsp2, if_pos hff, htt], hS.2.2.2⟩
                      ·
                        refine sd_aload_n sD11_reads_309 rfl ?_
                        refine sd_callV (as := []) (st := []) sD11_reads_310 sM11_167 rfl rfl sOM15 rfl (by decide) (Nat.le_of_ble_eq_true rfl) (cM_wrong0 fr n q139_37 q139_37 _ m hx hS) (fun r m hq ho310 hm => ?_)
                        obtain ⟨rfl, hk310_41, hS⟩ := hq
                        replace hx := hk310_41.ns hx
                        replace hK6 := hK6.k2 hk310_41
                        replace hf : ∀ i, i < 4 → m (5504 + i) = f i := fun i hi => (hk310_41 _ (by omega) (by omega)).trans (hf i hi)
                        replace hg := (hk310_41 5510 (by decide) (by decide)).trans hg
                        replace hgb := (hk310_41 5511 (by decide) (by decide)).trans hgb
                        rcases (⟨trivial⟩ : Nonempty True) with hy310_41
                        ·
                          show sd_Wp sd_SM 4 sY11_reads 313 [some (.inr 15), some (.inl pl), some (.inl mn), some (.inl w), some (.inl 0), some (.inl ((c : Int) + 1)), some (.inl (sd_b ((0 + (j45_1 : Int)) = 1))), some (.inl (2 + (j68_9 : Int))), some (.inl (sd_and 1 0)), some (.inl (6 + (j107_30 : Int))), some (.inl 0), some (.inl 1), some (.inl 0)] [] m _
                          refine sd_vreturn sD11_reads_313 rfl (fun hm => hQ _ _ ⟨rfl, hK6, ?_⟩)
                          have hwd : sd_wd B p = .inr ((j45_1, j68_9), q68_9) := by simp only [sd_wd, hz45_1]; rw [if_pos hb62_8, hz68_9]
                          have htt : sd_tt B 3 (sd_fe B (q68_9 + 1) 7) = .inl q139_37 := by rw [hfe]; simp only [sd_tt, hz139_37]
                          exact Or.inl ⟨q139_37, by simp only [sd_txt, sd_cls, hwd]; rw [if_pos hsp2, if_pos hff, htt], hS.2.2.2⟩
                ·
                  show sd_Wp sd_SM 4 sY11_reads 142 [some (.inr 15), some (.inl pl), some (.inl mn), some (.inl w), some (.inl 1), some (.inl (c : Int)), some (.inl (sd_b ((0 + (j45_1 : Int)) = 1))), some (.inl (2 + (j68_9 : Int))), some (.inl 1), some (.inl (6 + (j107_30 : Int))), some (.inl 1), some (.inl 0), none] [.inl (sd_b (sd_hl f t139_37))] m _
                  refine sd_istore (ls' := [some (.inr 15), some (.inl pl), some (.inl mn), some (.inl w), some (.inl 1), some (.inl (c : Int)), some (.inl (sd_b ((0 + (j45_1 : Int)) = 1))), some (.inl (2 + (j68_9 : Int))), some (.inl 1), some (.inl (6 + (j107_30 : Int))), some (.inl 1), some (.inl 0), some (.inl (sd_b (sd_hl f t139_37)))]) sD11_reads_142 (by decide) rfl ?_
                  refine sd_iload sD11_reads_144 rfl ?_
                  refine sd_iload sD11_reads_146 rfl ?_
                  refine sd_iand sD11_reads_148 ?_
                  rw [sd_and_1b]
                  refine sd_istore (ls' := [some (.inr 15), some (.inl pl), some (.inl mn), some (.inl w), some (.inl 1), some (.inl (c : Int)), some (.inl (sd_b ((0 + (j45_1 : Int)) = 1))), some (.inl (2 + (j68_9 : Int))), some (.inl (sd_b (sd_hl f t139_37))), some (.inl (6 + (j107_30 : Int))), some (.inl 1), some (.inl 0), some (.inl (sd_b (sd_hl f t139_37)))]) sD11_reads_149 (by decide) rfl ?_
                  refine sd_iload sD11_reads_151 rfl ?_
                  refine sd_iconst sD11_reads_153 (by decide) ?_
                  refine sd_icmp_ge (tgt := 177) sD11_reads_154 (by decide) (fun zc154 => (by exfalso; omega)) (fun zc154 => ?_)
                  refine sd_aload_n sD11_reads_157 rfl ?_
                  refine sd_callVp (as := []) (st := []) (v := .inl 1) sD11_reads_158 sM11_160 sOM15 rfl rfl rfl (by decide) (Nat.le_of_ble_eq_true rfl) (cM_isGood1 fr n q139_37 _ m hx hS) (fun ho158 => ?_)
                  refine sd_if_eq (tgt := 177) sD11_reads_161 (by decide) (fun zc161 => (by exfalso; omega)) (fun zc161 => ?_)
                  refine sd_aload_n sD11_reads_164 rfl ?_
                  refine sd_callVp (as := []) (st := []) (v := .inl (B q139_37)) sD11_reads_165 sM11_164 sOM15 rfl rfl rfl (by decide) (Nat.le_of_ble_eq_true rfl) (cM_byteAt _ fr B n q139_37 _ m hx hB hS) (fun ho165 => ?_)
                  refine sd_bipush sD11_reads_168 rfl (by decide) ?_
                  refine sd_icmp_ne (tgt := 177) sD11_reads_170 (by decide) (fun zc170 => ?_) (fun zc170 => ?_)
                  ·
                    refine sd_iconst sD11_reads_177 (by decide) ?_
                    refine sd_istore (ls' := [some (.inr 15), some (.inl pl), some (.inl mn), some (.inl w), some (.inl 1), some (.inl (c : Int)), some (.inl (sd_b ((0 + (j45_1 : Int)) = 1))), some (.inl (2 + (j68_9 : Int))), some (.inl (sd_b (sd_hl f t139_37))), some (.inl (6 + (j107_30 : Int))), some (.inl 0), some (.inl 0), some (.inl (sd_b (sd_hl f t139_37)))]) sD11_reads_178 (by decide) rfl ?_
                    refine sd_aload_n sD11_reads_180 rfl ?_
                    refine sd_dup sD11_reads_181 ?_
                    refine sd_getfi sD11_reads_182 sF11_147 sGM15_12 ?_
                    rw [show m 5492 = (q139_37 : Int) from hS.2.2.1]
                    refine sd_iload sD11_reads_185 rfl ?_
                    refine sd_if_eq (tgt := 194) sD11_reads_187 (by decide) (fun zc187 => ?_) (fun zc187 => (by exfalso; omega))
                    refine sd_iconst sD11_reads_194 (by decide) ?_
                    refine sd_iadd (z := (q139_37 : Int)) sD11_reads_195 (by omega) (by omega) ?_
                    refine sd_putfc sd_sokM sd_oneM hx sD11_reads_196 sF11_147 sGM15_12 (by decide) (Or.inl rfl) (fun m hx em196 => ?_)
                    have hk196x := sd_k2.up em196 (Or.inl rfl)
                    replace hK6 := hK6.k2 hk196x
                    replace hf : ∀ i, i < 4 → m (5504 + i) = f i := fun i hi => (hk196x _ (by omega) (by omega)).trans (hf i hi)
                    replace hg := (hk196x 5510 (by decide) (by decide)).trans hg
                    replace hgb := (hk196x 5511 (by decide) (by decide)).trans hgb
                    replace hS : sd_RS m fr n q139_37 (-1) := ⟨by rw [em196, sd_up_ne (by decide)]; exact hS.1, by rw [em196, sd_up_ne (by decide)]; exact hS.2.1, by rw [em196, sd_up_eq]; (try omega), by rw [em196, sd_up_ne (by decide)]; exact hS.2.2.2⟩
                    refine sd_iinc (y := 1) (ls' := [some (.inr 15), some (.inl pl), some (.inl mn), some (.inl w), some (.inl 1), some (.inl (c : Int)), some (.inl (sd_b ((0 + (j45_1 : Int)) = 1))), some (.inl (2 + (j68_9 : Int))), some (.inl (sd_b (sd_hl f t139_37))), some (.inl (6 + (j107_30 : Int))), some (.inl 0), some (.inl 1), some (.inl (sd_b (sd_hl f t139_37)))]) sD11_reads_199 rfl (by omega) (by omega) (by decide) rfl ?_
                    refine sd_goto (tgt := 127) sD11_reads_202 (by decide) ?_
                    refine sd_iload sD11_reads_127 rfl ?_
                    refine sd_iconst sD11_reads_129 (by decide) ?_
                    refine sd_icmp_ge (tgt := 205) sD11_reads_130 (by decide) (fun zc130 => (by exfalso; omega)) (fun zc130 => ?_)
                    refine sd_iload sD11_reads_133 rfl ?_
                    refine sd_if_eq (tgt := 205) sD11_reads_135 (by decide) (fun zc135 => ?_) (fun zc135 => (by exfalso; omega))
                    have hwd : sd_wd B p = .inr ((j45_1, j68_9), q68_9) := by simp only [sd_wd, hz45_1]; rw [if_pos hb62_8, hz68_9]
                    have htt : sd_tt B 3 (sd_fe B (q68_9 + 1) 7) = .inr ([t139_37], q139_37) := by rw [hfe]; simp only [sd_tt, hz139_37]; simp [*]
                    have hcl : sd_cls B p = .inr ((j45_1, j68_9, [t139_37]), q139_37) := by simp only [sd_cls, hwd]; rw [if_pos hsp2, if_pos hff, htt]
                    refine sd_aload_n sD11_reads_205 rfl ?_
                    refine sd_callVp (as := []) (st := []) (v := .inl 1) sD11_reads_206 sM11_160 sOM15 rfl rfl rfl (by decide) (Nat.le_of_ble_eq_true rfl) (cM_isGood1 fr n q139_37 _ m hx hS) (fun ho206 => ?_)
                    refine sd_if_eq (tgt := 244) sD11_reads_209 (by decide) (fun zc209 => (by exfalso; omega)) (fun zc209 => ?_)
                    refine sd_iload sD11_reads_212 rfl ?_
                    refine sd_bif_eq (tgt := 244) sD11_reads_214 (by decide) (fun zc214 => ?_) (fun zc214 => ?_)
                    ·
                      have hmt : ¬ sd_mt f w (j45_1, j68_9, [t139_37]) := fun qm => by have qm1 : (j68_9 : Int) = w := qm.1; have qm2 := qm.2; (have qn : sd_hl f t139_37 := qm2 _ (by simp); contradiction)
                      rcases (show ¬ g = -1 ∨ g = -1 by omega) with hgc | hgc
                      ·
                        refine sd_iload sD11_reads_244 rfl ?_
                        refine sd_iconst sD11_reads_246 (by decide) ?_
                        refine sd_icmp_ge (tgt := 270) sD11_reads_247 (by decide) (fun zc247 => ?_) (fun zc247 => ?_)
                        ·
                          refine sd_iconst sD11_reads_270 (by decide) ?_
                          refine sd_istore (ls' := [some (.inr 15), some (.inl pl), some (.inl mn), some (.inl w), some (.inl 0), some (.inl (c : Int)), some (.inl (sd_b ((0 + (j45_1 : Int)) = 1))), some (.inl (2 + (j68_9 : Int))), some (.inl (sd_b (sd_hl f t139_37))), some (.inl (6 + (j107_30 : Int))), some (.inl 0), some (.inl 1), some (.inl (sd_b (sd_hl f t139_37)))]) sD11_reads_271 (by decide) rfl ?_
                          refine sd_aload_n sD11_reads_273 rfl ?_
                          refine sd_dup sD11_reads_274 ?_
                          refine sd_getfi sD11_reads_275 sF11_147 sGM15_12 ?_
                          rw [show m 5492 = (q139_37 : Int) from hS.2.2.1]
                          refine sd_iload sD11_reads_278 rfl ?_
                          refine sd_if_eq (tgt := 287) sD11_reads_280 (by decide) (fun zc280 => ?_) (fun zc280 => (by exfalso; omega))
                          refine sd_iconst sD11_reads_287 (by decide) ?_
                          refine sd_iadd (z := (q139_37 : Int)) sD11_reads_288 (by omega) (by omega) ?_
                          refine sd_putfc sd_sokM sd_oneM hx sD11_reads_289 sF11_147 sGM15_12 (by decide) (Or.inl rfl) (fun m hx em289 => ?_)
                          have hk289x := sd_k2.up em289 (Or.inl rfl)
                          replace hK6 := hK6.k2 hk289x
                          replace hf : ∀ i, i < 4 → m (5504 + i) = f i := fun i hi => (hk289x _ (by omega) (by omega)).trans (hf i hi)
                          replace hg := (hk289x 5510 (by decide) (by decide)).trans hg
                          replace hgb := (hk289x 5511 (by decide) (by decide)).trans hgb
                          replace hS : sd_RS m fr n q139_37 (-1) := ⟨by rw [em289, sd_up_ne (by decide)]; exact hS.1, by rw [em289, sd_up_ne (by decide)]; exact hS.2.1, by rw [em289, sd_up_eq]; (try omega), by rw [em289, sd_up_ne (by decide)]; exact hS.2.2.2⟩
                          refine sd_iinc (y := ((c : Int) + 1)) (ls' := [some (.inr 15), some (.inl pl), some (.inl mn), some (.inl w), some (.inl 0), some (.inl ((c : Int) + 1)), some (.inl (sd_b ((0 + (j45_1 : Int)) = 1))), some (.inl (2 + (j68_9 : Int))), some (.inl (sd_b (sd_hl f t139_37))), some (.inl (6 + (j107_30 : Int))), some (.inl 0), some (.inl 1), some (.inl (sd_b (sd_hl f t139_37)))]) sD11_reads_292 rfl (by omega) (by omega) (by decide) rfl ?_
                          refine sd_goto (tgt := 31) sD11_reads_295 (by decide) ?_
                          refine sd_iload sD11_reads_31 rfl ?_
                          refine sd_iconst sD11_reads_33 (by decide) ?_
                          refine sd_icmp_ge (tgt := 298) sD11_reads_34 (by decide) (fun zc34 => ?_) (fun zc34 => ?_)
                          ·
                            refine sd_aload_n sD11_reads_298 rfl ?_
                            refine sd_getfi sD11_reads_299 sF11_147 sGM15_12 ?_
                            rw [show m 5492 = (q139_37 : Int) from hS.2.2.1]
                            refine sd_aload_n sD11_reads_302 rfl ?_
                            refine sd_getfi sD11_reads_303 sF11_151 sGM15_11 ?_
                            rw [show m 5491 = (n : Int) from hS.2.1]
                            refine sd_icmp_ge (tgt := 313) sD11_reads_306 (by decide) (fun zc306 => ?_) (fun zc306 => ?_)
                            ·
                              refine sd_vreturn sD11_reads_313 rfl (fun hm => hQ _ _ ⟨rfl, hK6, ?_⟩)
                              exact Or.inr ⟨[(j45_1, j68_9, [t139_37])], by simp only [sd_txt, hcl]; rw [if_pos (by omega)], hS.2.2.2, Or.inl ⟨by omega, hg, hgb⟩⟩
                            ·
                              refine sd_aload_n sD11_reads_309 rfl ?_
                              refine sd_callV (as := []) (st := []) sD11_reads_310 sM11_167 rfl rfl sOM15 rfl (by decide) (Nat.le_of_ble_eq_true rfl) (cM_wrong1 fr n q139_37 _ m hx hS) (fun r m hq ho310 hm => ?_)
                              obtain ⟨rfl, hk310_42, hS⟩ := hq
                              replace hx := hk310_42.ns hx
                              replace hK6 := hK6.k2 hk310_42
                              replace hf : ∀ i, i < 4 → m (5504 + i) = f i := fun i hi => (hk310_42 _ (by omega) (by omega)).trans (hf i hi)
                              replace hg := (hk310_42 5510 (by decide) (by decide)).trans hg
                              replace hgb := (hk310_42 5511 (by decide) (by decide)).trans hgb
                              rcases (⟨trivial⟩ : Nonempty True) with hy310_42
                              ·
                                show sd_Wp sd_SM 4 sY11_reads 313 [some (.inr 15), some (.inl pl), some (.inl mn), some (.inl w), some (.inl 0), some (.inl ((c : Int) + 1)), some (.inl (sd_b ((0 + (j45_1 : Int)) = 1))), some (.inl (2 + (j68_9 : Int))), some (.inl (sd_b (sd_hl f t139_37))), some (.inl (6 + (j107_30 : Int))), some (.inl 0), some (.inl 1), some (.inl (sd_b (sd_hl f t139_37)))] [] m _
                                refine sd_vreturn sD11_reads_313 rfl (fun hm => hQ _ _ ⟨rfl, hK6, ?_⟩)
                                exact Or.inl ⟨q139_37, by simp only [sd_txt, hcl]; rw [if_neg (by omega)]; first | (rw [if_pos (by omega)]; done) | (rw [if_neg (by omega), if_neg (by assumption)]; done), hS.2.2.2⟩
                          ·
                            refine sd_iload sD11_reads_37 rfl ?_
                            refine sd_if_eq (tgt := 298) sD11_reads_39 (by decide) (fun zc39 => ?_) (fun zc39 => (by exfalso; omega))
                            refine sd_aload_n sD11_reads_298 rfl ?_
                            refine sd_getfi sD11_reads_299 sF11_147 sGM15_12 ?_
                            rw [show m 5492 = (q139_37 : Int) from hS.2.2.1]
                            refine sd_aload_n sD11_reads_302 rfl ?_
                            refine sd_getfi sD11_reads_303 sF11_151 sGM15_11 ?_
                            rw [show m 5491 = (n : Int) from hS.2.1]
                            refine sd_icmp_ge (tgt := 313) sD11_reads_306 (by decide) (fun zc306 => ?_) (fun zc306 => ?_)
                            ·
                              refine sd_vreturn sD11_reads_313 rfl (fun hm => hQ _ _ ⟨rfl, hK6, ?_⟩)
                              exact Or.inr ⟨[(j45_1, j68_9, [t139_37])], by simp only [sd_txt, hcl]; rw [if_pos (by omega)], hS.2.2.2, Or.inl ⟨by omega, hg, hgb⟩⟩
                            ·
                              refine sd_aload_n sD11_reads_309 rfl ?_
                              refine sd_callV (as := []) (st := []) sD11_reads_310 sM11_167 rfl rfl sOM15 rfl (by decide) (Nat.le_of_ble_eq_true rfl) (cM_wrong1 fr n q139_37 _ m hx hS) (fun r m hq ho310 hm => ?_)
                              obtain ⟨rfl, hk310_43, hS⟩ := hq
                              replace hx := hk310_43.ns hx
                              replace hK6 := hK6.k2 hk310_43
                              replace hf : ∀ i, i < 4 → m (5504 + i) = f i := fun i hi => (hk310_43 _ (by omega) (by omega)).trans (hf i hi)
                              replace hg := (hk310_43 5510 (by decide) (by decide)).trans hg
                              replace hgb := (hk310_43 5511 (by decide) (by decide)).trans hgb
                              rcases (⟨trivial⟩ : Nonempty True) with hy310_43
                              ·
                                show sd_Wp sd_SM 4 sY11_reads 313 [some (.inr 15), some (.inl pl), some (.inl mn), some (.inl w), some (.inl 0), some (.inl ((c : Int) + 1)), some (.inl (sd_b ((0 + (j45_1 : Int)) = 1))), some (.inl (2 + (j68_9 : Int))), some (.inl (sd_b (sd_hl f t139_37))), some (.inl (6 + (j107_30 : Int))), some (.inl 0), some (.inl 1), some (.inl (sd_b (sd_hl f t139_37)))] [] m _
                                refine sd_vreturn sD11_reads_313 rfl (fun hm => hQ _ _ ⟨rfl, hK6, ?_⟩)
                                exact Or.inl ⟨q139_37, by simp only [sd_txt, hcl]; rw [if_neg (by omega)]; first | (rw [if_pos (by omega)]; done) | (rw [if_neg (by omega), if_neg (by assumption)]; done), hS.2.2.2⟩
                        ·
                          refine sd_aload_n sD11_reads_250 rfl ?_
                          refine sd_callVp (as := []) (st := []) (v := .inl 1) sD11_reads_251 sM11_160 sOM15 rfl rfl rfl (by decide) (Nat.le_of_ble_eq_true rfl) (cM_isGood1 fr n q139_37 _ m hx hS) (fun ho251 => ?_)
                          refine sd_if_eq (tgt := 270) sD11_reads_254 (by decide) (fun zc254 => (by exfalso; omega)) (fun zc254 => ?_)
                          refine sd_aload_n sD11_reads_257 rfl ?_
                          refine sd_callVp (as := []) (st := []) (v := .inl (B q139_37)) sD11_reads_258 sM11_164 sOM15 rfl rfl rfl (by decide) (Nat.le_of_ble_eq_true rfl) (cM_byteAt _ fr B n q139_37 _ m hx hB hS) (fun ho258 => ?_)
                          refine sd_bipush sD11_reads_261 rfl (by decide) ?_
                          refine sd_icmp_ne (tgt := 270) sD11_reads_263 (by decide) (fun zc263 => ?_) (fun zc263 => ?_)
                          ·
                            refine sd_iconst sD11_reads_270 (by decide) ?_
                            refine sd_istore (ls' := [some (.inr 15), some (.inl pl), some (.inl mn), some (.inl w), some (.inl 0), some (.inl (c : Int)), some (.inl (sd_b ((0 + (j45_1 : Int)) = 1))), some (.inl (2 + (j68_9 : Int))), some (.inl (sd_b (sd_hl f t139_37))), some (.inl (6 + (j107_30 : Int))), some (.inl 0), some (.inl 1), some (.inl (sd_b (sd_hl f t139_37)))]) sD11_reads_271 (by decide) rfl ?_
                            refine sd_aload_n sD11_reads_273 rfl ?_
                            refine sd_dup sD11_reads_274 ?_
                            refine sd_getfi sD11_reads_275 sF11_147 sGM15_12 ?_
                            rw [show m 5492 = (q139_37 : Int) from hS.2.2.1]
                            refine sd_iload sD11_reads_278 rfl ?_
                            refine sd_if_eq (tgt := 287) sD11_reads_280 (by decide) (fun zc280 => ?_) (fun zc280 => (by exfalso; omega))
                            refine sd_iconst sD11_reads_287 (by decide) ?_
                            refine sd_iadd (z := (q139_37 : Int)) sD11_reads_288 (by omega) (by omega) ?_
                            refine sd_putfc sd_sokM sd_oneM hx sD11_reads_289 sF11_147 sGM15_12 (by decide) (Or.inl rfl) (fun m hx em289 => ?_)
                            have hk289x := sd_k2.up em289 (Or.inl rfl)
                            replace hK6 := hK6.k2 hk289x
                            replace hf : ∀ i, i < 4 → m (5504 + i) = f i := fun i hi => (hk289x _ (by omega) (by omega)).trans (hf i hi)
                            replace hg := (hk289x 5510 (by decide) (by decide)).trans hg
                            replace hgb := (hk289x 5511 (by decide) (by decide)).trans hgb
                            replace hS : sd_RS m fr n q139_37 (-1) := ⟨by rw [em289, sd_up_ne (by decide)]; exact hS.1, by rw [em289, sd_up_ne (by decide)]; exact hS.2.1, by rw [em289, sd_up_eq]; (try omega), by rw [em289, sd_up_ne (by decide)]; exact hS.2.2.2⟩
                            refine sd_iinc (y := ((c : Int) + 1)) (ls' := [some (.inr 15), some (.inl pl), some (.inl mn), some (.inl w), some (.inl 0), some (.inl ((c : Int) + 1)), some (.inl (sd_b ((0 + (j45_1 : Int)) = 1))), some (.inl (2 + (j68_9 : Int))), some (.inl (sd_b (sd_hl f t139_37))), some (.inl (6 + (j107_30 : Int))), some (.inl 0), some (.inl 1), some (.inl (sd_b (sd_hl f t139_37)))]) sD11_reads_292 rfl (by omega) (by omega) (by decide) rfl ?_
                            refine sd_goto (tgt := 31) sD11_reads_295 (by decide) ?_
                            refine sd_iload sD11_reads_31 rfl ?_
                            refine sd_iconst sD11_reads_33 (by decide) ?_
                            refine sd_icmp_ge (tgt := 298) sD11_reads_34 (by decide) (fun zc34 => ?_) (fun zc34 => ?_)
                            ·
                              refine sd_aload_n sD11_reads_298 rfl ?_
                              refine sd_getfi sD11_reads_299 sF11_147 sGM15_12 ?_
                              rw [show m 5492 = (q139_37 : Int) from hS.2.2.1]
                              refine sd_aload_n sD11_reads_302 rfl ?_
                              refine sd_getfi sD11_reads_303 sF11_151 sGM15_11 ?_
                              rw [show m 5491 = (n : Int) from hS.2.1]
                              refine sd_icmp_ge (tgt := 313) sD11_reads_306 (by decide) (fun zc306 => ?_) (fun zc306 => ?_)
                              ·
                                refine sd_vreturn sD11_reads_313 rfl (fun hm => hQ _ _ ⟨rfl, hK6, ?_⟩)
                                exact Or.inr ⟨[(j45_1, j68_9, [t139_37])], by simp only [sd_txt, hcl]; rw [if_pos (by omega)], hS.2.2.2, Or.inl ⟨by omega, hg, hgb⟩⟩
                              ·
                                refine sd_aload_n sD11_reads_309 rfl ?_
                                refine sd_callV (as := []) (st := []) sD11_reads_310 sM11_167 rfl rfl sOM15 rfl (by decide) (Nat.le_of_ble_eq_true rfl) (cM_wrong1 fr n q139_37 _ m hx hS) (fun r m hq ho310 hm => ?_)
                                obtain ⟨rfl, hk310_44, hS⟩ := hq
                                replace hx := hk310_44.ns hx
                                replace hK6 := hK6.k2 hk310_44
                                replace hf : ∀ i, i < 4 → m (5504 + i) = f i := fun i hi => (hk310_44 _ (by omega) (by omega)).trans (hf i hi)
                                replace hg := (hk310_44 5510 (by decide) (by decide)).trans hg
                                replace hgb := (hk310_44 5511 (by decide) (by decide)).trans hgb
                                rcases (⟨trivial⟩ : Nonempty True) with hy310_44
                                ·
                                  show sd_Wp sd_SM 4 sY11_reads 313 [some (.inr 15), some (.inl pl), some (.inl mn), some (.inl w), some (.inl 0), some (.inl ((c : Int) + 1)), some (.inl (sd_b ((0 + (j45_1 : Int)) = 1))), some (.inl (2 + (j68_9 : Int))), some (.inl (sd_b (sd_hl f t139_37))), some (.inl (6 + (j107_30 : Int))), some (.inl 0), some (.inl 1), some (.inl (sd_b (sd_hl f t139_37)))] [] m _
                                  refine sd_vreturn sD11_reads_313 rfl (fun hm => hQ _ _ ⟨rfl, hK6, ?_⟩)
                                  exact Or.inl ⟨q139_37, by simp only [sd_txt, hcl]; rw [if_neg (by omega)]; first | (rw [if_pos (by omega)]; done) | (rw [if_neg (by omega), if_neg (by assumption)]; done), hS.2.2.2⟩
                            ·
                              refine sd_iload sD11_reads_37 rfl ?_
                              refine sd_if_eq (tgt := 298) sD11_reads_39 (by decide) (fun zc39 => ?_) (fun zc39 => (by exfalso; omega))
                              refine sd_aload_n sD11_reads_298 rfl ?_
                              refine sd_getfi sD11_reads_299 sF11_147 sGM15_12 ?_
                              rw [show m 5492 = (q139_37 : Int) from hS.2.2.1]
                              refine sd_aload_n sD11_reads_302 rfl ?_
                              refine sd_getfi sD11_reads_303 sF11_151 sGM15_11 ?_
                              rw [show m 5491 = (n : Int) from hS.2.1]
                              refine sd_icmp_ge (tgt := 313) sD11_reads_306 (by decide) (fun zc306 => ?_) (fun zc306 => ?_)
                              ·
                                refine sd_vreturn sD11_reads_313 rfl (fun hm => hQ _ _ ⟨rfl, hK6, ?_⟩)
                                exact Or.inr ⟨[(j45_1, j68_9, [t139_37])], by simp only [sd_txt, hcl]; rw [if_pos (by omega)], hS.2.2.2, Or.inl ⟨by omega, hg, hgb⟩⟩
                              ·
                                refine sd_aload_n sD11_reads_309 rfl ?_
                                refine sd_callV (as := []) (st := []) sD11_reads_310 sM11_167 rfl rfl sOM15 rfl (by decide) (Nat.le_of_ble_eq_true rfl) (cM_wrong1 fr n q139_37 _ m hx hS) (fun r m hq ho310 hm => ?_)
                                obtain ⟨rfl, hk310_45, hS⟩ := hq
                                replace hx := hk310_45.ns hx
                                replace hK6 := hK6.k2 hk310_45
                                replace hf : ∀ i, i < 4 → m (5504 + i) = f i := fun i hi => (hk310_45 _ (by omega) (by omega)).trans (hf i hi)
                                replace hg := (hk310_45 5510 (by decide) (by decide)).trans hg
                                replace hgb := (hk310_45 5511 (by decide) (by decide)).trans hgb
                                rcases (⟨trivial⟩ : Nonempty True) with hy310_45
                                ·
                                  show sd_Wp sd_SM 4 sY11_reads 313 [some (.inr 15), some (.inl pl), some (.inl mn), some (.inl w), some (.inl 0), some (.inl ((c : Int) + 1)), some (.inl (sd_b ((0 + (j45_1 : Int)) = 1))), some (.inl (2 + (j68_9 : Int))), some (.inl (sd_b (sd_hl f t139_37))), some (.inl (6 + (j107_30 : Int))), some (.inl 0), some (.inl 1), some (.inl (sd_b (sd_hl f t139_37)))] [] m _
                                  refine sd_vreturn sD11_reads_313 rfl (fun hm => hQ _ _ ⟨rfl, hK6, ?_⟩)
                                  exact Or.inl ⟨q139_37, by simp only [sd_txt, hcl]; rw [if_neg (by omega)]; first | (rw [if_pos (by omega)]; done) | (rw [if_neg (by omega), if_neg (by assumption)]; done), hS.2.2.2⟩
                          ·
                            have hsm : B q139_37 = 59 := by assumption
                            have hin3 := hB.in (p := q139_37) (by omega)
                            have hn1 := hB.1
                            refine sd_iconst sD11_reads_266 (by decide) ?_
                            refine sd_goto (tgt := 271) sD11_reads_267 (by decide) ?_
                            refine sd_istore (ls' := [some (.inr 15), some (.inl pl), some (.inl mn), some (.inl w), some (.inl 1), some (.inl (c : Int)), some (.inl (sd_b ((0 + (j45_1 : Int)) = 1))), some (.inl (2 + (j68_9 : Int))), some (.inl (sd_b (sd_hl f t139_37))), some (.inl (6 + (j107_30 : Int))), some (.inl 0), some (.inl 1), some (.inl (sd_b (sd_hl f t139_37)))]) sD11_reads_271 (by decide) rfl ?_
                            refine sd_aload_n sD11_reads_273 rfl ?_
                            refine sd_dup sD11_reads_274 ?_
                            refine sd_getfi sD11_reads_275 sF11_147 sGM15_12 ?_
                            rw [show m 5492 = (q139_37 : Int) from hS.2.2.1]
                            refine sd_iload sD11_reads_278 rfl ?_
                            refine sd_if_eq (tgt := 287) sD11_reads_280 (by decide) (fun zc280 => (by exfalso; omega)) (fun zc280 => ?_)
                            refine sd_iconst sD11_reads_283 (by decide) ?_
                            refine sd_goto (tgt := 288) sD11_reads_284 (by decide) ?_
                            refine sd_iadd (z := ((q139_37 : Int) + 1)) sD11_reads_288 (by omega) (by omega) ?_
                            refine sd_putfc sd_sokM sd_oneM hx sD11_reads_289 sF11_147 sGM15_12 (by decide) (Or.inl rfl) (fun m hx em289 => ?_)
                            have hk289x := sd_k2.up em289 (Or.inl rfl)
                            replace hK6 := hK6.k2 hk289x
                            replace hf : ∀ i, i < 4 → m (5504 + i) = f i := fun i hi => (hk289x _ (by omega) (by omega)).trans (hf i hi)
                            replace hg := (hk289x 5510 (by decide) (by decide)).trans hg
                            replace hgb := (hk289x 5511 (by decide) (by decide)).trans hgb
                            replace hS : sd_RS m fr n (q139_37 + 1) (-1) := ⟨by rw [em289, sd_up_ne (by decide)]; exact hS.1, by rw [em289, sd_up_ne (by decide)]; exact hS.2.1, by rw [em289, sd_up_eq]; (try omega), by rw [em289, sd_up_ne (by decide)]; exact hS.2.2.2⟩
                            refine sd_iinc (y := ((c : Int) + 1)) (ls' := [some (.inr 15), some (.inl pl), some (.inl mn), some (.inl w), some (.inl 1), some (.inl ((c : Int) + 1)), some (.inl (sd_b ((0 + (j45_1 : Int)) = 1))), some (.inl (2 + (j68_9 : Int))), some (.inl (sd_b (sd_hl f t139_37))), some (.inl (6 + (j107_30 : Int))), some (.inl 0), some (.inl 1), some (.inl (sd_b (sd_hl f t139_37)))]) sD11_reads_292 rfl (by omega) (by omega) (by decide) rfl ?_
                            refine sd_goto (tgt := 31) sD11_reads_295 (by decide) ?_
                            refine sd_less (ls' := [some (.inr 15), some (.inl pl), some (.inl mn), some (.inl w), some (.inl 1), some (.inl ((c : Int) + 1)), none, none, none, none, none, none, none]) ?_ rfl (by intro zi zv zh; rcases zi with _ | _ | _ | _ | _ | _ | _ | _ | _ | _ | _ | _ | _ | zi <;> first | exact zh | cases zh)
                            refine sd_eqw (ls' := [some (.inr 15), some (.inl pl), some (.inl mn), some (.inl w), some (.inl 1), some (.inl ((c + 1 : Nat) : Int)), none, none, none, none, none, none, none]) ?_ (sd_cg rfl (sd_cg rfl (sd_cg rfl (sd_cg rfl (sd_cg rfl (sd_cg (sd_ce (by omega)) rfl)))))) rfl
                            exact ih (by omega) g b m (q139_37 + 1) hx hS (by omega) hK6 hf hg hgb (by omega) (fun r m2 hq => hQ r m2 (sd_rd_A hcl (by omega) (by omega) hsm (by omega) hq))
                      ·
                        refine sd_iload sD11_reads_244 rfl ?_
                        refine sd_iconst sD11_reads_246 (by decide) ?_
                        refine sd_icmp_ge (tgt := 270) sD11_reads_247 (by decide) (fun zc247 => ?_) (fun zc247 => ?_)
                        ·
                          refine sd_iconst sD11_reads_270 (by decide) ?_
                          refine sd_istore (ls' := [some (.inr 15), some (.inl pl), some (.inl mn), some (.inl w), some (.inl 0), some (.inl (c : Int)), some (.inl (sd_b ((0 + (j45_1 : Int)) = 1))), some (.inl (2 + (j68_9 : Int))), some (.inl (sd_b (sd_hl f t139_37))), some (.inl (6 + (j107_30 : Int))), some (.inl 0), some (.inl 1), some (.inl (sd_b (sd_hl f t139_37)))]) sD11_reads_271 (by decide) rfl ?_
                          refine sd_aload_n sD11_reads_273 rfl ?_
                          refine sd_dup sD11_reads_274 ?_
                          refine sd_getfi sD11_reads_275 sF11_147 sGM15_12 ?_
                          rw [show m 5492 = (q139_37 : Int) from hS.2.2.1]
                          refine sd_iload sD11_reads_278 rfl ?_
                          refine sd_if_eq (tgt := 287) sD11_reads_280 (by decide) (fun zc280 => ?_) (fun zc280 => (by exfalso; omega))
                          refine sd_iconst sD11_reads_287 (by decide) ?_
                          refine sd_iadd (z := (q139_37 : Int)) sD11_reads_288 (by omega) (by omega) ?_
                          refine sd_putfc sd_sokM sd_oneM hx sD11_reads_289 sF11_147 sGM15_12 (by decide) (Or.inl rfl) (fun m hx em289 => ?_)
                          have hk289x := sd_k2.up em289 (Or.inl rfl)
                          replace hK6 := hK6.k2 hk289x
                          replace hf : ∀ i, i < 4 → m (5504 + i) = f i := fun i hi => (hk289x _ (by omega) (by omega)).trans (hf i hi)
                          replace hg := (hk289x 5510 (by decide) (by decide)).trans hg
                          replace hgb := (hk289x 5511 (by decide) (by decide)).trans hgb
                          replace hS : sd_RS m fr n q139_37 (-1) := ⟨by rw [em289, sd_up_ne (by decide)]; exact hS.1, by rw [em289, sd_up_ne (by decide)]; exact hS.2.1, by rw [em289, sd_up_eq]; (try omega), by rw [em289, sd_up_ne (by decide)]; exact hS.2.2.2⟩
                          refine sd_iinc (y := ((c : Int) + 1)) (ls' := [some (.inr 15), some (.inl pl), some (.inl mn), some (.inl w), some (.inl 0), some (.inl ((c : Int) + 1)), some (.inl (sd_b ((0 + (j45_1 : Int)) = 1))), some (.inl (2 + (j68_9 : Int))), some (.inl (sd_b (sd_hl f t139_37))), some (.inl (6 + (j107_30 : Int))), some (.inl 0), some (.inl 1), some (.inl (sd_b (sd_hl f t139_37)))]) sD11_reads_292 rfl (by omega) (by omega) (by decide) rfl ?_
                          refine sd_goto (tgt := 31) sD11_reads_295 (by decide) ?_
                          refine sd_iload sD11_reads_31 rfl ?_
                          refine sd_iconst sD11_reads_33 (by decide) ?_
                          refine sd_icmp_ge (tgt := 298) sD11_reads_34 (by decide) (fun zc34 => ?_) (fun zc34 => ?_)
                          ·
                            refine sd_aload_n sD11_reads_298 rfl ?_
                            refine sd_getfi sD11_reads_299 sF11_147 sGM15_12 ?_
                            rw [show m 5492 = (q139_37 : Int) from hS.2.2.1]
                            refine sd_aload_n sD11_reads_302 rfl ?_
                            refine sd_getfi sD11_reads_303 sF11_151 sGM15_11 ?_
                            rw [show m 5491 = (n : Int) from hS.2.1]
                            refine sd_icmp_ge (tgt := 313) sD11_reads_306 (by decide) (fun zc306 => ?_) (fun zc306 => ?_)
                            ·
                              refine sd_vreturn sD11_reads_313 rfl (fun hm => hQ _ _ ⟨rfl, hK6, ?_⟩)
                              exact Or.inr ⟨[(j45_1, j68_9, [t139_37])], by simp only [sd_txt, hcl]; rw [if_pos (by omega)], hS.2.2.2, Or.inr (Or.inl ⟨by omega, sd_fcl_n hmt, by rw [hg]; omega⟩)⟩
                            ·
                              refine sd_aload_n sD11_reads_309 rfl ?_
                              refine sd_callV (as := []) (st := []) sD11_reads_310 sM11_167 rfl rfl sOM15 rfl (by decide) (Nat.le_of_ble_eq_true rfl) (cM_wrong1 fr n q139_37 _ m hx hS) (fun r m hq ho310 hm => ?_)
                              obtain ⟨rfl, hk310_46, hS⟩ := hq
                              replace hx := hk310_46.ns hx
                              replace hK6 := hK6.k2 hk310_46
                              replace hf : ∀ i, i < 4 → m (5504 + i) = f i := fun i hi => (hk310_46 _ (by omega) (by omega)).trans (hf i hi)
                              replace hg := (hk310_46 5510 (by decide) (by decide)).trans hg
                              replace hgb := (hk310_46 5511 (by decide) (by decide)).trans hgb
                              rcases (⟨trivial⟩ : Nonempty True) with hy310_46
                              ·
                                show sd_Wp sd_SM 4 sY11_reads 313 [some (.inr 15), some (.inl pl), some (.inl mn), some (.inl w), some (.inl 0), some (.inl ((c : Int) + 1)), some (.inl (sd_b ((0 + (j45_1 : Int)) = 1))), some (.inl (2 + (j68_9 : Int))), some (.inl (sd_b (sd_hl f t139_37))), some (.inl (6 + (j107_30 : Int))), some (.inl 0), some (.inl 1), some (.inl (sd_b (sd_hl f t139_37)))] [] m _
                                refine sd_vreturn sD11_reads_313 rfl (fun hm => hQ _ _ ⟨rfl, hK6, ?_⟩)
                                exact Or.inl ⟨q139_37, by simp only [sd_txt, hcl]; rw [if_neg (by omega)]; first | (rw [if_pos (by omega)]; done) | (rw [if_neg (by omega), if_neg (by assumption)]; done), hS.2.2.2⟩
                          ·
                            refine sd_iload sD11_reads_37 rfl ?_
                            refine sd_if_eq (tgt := 298) sD11_reads_39 (by decide) (fun zc39 => ?_) (fun zc39 => (by exfalso; omega))
                            refine sd_aload_n sD11_reads_298 rfl ?_
                            refine sd_getfi sD11_reads_299 sF11_147 sGM15_12 ?_
                            rw [show m 5492 = (q139_37 : Int) from hS.2.2.1]
                            refine sd_aload_n sD11_reads_302 rfl ?_
                            refine sd_getfi sD11_reads_303 sF11_151 sGM15_11 ?_
                            rw [show m 5491 = (n : Int) from hS.2.1]
                            refine sd_icmp_ge (tgt := 313) sD11_reads_306 (by decide) (fun zc306 => ?_) (fun zc306 => ?_)
                            ·
                              refine sd_vreturn sD11_reads_313 rfl (fun hm => hQ _ _ ⟨rfl, hK6, ?_⟩)
                              exact Or.inr ⟨[(j45_1, j68_9, [t139_37])], by simp only [sd_txt, hcl]; rw [if_pos (by omega)], hS.2.2.2, Or.inr (Or.inl ⟨by omega, sd_fcl_n hmt, by rw [hg]; omega⟩)⟩
                            ·
                              refine sd_aload_n sD11_reads_309 rfl ?_
                              refine sd_callV (as := []) (st := []) sD11_reads_310 sM11_167 rfl rfl sOM15 rfl (by decide) (Nat.le_of_ble_eq_true rfl) (cM_wrong1 fr n q139_37 _ m hx hS) (fun r m hq ho310 hm => ?_)
                              obtain ⟨rfl, hk310_47, hS⟩ := hq
                              replace hx := hk310_47.ns hx
                              replace hK6 := hK6.k2 hk310_47
                              replace hf : ∀ i, i < 4 → m (5504 + i) = f i := fun i hi => (hk310_47 _ (by omega) (by omega)).trans (hf i hi)
                              replace hg := (hk310_47 5510 (by decide) (by decide)).trans hg
                              replace hgb := (hk310_47 5511 (by decide) (by decide)).trans hgb
                              rcases (⟨trivial⟩ : Nonempty True) with hy310_47
                              ·
                                show sd_Wp sd_SM 4 sY11_reads 313 [some (.inr 15), some (.inl pl), some (.inl mn), some (.inl w), some (.inl 0), some (.inl ((c : Int) + 1)), some (.inl (sd_b ((0 + (j45_1 : Int)) = 1))), some (.inl (2 + (j68_9 : Int))), some (.inl (sd_b (sd_hl f t139_37))), some (.inl (6 + (j107_30 : Int))), some (.inl 0), some (.inl 1), some (.inl (sd_b (sd_hl f t139_37)))] [] m _
                                refine sd_vreturn sD11_reads_313 rfl (fun hm => hQ _ _ ⟨rfl, hK6, ?_⟩)
                                exact Or.inl ⟨q139_37, by simp only [sd_txt, hcl]; rw [if_neg (by omega)]; first | (rw [if_pos (by omega)]; done) | (rw [if_neg (by omega), if_neg (by assumption)]; done), hS.2.2.2⟩
                        ·
                          refine sd_aload_n sD11_reads_250 rfl ?_
                          refine sd_callVp (as := []) (st := []) (v := .inl 1) sD11_reads_251 sM11_160 sOM15 rfl rfl rfl (by decide) (Nat.le_of_ble_eq_true rfl) (cM_isGood1 fr n q139_37 _ m hx hS) (fun ho251 => ?_)
                          refine sd_if_eq (tgt := 270) sD11_reads_254 (by decide) (fun zc254 => (by exfalso; omega)) (fun zc254 => ?_)
                          refine sd_aload_n sD11_reads_257 rfl ?_
                          refine sd_callVp (as := []) (st := []) (v := .inl (B q139_37)) sD11_reads_258 sM11_164 sOM15 rfl rfl rfl (by decide) (Nat.le_of_ble_eq_true rfl) (cM_byteAt _ fr B n q139_37 _ m hx hB hS) (fun ho258 => ?_)
                          refine sd_bipush sD11_reads_261 rfl (by decide) ?_
                          refine sd_icmp_ne (tgt := 270) sD11_reads_263 (by decide) (fun zc263 => ?_) (fun zc263 => ?_)
                          ·
                            refine sd_iconst sD11_reads_270 (by decide) ?_
                            refine sd_istore (ls' := [some (.inr 15), some (.inl pl), some (.inl mn), some (.inl w), some (.inl 0), some (.inl (c : Int)), some (.inl (sd_b ((0 + (j45_1 : Int)) = 1))), some (.inl (2 + (j68_9 : Int))), some (.inl (sd_b (sd_hl f t139_37))), some (.inl (6 + (j107_30 : Int))), some (.inl 0), some (.inl 1), some (.inl (sd_b (sd_hl f t139_37)))]) sD11_reads_271 (by decide) rfl ?_
                            refine sd_aload_n sD11_reads_273 rfl ?_
                            refine sd_dup sD11_reads_274 ?_
                            refine sd_getfi sD11_reads_275 sF11_147 sGM15_12 ?_
                            rw [show m 5492 = (q139_37 : Int) from hS.2.2.1]
                            refine sd_iload sD11_reads_278 rfl ?_
                            refine sd_if_eq (tgt := 287) sD11_reads_280 (by decide) (fun zc280 => ?_) (fun zc280 => (by exfalso; omega))
                            refine sd_iconst sD11_reads_287 (by decide) ?_
                            refine sd_iadd (z := (q139_37 : Int)) sD11_reads_288 (by omega) (by omega) ?_
                            refine sd_putfc sd_sokM sd_oneM hx sD11_reads_289 sF11_147 sGM15_12 (by decide) (Or.inl rfl) (fun m hx em289 => ?_)
                            have hk289x := sd_k2.up em289 (Or.inl rfl)
                            replace hK6 := hK6.k2 hk289x
                            replace hf : ∀ i, i < 4 → m (5504 + i) = f i := fun i hi => (hk289x _ (by omega) (by omega)).trans (hf i hi)
                            replace hg := (hk289x 5510 (by decide) (by decide)).trans hg
                            replace hgb := (hk289x 5511 (by decide) (by decide)).trans hgb
                            replace hS : sd_RS m fr n q139_37 (-1) := ⟨by rw [em289, sd_up_ne (by decide)]; exact hS.1, by rw [em289, sd_up_ne (by decide)]; exact hS.2.1, by rw [em289, sd_up_eq]; (try omega), by rw [em289, sd_up_ne (by decide)]; exact hS.2.2.2⟩
                            refine sd_iinc (y := ((c : Int) + 1)) (ls' := [some (.inr 15), some (.inl pl), some (.inl mn), some (.inl w), some (.inl 0), some (.inl ((c : Int) + 1)), some (.inl (sd_b ((0 + (j45_1 : Int)) = 1))), some (.inl (2 + (j68_9 : Int))), some (.inl (sd_b (sd_hl f t139_37))), some (.inl (6 + (j107_30 : Int))), some (.inl 0), some (.inl 1), some (.inl (sd_b (sd_hl f t139_37)))]) sD11_reads_292 rfl (by omega) (by omega) (by decide) rfl ?_
                            refine sd_goto (tgt := 31) sD11_reads_295 (by decide) ?_
                            refine sd_iload sD11_reads_31 rfl ?_
                            refine sd_iconst sD11_reads_33 (by decide) ?_
                            refine sd_icmp_ge (tgt := 298) sD11_reads_34 (by decide) (fun zc34 => ?_) (fun zc34 => ?_)
                            ·
                              refine sd_aload_n sD11_reads_298 rfl ?_
                              refine sd_getfi sD11_reads_299 sF11_147 sGM15_12 ?_
                              rw [show m 5492 = (q139_37 : Int) from hS.2.2.1]
                              refine sd_aload_n sD11_reads_302 rfl ?_
                              refine sd_getfi sD11_reads_303 sF11_151 sGM15_11 ?_
                              rw [show m 5491 = (n : Int) from hS.2.1]
                              refine sd_icmp_ge (tgt := 313) sD11_reads_306 (by decide) (fun zc306 => ?_) (fun zc306 => ?_)
                              ·
                                refine sd_vreturn sD11_reads_313 rfl (fun hm => hQ _ _ ⟨rfl, hK6, ?_⟩)
                                exact Or.inr ⟨[(j45_1, j68_9, [t139_37])], by simp only [sd_txt, hcl]; rw [if_pos (by omega)], hS.2.2.2, Or.inr (Or.inl ⟨by omega, sd_fcl_n hmt, by rw [hg]; omega⟩)⟩
                              ·
                                refine sd_aload_n sD11_reads_309 rfl ?_
                                refine sd_callV (as := []) (st := []) sD11_reads_310 sM11_167 rfl rfl sOM15 rfl (by decide) (Nat.le_of_ble_eq_true rfl) (cM_wrong1 fr n q139_37 _ m hx hS) (fun r m hq ho310 hm => ?_)
                                obtain ⟨rfl, hk310_48, hS⟩ := hq
                                replace hx := hk310_48.ns hx
                                replace hK6 := hK6.k2 hk310_48
                                replace hf : ∀ i, i < 4 → m (5504 + i) = f i := fun i hi => (hk310_48 _ (by omega) (by omega)).trans (hf i hi)
                                replace hg := (hk310_48 5510 (by decide) (by decide)).trans hg
                                replace hgb := (hk310_48 5511 (by decide) (by decide)).trans hgb
                                rcases (⟨trivial⟩ : Nonempty True) with hy310_48
                                ·
                                  show sd_Wp sd_SM 4 sY11_reads 313 [some (.inr 15), some (.inl pl), some (.inl mn), some (.inl w), some (.inl 0), some (.inl ((c : Int) + 1)), some (.inl (sd_b ((0 + (j45_1 : Int)) = 1))), some (.inl (2 + (j68_9 : Int))), some (.inl (sd_b (sd_hl f t139_37))), some (.inl (6 + (j107_30 : Int))), some (.inl 0), some (.inl 1), some (.inl (sd_b (sd_hl f t139_37)))] [] m _
                                  refine sd_vreturn sD11_reads_313 rfl (fun hm => hQ _ _ ⟨rfl, hK6, ?_⟩)
                                  exact Or.inl ⟨q139_37, by simp only [sd_txt, hcl]; rw [if_neg (by omega)]; first | (rw [if_pos (by omega)]; done) | (rw [if_neg (by omega), if_neg (by assumption)]; done), hS.2.2.2⟩
                            ·
                              refine sd_iload sD11_reads_37 rfl ?_
                              refine sd_if_eq (tgt := 298) sD11_reads_39 (by decide) (fun zc39 => ?_) (fun zc39 => (by exfalso; omega))
                              refine sd_aload_n sD11_reads_298 rfl ?_
                              refine sd_getfi sD11_reads_299 sF11_147 sGM15_12 ?_
                              rw [show m 5492 = (q139_37 : Int) from hS.2.2.1]
                              refine sd_aload_n sD11_reads_302 rfl ?_
                              refine sd_getfi sD11_reads_303 sF11_151 sGM15_11 ?_
                              rw [show m 5491 = (n : Int) from hS.2.1]
                              refine sd_icmp_ge (tgt := 313) sD11_reads_306 (by decide) (fun zc306 => ?_) (fun zc306 => ?_)
                              ·
                                refine sd_vreturn sD11_reads_313 rfl (fun hm => hQ _ _ ⟨rfl, hK6, ?_⟩)
                                exact Or.inr ⟨[(j45_1, j68_9, [t139_37])], by simp only [sd_txt, hcl]; rw [if_pos (by omega)], hS.2.2.2, Or.inr (Or.inl ⟨by omega, sd_fcl_n hmt, by rw [hg]; omega⟩)⟩
                              ·
                                refine sd_aload_n sD11_reads_309 rfl ?_
                                refine sd_callV (as := []) (st := []) sD11_reads_310 sM11_167 rfl rfl sOM15 rfl (by decide) (Nat.le_of_ble_eq_true rfl) (cM_wrong1 fr n q139_37 _ m hx hS) (fun r m hq ho310 hm => ?_)
                                obtain ⟨rfl, hk310_49, hS⟩ := hq
                                replace hx := hk310_49.ns hx
                                replace hK6 := hK6.k2 hk310_49
                                replace hf : ∀ i, i < 4 → m (5504 + i) = f i := fun i hi => (hk310_49 _ (by omega) (by omega)).trans (hf i hi)
                                replace hg := (hk310_49 5510 (by decide) (by decide)).trans hg
                                replace hgb := (hk310_49 5511 (by decide) (by decide)).trans hgb
                                rcases (⟨trivial⟩ : Nonempty True) with hy310_49
                                ·
                                  show sd_Wp sd_SM 4 sY11_reads 313 [some (.inr 15), some (.inl pl), some (.inl mn), some (.inl w), some (.inl 0), some (.inl ((c : Int) + 1)), some (.inl (sd_b ((0 + (j45_1 : Int)) = 1))), some (.inl (2 + (j68_9 : Int))), some (.inl (sd_b (sd_hl f t139_37))), some (.inl (6 + (j107_30 : Int))), some (.inl 0), some (.inl 1), some (.inl (sd_b (sd_hl f t139_37)))] [] m _
                                  refine sd_vreturn sD11_reads_313 rfl (fun hm => hQ _ _ ⟨rfl, hK6, ?_⟩)
                                  exact Or.inl ⟨q139_37, by simp only [sd_txt, hcl]; rw [if_neg (by omega)]; first | (rw [if_pos (by omega)]; done) | (rw [if_neg (by omega), if_neg (by assumption)]; done), hS.2.2.2⟩
                          ·
                            have hsm : B q139_37 = 59 := by assumption
                            have hin3 := hB.in (p := q139_37) (by omega)
                            have hn1 := hB.1
                            refine sd_iconst sD11_reads_266 (by decide) ?_
                            refine sd_goto (tgt := 271) sD11_reads_267 (by decide) ?_
                            refine sd_istore (ls' := [some (.inr 15), some (.inl pl), some (.inl mn), some (.inl w), some (.inl 1), some (.inl (c : Int)), some (.inl (sd_b ((0 + (j45_1 : Int)) = 1))), some (.inl (2 + (j68_9 : Int))), some (.inl (sd_b (sd_hl f t139_37))), some (.inl (6 + (j107_30 : Int))), some (.inl 0), some (.inl 1), some (.inl (sd_b (sd_hl f t139_37)))]) sD11_reads_271 (by decide) rfl ?_
                            refine sd_aload_n sD11_reads_273 rfl ?_
                            refine sd_dup sD11_reads_274 ?_
                            refine sd_getfi sD11_reads_275 sF11_147 sGM15_12 ?_
                            rw [show m 5492 = (q139_37 : Int) from hS.2.2.1]
                            refine sd_iload sD11_reads_278 rfl ?_
                            refine sd_if_eq (tgt := 287) sD11_reads_280 (by decide) (fun zc280 => (by exfalso; omega)) (fun zc280 => ?_)
                            refine sd_iconst sD11_reads_283 (by decide) ?_
                            refine sd_goto (tgt := 288) sD11_reads_284 (by decide) ?_
                            refine sd_iadd (z := ((q139_37 : Int) + 1)) sD11_reads_288 (by omega) (by omega) ?_
                            refine sd_putfc sd_sokM sd_oneM hx sD11_reads_289 sF11_147 sGM15_12 (by decide) (Or.inl rfl) (fun m hx em289 => ?_)
                            have hk289x := sd_k2.up em289 (Or.inl rfl)
                            replace hK6 := hK6.k2 hk289x
                            replace hf : ∀ i, i < 4 → m (5504 + i) = f i := fun i hi => (hk289x _ (by omega) (by omega)).trans (hf i hi)
                            replace hg := (hk289x 5510 (by decide) (by decide)).trans hg
                            replace hgb := (hk289x 5511 (by decide) (by decide)).trans hgb
                            replace hS : sd_RS m fr n (q139_37 + 1) (-1) := ⟨by rw [em289, sd_up_ne (by decide)]; exact hS.1, by rw [em289, sd_up_ne (by decide)]; exact hS.2.1, by rw [em289, sd_up_eq]; (try omega), by rw [em289, sd_up_ne (by decide)]; exact hS.2.2.2⟩
                            refine sd_iinc (y := ((c : Int) + 1)) (ls' := [some (.inr 15), some (.inl pl), some (.inl mn), some (.inl w), some (.inl 1), some (.inl ((c : Int) + 1)), some (.inl (sd_b ((0 + (j45_1 : Int)) = 1))), some (.inl (2 + (j68_9 : Int))), some (.inl (sd_b (sd_hl f t139_37))), some (.inl (6 + (j107_30 : Int))), some (.inl 0), some (.inl 1), some (.inl (sd_b (sd_hl f t139_37)))]) sD11_reads_292 rfl (by omega) (by omega) (by decide) rfl ?_
                            refine sd_goto (tgt := 31) sD11_reads_295 (by decide) ?_
                            refine sd_less (ls' := [some (.inr 15), some (.inl pl), some (.inl mn), some (.inl w), some (.inl 1), some (.inl ((c : Int) + 1)), none, none, none, none, none, none, none]) ?_ rfl (by intro zi zv zh; rcases zi with _ | _ | _ | _ | _ | _ | _ | _ | _ | _ | _ | _ | _ | zi <;> first | exact zh | cases zh)
                            refine sd_eqw (ls' := [some (.inr 15), some (.inl pl), some (.inl mn), some (.inl w), some (.inl 1), some (.inl ((c + 1 : Nat) : Int)), none, none, none, none, none, none, none]) ?_ (sd_cg rfl (sd_cg rfl (sd_cg rfl (sd_cg rfl (sd_cg rfl (sd_cg (sd_ce (by omega)) rfl)))))) rfl
                            exact ih (by omega) g b m (q139_37 + 1) hx hS (by omega) hK6 hf hg hgb (by omega) (fun r m2 hq => hQ r m2 (sd_rd_C hcl (by omega) (by omega) hsm (by omega) hmt hq))
                    ·
                      refine sd_iload sD11_reads_217 rfl ?_
                      refine sd_iconst sD11_reads_219 (by decide) ?_
                      refine sd_isub (z := (j68_9 : Int)) sD11_reads_220 (by omega) (by omega) ?_
                      refine sd_iload_n sD11_reads_221 rfl ?_
                      refine sd_icmp_ne (tgt := 244) sD11_reads_222 (by decide) (fun zc222 => ?_) (fun zc222 => ?_)
                      ·
                        have hmt : ¬ sd_mt f w (j45_1, j68_9, [t139_37]) := fun qm => by have qm1 : (j68_9 : Int) = w := qm.1; have qm2 := qm.2; omega
                        rcases (show ¬ g = -1 ∨ g = -1 by omega) with hgc | hgc
                        ·
                          refine sd_iload sD11_reads_244 rfl ?_
                          refine sd_iconst sD11_reads_246 (by decide) ?_
                          refine sd_icmp_ge (tgt := 270) sD11_reads_247 (by decide) (fun zc247 => ?_) (fun zc247 => ?_)
                          ·
                            refine sd_iconst sD11_reads_270 (by decide) ?_
                            refine sd_istore (ls' := [some (.inr 15), some (.inl pl), some (.inl mn), some (.inl w), some (.inl 0), some (.inl (c : Int)), some (.inl (sd_b ((0 + (j45_1 : Int)) = 1))), some (.inl (2 + (j68_9 : Int))), some (.inl (sd_b (sd_hl f t139_37))), some (.inl (6 + (j107_30 : Int))), some (.inl 0), some (.inl 1), some (.inl (sd_b (sd_hl f t139_37)))]) sD11_reads_271 (by decide) rfl ?_
                            refine sd_aload_n sD11_reads_273 rfl ?_
                            refine sd_dup sD11_reads_274 ?_
                            refine sd_getfi sD11_reads_275 sF11_147 sGM15_12 ?_
                            rw [show m 5492 = (q139_37 : Int) from hS.2.2.1]
                            refine sd_iload sD11_reads_278 rfl ?_
                            refine sd_if_eq (tgt := 287) sD11_reads_280 (by decide) (fun zc280 => ?_) (fun zc280 => (by exfalso; omega))
                            refine sd_iconst sD11_reads_287 (by decide) ?_
                            refine sd_iadd (z := (q139_37 : Int)) sD11_reads_288 (by omega) (by omega) ?_
                            refine sd_putfc sd_sokM sd_oneM hx sD11_reads_289 sF11_147 sGM15_12 (by decide) (Or.inl rfl) (fun m hx em289 => ?_)
                            have hk289x := sd_k2.up em289 (Or.inl rfl)
                            replace hK6 := hK6.k2 hk289x
                            replace hf : ∀ i, i < 4 → m (5504 + i) = f i := fun i hi => (hk289x _ (by omega) (by omega)).trans (hf i hi)
                            replace hg := (hk289x 5510 (by decide) (by decide)).trans hg
                            replace hgb := (hk289x 5511 (by decide) (by decide)).trans hgb
                            replace hS : sd_RS m fr n q139_37 (-1) := ⟨by rw [em289, sd_up_ne (by decide)]; exact hS.1, by rw [em289, sd_up_ne (by decide)]; exact hS.2.1, by rw [em289, sd_up_eq]; (try omega), by rw [em289, sd_up_ne (by decide)]; exact hS.2.2.2⟩
                            refine sd_iinc (y := ((c : Int) + 1)) (ls' := [some (.inr 15), some (.inl pl), some (.inl mn), some (.inl w), some (.inl 0), some (.inl ((c : Int) + 1)), some (.inl (sd_b ((0 + (j45_1 : Int)) = 1))), some (.inl (2 + (j68_9 : Int))), some (.inl (sd_b (sd_hl f t139_37))), some (.inl (6 + (j107_30 : Int))), some (.inl 0), some (.inl 1), some (.inl (sd_b (sd_hl f t139_37)))]) sD11_reads_292 rfl (by omega) (by omega) (by decide) rfl ?_
                            refine sd_goto (tgt := 31) sD11_reads_295 (by decide) ?_
                            refine sd_iload sD11_reads_31 rfl ?_
                            refine sd_iconst sD11_reads_33 (by decide) ?_
                            refine sd_icmp_ge (tgt := 298) sD11_reads_34 (by decide) (fun zc34 => ?_) (fun zc34 => ?_)
                            ·
                              refine sd_aload_n sD11_reads_298 rfl ?_
                              refine sd_getfi sD11_reads_299 sF11_147 sGM15_12 ?_
                              rw [show m 5492 = (q139_37 : Int) from hS.2.2.1]
                              refine sd_aload_n sD11_reads_302 rfl ?_
                              refine sd_getfi sD11_reads_303 sF11_151 sGM15_11 ?_
                              rw [show m 5491 = (n : Int) from hS.2.1]
                              refine sd_icmp_ge (tgt := 313) sD11_reads_306 (by decide) (fun zc306 => ?_) (fun zc306 => ?_)
                              ·
                                refine sd_vreturn sD11_reads_313 rfl (fun hm => hQ _ _ ⟨rfl, hK6, ?_⟩)
                                exact Or.inr ⟨[(j45_1, j68_9, [t139_37])], by simp only [sd_txt, hcl]; rw [if_pos (by omega)], hS.2.2.2, Or.inl ⟨by omega, hg, hgb⟩⟩
                              ·
                                refine sd_aload_n sD11_reads_309 rfl ?_
                                refine sd_callV (as := []) (st := []) sD11_reads_310 sM11_167 rfl rfl sOM15 rfl (by decide) (Nat.le_of_ble_eq_true rfl) (cM_wrong1 fr n q139_37 _ m hx hS) (fun r m hq ho310 hm => ?_)
                                obtain ⟨rfl, hk310_50, hS⟩ := hq
                                replace hx := hk310_50.ns hx
                                replace hK6 := hK6.k2 hk310_50
                                replace hf : ∀ i, i < 4 → m (5504 + i) = f i := fun i hi => (hk310_50 _ (by omega) (by omega)).trans (hf i hi)
                                replace hg := (hk310_50 5510 (by decide) (by decide)).trans hg
                                replace hgb := (hk310_50 5511 (by decide) (by decide)).trans hgb
                                rcases (⟨trivial⟩ : Nonempty True) with hy310_50
                                ·
                                  show sd_Wp sd_SM 4 sY11_reads 313 [some (.inr 15), some (.inl pl), some (.inl mn), some (.inl w), some (.inl 0), some (.inl ((c : Int) + 1)), some (.inl (sd_b ((0 + (j45_1 : Int)) = 1))), some (.inl (2 + (j68_9 : Int))), some (.inl (sd_b (sd_hl f t139_37))), some (.inl (6 + (j107_30 : Int))), some (.inl 0), some (.inl 1), some (.inl (sd_b (sd_hl f t139_37)))] [] m _
                                  refine sd_vreturn sD11_reads_313 rfl (fun hm => hQ _ _ ⟨rfl, hK6, ?_⟩)
                                  exact Or.inl ⟨q139_37, by simp only [sd_txt, hcl]; rw [if_neg (by omega)]; first | (rw [if_pos (by omega)]; done) | (rw [if_neg (by omega), if_neg (by assumption)]; done), hS.2.2.2⟩
                            ·
                              refine sd_iload sD11_reads_37 rfl ?_
                              refine sd_if_eq (tgt := 298) sD11_reads_39 (by decide) (fun zc39 => ?_) (fun zc39 => (by exfalso; omega))
                              refine sd_aload_n sD11_reads_298 rfl ?_
                              refine sd_getfi sD11_reads_299 sF11_147 sGM15_12 ?_
                              rw [show m 5492 = (q139_37 : Int) from hS.2.2.1]
                              refine sd_aload_n sD11_reads_302 rfl ?_
                              refine sd_getfi sD11_reads_303 sF11_151 sGM15_11 ?_
                              rw [show m 5491 = (n : Int) from hS.2.1]
                              refine sd_icmp_ge (tgt := 313) sD11_reads_306 (by decide) (fun zc306 => ?_) (fun zc306 => ?_)
                              ·
                                refine sd_vreturn sD11_reads_313 rfl (fun hm => hQ _ _ ⟨rfl, hK6, ?_⟩)
                                exact Or.inr ⟨[(j45_1, j68_9, [t139_37])], by simp only [sd_txt, hcl]; rw [if_pos (by omega)], hS.2.2.2, Or.inl ⟨by omega, hg, hgb⟩⟩
                              ·
                                refine sd_aload_n sD11_reads_309 rfl ?_
                                refine sd_callV (as := []) (st := []) sD11_reads_310 sM11_167 rfl rfl sOM15 rfl (by decide) (Nat.le_of_ble_eq_true rfl) (cM_wrong1 fr n q139_37 _ m hx hS) (fun r m hq ho310 hm => ?_)
                                obtain ⟨rfl, hk310_51, hS⟩ := hq
                                replace hx := hk310_51.ns hx
                                replace hK6 := hK6.k2 hk310_51
                                replace hf : ∀ i, i < 4 → m (5504 + i) = f i := fun i hi => (hk310_51 _ (by omega) (by omega)).trans (hf i hi)
                                replace hg := (hk310_51 5510 (by decide) (by decide)).trans hg
                                replace hgb := (hk310_51 5511 (by decide) (by decide)).trans hgb
                                rcases (⟨trivial⟩ : Nonempty True) with hy310_51
                                ·
                                  show sd_Wp sd_SM 4 sY11_reads 313 [some (.inr 15), some (.inl pl), some (.inl mn), some (.inl w), some (.inl 0), some (.inl ((c : Int) + 1)), some (.inl (sd_b ((0 + (j45_1 : Int)) = 1))), some (.inl (2 + (j68_9 : Int))), some (.inl (sd_b (sd_hl f t139_37))), some (.inl (6 + (j107_30 : Int))), some (.inl 0), some (.inl 1), some (.inl (sd_b (sd_hl f t139_37)))] [] m _
                                  refine sd_vreturn sD11_reads_313 rfl (fun hm => hQ _ _ ⟨rfl, hK6, ?_⟩)
                                  exact Or.inl ⟨q139_37, by simp only [sd_txt, hcl]; rw [if_neg (by omega)]; first | (rw [if_pos (by omega)]; done) | (rw [if_neg (by omega), if_neg (by assumption)]; done), hS.2.2.2⟩
                          ·
                            refine sd_aload_n sD11_reads_250 rfl ?_
                            refine sd_callVp (as := []) (st := []) (v := .inl 1) sD11_reads_251 sM11_160 sOM15 rfl rfl rfl (by decide) (Nat.le_of_ble_eq_true rfl) (cM_isGood1 fr n q139_37 _ m hx hS) (fun ho251 => ?_)
                            refine sd_if_eq (tgt := 270) sD11_reads_254 (by decide) (fun zc254 => (by exfalso; omega)) (fun zc254 => ?_)
                            refine sd_aload_n sD11_reads_257 rfl ?_
                            refine sd_callVp (as := []) (st := []) (v := .inl (B q139_37)) sD11_reads_258 sM11_164 sOM15 rfl rfl rfl (by decide) (Nat.le_of_ble_eq_true rfl) (cM_byteAt _ fr B n q139_37 _ m hx hB hS) (fun ho258 => ?_)
                            refine sd_bipush sD11_reads_261 rfl (by decide) ?_
                            refine sd_icmp_ne (tgt := 270) sD11_reads_263 (by decide) (fun zc263 => ?_) (fun zc263 => ?_)
                            ·
                              refine sd_iconst sD11_reads_270 (by decide) ?_
                              refine sd_istore (ls' := [some (.inr 15), some (.inl pl), some (.inl mn), some (.inl w), some (.inl 0), some (.inl (c : Int)), some (.inl (sd_b ((0 + (j45_1 : Int)) = 1))), some (.inl (2 + (j68_9 : Int))), some (.inl (sd_b (sd_hl f t139_37))), some (.inl (6 + (j107_30 : Int))), some (.inl 0), some (.inl 1), some (.inl (sd_b (sd_hl f t139_37)))]) sD11_reads_271 (by decide) rfl ?_
                              refine sd_aload_n sD11_reads_273 rfl ?_
                              refine sd_dup sD11_reads_274 ?_
                              refine sd_getfi sD11_reads_275 sF11_147 sGM15_12 ?_
                              rw [show m 5492 = (q139_37 : Int) from hS.2.2.1]
                              refine sd_iload sD11_reads_278 rfl ?_
                              refine sd_if_eq (tgt := 287) sD11_reads_280 (by decide) (fun zc280 => ?_) (fun zc280 => (by exfalso; omega))
                              refine sd_iconst sD11_reads_287 (by decide) ?_
                              refine sd_iadd (z := (q139_37 : Int)) sD11_reads_288 (by omega) (by omega) ?_
                              refine sd_putfc sd_sokM sd_oneM hx sD11_reads_289 sF11_147 sGM15_12 (by decide) (Or.inl rfl) (fun m hx em289 => ?_)
                              have hk289x := sd_k2.up em289 (Or.inl rfl)
                              replace hK6 := hK6.k2 hk289x
                              replace hf : ∀ i, i < 4 → m (5504 + i) = f i := fun i hi => (hk289x _ (by omega) (by omega)).trans (hf i hi)
                              replace hg := (hk289x 5510 (by decide) (by decide)).trans hg
                              replace hgb := (hk289x 5511 (by decide) (by decide)).trans hgb
                              replace hS : sd_RS m fr n q139_37 (-1) := ⟨by rw [em289, sd_up_ne (by decide)]; exact hS.1, by rw [em289, sd_up_ne (by decide)]; exact hS.2.1, by rw [em289, sd_up_eq]; (try omega), by rw [em289, sd_up_ne (by decide)]; exact hS.2.2.2⟩
                              refine sd_iinc (y := ((c : Int) + 1)) (ls' := [some (.inr 15), some (.inl pl), some (.inl mn), some (.inl w), some (.inl 0), some (.inl ((c : Int) + 1)), some (.inl (sd_b ((0 + (j45_1 : Int)) = 1))), some (.inl (2 + (j68_9 : Int))), some (.inl (sd_b (sd_hl f t139_37))), some (.inl (6 + (j107_30 : Int))), some (.inl 0), some (.inl 1), some (.inl (sd_b (sd_hl f t139_37)))]) sD11_reads_292 rfl (by omega) (by omega) (by decide) rfl ?_
                              refine sd_goto (tgt := 31) sD11_reads_295 (by decide) ?_
                              refine sd_iload sD11_reads_31 rfl ?_
                              refine sd_iconst sD11_reads_33 (by decide) ?_
                              refine sd_icmp_ge (tgt := 298) sD11_reads_34 (by decide) (fun zc34 => ?_) (fun zc34 => ?_)
                              ·
                                refine sd_aload_n sD11_reads_298 rfl ?_
                                refine sd_getfi sD11_reads_299 sF11_147 sGM15_12 ?_
                                rw [show m 5492 = (q139_37 : Int) from hS.2.2.1]
                                refine sd_aload_n sD11_reads_302 rfl ?_
                                refine sd_getfi sD11_reads_303 sF11_151 sGM15_11 ?_
                                rw [show m 5491 = (n : Int) from hS.2.1]
                                refine sd_icmp_ge (tgt := 313) sD11_reads_306 (by decide) (fun zc306 => ?_) (fun zc306 => ?_)
                                ·
                                  refine sd_vreturn sD11_reads_313 rfl (fun hm => hQ _ _ ⟨rfl, hK6, ?_⟩)
                                  exact Or.inr ⟨[(j45_1, j68_9, [t139_37])], by simp only [sd_txt, hcl]; rw [if_pos (by omega)], hS.2.2.2, Or.inl ⟨by omega, hg, hgb⟩⟩
                                ·
                                  refine sd_aload_n sD11_reads_309 rfl ?_
                                  refine sd_callV (as := []) (st := []) sD11_reads_310 sM11_167 rfl rfl sOM15 rfl (by decide) (Nat.le_of_ble_eq_true rfl) (cM_wrong1 fr n q139_37 _ m hx hS) (fun r m hq ho310 hm => ?_)
                                  obtain ⟨rfl, hk310_52, hS⟩ := hq
                                  replace hx := hk310_52.ns hx
                                  replace hK6 := hK6.k2 hk310_52
                                  replace hf : ∀ i, i < 4 → m (5504 + i) = f i := fun i hi => (hk310_52 _ (by omega) (by omega)).trans (hf i hi)
                                  replace hg := (hk310_52 5510 (by decide) (by decide)).trans hg
                                  replace hgb := (hk310_52 5511 (by decide) (by decide)).trans hgb
                                  rcases (⟨trivial⟩ : Nonempty True) with hy310_52
                                  ·
                                    show sd_Wp sd_SM 4 sY11_reads 313 [some (.inr 15), some (.inl pl), some (.inl mn), some (.inl w), some (.inl 0), some (.inl ((c : Int) + 1)), some (.inl (sd_b ((0 + (j45_1 : Int)) = 1))), some (.inl (2 + (j68_9 : Int))), some (.inl (sd_b (sd_hl f t139_37))), some (.inl (6 + (j107_30 : Int))), some (.inl 0), some (.inl 1), some (.inl (sd_b (sd_hl f t139_37)))] [] m _
                                    refine sd_vreturn sD11_reads_313 rfl (fun hm => hQ _ _ ⟨rfl, hK6, ?_⟩)
                                    exact Or.inl ⟨q139_37, by simp only [sd_txt, hcl]; rw [if_neg (by omega)]; first | (rw [if_pos (by omega)]; done) | (rw [if_neg (by omega), if_neg (by assumption)]; done), hS.2.2.2⟩
                              ·
                                refine sd_iload sD11_reads_37 rfl ?_
                                refine sd_if_eq (tgt := 298) sD11_reads_39 (by decide) (fun zc39 => ?_) (fun zc39 => (by exfalso; omega))
                                refine sd_aload_n sD11_reads_298 rfl ?_
                                refine sd_getfi sD11_reads_299 sF11_147 sGM15_12 ?_
                                rw [show m 5492 = (q139_37 : Int) from hS.2.2.1]
                                refine sd_aload_n sD11_reads_302 rfl ?_
                                refine sd_getfi sD11_reads_303 sF11_151 sGM15_11 ?_
                                rw [show m 5491 = (n : Int) from hS.2.1]
                                refine sd_icmp_ge (tgt := 313) sD11_reads_306 (by decide) (fun zc306 => ?_) (fun zc306 => ?_)
                                ·
                                  refine sd_vreturn sD11_reads_313 rfl (fun hm => hQ _ _ ⟨rfl, hK6, ?_⟩)
                                  exact Or.inr ⟨[(j45_1, j68_9, [t139_37])], by simp only [sd_txt, hcl]; rw [if_pos (by omega)], hS.2.2.2, Or.inl ⟨by omega, hg, hgb⟩⟩
                                ·
                                  refine sd_aload_n sD11_reads_309 rfl ?_
                                  refine sd_callV (as := []) (st := []) sD11_reads_310 sM11_167 rfl rfl sOM15 rfl (by decide) (Nat.le_of_ble_eq_true rfl) (cM_wrong1 fr n q139_37 _ m hx hS) (fun r m hq ho310 hm => ?_)
                                  obtain ⟨rfl, hk310_53, hS⟩ := hq
                                  replace hx := hk310_53.ns hx
                                  replace hK6 := hK6.k2 hk310_53
                                  replace hf : ∀ i, i < 4 → m (5504 + i) = f i := fun i hi => (hk310_53 _ (by omega) (by omega)).trans (hf i hi)
                                  replace hg := (hk310_53 5510 (by decide) (by decide)).trans hg
                                  replace hgb := (hk310_53 5511 (by decide) (by decide)).trans hgb
                                  rcases (⟨trivial⟩ : Nonempty True) with hy310_53
                                  ·
                                    show sd_Wp sd_SM 4 sY11_reads 313 [some (.inr 15), some (.inl pl), some (.inl mn), some (.inl w), some (.inl 0), some (.inl ((c : Int) + 1)), some (.inl (sd_b ((0 + (j45_1 : Int)) = 1))), some (.inl (2 + (j68_9 : Int))), some (.inl (sd_b (sd_hl f t139_37))), some (.inl (6 + (j107_30 : Int))), some (.inl 0), some (.inl 1), some (.inl (sd_b (sd_hl f t139_37)))] [] m _
                                    refine sd_vreturn sD11_reads_313 rfl (fun hm => hQ _ _ ⟨rfl, hK6, ?_⟩)
                                    exact Or.inl ⟨q139_37, by simp only [sd_txt, hcl]; rw [if_neg (by omega)]; first | (rw [if_pos (by omega)]; done) | (rw [if_neg (by omega), if_neg (by assumption)]; done), hS.2.2.2⟩
                            ·
                              have hsm : B q139_37 = 59 := by assumption
                              have hin3 := hB.in (p := q139_37) (by omega)
                              have hn1 := hB.1
                              refine sd_iconst sD11_reads_266 (by decide) ?_
                              refine sd_goto (tgt := 271) sD11_reads_267 (by decide) ?_
                              refine sd_istore (ls' := [some (.inr 15), some (.inl pl), some (.inl mn), some (.inl w), some (.inl 1), some (.inl (c : Int)), some (.inl (sd_b ((0 + (j45_1 : Int)) = 1))), some (.inl (2 + (j68_9 : Int))), some (.inl (sd_b (sd_hl f t139_37))), some (.inl (6 + (j107_30 : Int))), some (.inl 0), some (.inl 1), some (.inl (sd_b (sd_hl f t139_37)))]) sD11_reads_271 (by decide) rfl ?_
                              refine sd_aload_n sD11_reads_273 rfl ?_
                              refine sd_dup sD11_reads_274 ?_
                              refine sd_getfi sD11_reads_275 sF11_147 sGM15_12 ?_
                              rw [show m 5492 = (q139_37 : Int) from hS.2.2.1]
                              refine sd_iload sD11_reads_278 rfl ?_
                              refine sd_if_eq (tgt := 287) sD11_reads_280 (by decide) (fun zc280 => (by exfalso; omega)) (fun zc280 => ?_)
                              refine sd_iconst sD11_reads_283 (by decide) ?_
                              refine sd_goto (tgt := 288) sD11_reads_284 (by decide) ?_
                              refine sd_iadd (z := ((q139_37 : Int) + 1)) sD11_reads_288 (by omega) (by omega) ?_
                              refine sd_putfc sd_sokM sd_oneM hx sD11_reads_289 sF11_147 sGM15_12 (by decide) (Or.inl rfl) (fun m hx em289 => ?_)
                              have hk289x := sd_k2.up em289 (Or.inl rfl)
                              replace hK6 := hK6.k2 hk289x
                              replace hf : ∀ i, i < 4 → m (5504 + i) = f i := fun i hi => (hk289x _ (by omega) (by omega)).trans (hf i hi)
                              replace hg := (hk289x 5510 (by decide) (by decide)).trans hg
                              replace hgb := (hk289x 5511 (by decide) (by decide)).trans hgb
                              replace hS : sd_RS m fr n (q139_37 + 1) (-1) := ⟨by rw [em289, sd_up_ne (by decide)]; exact hS.1, by rw [em289, sd_up_ne (by decide)]; exact hS.2.1, by rw [em289, sd_up_eq]; (try omega), by rw [em289, sd_up_ne (by decide)]; exact hS.2.2.2⟩
                              refine sd_iinc (y := ((c : Int) + 1)) (ls' := [some (.inr 15), some (.inl pl), some (.inl mn), some (.inl w), some (.inl 1), some (.inl ((c : Int) + 1)), some (.inl (sd_b ((0 + (j45_1 : Int)) = 1))), some (.inl (2 + (j68_9 : Int))), some (.inl (sd_b (sd_hl f t139_37))), some (.inl (6 + (j107_30 : Int))), some (.inl 0), some (.inl 1), some (.inl (sd_b (sd_hl f t139_37)))]) sD11_reads_292 rfl (by omega) (by omega) (by decide) rfl ?_
                              refine sd_goto (tgt := 31) sD11_reads_295 (by decide) ?_
                              refine sd_less (ls' := [some (.inr 15), some (.inl pl), some (.inl mn), some (.inl w), some (.inl 1), some (.inl ((c : Int) + 1)), none, none, none, none, none, none, none]) ?_ rfl (by intro zi zv zh; rcases zi with _ | _ | _ | _ | _ | _ | _ | _ | _ | _ | _ | _ | _ | zi <;> first | exact zh | cases zh)
                              refine sd_eqw (ls' := [some (.inr 15), some (.inl pl), some (.inl mn), some (.inl w), some (.inl 1), some (.inl ((c + 1 : Nat) : Int)), none, none, none, none, none, none, none]) ?_ (sd_cg rfl (sd_cg rfl (sd_cg rfl (sd_cg rfl (sd_cg rfl (sd_cg (sd_ce (by omega)) rfl)))))) rfl
                              exact ih (by omega) g b m (q139_37 + 1) hx hS (by omega) hK6 hf hg hgb (by omega) (fun r m2 hq => hQ r m2 (sd_rd_A hcl (by omega) (by omega) hsm (by omega) hq))
                        ·
                          refine sd_iload sD11_reads_244 rfl ?_
                          refine sd_iconst sD11_reads_246 (by decide) ?_
                          refine sd_icmp_ge (tgt := 270) sD11_reads_247 (by decide) (fun zc247 => ?_) (fun zc247 => ?_)
                          ·
                            refine sd_iconst sD11_reads_270 (by decide) ?_
                            refine sd_istore (ls' := [some (.inr 15), some (.inl pl), some (.inl mn), some (.inl w), some (.inl 0), some (.inl (c : Int)), some (.inl (sd_b ((0 + (j45_1 : Int)) = 1))), some (.inl (2 + (j68_9 : Int))), some (.inl (sd_b (sd_hl f t139_37))), some (.inl (6 + (j107_30 : Int))), some (.inl 0), some (.inl 1), some (.inl (sd_b (sd_hl f t139_37)))]) sD11_reads_271 (by decide) rfl ?_
                            refine sd_aload_n sD11_reads_273 rfl ?_
                            refine sd_dup sD11_reads_274 ?_
                            refine sd_getfi sD11_reads_275 sF11_147 sGM15_12 ?_
                            rw [show m 5492 = (q139_37 : Int) from hS.2.2.1]
                            refine sd_iload sD11_reads_278 rfl ?_
                            refine sd_if_eq (tgt := 287) sD11_reads_280 (by decide) (fun zc280 => ?_) (fun zc280 => (by exfalso; omega))
                            refine sd_iconst sD11_reads_287 (by decide) ?_
                            refine sd_iadd (z := (q139_37 : Int)) sD11_reads_288 (by omega) (by omega) ?_
                            refine sd_putfc sd_sokM sd_oneM hx sD11_reads_289 sF11_147 sGM15_12 (by decide) (Or.inl rfl) (fun m hx em289 => ?_)
                            have hk289x := sd_k2.up em289 (Or.inl rfl)
                            replace hK6 := hK6.k2 hk289x
                            replace hf : ∀ i, i < 4 → m (5504 + i) = f i := fun i hi => (hk289x _ (by omega) (by omega)).trans (hf i hi)
                            replace hg := (hk289x 5510 (by decide) (by decide)).trans hg
                            replace hgb := (hk289x 5511 (by decide) (by decide)).trans hgb
                            replace hS : sd_RS m fr n q139_37 (-1) := ⟨by rw [em289, sd_up_ne (by decide)]; exact hS.1, by rw [em289, sd_up_ne (by decide)]; exact hS.2.1, by rw [em289, sd_up_eq]; (try omega), by rw [em289, sd_up_ne (by decide)]; exact hS.2.2.2⟩
                            refine sd_iinc (y := ((c : Int) + 1)) (ls' := [some (.inr 15), some (.inl pl), some (.inl mn), some (.inl w), some (.inl 0), some (.inl ((c : Int) + 1)), some (.inl (sd_b ((0 + (j45_1 : Int)) = 1))), some (.inl (2 + (j68_9 : Int))), some (.inl (sd_b (sd_hl f t139_37))), some (.inl (6 + (j107_30 : Int))), some (.inl 0), some (.inl 1), some (.inl (sd_b (sd_hl f t139_37)))]) sD11_reads_292 rfl (by omega) (by omega) (by decide) rfl ?_
                            refine sd_goto (tgt := 31) sD11_reads_295 (by decide) ?_
                            refine sd_iload sD11_reads_31 rfl ?_
                            refine sd_iconst sD11_reads_33 (by decide) ?_
                            refine sd_icmp_ge (tgt := 298) sD11_reads_34 (by decide) (fun zc34 => ?_) (fun zc34 => ?_)
                            ·
                              refine sd_aload_n sD11_reads_298 rfl ?_
                              refine sd_getfi sD11_reads_299 sF11_147 sGM15_12 ?_
                              rw [show m 5492 = (q139_37 : Int) from hS.2.2.1]
                              refine sd_aload_n sD11_reads_302 rfl ?_
                              refine sd_getfi sD11_reads_303 sF11_151 sGM15_11 ?_
                              rw [show m 5491 = (n : Int) from hS.2.1]
                              refine sd_icmp_ge (tgt := 313) sD11_reads_306 (by decide) (fun zc306 => ?_) (fun zc306 => ?_)
                              ·
                                refine sd_vreturn sD11_reads_313 rfl (fun hm => hQ _ _ ⟨rfl, hK6, ?_⟩)
                                exact Or.inr ⟨[(j45_1, j68_9, [t139_37])], by simp only [sd_txt, hcl]; rw [if_pos (by omega)], hS.2.2.2, Or.inr (Or.inl ⟨by omega, sd_fcl_n hmt, by rw [hg]; omega⟩)⟩
                              ·
                                refine sd_aload_n sD11_reads_309 rfl ?_
                                refine sd_callV (as := []) (st := []) sD11_reads_310 sM11_167 rfl rfl sOM15 rfl (by decide) (Nat.le_of_ble_eq_true rfl) (cM_wrong1 fr n q139_37 _ m hx hS) (fun r m hq ho310 hm => ?_)
                                obtain ⟨rfl, hk310_54, hS⟩ := hq
                                replace hx := hk310_54.ns hx
                                replace hK6 := hK6.k2 hk310_54
                                replace hf : ∀ i, i < 4 → m (5504 + i) = f i := fun i hi => (hk310_54 _ (by omega) (by omega)).trans (hf i hi)
                                replace hg := (hk310_54 5510 (by decide) (by decide)).trans hg
                                replace hgb := (hk310_54 5511 (by decide) (by decide)).trans hgb
                                rcases (⟨trivial⟩ : Nonempty True) with hy310_54
                                ·
                                  show sd_Wp sd_SM 4 sY11_reads 313 [some (.inr 15), some (.inl pl), some (.inl mn), some (.inl w), some (.inl 0), some (.inl ((c : Int) + 1)), some (.inl (sd_b ((0 + (j45_1 : Int)) = 1))), some (.inl (2 + (j68_9 : Int))), some (.inl (sd_b (sd_hl f t139_37))), some (.inl (6 + (j107_30 : Int))), some (.inl 0), some (.inl 1), some (.inl (sd_b (sd_hl f t139_37)))] [] m _
                                  refine sd_vreturn sD11_reads_313 rfl (fun hm => hQ _ _ ⟨rfl, hK6, ?_⟩)
                                  exact Or.inl ⟨q139_37, by simp only [sd_txt, hcl]; rw [if_neg (by omega)]; first | (rw [if_pos (by omega)]; done) | (rw [if_neg (by omega), if_neg (by assumption)]; done), hS.2.2.2⟩
                            ·
                              refine sd_iload sD11_reads_37 rfl ?_
                              refine sd_if_eq (tgt := 298) sD11_reads_39 (by decide) (fun zc39 => ?_) (fun zc39 => (by exfalso; omega))
                              refine sd_aload_n sD11_reads_298 rfl ?_
                              refine sd_getfi sD11_reads_299 sF11_147 sGM15_12 ?_
                              rw [show m 5492 = (q139_37 : Int) from hS.2.2.1]
                              refine sd_aload_n sD11_reads_302 rfl ?_
                              refine sd_getfi sD11_reads_303 sF11_151 sGM15_11 ?_
                              rw [show m 5491 = (n : Int) from hS.2.1]
                              refine sd_icmp_ge (tgt := 313) sD11_reads_306 (by decide) (fun zc306 => ?_) (fun zc306 => ?_)
                              ·
                                refine sd_vreturn sD11_reads_313 rfl (fun hm => hQ _ _ ⟨rfl, hK6, ?_⟩)
                                exact Or.inr ⟨[(j45_1, j68_9, [t139_37])], by simp only [sd_txt, hcl]; rw [if_pos (by omega)], hS.2.2.2, Or.inr (Or.inl ⟨by omega, sd_fcl_n hmt, by rw [hg]; omega⟩)⟩
                              ·
                                refine sd_aload_n sD11_reads_309 rfl ?_
                                refine sd_callV (as := []) (st := []) sD11_reads_310 sM11_167 rfl rfl sOM15 rfl (by decide) (Nat.le_of_ble_eq_true rfl) (cM_wrong1 fr n q139_37 _ m hx hS) (fun r m hq ho310 hm => ?_)
                                obtain ⟨rfl, hk310_55, hS⟩ := hq
                                replace hx := hk310_55.ns hx
                                replace hK6 := hK6.k2 hk310_55
                                replace hf : ∀ i, i < 4 → m (5504 + i) = f i := fun i hi => (hk310_55 _ (by omega) (by omega)).trans (hf i hi)
                                replace hg := (hk310_55 5510 (by decide) (by decide)).trans hg
                                replace hgb := (hk310_55 5511 (by decide) (by decide)).trans hgb
                                rcases (⟨trivial⟩ : Nonempty True) with hy310_55
                                ·
                                  show sd_Wp sd_SM 4 sY11_reads 313 [some (.inr 15), some (.inl pl), some (.inl mn), some (.inl w), some (.inl 0), some (.inl ((c : Int) + 1)), some (.inl (sd_b ((0 + (j45_1 : Int)) = 1))), some (.inl (2 + (j68_9 : Int))), some (.inl (sd_b (sd_hl f t139_37))), some (.inl (6 + (j107_30 : Int))), some (.inl 0), some (.inl 1), some (.inl (sd_b (sd_hl f t139_37)))] [] m _
                                  refine sd_vreturn sD11_reads_313 rfl (fun hm => hQ _ _ ⟨rfl, hK6, ?_⟩)
                                  exact Or.inl ⟨q139_37, by simp only [sd_txt, hcl]; rw [if_neg (by omega)]; first | (rw [if_pos (by omega)]; done) | (rw [if_neg (by omega), if_neg (by assumption)]; done), hS.2.2.2⟩
                          ·
                            refine sd_aload_n sD11_reads_250 rfl ?_
                            refine sd_callVp (as := []) (st := []) (v := .inl 1) sD11_reads_251 sM11_160 sOM15 rfl rfl rfl (by decide) (Nat.le_of_ble_eq_true rfl) (cM_isGood1 fr n q139_37 _ m hx hS) (fun ho251 => ?_)
                            refine sd_if_eq (tgt := 270) sD11_reads_254 (by decide) (fun zc254 => (by exfalso; omega)) (fun zc254 => ?_)
                            refine sd_aload_n sD11_reads_257 rfl ?_
                            refine sd_callVp (as := []) (st := []) (v := .inl (B q139_37)) sD11_reads_258 sM11_164 sOM15 rfl rfl rfl (by decide) (Nat.le_of_ble_eq_true rfl) (cM_byteAt _ fr B n q139_37 _ m hx hB hS) (fun ho258 => ?_)
                            refine sd_bipush sD11_reads_261 rfl (by decide) ?_
                            refine sd_icmp_ne (tgt := 270) sD11_reads_263 (by decide) (fun zc263 => ?_) (fun zc263 => ?_)
                            ·
                              refine sd_iconst sD11_reads_270 (by decide) ?_
                              refine sd_istore (ls' := [some (.inr 15), some (.inl pl), some (.inl mn), some (.inl w), some (.inl 0), some (.inl (c : Int)), some (.inl (sd_b ((0 + (j45_1 : Int)) = 1))), some (.inl (2 + (j68_9 : Int))), some (.inl (sd_b (sd_hl f t139_37))), some (.inl (6 + (j107_30 : Int))), some (.inl 0), some (.inl 1), some (.inl (sd_b (sd_hl f t139_37)))]) sD11_reads_271 (by decide) rfl ?_
                              refine sd_aload_n sD11_reads_273 rfl ?_
                              refine sd_dup sD11_reads_274 ?_
                              refine sd_getfi sD11_reads_275 sF11_147 sGM15_12 ?_
                              rw [show m 5492 = (q139_37 : Int) from hS.2.2.1]
                              refine sd_iload sD11_reads_278 rfl ?_
                              refine sd_if_eq (tgt := 287) sD11_reads_280 (by decide) (fun zc280 => ?_) (fun zc280 => (by exfalso; omega))
                              refine sd_iconst sD11_reads_287 (by decide) ?_
                              refine sd_iadd (z := (q139_37 : Int)) sD11_reads_288 (by omega) (by omega) ?_
                              refine sd_putfc sd_sokM sd_oneM hx sD11_reads_289 sF11_147 sGM15_12 (by decide) (Or.inl rfl) (fun m hx em289 => ?_)
                              have hk289x := sd_k2.up em289 (Or.inl rfl)
                              replace hK6 := hK6.k2 hk289x
                              replace hf : ∀ i, i < 4 → m (5504 + i) = f i := fun i hi => (hk289x _ (by omega) (by omega)).trans (hf i hi)
                              replace hg := (hk289x 5510 (by decide) (by decide)).trans hg
                              replace hgb := (hk289x 5511 (by decide) (by decide)).trans hgb
                              replace hS : sd_RS m fr n q139_37 (-1) := ⟨by rw [em289, sd_up_ne (by decide)]; exact hS.1, by rw [em289, sd_up_ne (by decide)]; exact hS.2.1, by rw [em289, sd_up_eq]; (try omega), by rw [em289, sd_up_ne (by decide)]; exact hS.2.2.2⟩
                              refine sd_iinc (y := ((c : Int) + 1)) (ls' := [some (.inr 15), some (.inl pl), some (.inl mn), some (.inl w), some (.inl 0), some (.inl ((c : Int) + 1)), some (.inl (sd_b ((0 + (j45_1 : Int)) = 1))), some (.inl (2 + (j68_9 : Int))), some (.inl (sd_b (sd_hl f t139_37))), some (.inl (6 + (j107_30 : Int))), some (.inl 0), some (.inl 1), some (.inl (sd_b (sd_hl f t139_37)))]) sD11_reads_292 rfl (by omega) (by omega) (by decide) rfl ?_
                              refine sd_goto (tgt := 31) sD11_reads_295 (by decide) ?_
                              refine sd_iload sD11_reads_31 rfl ?_
                              refine sd_iconst sD11_reads_33 (by decide) ?_
                              refine sd_icmp_ge (tgt := 298) sD11_reads_34 (by decide) (fun zc34 => ?_) (fun zc34 => ?_)
                              ·
                                refine sd_aload_n sD11_reads_298 rfl ?_
                                refine sd_getfi sD11_reads_299 sF11_147 sGM15_12 ?_
                                rw [show m 5492 = (q139_37 : Int) from hS.2.2.1]
                                refine sd_aload_n sD11_reads_302 rfl ?_
                                refine sd_getfi sD11_reads_303 sF11_151 sGM15_11 ?_
                                rw [show m 5491 = (n : Int) from hS.2.1]
                                refine sd_icmp_ge (tgt := 313) sD11_reads_306 (by decide) (fun zc306 => ?_) (fun zc306 => ?_)
                                ·
                                  refine sd_vreturn sD11_reads_313 rfl (fun hm => hQ _ _ ⟨rfl, hK6, ?_⟩)
                                  exact Or.inr ⟨[(j45_1, j68_9, [t139_37])], by simp only [sd_txt, hcl]; rw [if_pos (by omega)], hS.2.2.2, Or.inr (Or.inl ⟨by omega, sd_fcl_n hmt, by rw [hg]; omega⟩)⟩
                                ·
                                  refine sd_aload_n sD11_reads_309 rfl ?_
                                  refine sd_callV (as := []) (st := []) sD11_reads_310 sM11_167 rfl rfl sOM15 rfl (by decide) (Nat.le_of_ble_eq_true rfl) (cM_wrong1 fr n q139_37 _ m hx hS) (fun r m hq ho310 hm => ?_)
                                  obtain ⟨rfl, hk310_56, hS⟩ := hq
                                  replace hx := hk310_56.ns hx
                                  replace hK6 := hK6.k2 hk310_56
                                  replace hf : ∀ i, i < 4 → m (5504 + i) = f i := fun i hi => (hk310_56 _ (by omega) (by omega)).trans (hf i hi)
                                  replace hg := (hk310_56 5510 (by decide) (by decide)).trans hg
                                  replace hgb := (hk310_56 5511 (by decide) (by decide)).trans hgb
                                  rcases (⟨trivial⟩ : Nonempty True) with hy310_56
                                  ·
                                    show sd_Wp sd_SM 4 sY11_reads 313 [some (.inr 15), some (.inl pl), some (.inl mn), some (.inl w), some (.inl 0), some (.inl ((c : Int) + 1)), some (.inl (sd_b ((0 + (j45_1 : Int)) = 1))), some (.inl (2 + (j68_9 : Int))), some (.inl (sd_b (sd_hl f t139_37))), some (.inl (6 + (j107_30 : Int))), some (.inl 0), some (.inl 1), some (.inl (sd_b (sd_hl f t139_37)))] [] m _
                                    refine sd_vreturn sD11_reads_313 rfl (fun hm => hQ _ _ ⟨rfl, hK6, ?_⟩)
                                    exact Or.inl ⟨q139_37, by simp only [sd_txt, hcl]; rw [if_neg (by omega)]; first | (rw [if_pos (by omega)]; done) | (rw [if_neg (by omega), if_neg (by assumption)]; done), hS.2.2.2⟩
                              ·
                                refine sd_iload sD11_reads_37 rfl ?_
                                refine sd_if_eq (tgt := 298) sD11_reads_39 (by decide) (fun zc39 => ?_) (fun zc39 => (by exfalso; omega))
                                refine sd_aload_n sD11_reads_298 rfl ?_
                                refine sd_getfi sD11_reads_299 sF11_147 sGM15_12 ?_
                                rw [show m 5492 = (q139_37 : Int) from hS.2.2.1]
                                refine sd_aload_n sD11_reads_302 rfl ?_
                                refine sd_getfi sD11_reads_303 sF11_151 sGM15_11 ?_
                                rw [show m 5491 = (n : Int) from hS.2.1]
                                refine sd_icmp_ge (tgt := 313) sD11_reads_306 (by decide) (fun zc306 => ?_) (fun zc306 => ?_)
                                ·
                                  refine sd_vreturn sD11_reads_313 rfl (fun hm => hQ _ _ ⟨rfl, hK6, ?_⟩)
                                  exact Or.inr ⟨[(j45_1, j68_9, [t139_37])], by simp only [sd_txt, hcl]; rw [if_pos (by omega)], hS.2.2.2, Or.inr (Or.inl ⟨by omega, sd_fcl_n hmt, by rw [hg]; omega⟩)⟩
                                ·
                                  refine sd_aload_n sD11_reads_309 rfl ?_
                                  refine sd_callV (as := []) (st := []) sD11_reads_310 sM11_167 rfl rfl sOM15 rfl (by decide) (Nat.le_of_ble_eq_true rfl) (cM_wrong1 fr n q139_37 _ m hx hS) (fun r m hq ho310 hm => ?_)
                                  obtain ⟨rfl, hk310_57, hS⟩ := hq
                                  replace hx := hk310_57.ns hx
                                  replace hK6 := hK6.k2 hk310_57
                                  replace hf : ∀ i, i < 4 → m (5504 + i) = f i := fun i hi => (hk310_57 _ (by omega) (by omega)).trans (hf i hi)
                                  replace hg := (hk310_57 5510 (by decide) (by decide)).trans hg
                                  replace hgb := (hk310_57 5511 (by decide) (by decide)).trans hgb
                                  rcases (⟨trivial⟩ : Nonempty True) with hy310_57
                                  ·
                                    show sd_Wp sd_SM 4 sY11_reads 313 [some (.inr 15), some (.inl pl), some (.inl mn), some (.inl w), some (.inl 0), some (.inl ((c : Int) + 1)), some (.inl (sd_b ((0 + (j45_1 : Int)) = 1))), some (.inl (2 + (j68_9 : Int))), some (.inl (sd_b (sd_hl f t139_37))), some (.inl (6 + (j107_30 : Int))), some (.inl 0), some (.inl 1), some (.inl (sd_b (sd_hl f t139_37)))] [] m _
                                    refine sd_vreturn sD11_reads_313 rfl (fun hm => hQ _ _ ⟨rfl, hK6, ?_⟩)
                                    exact Or.inl ⟨q139_37, by simp only [sd_txt, hcl]; rw [if_neg (by omega)]; first | (rw [if_pos (by omega)]; done) | (rw [if_neg (by omega), if_neg (by assumption)]; done), hS.2.2.2⟩
                            ·
                              have hsm : B q139_37 = 59 := by assumption
                              have hin3 := hB.in (p := q139_37) (by omega)
                              have hn1 := hB.1
                              refine sd_iconst sD11_reads_266 (by decide) ?_
                              refine sd_goto (tgt := 271) sD11_reads_267 (by decide) ?_
                              refine sd_istore (ls' := [some (.inr 15), some (.inl pl), some (.inl mn), some (.inl w), some (.inl 1), some (.inl (c : Int)), some (.inl (sd_b ((0 + (j45_1 : Int)) = 1))), some (.inl (2 + (j68_9 : Int))), some (.inl (sd_b (sd_hl f t139_37))), some (.inl (6 + (j107_30 : Int))), some (.inl 0), some (.inl 1), some (.inl (sd_b (sd_hl f t139_37)))]) sD11_reads_271 (by decide) rfl ?_
                              refine sd_aload_n sD11_reads_273 rfl ?_
                              refine sd_dup sD11_reads_274 ?_
                              refine sd_getfi sD11_reads_275 sF11_147 sGM15_12 ?_
                              rw [show m 5492 = (q139_37 : Int) from hS.2.2.1]
                              refine sd_iload sD11_reads_278 rfl ?_
                              refine sd_if_eq (tgt := 287) sD11_reads_280 (by decide) (fun zc280 => (by exfalso; omega)) (fun zc280 => ?_)
                              refine sd_iconst sD11_reads_283 (by decide) ?_
                              refine sd_goto (tgt := 288) sD11_reads_284 (by decide) ?_
                              refine sd_iadd (z := ((q139_37 : Int) + 1)) sD11_reads_288 (by omega) (by omega) ?_
                              refine sd_putfc sd_sokM sd_oneM hx sD11_reads_289 sF11_147 sGM15_12 (by decide) (Or.inl rfl) (fun m hx em289 => ?_)
                              have hk289x := sd_k2.up em289 (Or.inl rfl)
                              replace hK6 := hK6.k2 hk289x
                              replace hf : ∀ i, i < 4 → m (5504 + i) = f i := fun i hi => (hk289x _ (by omega) (by omega)).trans (hf i hi)
                              replace hg := (hk289x 5510 (by decide) (by decide)).trans hg
                              replace hgb := (hk289x 5511 (by decide) (by decide)).trans hgb
                              replace hS : sd_RS m fr n (q139_37 + 1) (-1) := ⟨by rw [em289, sd_up_ne (by decide)]; exact hS.1, by rw [em289, sd_up_ne (by decide)]; exact hS.2.1, by rw [em289, sd_up_eq]; (try omega), by rw [em289, sd_up_ne (by decide)]; exact hS.2.2.2⟩
                              refine sd_iinc (y := ((c : Int) + 1)) (ls' := [some (.inr 15), some (.inl pl), some (.inl mn), some (.inl w), some (.inl 1), some (.inl ((c : Int) + 1)), some (.inl (sd_b ((0 + (j45_1 : Int)) = 1))), some (.inl (2 + (j68_9 : Int))), some (.inl (sd_b (sd_hl f t139_37))), some (.inl (6 + (j107_30 : Int))), some (.inl 0), some (.inl 1), some (.inl (sd_b (sd_hl f t139_37)))]) sD11_reads_292 rfl (by omega) (by omega) (by decide) rfl ?_
                              refine sd_goto (tgt := 31) sD11_reads_295 (by decide) ?_
                              refine sd_less (ls' := [some (.inr 15), some (.inl pl), some (.inl mn), some (.inl w), some (.inl 1), some (.inl ((c : Int) + 1)), none, none, none, none, none, none, none]) ?_ rfl (by intro zi zv zh; rcases zi with _ | _ | _ | _ | _ | _ | _ | _ | _ | _ | _ | _ | _ | zi <;> first | exact zh | cases zh)
                              refine sd_eqw (ls' := [some (.inr 15), some (.inl pl), some (.inl mn), some (.inl w), some (.inl 1), some (.inl ((c + 1 : Nat) : Int)), none, none, none, none, none, none, none]) ?_ (sd_cg rfl (sd_cg rfl (sd_cg rfl (sd_cg rfl (sd_cg rfl (sd_cg (sd_ce (by omega)) rfl)))))) rfl
                              exact ih (by omega) g b m (q139_37 + 1) hx hS (by omega) hK6 hf hg hgb (by omega) (fun r m2 hq => hQ r m2 (sd_rd_C hcl (by omega) (by omega) hsm (by omega) hmt hq))
                      ·
                        refine sd_aload_n sD11_reads_225 rfl ?_
                        refine sd_getfi sD11_reads_226 sF11_176 sGM15_15 ?_
                        rw [show m 5510 = g from hg]
                        refine sd_if_ge (tgt := 244) sD11_reads_229 (by decide) (fun zc229 => ?_) (fun zc229 => ?_)
                        ·
                          refine sd_iload sD11_reads_244 rfl ?_
                          refine sd_iconst sD11_reads_246 (by decide) ?_
                          refine sd_icmp_ge (tgt := 270) sD11_reads_247 (by decide) (fun zc247 => ?_) (fun zc247 => ?_)
                          ·
                            refine sd_iconst sD11_reads_270 (by decide) ?_
                            refine sd_istore (ls' := [some (.inr 15), some (.inl pl), some (.inl mn), some (.inl w), some (.inl 0), some (.inl (c : Int)), some (.inl (sd_b ((0 + (j45_1 : Int)) = 1))), some (.inl (2 + (j68_9 : Int))), some (.inl (sd_b (sd_hl f t139_37))), some (.inl (6 + (j107_30 : Int))), some (.inl 0), some (.inl 1), some (.inl (sd_b (sd_hl f t139_37)))]) sD11_reads_271 (by decide) rfl ?_
                            refine sd_aload_n sD11_reads_273 rfl ?_
                            refine sd_dup sD11_reads_274 ?_
                            refine sd_getfi sD11_reads_275 sF11_147 sGM15_12 ?_
                            rw [show m 5492 = (q139_37 : Int) from hS.2.2.1]
                            refine sd_iload sD11_reads_278 rfl ?_
                            refine sd_if_eq (tgt := 287) sD11_reads_280 (by decide) (fun zc280 => ?_) (fun zc280 => (by exfalso; omega))
                            refine sd_iconst sD11_reads_287 (by decide) ?_
                            refine sd_iadd (z := (q139_37 : Int)) sD11_reads_288 (by omega) (by omega) ?_
                            refine sd_putfc sd_sokM sd_oneM hx sD11_reads_289 sF11_147 sGM15_12 (by decide) (Or.inl rfl) (fun m hx em289 => ?_)
                            have hk289x := sd_k2.up em289 (Or.inl rfl)
                            replace hK6 := hK6.k2 hk289x
                            replace hf : ∀ i, i < 4 → m (5504 + i) = f i := fun i hi => (hk289x _ (by omega) (by omega)).trans (hf i hi)
                            replace hg := (hk289x 5510 (by decide) (by decide)).trans hg
                            replace hgb := (hk289x 5511 (by decide) (by decide)).trans hgb
                            replace hS : sd_RS m fr n q139_37 (-1) := ⟨by rw [em289, sd_up_ne (by decide)]; exact hS.1, by rw [em289, sd_up_ne (by decide)]; exact hS.2.1, by rw [em289, sd_up_eq]; (try omega), by rw [em289, sd_up_ne (by decide)]; exact hS.2.2.2⟩
                            refine sd_iinc (y := ((c : Int) + 1)) (ls' := [some (.inr 15), some (.inl pl), some (.inl mn), some (.inl w), some (.inl 0), some (.inl ((c : Int) + 1)), some (.inl (sd_b ((0 + (j45_1 : Int)) = 1))), some (.inl (2 + (j68_9 : Int))), some (.inl (sd_b (sd_hl f t139_37))), some (.inl (6 + (j107_30 : Int))), some (.inl 0), some (.inl 1), some (.inl (sd_b (sd_hl f t139_37)))]) sD11_reads_292 rfl (by omega) (by omega) (by decide) rfl ?_
                            refine sd_goto (tgt := 31) sD11_reads_295 (by decide) ?_
                            refine sd_iload sD11_reads_31 rfl ?_
                            refine sd_iconst sD11_reads_33 (by decide) ?_
                            refine sd_icmp_ge (tgt := 298) sD11_reads_34 (by decide) (fun zc34 => ?_) (fun zc34 => ?_)
                            ·
                              refine sd_aload_n sD11_reads_298 rfl ?_
                              refine sd_getfi sD11_reads_299 sF11_147 sGM15_12 ?_
                              rw [show m 5492 = (q139_37 : Int) from hS.2.2.1]
                              refine sd_aload_n sD11_reads_302 rfl ?_
                              refine sd_getfi sD11_reads_303 sF11_151 sGM15_11 ?_
                              rw [show m 5491 = (n : Int) from hS.2.1]
                              refine sd_icmp_ge (tgt := 313) sD11_reads_306 (by decide) (fun zc306 => ?_) (fun zc306 => ?_)
                              ·
                                refine sd_vreturn sD11_reads_313 rfl (fun hm => hQ _ _ ⟨rfl, hK6, ?_⟩)
                                exact Or.inr ⟨[(j45_1, j68_9, [t139_37])], by simp only [sd_txt, hcl]; rw [if_pos (by omega)], hS.2.2.2, Or.inl ⟨by omega, hg, hgb⟩⟩
                              ·
                                refine sd_aload_n sD11_reads_309 rfl ?_
                                refine sd_callV (as := []) (st := []) sD11_reads_310 sM11_167 rfl rfl sOM15 rfl (by decide) (Nat.le_of_ble_eq_true rfl) (cM_wrong1 fr n q139_37 _ m hx hS) (fun r m hq ho310 hm => ?_)
                                obtain ⟨rfl, hk310_58, hS⟩ := hq
                                replace hx := hk310_58.ns hx
                                replace hK6 := hK6.k2 hk310_58
                                replace hf : ∀ i, i < 4 → m (5504 + i) = f i := fun i hi => (hk310_58 _ (by omega) (by omega)).trans (hf i hi)
                                replace hg := (hk310_58 5510 (by decide) (by decide)).trans hg
                                replace hgb := (hk310_58 5511 (by decide) (by decide)).trans hgb
                                rcases (⟨trivial⟩ : Nonempty True) with hy310_58
                                ·
                                  show sd_Wp sd_SM 4 sY11_reads 313 [some (.inr 15), some (.inl pl), some (.inl mn), some (.inl w), some (.inl 0), some (.inl ((c : Int) + 1)), some (.inl (sd_b ((0 + (j45_1 : Int)) = 1))), some (.inl (2 + (j68_9 : Int))), some (.inl (sd_b (sd_hl f t139_37))), some (.inl (6 + (j107_30 : Int))), some (.inl 0), some (.inl 1), some (.inl (sd_b (sd_hl f t139_37)))] [] m _
                                  refine sd_vreturn sD11_reads_313 rfl (fun hm => hQ _ _ ⟨rfl, hK6, ?_⟩)
                                  exact Or.inl ⟨q139_37, by simp only [sd_txt, hcl]; rw [if_neg (by omega)]; first | (rw [if_pos (by omega)]; done) | (rw [if_neg (by omega), if_neg (by assumption)]; done), hS.2.2.2⟩
                            ·
                              refine sd_iload sD11_reads_37 rfl ?_
                              refine sd_if_eq (tgt := 298) sD11_reads_39 (by decide) (fun zc39 => ?_) (fun zc39 => (by exfalso; omega))
                              refine sd_aload_n sD11_reads_298 rfl ?_
                              refine sd_getfi sD11_reads_299 sF11_147 sGM15_12 ?_
                              rw [show m 5492 = (q139_37 : Int) from hS.2.2.1]
                              refine sd_aload_n sD11_reads_302 rfl ?_
                              refine sd_getfi sD11_reads_303 sF11_151 sGM15_11 ?_
                              rw [show m 5491 = (n : Int) from hS.2.1]
                              refine sd_icmp_ge (tgt := 313) sD11_reads_306 (by decide) (fun zc306 => ?_) (fun zc306 => ?_)
                              ·
                                refine sd_vreturn sD11_reads_313 rfl (fun hm => hQ _ _ ⟨rfl, hK6, ?_⟩)
                                exact Or.inr ⟨[(j45_1, j68_9, [t139_37])], by simp only [sd_txt, hcl]; rw [if_pos (by omega)], hS.2.2.2, Or.inl ⟨by omega, hg, hgb⟩⟩
                              ·
                                refine sd_aload_n sD11_reads_309 rfl ?_
                                refine sd_callV (as := []) (st := []) sD11_reads_310 sM11_167 rfl rfl sOM15 rfl (by decide) (Nat.le_of_ble_eq_true rfl) (cM_wrong1 fr n q139_37 _ m hx hS) (fun r m hq ho310 hm => ?_)
                                obtain ⟨rfl, hk310_59, hS⟩ := hq
                                replace hx := hk310_59.ns hx
                                replace hK6 := hK6.k2 hk310_59
                                replace hf : ∀ i, i < 4 → m (5504 + i) = f i := fun i hi => (hk310_59 _ (by omega) (by omega)).trans (hf i hi)
                                replace hg := (hk310_59 5510 (by decide) (by decide)).trans hg
                                replace hgb := (hk310_59 5511 (by decide) (by decide)).trans hgb
                                rcases (⟨trivial⟩ : Nonempty True) with hy310_59
                                ·
                                  show sd_Wp sd_SM 4 sY11_reads 313 [some (.inr 15), some (.inl pl), some (.inl mn), some (.inl w), some (.inl 0), some (.inl ((c : Int) + 1)), some (.inl (sd_b ((0 + (j45_1 : Int)) = 1))), some (.inl (2 + (j68_9 : Int))), some (.inl (sd_b (sd_hl f t139_37))), some (.inl (6 + (j107_30 : Int))), some (.inl 0), some (.inl 1), some (.inl (sd_b (sd_hl f t139_37)))] [] m _
                                  refine sd_vreturn sD11_reads_313 rfl (fun hm => hQ _ _ ⟨rfl, hK6, ?_⟩)
                                  exact Or.inl ⟨q139_37, by simp only [sd_txt, hcl]; rw [if_neg (by omega)]; first | (rw [if_pos (by omega)]; done) | (rw [if_neg (by omega), if_neg (by assumption)]; done), hS.2.2.2⟩
                          ·
                            refine sd_aload_n sD11_reads_250 rfl ?_
                            refine sd_callVp (as := []) (st := []) (v := .inl 1) sD11_reads_251 sM11_160 sOM15 rfl rfl rfl (by decide) (Nat.le_of_ble_eq_true rfl) (cM_isGood1 fr n q139_37 _ m hx hS) (fun ho251 => ?_)
                            refine sd_if_eq (tgt := 270) sD11_reads_254 (by decide) (fun zc254 => (by exfalso; omega)) (fun zc254 => ?_)
                            refine sd_aload_n sD11_reads_257 rfl ?_
                            refine sd_callVp (as := []) (st := []) (v := .inl (B q139_37)) sD11_reads_258 sM11_164 sOM15 rfl rfl rfl (by decide) (Nat.le_of_ble_eq_true rfl) (cM_byteAt _ fr B n q139_37 _ m hx hB hS) (fun ho258 => ?_)
                            refine sd_bipush sD11_reads_261 rfl (by decide) ?_
                            refine sd_icmp_ne (tgt := 270) sD11_reads_263 (by decide) (fun zc263 => ?_) (fun zc263 => ?_)
                            ·
                              refine sd_iconst sD11_reads_270 (by decide) ?_
                              refine sd_istore (ls' := [some (.inr 15), some (.inl pl), some (.inl mn), some (.inl w), some (.inl 0), some (.inl (c : Int)), some (.inl (sd_b ((0 + (j45_1 : Int)) = 1))), some (.inl (2 + (j68_9 : Int))), some (.inl (sd_b (sd_hl f t139_37))), some (.inl (6 + (j107_30 : Int))), some (.inl 0), some (.inl 1), some (.inl (sd_b (sd_hl f t139_37)))]) sD11_reads_271 (by decide) rfl ?_
                              refine sd_aload_n sD11_reads_273 rfl ?_
                              refine sd_dup sD11_reads_274 ?_
                              refine sd_getfi sD11_reads_275 sF11_147 sGM15_12 ?_
                              rw [show m 5492 = (q139_37 : Int) from hS.2.2.1]
                              refine sd_iload sD11_reads_278 rfl ?_
                              refine sd_if_eq (tgt := 287) sD11_reads_280 (by decide) (fun zc280 => ?_) (fun zc280 => (by exfalso; omega))
                              refine sd_iconst sD11_reads_287 (by decide) ?_
                              refine sd_iadd (z := (q139_37 : Int)) sD11_reads_288 (by omega) (by omega) ?_
                              refine sd_putfc sd_sokM sd_oneM hx sD11_reads_289 sF11_147 sGM15_12 (by decide) (Or.inl rfl) (fun m hx em289 => ?_)
                              have hk289x := sd_k2.up em289 (Or.inl rfl)
                              replace hK6 := hK6.k2 hk289x
                              replace hf : ∀ i, i < 4 → m (5504 + i) = f i := fun i hi => (hk289x _ (by omega) (by omega)).trans (hf i hi)
                              replace hg := (hk289x 5510 (by decide) (by decide)).trans hg
                              replace hgb := (hk289x 5511 (by decide) (by decide)).trans hgb
                              replace hS : sd_RS m fr n q139_37 (-1) := ⟨by rw [em289, sd_up_ne (by decide)]; exact hS.1, by rw [em289, sd_up_ne (by decide)]; exact hS.2.1, by rw [em289, sd_up_eq]; (try omega), by rw [em289, sd_up_ne (by decide)]; exact hS.2.2.2⟩
                              refine sd_iinc (y := ((c : Int) + 1)) (ls' := [some (.inr 15), some (.inl pl), some (.inl mn), some (.inl w), some (.inl 0), some (.inl ((c : Int) + 1)), some (.inl (sd_b ((0 + (j45_1 : Int)) = 1))), some (.inl (2 + (j68_9 : Int))), some (.inl (sd_b (sd_hl f t139_37))), some (.inl (6 + (j107_30 : Int))), some (.inl 0), some (.inl 1), some (.inl (sd_b (sd_hl f t139_37)))]) sD11_reads_292 rfl (by omega) (by omega) (by decide) rfl ?_
                              refine sd_goto (tgt := 31) sD11_reads_295 (by decide) ?_
                              refine sd_iload sD11_reads_31 rfl ?_
                              refine sd_iconst sD11_reads_33 (by decide) ?_
                              refine sd_icmp_ge (tgt := 298) sD11_reads_34 (by decide) (fun zc34 => ?_) (fun zc34 => ?_)
                              ·
                                refine sd_aload_n sD11_reads_298 rfl ?_
                                refine sd_getfi sD11_reads_299 sF11_147 sGM15_12 ?_
                                rw [show m 5492 = (q139_37 : Int) from hS.2.2.1]
                                refine sd_aload_n sD11_reads_302 rfl ?_
                                refine sd_getfi sD11_reads_303 sF11_151 sGM15_11 ?_
                                rw [show m 5491 = (n : Int) from hS.2.1]
                                refine sd_icmp_ge (tgt := 313) sD11_reads_306 (by decide) (fun zc306 => ?_) (fun zc306 => ?_)
                                ·
                                  refine sd_vreturn sD11_reads_313 rfl (fun hm => hQ _ _ ⟨rfl, hK6, ?_⟩)
                                  exact Or.inr ⟨[(j45_1, j68_9, [t139_37])], by simp only [sd_txt, hcl]; rw [if_pos (by omega)], hS.2.2.2, Or.inl ⟨by omega, hg, hgb⟩⟩
                                ·
                                  refine sd_aload_n sD11_reads_309 rfl ?_
                                  refine sd_callV (as := []) (st := []) sD11_reads_310 sM11_167 rfl rfl sOM15 rfl (by decide) (Nat.le_of_ble_eq_true rfl) (cM_wrong1 fr n q139_37 _ m hx hS) (fun r m hq ho310 hm => ?_)
                                  obtain ⟨rfl, hk310_60, hS⟩ := hq
                                  replace hx := hk310_60.ns hx
                                  replace hK6 := hK6.k2 hk310_60
                                  replace hf : ∀ i, i < 4 → m (5504 + i) = f i := fun i hi => (hk310_60 _ (by omega) (by omega)).trans (hf i hi)
                                  replace hg := (hk310_60 5510 (by decide) (by decide)).trans hg
                                  replace hgb := (hk310_60 5511 (by decide) (by decide)).trans hgb
                                  rcases (⟨trivial⟩ : Nonempty True) with hy310_60
                                  ·
                                    show sd_Wp sd_SM 4 sY11_reads 313 [some (.inr 15), some (.inl pl), some (.inl mn), some (.inl w), some (.inl 0), some (.inl ((c : Int) + 1)), some (.inl (sd_b ((0 + (j45_1 : Int)) = 1))), some (.inl (2 + (j68_9 : Int))), some (.inl (sd_b (sd_hl f t139_37))), some (.inl (6 + (j107_30 : Int))), some (.inl 0), some (.inl 1), some (.inl (sd_b (sd_hl f t139_37)))] [] m _
                                    refine sd_vreturn sD11_reads_313 rfl (fun hm => hQ _ _ ⟨rfl, hK6, ?_⟩)
                                    exact Or.inl ⟨q139_37, by simp only [sd_txt, hcl]; rw [if_neg (by omega)]; first | (rw [if_pos (by omega)]; done) | (rw [if_neg (by omega), if_neg (by assumption)]; done), hS.2.2.2⟩
                              ·
                                refine sd_iload sD11_reads_37 rfl ?_
                                refine sd_if_eq (tgt := 298) sD11_reads_39 (by decide) (fun zc39 => ?_) (fun zc39 => (by exfalso; omega))
                                refine sd_aload_n sD11_reads_298 rfl ?_
                                refine sd_getfi sD11_reads_299 sF11_147 sGM15_12 ?_
                                rw [show m 5492 = (q139_37 : Int) from hS.2.2.1]
                                refine sd_aload_n sD11_reads_302 rfl ?_
                                refine sd_getfi sD11_reads_303 sF11_151 sGM15_11 ?_
                                rw [show m 5491 = (n : Int) from hS.2.1]
                                refine sd_icmp_ge (tgt := 313) sD11_reads_306 (by decide) (fun zc306 => ?_) (fun zc306 => ?_)
                                ·
                                  refine sd_vreturn sD11_reads_313 rfl (fun hm => hQ _ _ ⟨rfl, hK6, ?_⟩)
                                  exact Or.inr ⟨[(j45_1, j68_9, [t139_37])], by simp only [sd_txt, hcl]; rw [if_pos (by omega)], hS.2.2.2, Or.inl ⟨by omega, hg, hgb⟩⟩
                                ·
                                  refine sd_aload_n sD11_reads_309 rfl ?_
                                  refine sd_callV (as := []) (st := []) sD11_reads_310 sM11_167 rfl rfl sOM15 rfl (by decide) (Nat.le_of_ble_eq_true rfl) (cM_wrong1 fr n q139_37 _ m hx hS) (fun r m hq ho310 hm => ?_)
                                  obtain ⟨rfl, hk310_61, hS⟩ := hq
                                  replace hx := hk310_61.ns hx
                                  replace hK6 := hK6.k2 hk310_61
                                  replace hf : ∀ i, i < 4 → m (5504 + i) = f i := fun i hi => (hk310_61 _ (by omega) (by omega)).trans (hf i hi)
                                  replace hg := (hk310_61 5510 (by decide) (by decide)).trans hg
                                  replace hgb := (hk310_61 5511 (by decide) (by decide)).trans hgb
                                  rcases (⟨trivial⟩ : Nonempty True) with hy310_61
                                  ·
                                    show sd_Wp sd_SM 4 sY11_reads 313 [some (.inr 15), some (.inl pl), some (.inl mn), some (.inl w), some (.inl 0), some (.inl ((c : Int) + 1)), some (.inl (sd_b ((0 + (j45_1 : Int)) = 1))), some (.inl (2 + (j68_9 : Int))), some (.inl (sd_b (sd_hl f t139_37))), some (.inl (6 + (j107_30 : Int))), some (.inl 0), some (.inl 1), some (.inl (sd_b (sd_hl f t139_37)))] [] m _
                                    refine sd_vreturn sD11_reads_313 rfl (fun hm => hQ _ _ ⟨rfl, hK6, ?_⟩)
                                    exact Or.inl ⟨q139_37, by simp only [sd_txt, hcl]; rw [if_neg (by omega)]; first | (rw [if_pos (by omega)]; done) | (rw [if_neg (by omega), if_neg (by assumption)]; done), hS.2.2.2⟩
                            ·
                              have hsm : B q139_37 = 59 := by assumption
                              have hin3 := hB.in (p := q139_37) (by omega)
                              have hn1 := hB.1
                              refine sd_iconst sD11_reads_266 (by decide) ?_
                              refine sd_goto (tgt := 271) sD11_reads_267 (by decide) ?_
                              refine sd_istore (ls' := [some (.inr 15), some (.inl pl), some (.inl mn), some (.inl w), some (.inl 1), some (.inl (c : Int)), some (.inl (sd_b ((0 + (j45_1 : Int)) = 1))), some (.inl (2 + (j68_9 : Int))), some (.inl (sd_b (sd_hl f t139_37))), some (.inl (6 + (j107_30 : Int))), some (.inl 0), some (.inl 1), some (.inl (sd_b (sd_hl f t139_37)))]) sD11_reads_271 (by decide) rfl ?_
                              refine sd_aload_n sD11_reads_273 rfl ?_
                              refine sd_dup sD11_reads_274 ?_
                              refine sd_getfi sD11_reads_275 sF11_147 sGM15_12 ?_
                              rw [show m 5492 = (q139_37 : Int) from hS.2.2.1]
                              refine sd_iload sD11_reads_278 rfl ?_
                              refine sd_if_eq (tgt := 287) sD11_reads_280 (by decide) (fun zc280 => (by exfalso; omega)) (fun zc280 => ?_)
                              refine sd_iconst sD11_reads_283 (by decide) ?_
                              refine sd_goto (tgt := 288) sD11_reads_284 (by decide) ?_
                              refine sd_iadd (z := ((q139_37 : Int) + 1)) sD11_reads_288 (by omega) (by omega) ?_
                              refine sd_putfc sd_sokM sd_oneM hx sD11_reads_289 sF11_147 sGM15_12 (by decide) (Or.inl rfl) (fun m hx em289 => ?_)
                              have hk289x := sd_k2.up em289 (Or.inl rfl)
                              replace hK6 := hK6.k2 hk289x
                              replace hf : ∀ i, i < 4 → m (5504 + i) = f i := fun i hi => (hk289x _ (by omega) (by omega)).trans (hf i hi)
                              replace hg := (hk289x 5510 (by decide) (by decide)).trans hg
                              replace hgb := (hk289x 5511 (by decide) (by decide)).trans hgb
                              replace hS : sd_RS m fr n (q139_37 + 1) (-1) := ⟨by rw [em289, sd_up_ne (by decide)]; exact hS.1, by rw [em289, sd_up_ne (by decide)]; exact hS.2.1, by rw [em289, sd_up_eq]; (try omega), by rw [em289, sd_up_ne (by decide)]; exact hS.2.2.2⟩
                              refine sd_iinc (y := ((c : Int) + 1)) (ls' := [some (.inr 15), some (.inl pl), some (.inl mn), some (.inl w), some (.inl 1), some (.inl ((c : Int) + 1)), some (.inl (sd_b ((0 + (j45_1 : Int)) = 1))), some (.inl (2 + (j68_9 : Int))), some (.inl (sd_b (sd_hl f t139_37))), some (.inl (6 + (j107_30 : Int))), some (.inl 0), some (.inl 1), some (.inl (sd_b (sd_hl f t139_37)))]) sD11_reads_292 rfl (by omega) (by omega) (by decide) rfl ?_
                              refine sd_goto (tgt := 31) sD11_reads_295 (by decide) ?_
                              refine sd_less (ls' := [some (.inr 15), some (.inl pl), some (.inl mn), some (.inl w), some (.inl 1), some (.inl ((c : Int) + 1)), none, none, none, none, none, none, none]) ?_ rfl (by intro zi zv zh; rcases zi with _ | _ | _ | _ | _ | _ | _ | _ | _ | _ | _ | _ | _ | zi <;> first | exact zh | cases zh)
                              refine sd_eqw (ls' := [some (.inr 15), some (.inl pl), some (.inl mn), some (.inl w), some (.inl 1), some (.inl ((c + 1 : Nat) : Int)), none, none, none, none, none, none, none]) ?_ (sd_cg rfl (sd_cg rfl (sd_cg rfl (sd_cg rfl (sd_cg rfl (sd_cg (sd_ce (by omega)) rfl)))))) rfl
                              exact ih (by omega) g b m (q139_37 + 1) hx hS (by omega) hK6 hf hg hgb (by omega) (fun r m2 hq => hQ r m2 (sd_rd_A hcl (by omega) (by omega) hsm (by omega) hq))
                        ·
                          refine sd_aload_n sD11_reads_232 rfl ?_
                          refine sd_iload sD11_reads_233 rfl ?_
                          refine sd_putfc sd_sokM sd_oneM hx sD11_reads_235 sF11_176 sGM15_15 (by decide) (Or.inl rfl) (fun m hx em235 => ?_)
                          replace hK6 := hK6.up em235 (by omega)
                          replace hf : ∀ i, i < 4 → m (5504 + i) = f i := fun i hi => by rw [em235, sd_up_ne (by omega)]; exact hf i hi
                          replace hS : sd_RS m fr n q139_37 (-1) := ⟨by rw [em235, sd_up_ne (by decide)]; exact hS.1, by rw [em235, sd_up_ne (by decide)]; exact hS.2.1, by rw [em235, sd_up_ne (by decide)]; exact hS.2.2.1, by rw [em235, sd_up_ne (by decide)]; exact hS.2.2.2⟩
                          replace hg : m 5510 = (c : Int) := by rw [em235, sd_up_eq]
                          replace hgb : m 5511 = b := by rw [em235, sd_up_ne (by decide)]; exact hgb
                          refine sd_aload_n sD11_reads_238 rfl ?_
                          refine sd_iload sD11_reads_239 rfl ?_
                          refine sd_putfc sd_sokM sd_oneM hx sD11_reads_241 sF11_182 sGM15_16 (by decide) (Or.inr ⟨rfl, sd_b01 _⟩) (fun m hx em241 => ?_)
                          replace hK6 := hK6.up em241 (by omega)
                          replace hf : ∀ i, i < 4 → m (5504 + i) = f i := fun i hi => by rw [em241, sd_up_ne (by omega)]; exact hf i hi
                          replace hS : sd_RS m fr n q139_37 (-1) := ⟨by rw [em241, sd_up_ne (by decide)]; exact hS.1, by rw [em241, sd_up_ne (by decide)]; exact hS.2.1, by rw [em241, sd_up_ne (by decide)]; exact hS.2.2.1, by rw [em241, sd_up_ne (by decide)]; exact hS.2.2.2⟩
                          replace hg : m 5510 = (c : Int) := by rw [em241, sd_up_ne (by decide)]; exact hg
                          replace hgb : m 5511 = sd_b ((0 + (j45_1 : Int)) = 1) := by rw [em241, sd_up_eq]
                          have hmt : sd_mt f w (j45_1, j68_9, [t139_37]) := ⟨by show (j68_9 : Int) = w; omega, (fun t ht => by simp at ht; subst ht; assumption)⟩
                          refine sd_iload sD11_reads_244 rfl ?_
                          refine sd_iconst sD11_reads_246 (by decide) ?_
                          refine sd_icmp_ge (tgt := 270) sD11_reads_247 (by decide) (fun zc247 => ?_) (fun zc247 => ?_)
                          ·
                            refine sd_iconst sD11_reads_270 (by decide) ?_
                            refine sd_istore (ls' := [some (.inr 15), some (.inl pl), some (.inl mn), some (.inl w), some (.inl 0), some (.inl (c : Int)), some (.inl (sd_b ((0 + (j45_1 : Int)) = 1))), some (.inl (2 + (j68_9 : Int))), some (.inl (sd_b (sd_hl f t139_37))), some (.inl (6 + (j107_30 : Int))), some (.inl 0), some (.inl 1), some (.inl (sd_b (sd_hl f t139_37)))]) sD11_reads_271 (by decide) rfl ?_
                            refine sd_aload_n sD11_reads_273 rfl ?_
                            refine sd_dup sD11_reads_274 ?_
                            refine sd_getfi sD11_reads_275 sF11_147 sGM15_12 ?_
                            rw [show m 5492 = (q139_37 : Int) from hS.2.2.1]
                            refine sd_iload sD11_reads_278 rfl ?_
                            refine sd_if_eq (tgt := 287) sD11_reads_280 (by decide) (fun zc280 => ?_) (fun zc280 => (by exfalso; omega))
                            refine sd_iconst sD11_reads_287 (by decide) ?_
                            refine sd_iadd (z := (q139_37 : Int)) sD11_reads_288 (by omega) (by omega) ?_
                            refine sd_putfc sd_sokM sd_oneM hx sD11_reads_289 sF11_147 sGM15_12 (by decide) (Or.inl rfl) (fun m hx em289 => ?_)
                            have hk289x := sd_k2.up em289 (Or.inl rfl)
                            replace hK6 := hK6.k2 hk289x
                            replace hf : ∀ i, i < 4 → m (5504 + i) = f i := fun i hi => (hk289x _ (by omega) (by omega)).trans (hf i hi)
                            replace hg := (hk289x 5510 (by decide) (by decide)).trans hg
                            replace hgb := (hk289x 5511 (by decide) (by decide)).trans hgb
                            replace hS : sd_RS m fr n q139_37 (-1) := ⟨by rw [em289, sd_up_ne (by decide)]; exact hS.1, by rw [em289, sd_up_ne (by decide)]; exact hS.2.1, by rw [em289, sd_up_eq]; (try omega), by rw [em289, sd_up_ne (by decide)]; exact hS.2.2.2⟩
                            refine sd_iinc (y := ((c : Int) + 1)) (ls' := [some (.inr 15), some (.inl pl), some (.inl mn), some (.inl w), some (.inl 0), some (.inl ((c : Int) + 1)), some (.inl (sd_b ((0 + (j45_1 : Int)) = 1))), some (.inl (2 + (j68_9 : Int))), some (.inl (sd_b (sd_hl f t139_37))), some (.inl (6 + (j107_30 : Int))), some (.inl 0), some (.inl 1), some (.inl (sd_b (sd_hl f t139_37)))]) sD11_reads_292 rfl (by omega) (by omega) (by decide) rfl ?_
                            refine sd_goto (tgt := 31) sD11_reads_295 (by decide) ?_
                            refine sd_iload sD11_reads_31 rfl ?_
                            refine sd_iconst sD11_reads_33 (by decide) ?_
                            refine sd_icmp_ge (tgt := 298) sD11_reads_34 (by decide) (fun zc34 => ?_) (fun zc34 => ?_)
                            ·
                              refine sd_aload_n sD11_reads_298 rfl ?_
                              refine sd_getfi sD11_reads_299 sF11_147 sGM15_12 ?_
                              rw [show m 5492 = (q139_37 : Int) from hS.2.2.1]
                              refine sd_aload_n sD11_reads_302 rfl ?_
                              refine sd_getfi sD11_reads_303 sF11_151 sGM15_11 ?_
                              rw [show m 5491 = (n : Int) from hS.2.1]
                              refine sd_icmp_ge (tgt := 313) sD11_reads_306 (by decide) (fun zc306 => ?_) (fun zc306 => ?_)
                              ·
                                refine sd_vreturn sD11_reads_313 rfl (fun hm => hQ _ _ ⟨rfl, hK6, ?_⟩)
                                exact Or.inr ⟨[(j45_1, j68_9, [t139_37])], by simp only [sd_txt, hcl]; rw [if_pos (by omega)], hS.2.2.2, Or.inr (Or.inr ⟨by omega, by rw [(sd_fcl_y hmt).1]; decide, by rw [hg, (sd_fcl_y hmt).1]; omega, by rw [hgb, (sd_fcl_y hmt).2]; exact sd_b1j (by omega)⟩)⟩
                              ·
                                refine sd_aload_n sD11_reads_309 rfl ?_
                                refine sd_callV (as := []) (st := []) sD11_reads_310 sM11_167 rfl rfl sOM15 rfl (by decide) (Nat.le_of_ble_eq_true rfl) (cM_wrong1 fr n q139_37 _ m hx hS) (fun r m hq ho310 hm => ?_)
                                obtain ⟨rfl, hk310_62, hS⟩ := hq
                                replace hx := hk310_62.ns hx
                                replace hK6 := hK6.k2 hk310_62
                                replace hf : ∀ i, i < 4 → m (5504 + i) = f i := fun i hi => (hk310_62 _ (by omega) (by omega)).trans (hf i hi)
                                replace hg := (hk310_62 5510 (by decide) (by decide)).trans hg
                                replace hgb := (hk310_62 5511 (by decide) (by decide)).trans hgb
                                rcases (⟨trivial⟩ : Nonempty True) with hy310_62
                                ·
                                  show sd_Wp sd_SM 4 sY11_reads 313 [some (.inr 15), some (.inl pl), some (.inl mn), some (.inl w), some (.inl 0), some (.inl ((c : Int) + 1)), some (.inl (sd_b ((0 + (j45_1 : Int)) = 1))), some (.inl (2 + (j68_9 : Int))), some (.inl (sd_b (sd_hl f t139_37))), some (.inl (6 + (j107_30 : Int))), some (.inl 0), some (.inl 1), some (.inl (sd_b (sd_hl f t139_37)))] [] m _
                                  refine sd_vreturn sD11_reads_313 rfl (fun hm => hQ _ _ ⟨rfl, hK6, ?_⟩)
                                  exact Or.inl ⟨q139_37, by simp only [sd_txt, hcl]; rw [if_neg (by omega)]; first | (rw [if_pos (by omega)]; done) | (rw [if_neg (by omega), if_neg (by assumption)]; done), hS.2.2.2⟩
                            ·
                              refine sd_iload sD11_reads_37 rfl ?_
                              refine sd_if_eq (tgt := 298) sD11_reads_39 (by decide) (fun zc39 => ?_) (fun zc39 => (by exfalso; omega))
                              refine sd_aload_n sD11_reads_298 rfl ?_
                              refine sd_getfi sD11_reads_299 sF11_147 sGM15_12 ?_
                              rw [show m 5492 = (q139_37 : Int) from hS.2.2.1]
                              refine sd_aload_n sD11_reads_302 rfl ?_
                              refine sd_getfi sD11_reads_303 sF11_151 sGM15_11 ?_
                              rw [show m 5491 = (n : Int) from hS.2.1]
                              refine sd_icmp_ge (tgt := 313) sD11_reads_306 (by decide) (fun zc306 => ?_) (fun zc306 => ?_)
                              ·
                                refine sd_vreturn sD11_reads_313 rfl (fun hm => hQ _ _ ⟨rfl, hK6, ?_⟩)
                                exact Or.inr ⟨[(j45_1, j68_9, [t139_37])], by simp only [sd_txt, hcl]; rw [if_pos (by omega)], hS.2.2.2, Or.inr (Or.inr ⟨by omega, by rw [(sd_fcl_y hmt).1]; decide, by rw [hg, (sd_fcl_y hmt).1]; omega, by rw [hgb, (sd_fcl_y hmt).2]; exact sd_b1j (by omega)⟩)⟩
                              ·
                                refine sd_aload_n sD11_reads_309 rfl ?_
                                refine sd_callV (as := []) (st := []) sD11_reads_310 sM11_167 rfl rfl sOM15 rfl (by decide) (Nat.le_of_ble_eq_true rfl) (cM_wrong1 fr n q139_37 _ m hx hS) (fun r m hq ho310 hm => ?_)
                                obtain ⟨rfl, hk310_63, hS⟩ := hq
                                replace hx := hk310_63.ns hx
                                replace hK6 := hK6.k2 hk310_63
                                replace hf : ∀ i, i < 4 → m (5504 + i) = f i := fun i hi => (hk310_63 _ (by omega) (by omega)).trans (hf i hi)
                                replace hg := (hk310_63 5510 (by decide) (by decide)).trans hg
                                replace hgb := (hk310_63 5511 (by decide) (by decide)).trans hgb
                                rcases (⟨trivial⟩ : Nonempty True) with hy310_63
                                ·
                                  show sd_Wp sd_SM 4 sY11_reads 313 [some (.inr 15), some (.inl pl), some (.inl mn), some (.inl w), some (.inl 0), some (.inl ((c : Int) + 1)), some (.inl (sd_b ((0 + (j45_1 : Int)) = 1))), some (.inl (2 + (j68_9 : Int))), some (.inl (sd_b (sd_hl f t139_37))), some (.inl (6 + (j107_30 : Int))), some (.inl 0), some (.inl 1), some (.inl (sd_b (sd_hl f t139_37)))] [] m _
                                  refine sd_vreturn sD11_reads_313 rfl (fun hm => hQ _ _ ⟨rfl, hK6, ?_⟩)
                                  exact Or.inl ⟨q139_37, by simp only [sd_txt, hcl]; rw [if_neg (by omega)]; first | (rw [if_pos (by omega)]; done) | (rw [if_neg (by omega), if_neg (by assumption)]; done), hS.2.2.2⟩
                          ·
                            refine sd_aload_n sD11_reads_250 rfl ?_
                            refine sd_callVp (as := []) (st := []) (v := .inl 1) sD11_reads_251 sM11_160 sOM15 rfl rfl rfl (by decide) (Nat.le_of_ble_eq_true rfl) (cM_isGood1 fr n q139_37 _ m hx hS) (fun ho251 => ?_)
                            refine sd_if_eq (tgt := 270) sD11_reads_254 (by decide) (fun zc254 => (by exfalso; omega)) (fun zc254 => ?_)
                            refine sd_aload_n sD11_reads_257 rfl ?_
                            refine sd_callVp (as := []) (st := []) (v := .inl (B q139_37)) sD11_reads_258 sM11_164 sOM15 rfl rfl rfl (by decide) (Nat.le_of_ble_eq_true rfl) (cM_byteAt _ fr B n q139_37 _ m hx hB hS) (fun ho258 => ?_)
                            refine sd_bipush sD11_reads_261 rfl (by decide) ?_
                            refine sd_icmp_ne (tgt := 270) sD11_reads_263 (by decide) (fun zc263 => ?_) (fun zc263 => ?_)
                            ·
                              refine sd_iconst sD11_reads_270 (by decide) ?_
                              refine sd_istore (ls' := [some (.inr 15), some (.inl pl), some (.inl mn), some (.inl w), some (.inl 0), some (.inl (c : Int)), some (.inl (sd_b ((0 + (j45_1 : Int)) = 1))), some (.inl (2 + (j68_9 : Int))), some (.inl (sd_b (sd_hl f t139_37))), some (.inl (6 + (j107_30 : Int))), some (.inl 0), some (.inl 1), some (.inl (sd_b (sd_hl f t139_37)))]) sD11_reads_271 (by decide) rfl ?_
                              refine sd_aload_n sD11_reads_273 rfl ?_
                              refine sd_dup sD11_reads_274 ?_
                              refine sd_getfi sD11_reads_275 sF11_147 sGM15_12 ?_
                              rw [show m 5492 = (q139_37 : Int) from hS.2.2.1]
                              refine sd_iload sD11_reads_278 rfl ?_
                              refine sd_if_eq (tgt := 287) sD11_reads_280 (by decide) (fun zc280 => ?_) (fun zc280 => (by exfalso; omega))
                              refine sd_iconst sD11_reads_287 (by decide) ?_
                              refine sd_iadd (z := (q139_37 : Int)) sD11_reads_288 (by omega) (by omega) ?_
                              refine sd_putfc sd_sokM sd_oneM hx sD11_reads_289 sF11_147 sGM15_12 (by decide) (Or.inl rfl) (fun m hx em289 => ?_)
                              have hk289x := sd_k2.up em289 (Or.inl rfl)
                              replace hK6 := hK6.k2 hk289x
                              replace hf : ∀ i, i < 4 → m (5504 + i) = f i := fun i hi => (hk289x _ (by omega) (by omega)).trans (hf i hi)
                              replace hg := (hk289x 5510 (by decide) (by decide)).trans hg
                              replace hgb := (hk289x 5511 (by decide) (by decide)).trans hgb
                              replace hS : sd_RS m fr n q139_37 (-1) := ⟨by rw [em289, sd_up_ne (by decide)]; exact hS.1, by rw [em289, sd_up_ne (by decide)]; exact hS.2.1, by rw [em289, sd_up_eq]; (try omega), by rw [em289, sd_up_ne (by decide)]; exact hS.2.2.2⟩
                              refine sd_iinc (y := ((c : Int) + 1)) (ls' := [some (.inr 15), some (.inl pl), some (.inl mn), some (.inl w), some (.inl 0), some (.inl ((c : Int) + 1)), some (.inl (sd_b ((0 + (j45_1 : Int)) = 1))), some (.inl (2 + (j68_9 : Int))), some (.inl (sd_b (sd_hl f t139_37))), some (.inl (6 + (j107_30 : Int))), some (.inl 0), some (.inl 1), some (.inl (sd_b (sd_hl f t139_37)))]) sD11_reads_292 rfl (by omega) (by omega) (by decide) rfl ?_
                              refine sd_goto (tgt := 31) sD11_reads_295 (by decide) ?_
                              refine sd_iload sD11_reads_31 rfl ?_
                              refine sd_iconst sD11_reads_33 (by decide) ?_
                              refine sd_icmp_ge (tgt := 298) sD11_reads_34 (by decide) (fun zc34 => ?_) (fun zc34 => ?_)
                              ·
                                refine sd_aload_n sD11_reads_298 rfl ?_
                                refine sd_getfi sD11_reads_299 sF11_147 sGM15_12 ?_
                                rw [show m 5492 = (q139_37 : Int) from hS.2.2.1]
                                refine sd_aload_n sD11_reads_302 rfl ?_
                                refine sd_getfi sD11_reads_303 sF11_151 sGM15_11 ?_
                                rw [show m 5491 = (n : Int) from hS.2.1]
                                refine sd_icmp_ge (tgt := 313) sD11_reads_306 (by decide) (fun zc306 => ?_) (fun zc306 => ?_)
                                ·
                                  refine sd_vreturn sD11_reads_313 rfl (fun hm => hQ _ _ ⟨rfl, hK6, ?_⟩)
                                  exact Or.inr ⟨[(j45_1, j68_9, [t139_37])], by simp only [sd_txt, hcl]; rw [if_pos (by omega)], hS.2.2.2, Or.inr (Or.inr ⟨by omega, by rw [(sd_fcl_y hmt).1]; decide, by rw [hg, (sd_fcl_y hmt).1]; omega, by rw [hgb, (sd_fcl_y hmt).2]; exact sd_b1j (by omega)⟩)⟩
                                ·
                                  refine sd_aload_n sD11_reads_309 rfl ?_
                                  refine sd_callV (as := []) (st := []) sD11_reads_310 sM11_167 rfl rfl sOM15 rfl (by decide) (Nat.le_of_ble_eq_true rfl) (cM_wrong1 fr n q139_37 _ m hx hS) (fun r m hq ho310 hm => ?_)
                                  obtain ⟨rfl, hk310_64, hS⟩ := hq
                                  replace hx := hk310_64.ns hx
                                  replace hK6 := hK6.k2 hk310_64
                                  replace hf : ∀ i, i < 4 → m (5504 + i) = f i := fun i hi => (hk310_64 _ (by omega) (by omega)).trans (hf i hi)
                                  replace hg := (hk310_64 5510 (by decide) (by decide)).trans hg
                                  replace hgb := (hk310_64 5511 (by decide) (by decide)).trans hgb
                                  rcases (⟨trivial⟩ : Nonempty True) with hy310_64
                                  ·
                                    show sd_Wp sd_SM 4 sY11_reads 313 [some (.inr 15), some (.inl pl), some (.inl mn), some (.inl w), some (.inl 0), some (.inl ((c : Int) + 1)), some (.inl (sd_b ((0 + (j45_1 : Int)) = 1))), some (.inl (2 + (j68_9 : Int))), some (.inl (sd_b (sd_hl f t139_37))), some (.inl (6 + (j107_30 : Int))), some (.inl 0), some (.inl 1), some (.inl (sd_b (sd_hl f t139_37)))] [] m _
                                    refine sd_vreturn sD11_reads_313 rfl (fun hm => hQ _ _ ⟨rfl, hK6, ?_⟩)
                                    exact Or.inl ⟨q139_37, by simp only [sd_txt, hcl]; rw [if_neg (by omega)]; first | (rw [if_pos (by omega)]; done) | (rw [if_neg (by omega), if_neg (by assumption)]; done), hS.2.2.2⟩
                              ·
                                refine sd_iload sD11_reads_37 rfl ?_
                                refine sd_if_eq (tgt := 298) sD11_reads_39 (by decide) (fun zc39 => ?_) (fun zc39 => (by exfalso; omega))
                                refine sd_aload_n sD11_reads_298 rfl ?_
                                refine sd_getfi sD11_reads_299 sF11_147 sGM15_12 ?_
                                rw [show m 5492 = (q139_37 : Int) from hS.2.2.1]
                                refine sd_aload_n sD11_reads_302 rfl ?_
                                refine sd_getfi sD11_reads_303 sF11_151 sGM15_11 ?_
                                rw [show m 5491 = (n : Int) from hS.2.1]
                                refine sd_icmp_ge (tgt := 313) sD11_reads_306 (by decide) (fun zc306 => ?_) (fun zc306 => ?_)
                                ·
                                  refine sd_vreturn sD11_reads_313 rfl (fun hm => hQ _ _ ⟨rfl, hK6, ?_⟩)
                                  exact Or.inr ⟨[(j45_1, j68_9, [t139_37])], by simp only [sd_txt, hcl]; rw [if_pos (by omega)], hS.2.2.2, Or.inr (Or.inr ⟨by omega, by rw [(sd_fcl_y hmt).1]; decide, by rw [hg, (sd_fcl_y hmt).1]; omega, by rw [hgb, (sd_fcl_y hmt).2]; exact sd_b1j (by omega)⟩)⟩
                                ·
                                  refine sd_aload_n sD11_reads_309 rfl ?_
                                  refine sd_callV (as := []) (st := []) sD11_reads_310 sM11_167 rfl rfl sOM15 rfl (by decide) (Nat.le_of_ble_eq_true rfl) (cM_wrong1 fr n q139_37 _ m hx hS) (fun r m hq ho310 hm => ?_)
                                  obtain ⟨rfl, hk310_65, hS⟩ := hq
                                  replace hx := hk310_65.ns hx
                                  replace hK6 := hK6.k2 hk310_65
                                  replace hf : ∀ i, i < 4 → m (5504 + i) = f i := fun i hi => (hk310_65 _ (by omega) (by omega)).trans (hf i hi)
                                  replace hg := (hk310_65 5510 (by decide) (by decide)).trans hg
                                  replace hgb := (hk310_65 5511 (by decide) (by decide)).trans hgb
                                  rcases (⟨trivial⟩ : Nonempty True) with hy310_65
                                  ·
                                    show sd_Wp sd_SM 4 sY11_reads 313 [some (.inr 15), some (.inl pl), some (.inl mn), some (.inl w), some (.inl 0), some (.inl ((c : Int) + 1)), some (.inl (sd_b ((0 + (j45_1 : Int)) = 1))), some (.inl (2 + (j68_9 : Int))), some (.inl (sd_b (sd_hl f t139_37))), some (.inl (6 + (j107_30 : Int))), some (.inl 0), some (.inl 1), some (.inl (sd_b (sd_hl f t139_37)))] [] m _
                                    refine sd_vreturn sD11_reads_313 rfl (fun hm => hQ _ _ ⟨rfl, hK6, ?_⟩)
                                    exact Or.inl ⟨q139_37, by simp only [sd_txt, hcl]; rw [if_neg (by omega)]; first | (rw [if_pos (by omega)]; done) | (rw [if_neg (by omega), if_neg (by assumption)]; done), hS.2.2.2⟩
                            ·
                              have hsm : B q139_37 = 59 := by assumption
                              have hin3 := hB.in (p := q139_37) (by omega)
                              have hn1 := hB.1
                              refine sd_iconst sD11_reads_266 (by decide) ?_
                              refine sd_goto (tgt := 271) sD11_reads_267 (by decide) ?_
                              refine sd_istore (ls' := [some (.inr 15), some (.inl pl), some (.inl mn), some (.inl w), some (.inl 1), some (.inl (c : Int)), some (.inl (sd_b ((0 + (j45_1 : Int)) = 1))), some (.inl (2 + (j68_9 : Int))), some (.inl (sd_b (sd_hl f t139_37))), some (.inl (6 + (j107_30 : Int))), some (.inl 0), some (.inl 1), some (.inl (sd_b (sd_hl f t139_37)))]) sD11_reads_271 (by decide) rfl ?_
                              refine sd_aload_n sD11_reads_273 rfl ?_
                              refine sd_dup sD11_reads_274 ?_
                              refine sd_getfi sD11_reads_275 sF11_147 sGM15_12 ?_
                              rw [show m 5492 = (q139_37 : Int) from hS.2.2.1]
                              refine sd_iload sD11_reads_278 rfl ?_
                              refine sd_if_eq (tgt := 287) sD11_reads_280 (by decide) (fun zc280 => (by exfalso; omega)) (fun zc280 => ?_)
                              refine sd_iconst sD11_reads_283 (by decide) ?_
                              refine sd_goto (tgt := 288) sD11_reads_284 (by decide) ?_
                              refine sd_iadd (z := ((q139_37 : Int) + 1)) sD11_reads_288 (by omega) (by omega) ?_
                              refine sd_putfc sd_sokM sd_oneM hx sD11_reads_289 sF11_147 sGM15_12 (by decide) (Or.inl rfl) (fun m hx em289 => ?_)
                              have hk289x := sd_k2.up em289 (Or.inl rfl)
                              replace hK6 := hK6.k2 hk289x
                              replace hf : ∀ i, i < 4 → m (5504 + i) = f i := fun i hi => (hk289x _ (by omega) (by omega)).trans (hf i hi)
                              replace hg := (hk289x 5510 (by decide) (by decide)).trans hg
                              replace hgb := (hk289x 5511 (by decide) (by decide)).trans hgb
                              replace hS : sd_RS m fr n (q139_37 + 1) (-1) := ⟨by rw [em289, sd_up_ne (by decide)]; exact hS.1, by rw [em289, sd_up_ne (by decide)]; exact hS.2.1, by rw [em289, sd_up_eq]; (try omega), by rw [em289, sd_up_ne (by decide)]; exact hS.2.2.2⟩
                              refine sd_iinc (y := ((c : Int) + 1)) (ls' := [some (.inr 15), some (.inl pl), some (.inl mn), some (.inl w), some (.inl 1), some (.inl ((c : Int) + 1)), some (.inl (sd_b ((0 + (j45_1 : Int)) = 1))), some (.inl (2 + (j68_9 : Int))), some (.inl (sd_b (sd_hl f t139_37))), some (.inl (6 + (j107_30 : Int))), some (.inl 0), some (.inl 1), some (.inl (sd_b (sd_hl f t139_37)))]) sD11_reads_292 rfl (by omega) (by omega) (by decide) rfl ?_
                              refine sd_goto (tgt := 31) sD11_reads_295 (by decide) ?_
                              refine sd_less (ls' := [some (.inr 15), some (.inl pl), some (.inl mn), some (.inl w), some (.inl 1), some (.inl ((c : Int) + 1)), none, none, none, none, none, none, none]) ?_ rfl (by intro zi zv zh; rcases zi with _ | _ | _ | _ | _ | _ | _ | _ | _ | _ | _ | _ | _ | zi <;> first | exact zh | cases zh)
                              refine sd_eqw (ls' := [some (.inr 15), some (.inl pl), some (.inl mn), some (.inl w), some (.inl 1), some (.inl ((c + 1 : Nat) : Int)), none, none, none, none, none, none, none]) ?_ (sd_cg rfl (sd_cg rfl (sd_cg rfl (sd_cg rfl (sd_cg rfl (sd_cg (sd_ce (by omega)) rfl)))))) rfl
                              replace hgb : m 5511 = (j45_1 : Int) := by rw [hgb]; exact sd_b1j (by have := hja; omega)
                              exact ih (by omega) (c : Int) (j45_1 : Int) m (q139_37 + 1) hx hS (by omega) hK6 hf hg hgb (by omega) (fun r m2 hq => hQ r m2 (sd_rd_B hcl (by omega) (by omega) hsm (by omega) hmt hq))
                  ·
                    have hin4 := hB.in (p := q139_37) (by omega)
                    have hn1 := hB.1
                    refine sd_iconst sD11_reads_173 (by decide) ?_
                    refine sd_goto (tgt := 178) sD11_reads_174 (by decide) ?_
                    refine sd_istore (ls' := [some (.inr 15), some (.inl pl), some (.inl mn), some (.inl w), some (.inl 1), some (.inl (c : Int)), some (.inl (sd_b ((0 + (j45_1 : Int)) = 1))), some (.inl (2 + (j68_9 : Int))), some (.inl (sd_b (sd_hl f t139_37))), some (.inl (6 + (j107_30 : Int))), some (.inl 1), some (.inl 0), some (.inl (sd_b (sd_hl f t139_37)))]) sD11_reads_178 (by decide) rfl ?_
                    refine sd_aload_n sD11_reads_180 rfl ?_
                    refine sd_dup sD11_reads_181 ?_
                    refine sd_getfi sD11_reads_182 sF11_147 sGM15_12 ?_
                    rw [show m 5492 = (q139_37 : Int) from hS.2.2.1]
                    refine sd_iload sD11_reads_185 rfl ?_
                    refine sd_if_eq (tgt := 194) sD11_reads_187 (by decide) (fun zc187 => (by exfalso; omega)) (fun zc187 => ?_)
                    refine sd_iconst sD11_reads_190 (by decide) ?_
                    refine sd_goto (tgt := 195) sD11_reads_191 (by decide) ?_
                    refine sd_iadd (z := ((q139_37 : Int) + 1)) sD11_reads_195 (by omega) (by omega) ?_
                    refine sd_putfc sd_sokM sd_oneM hx sD11_reads_196 sF11_147 sGM15_12 (by decide) (Or.inl rfl) (fun m hx em196 => ?_)
                    have hk196x := sd_k2.up em196 (Or.inl rfl)
                    replace hK6 := hK6.k2 hk196x
                    replace hf : ∀ i, i < 4 → m (5504 + i) = f i := fun i hi => (hk196x _ (by omega) (by omega)).trans (hf i hi)
                    replace hg := (hk196x 5510 (by decide) (by decide)).trans hg
                    replace hgb := (hk196x 5511 (by decide) (by decide)).trans hgb
                    replace hS : sd_RS m fr n (q139_37 + 1) (-1) := ⟨by rw [em196, sd_up_ne (by decide)]; exact hS.1, by rw [em196, sd_up_ne (by decide)]; exact hS.2.1, by rw [em196, sd_up_eq]; (try omega), by rw [em196, sd_up_ne (by decide)]; exact hS.2.2.2⟩
                    refine sd_iinc (y := 1) (ls' := [some (.inr 15), some (.inl pl), some (.inl mn), some (.inl w), some (.inl 1), some (.inl (c : Int)), some (.inl (sd_b ((0 + (j45_1 : Int)) = 1))), some (.inl (2 + (j68_9 : Int))), some (.inl (sd_b (sd_hl f t139_37))), some (.inl (6 + (j107_30 : Int))), some (.inl 1), some (.inl 1), some (.inl (sd_b (sd_hl f t139_37)))]) sD11_reads_199 rfl (by omega) (by omega) (by decide) rfl ?_
                    refine sd_goto (tgt := 127) sD11_reads_202 (by decide) ?_
                    refine sd_iload sD11_reads_127 rfl ?_
                    refine sd_iconst sD11_reads_129 (by decide) ?_
                    refine sd_icmp_ge (tgt := 205) sD11_reads_130 (by decide) (fun zc130 => (by exfalso; omega)) (fun zc130 => ?_)
                    refine sd_iload sD11_reads_133 rfl ?_
                    refine sd_if_eq (tgt := 205) sD11_reads_135 (by decide) (fun zc135 => (by exfalso; omega)) (fun zc135 => ?_)
                    refine sd_aload_n sD11_reads_138 rfl ?_
                    refine sd_callV (as := []) (st := []) sD11_reads_139 sM11_179 rfl rfl sOM15 rfl (by decide) (Nat.le_of_ble_eq_true rfl) (cM_test1 f m hf fr B n (q139_37 + 1) _ m hx hB hS (by omega) hL sd_k2.rf) (fun r m hq ho139 hm => ?_)
                    obtain ⟨hk139_66, hq139_66⟩ := hq
                    replace hx := hk139_66.ns hx
                    replace hK6 := hK6.k2 hk139_66
                    replace hf : ∀ i, i < 4 → m (5504 + i) = f i := fun i hi => (hk139_66 _ (by omega) (by omega)).trans (hf i hi)
                    replace hg := (hk139_66 5510 (by decide) (by decide)).trans hg
                    replace hgb := (hk139_66 5511 (by decide) (by decide)).trans hgb
                    rcases hq139_66 with ⟨q139_66, hz139_66, rfl, hS, hn139_66⟩ | ⟨t139_66, q139_66, hz139_66, rfl, hS, hn139_66⟩
                    ·
                      show sd_Wp sd_SM 4 sY11_reads 142 [some (.inr 15), some (.inl pl), some (.inl mn), some (.inl w), some (.inl 1), some (.inl (c : Int)), some (.inl (sd_b ((0 + (j45_1 : Int)) = 1))), some (.inl (2 + (j68_9 : Int))), some (.inl (sd_b (sd_hl f t139_37))), some (.inl (6 + (j107_30 : Int))), some (.inl 1), some (.inl 1), some (.inl (sd_b (sd_hl f t139_37)))] [.inl 0] m _
                      refine sd_istore (ls' := [some (.inr 15), some (.inl pl), some (.inl mn), some (.inl w), some (.inl 1), some (.inl (c : Int)), some (.inl (sd_b ((0 + (j45_1 : Int)) = 1))), some (.inl (2 + (j68_9 : Int))), some (.inl (sd_b (sd_hl f t139_37))), some (.inl (6 + (j107_30 : Int))), some (.inl 1), some (.inl 1), some (.inl 0)]) sD11_reads_142 (by decide) rfl ?_
                      refine sd_iload sD11_reads_144 rfl ?_
                      refine sd_iload sD11_reads_146 rfl ?_
                      refine sd_iand sD11_reads_148 ?_
                      refine sd_istore (ls' := [some (.inr 15), some (.inl pl), some (.inl mn), some (.inl w), some (.inl 1), some (.inl (c : Int)), some (.inl (sd_b ((0 + (j45_1 : Int)) = 1))), some (.inl (2 + (j68_9 : Int))), some (.inl (sd_and (sd_b (sd_hl f t139_37)) 0)), some (.inl (6 + (j107_30 : Int))), some (.inl 1), some (.inl 1), some (.inl 0)]) sD11_reads_149 (by decide) rfl ?_
                      refine sd_iload sD11_reads_151 rfl ?_
                      refine sd_iconst sD11_reads_153 (by decide) ?_
                      refine sd_icmp_ge (tgt := 177) sD11_reads_154 (by decide) (fun zc154 => (by exfalso; omega)) (fun zc154 => ?_)
                      refine sd_aload_n sD11_reads_157 rfl ?_
                      refine sd_callVp (as := []) (st := []) (v := .inl 0) sD11_reads_158 sM11_160 sOM15 rfl rfl rfl (by decide) (Nat.le_of_ble_eq_true rfl) (cM_isGood0 fr n q139_66 q139_66 _ m hx hS) (fun ho158 => ?_)
                      refine sd_if_eq (tgt := 177) sD11_reads_161 (by decide) (fun zc161 => ?_) (fun zc161 => (by exfalso; omega))
                      refine sd_iconst sD11_reads_177 (by decide) ?_
                      refine sd_istore (ls' := [some (.inr 15), some (.inl pl), some (.inl mn), some (.inl w), some (.inl 1), some (.inl (c : Int)), some (.inl (sd_b ((0 + (j45_1 : Int)) = 1))), some (.inl (2 + (j68_9 : Int))), some (.inl (sd_and (sd_b (sd_hl f t139_37)) 0)), some (.inl (6 + (j107_30 : Int))), some (.inl 0), some (.inl 1), some (.inl 0)]) sD11_reads_178 (by decide) rfl ?_
                      refine sd_aload_n sD11_reads_180 rfl ?_
                      refine sd_dup sD11_reads_181 ?_
                      refine sd_getfi sD11_reads_182 sF11_147 sGM15_12 ?_
                      rw [show m 5492 = (q139_66 : Int) from hS.2.2.1]
                      refine sd_iload sD11_reads_185 rfl ?_
                      refine sd_if_eq (tgt := 194) sD11_reads_187 (by decide) (fun zc187 => ?_) (fun zc187 => (by exfalso; omega))
                      refine sd_iconst sD11_reads_194 (by decide) ?_
                      refine sd_iadd (z := (q139_66 : Int)) sD11_reads_195 (by omega) (by omega) ?_
                      refine sd_putfc sd_sokM sd_oneM hx sD11_reads_196 sF11_147 sGM15_12 (by decide) (Or.inl rfl) (fun m hx em196 => ?_)
                      have hk196x := sd_k2.up em196 (Or.inl rfl)
                      replace hK6 := hK6.k2 hk196x
                      replace hf : ∀ i, i < 4 → m (5504 + i) = f i := fun i hi => (hk196x _ (by omega) (by omega)).trans (hf i hi)
                      replace hg := (hk196x 5510 (by decide) (by decide)).trans hg
                      replace hgb := (hk196x 5511 (by decide) (by decide)).trans hgb
                      replace hS : sd_RS m fr n q139_66 (q139_66 : Int) := ⟨by rw [em196, sd_up_ne (by decide)]; exact hS.1, by rw [em196, sd_up_ne (by decide)]; exact hS.2.1, by rw [em196, sd_up_eq]; (try omega), by rw [em196, sd_up_ne (by decide)]; exact hS.2.2.2⟩
                      refine sd_iinc (y := 2) (ls' := [some (.inr 15), some (.inl pl), some (.inl mn), some (.inl w), some (.inl 1), some (.inl (c : Int)), some (.inl (sd_b ((0 + (j45_1 : Int)) = 1))), some (.inl (2 + (j68_9 : Int))), some (.inl (sd_and (sd_b (sd_hl f t139_37)) 0)), some (.inl (6 + (j107_30 : Int))), some (.inl 0), some (.inl 2), some (.inl 0)]) sD11_reads_199 rfl (by omega) (by omega) (by decide) rfl ?_
                      refine sd_goto (tgt := 127) sD11_reads_202 (by decide) ?_
                      refine sd_iload sD11_reads_127 rfl ?_
                      refine sd_iconst sD11_reads_129 (by decide) ?_
                      refine sd_icmp_ge (tgt := 205) sD11_reads_130 (by decide) (fun zc130 => (by exfalso; omega)) (fun zc130 => ?_)
                      refine sd_iload sD11_reads_133 rfl ?_
                      refine sd_if_eq (tgt := 205) sD11_reads_135 (by decide) (fun zc135 => ?_) (fun zc135 => (by exfalso; omega))
                      refine sd_aload_n sD11_reads_205 rfl ?_
                      refine sd_callVp (as := []) (st := []) (v := .inl 0) sD11_reads_206 sM11_160 sOM15 rfl rfl rfl (by decide) (Nat.le_of_ble_eq_true rfl) (cM_isGood0 fr n q139_66 q139_66 _ m hx hS) (fun ho206 => ?_)
                      refine sd_if_eq (tgt := 244) sD11_reads_209 (by decide) (fun zc209 => ?_) (fun zc209 => (by exfalso; omega))
                      refine sd_iload sD11_reads_244 rfl ?_
                      refine sd_iconst sD11_reads_246 (by decide) ?_
                      refine sd_icmp_ge (tgt := 270) sD11_reads_247 (by decide) (fun zc247 => ?_) (fun zc247 => ?_)
                      ·
                        refine sd_iconst sD11_reads_270 (by decide) ?_
                        refine sd_istore (ls' := [some (.inr 15), some (.inl pl), some (.inl mn), some (.inl w), some (.inl 0), some (.inl (c : Int)), some (.inl (sd_b ((0 + (j45_1 : Int)) = 1))), some (.inl (2 + (j68_9 : Int))), some (.inl (sd_and (sd_b (sd_hl f t139_37)) 0)), some (.inl (6 + (j107_30 : Int))), some (.inl 0), some (.inl 2), some (.inl 0)]) sD11_reads_271 (by decide) rfl ?_
                        refine sd_aload_n sD11_reads_273 rfl ?_
                        refine sd_dup sD11_reads_274 ?_
                        refine sd_getfi sD11_reads_275 sF11_147 sGM15_12 ?_
                        rw [show m 5492 = (q139_66 : Int) from hS.2.2.1]
                        refine sd_iload sD11_reads_278 rfl ?_
                        refine sd_if_eq (tgt := 287) sD11_reads_280 (by decide) (fun zc280 => ?_) (fun zc280 => (by exfalso; omega))
                        refine sd_iconst sD11_reads_287 (by decide) ?_
                        refine sd_iadd (z := (q139_66 : Int)) sD11_reads_288 (by omega) (by omega) ?_
                        refine sd_putfc sd_sokM sd_oneM hx sD11_reads_289 sF11_147 sGM15_12 (by decide) (Or.inl rfl) (fun m hx em289 => ?_)
                        have hk289x := sd_k2.up em289 (Or.inl rfl)
                        replace hK6 := hK6.k2 hk289x
                        replace hf : ∀ i, i < 4 → m (5504 + i) = f i := fun i hi => (hk289x _ (by omega) (by omega)).trans (hf i hi)
                        replace hg := (hk289x 5510 (by decide) (by decide)).trans hg
                        replace hgb := (hk289x 5511 (by decide) (by decide)).trans hgb
                        replace hS : sd_RS m fr n q139_66 (q139_66 : Int) := ⟨by rw [em289, sd_up_ne (by decide)]; exact hS.1, by rw [em289, sd_up_ne (by decide)]; exact hS.2.1, by rw [em289, sd_up_eq]; (try omega), by rw [em289, sd_up_ne (by decide)]; exact hS.2.2.2⟩
                        refine sd_iinc (y := ((c : Int) + 1)) (ls' := [some (.inr 15), some (.inl pl), some (.inl mn), some (.inl w), some (.inl 0), some (.inl ((c : Int) + 1)), some (.inl (sd_b ((0 + (j45_1 : Int)) = 1))), some (.inl (2 + (j68_9 : Int))), some (.inl (sd_and (sd_b (sd_hl f t139_37)) 0)), some (.inl (6 + (j107_30 : Int))), some (.inl 0), some (.inl 2), some (.inl 0)]) sD11_reads_292 rfl (by omega) (by omega) (by decide) rfl ?_
                        refine sd_goto (tgt := 31) sD11_reads_295 (by decide) ?_
                        refine sd_iload sD11_reads_31 rfl ?_
                        refine sd_iconst sD11_reads_33 (by decide) ?_
                        refine sd_icmp_ge (tgt := 298) sD11_reads_34 (by decide) (fun zc34 => ?_) (fun zc34 => ?_)
                        ·
                          refine sd_aload_n sD11_reads_298 rfl ?_
                          refine sd_getfi sD11_reads_299 sF11_147 sGM15_12 ?_
                          rw [show m 5492 = (q139_66 : Int) from hS.2.2.1]
                          refine sd_aload_n sD11_reads_302 rfl ?_
                          refine sd_getfi sD11_reads_303 sF11_151 sGM15_11 ?_
                          rw [show m 5491 = (n : Int) from hS.2.1]
                          refine sd_icmp_ge (tgt := 313) sD11_reads_306 (by decide) (fun zc306 => ?_) (fun zc306 => ?_)
                          ·
                            refine sd_vreturn sD11_reads_313 rfl (fun hm => hQ _ _ ⟨rfl, hK6, ?_⟩)
                            have hwd : sd_wd B p = .inr ((j45_1, j68_9), q68_9) := by simp only [sd_wd, hz45_1]; rw [if_pos hb62_8, hz68_9]
                            have htt : sd_tt B 3 (sd_fe B (q68_9 + 1) 7) = .inl q139_66 := by rw [hfe]; simp only [sd_tt, hz139_37, hz139_66]; simp [*]
                            exact Or.inl ⟨q139_66, by simp only [sd_txt, sd_cls, hwd]; rw [if_pos hsp2, if_pos hff, htt], hS.2.2.2⟩
                          ·
                            refine sd_aload_n sD11_reads_309 rfl ?_
                            refine sd_callV (as := []) (st := []) sD11_reads_310 sM11_167 rfl rfl sOM15 rfl (by decide) (Nat.le_of_ble_eq_true rfl) (cM_wrong0 fr n q139_66 q139_66 _ m hx hS) (fun r m hq ho310 hm => ?_)
                            obtain ⟨rfl, hk310_67, hS⟩ := hq
                            replace hx := hk310_67.ns hx
                            replace hK6 := hK6.k2 hk310_67
                            replace hf : ∀ i, i < 4 → m (5504 + i) = f i := fun i hi => (hk310_67 _ (by omega) (by omega)).trans (hf i hi)
                            replace hg := (hk310_67 5510 (by decide) (by decide)).trans hg
                            replace hgb := (hk310_67 5511 (by decide) (by decide)).trans hgb
                            rcases (⟨trivial⟩ : Nonempty True) with hy310_67
                            ·
                              show sd_Wp sd_SM 4 sY11_reads 313 [some (.inr 15), some (.inl pl), some (.inl mn), some (.inl w), some (.inl 0), some (.inl ((c : Int) + 1)), some (.inl (sd_b ((0 + (j45_1 : Int)) = 1))), some (.inl (2 + (j68_9 : Int))), some (.inl (sd_and (sd_b (sd_hl f t139_37)) 0)), some (.inl (6 + (j107_30 : Int))), some (.inl 0), some (.inl 2), some (.inl 0)] [] m _
                              refine sd_vreturn sD11_reads_313 rfl (fun hm => hQ _ _ ⟨rfl, hK6, ?_⟩)
                              have hwd : sd_wd B p = .inr ((j45_1, j68_9), q68_9) := by simp only [sd_wd, hz45_1]; rw [if_pos hb62_8, hz68_9]
                              have htt : sd_tt B 3 (sd_fe B (q68_9 + 1) 7) = .inl q139_66 := by rw [hfe]; simp only [sd_tt, hz139_37, hz139_66]; simp [*]
                              exact Or.inl ⟨q139_66, by simp only [sd_txt, sd_cls, hwd]; rw [if_pos hsp2, if_pos hff, htt], hS.2.2.2⟩
                        ·
                          refine sd_iload sD11_reads_37 rfl ?_
                          refine sd_if_eq (tgt := 298) sD11_reads_39 (by decide) (fun zc39 => ?_) (fun zc39 => (by exfalso; omega))
                          refine sd_aload_n sD11_reads_298 rfl ?_
                          refine sd_getfi sD11_reads_299 sF11_147 sGM15_12 ?_
                          rw [show m 5492 = (q139_66 : Int) from hS.2.2.1]
                          refine sd_aload_n sD11_reads_302 rfl ?_
                          refine sd_getfi sD11_reads_303 sF11_151 sGM15_11 ?_
                          rw [show m 5491 = (n : Int) from hS.2.1]
                          refine sd_icmp_ge (tgt := 313) sD11_reads_306 (by decide) (fun zc306 => ?_) (fun zc306 => ?_)
                          ·
                            refine sd_vreturn sD11_reads_313 rfl (fun hm => hQ _ _ ⟨rfl, hK6, ?_⟩)
                            have hwd : sd_wd B p = .inr ((j45_1, j68_9), q68_9) := by simp only [sd_wd, hz45_1]; rw [if_pos hb62_8, hz68_9]
                            have htt : sd_tt B 3 (sd_fe B (q68_9 + 1) 7) = .inl q139_66 := by rw [hfe]; simp only [sd_tt, hz139_37, hz139_66]; simp [*]
                            exact Or.inl ⟨q139_66, by simp only [sd_txt, sd_cls, hwd]; rw [if_pos hsp2, if_pos hff, htt], hS.2.2.2⟩
                          ·
                            refine sd_aload_n sD11_reads_309 rfl ?_
                            refine sd_callV (as := []) (st := []) sD11_reads_310 sM11_167 rfl rfl sOM15 rfl (by decide) (Nat.le_of_ble_eq_true rfl) (cM_wrong0 fr n q139_66 q139_66 _ m hx hS) (fun r m hq ho310 hm => ?_)
                            obtain ⟨rfl, hk310_68, hS⟩ := hq
                            replace hx := hk310_68.ns hx
                            replace hK6 := hK6.k2 hk310_68
                            replace hf : ∀ i, i < 4 → m (5504 + i) = f i := fun i hi => (hk310_68 _ (by omega) (by omega)).trans (hf i hi)
                            replace hg := (hk310_68 5510 (by decide) (by decide)).trans hg
                            replace hgb := (hk310_68 5511 (by decide) (by decide)).trans hgb
                            rcases (⟨trivial⟩ : Nonempty True) with hy310_68
                            ·
                              show sd_Wp sd_SM 4 sY11_reads 313 [some (.inr 15), some (.inl pl), some (.inl mn), some (.inl w), some (.inl 0), some (.inl ((c : Int) + 1)), some (.inl (sd_b ((0 + (j45_1 : Int)) = 1))), some (.inl (2 + (j68_9 : Int))), some (.inl (sd_and (sd_b (sd_hl f t139_37)) 0)), some (.inl (6 + (j107_30 : Int))), some (.inl 0), some (.inl 2), some (.inl 0)] [] m _
                              refine sd_vreturn sD11_reads_313 rfl (fun hm => hQ _ _ ⟨rfl, hK6, ?_⟩)
                              have hwd : sd_wd B p = .inr ((j45_1, j68_9), q68_9) := by simp only [sd_wd, hz45_1]; rw [if_pos hb62_8, hz68_9]
                              have htt : sd_tt B 3 (sd_fe B (q68_9 + 1) 7) = .inl q139_66 := by rw [hfe]; simp only [sd_tt, hz139_37, hz139_66]; simp [*]
                              exact Or.inl ⟨q139_66, by simp only [sd_txt, sd_cls, hwd]; rw [if_pos hsp2, if_pos hff, htt], hS.2.2.2⟩
                      ·
                        refine sd_aload_n sD11_reads_250 rfl ?_
                        refine sd_callVp (as := []) (st := []) (v := .inl 0) sD11_reads_251 sM11_160 sOM15 rfl rfl rfl (by decide) (Nat.le_of_ble_eq_true rfl) (cM_isGood0 fr n q139_66 q139_66 _ m hx hS) (fun ho251 => ?_)
                        refine sd_if_eq (tgt := 270) sD11_reads_254 (by decide) (fun zc254 => ?_) (fun zc254 => (by exfalso; omega))
                        refine sd_iconst sD11_reads_270 (by decide) ?_
                        refine sd_istore (ls' := [some (.inr 15), some (.inl pl), some (.inl mn), some (.inl w), some (.inl 0), some (.inl (c : Int)), some (.inl (sd_b ((0 + (j45_1 : Int)) = 1))), some (.inl (2 + (j68_9 : Int))), some (.inl (sd_and (sd_b (sd_hl f t139_37)) 0)), some (.inl (6 + (j107_30 : Int))), some (.inl 0), some (.inl 2), some (.inl 0)]) sD11_reads_271 (by decide) rfl ?_
                        refine sd_aload_n sD11_reads_273 rfl ?_
                        refine sd_dup sD11_reads_274 ?_
                        refine sd_getfi sD11_reads_275 sF11_147 sGM15_12 ?_
                        rw [show m 5492 = (q139_66 : Int) from hS.2.2.1]
                        refine sd_iload sD11_reads_278 rfl ?_
                        refine sd_if_eq (tgt := 287) sD11_reads_280 (by decide) (fun zc280 => ?_) (fun zc280 => (by exfalso; omega))
                        refine sd_iconst sD11_reads_287 (by decide) ?_
                        refine sd_iadd (z := (q139_66 : Int)) sD11_reads_288 (by omega) (by omega) ?_
                        refine sd_putfc sd_sokM sd_oneM hx sD11_reads_289 sF11_147 sGM15_12 (by decide) (Or.inl rfl) (fun m hx em289 => ?_)
                        have hk289x := sd_k2.up em289 (Or.inl rfl)
                        replace hK6 := hK6.k2 hk289x
                        replace hf : ∀ i, i < 4 → m (5504 + i) = f i := fun i hi => (hk289x _ (by omega) (by omega)).trans (hf i hi)
                        replace hg := (hk289x 5510 (by decide) (by decide)).trans hg
                        replace hgb := (hk289x 5511 (by decide) (by decide)).trans hgb
                        replace hS : sd_RS m fr n q139_66 (q139_66 : Int) := ⟨by rw [em289, sd_up_ne (by decide)]; exact hS.1, by rw [em289, sd_up_ne (by decide)]; exact hS.2.1, by rw [em289, sd_up_eq]; (try omega), by rw [em289, sd_up_ne (by decide)]; exact hS.2.2.2⟩
                        refine sd_iinc (y := ((c : Int) + 1)) (ls' := [some (.inr 15), some (.inl pl), some (.inl mn), some (.inl w), some (.inl 0), some (.inl ((c : Int) + 1)), some (.inl (sd_b ((0 + (j45_1 : Int)) = 1))), some (.inl (2 + (j68_9 : Int))), some (.inl (sd_and (sd_b (sd_hl f t139_37)) 0)), some (.inl (6 + (j107_30 : Int))), some (.inl 0), some (.inl 2), some (.inl 0)]) sD11_reads_292 rfl (by omega) (by omega) (by decide) rfl ?_
                        refine sd_goto (tgt := 31) sD11_reads_295 (by decide) ?_
                        refine sd_iload sD11_reads_31 rfl ?_
                        refine sd_iconst sD11_reads_33 (by decide) ?_
                        refine sd_icmp_ge (tgt := 298) sD11_reads_34 (by decide) (fun zc34 => ?_) (fun zc34 => ?_)
                        ·
                          refine sd_aload_n sD11_reads_298 rfl ?_
                          refine sd_getfi sD11_reads_299 sF11_147 sGM15_12 ?_
                          rw [show m 5492 = (q139_66 : Int) from hS.2.2.1]
                          refine sd_aload_n sD11_reads_302 rfl ?_
                          refine sd_getfi sD11_reads_303 sF11_151 sGM15_11 ?_
                          rw [show m 5491 = (n : Int) from hS.2.1]
                          refine sd_icmp_ge (tgt := 313) sD11_reads_306 (by decide) (fun zc306 => ?_) (fun zc306 => ?_)
                          ·
                            refine sd_vreturn sD11_reads_313 rfl (fun hm => hQ _ _ ⟨rfl, hK6, ?_⟩)
                            have hwd : sd_wd B p = .inr ((j45_1, j68_9), q68_9) := by simp only [sd_wd, hz45_1]; rw [if_pos hb62_8, hz68_9]
                            have htt : sd_tt B 3 (sd_fe B (q68_9 + 1) 7) = .inl q139_66 := by rw [hfe]; simp only [sd_tt, hz139_37, hz139_66]; simp [*]
                            exact Or.inl ⟨q139_66, by simp only [sd_txt, sd_cls, hwd]; rw [if_pos hsp2, if_pos hff, htt], hS.2.2.2⟩
                          ·
                            refine sd_aload_n sD11_reads_309 rfl ?_
                            refine sd_callV (as := []) (st := []) sD11_reads_310 sM11_167 rfl rfl sOM15 rfl (by decide) (Nat.le_of_ble_eq_true rfl) (cM_wrong0 fr n q139_66 q139_66 _ m hx hS) (fun r m hq ho310 hm => ?_)
                            obtain ⟨rfl, hk310_69, hS⟩ := hq
                            replace hx := hk310_69.ns hx
                            replace hK6 := hK6.k2 hk310_69
                            replace hf : ∀ i, i < 4 → m (5504 + i) = f i := fun i hi => (hk310_69 _ (by omega) (by omega)).trans (hf i hi)
                            replace hg := (hk310_69 5510 (by decide) (by decide)).trans hg
                            replace hgb := (hk310_69 5511 (by decide) (by decide)).trans hgb
                            rcases (⟨trivial⟩ : Nonempty True) with hy310_69
                            ·
                              show sd_Wp sd_SM 4 sY11_reads 313 [some (.inr 15), some (.inl pl), some (.inl mn), some (.inl w), some (.inl 0), some (.inl ((c : Int) + 1)), some (.inl (sd_b ((0 + (j45_1 : Int)) = 1))), some (.inl (2 + (j68_9 : Int))), some (.inl (sd_and (sd_b (sd_hl f t139_37)) 0)), some (.inl (6 + (j107_30 : Int))), some (.inl 0), some (.inl 2), some (.inl 0)] [] m _
                              refine sd_vreturn sD11_reads_313 rfl (fun hm => hQ _ _ ⟨rfl, hK6, ?_⟩)
                              have hwd : sd_wd B p = .inr ((j45_1, j68_9), q68_9) := by simp only [sd_wd, hz45_1]; rw [if_pos hb62_8, hz68_9]
                              have htt : sd_tt B 3 (sd_fe B (q68_9 + 1) 7) = .inl q139_66 := by rw [hfe]; simp only [sd_tt, hz139_37, hz139_66]; simp [*]
                              exact Or.inl ⟨q139_66, by simp only [sd_txt, sd_cls, hwd]; rw [if_pos hsp2, if_pos hff, htt], hS.2.2.2⟩
                        ·
                          refine sd_iload sD11_reads_37 rfl ?_
                          refine sd_if_eq (tgt := 298) sD11_reads_39 (by decide) (fun zc39 => ?_) (fun zc39 => (by exfalso; omega))
                          refine sd_aload_n sD11_reads_298 rfl ?_
                          refine sd_getfi sD11_reads_299 sF11_147 sGM15_12 ?_
                          rw [show m 5492 = (q139_66 : Int) from hS.2.2.1]
                          refine sd_aload_n sD11_reads_302 rfl ?_
                          refine sd_getfi sD11_reads_303 sF11_151 sGM15_11 ?_
                          rw [show m 5491 = (n : Int) from hS.2.1]
                          refine sd_icmp_ge (tgt := 313) sD11_reads_306 (by decide) (fun zc306 => ?_) (fun zc306 => ?_)
                          ·
                            refine sd_vreturn sD11_reads_313 rfl (fun hm => hQ _ _ ⟨rfl, hK6, ?_⟩)
                            have hwd : sd_wd B p = .inr ((j45_1, j68_9), q68_9) := by simp only [sd_wd, hz45_1]; rw [if_pos hb62_8, hz68_9]
                            have htt : sd_tt B 3 (sd_fe B (q68_9 + 1) 7) = .inl q139_66 := by rw [hfe]; simp only [sd_tt, hz139_37, hz139_66]; simp [*]
                            exact Or.inl ⟨q139_66, by simp only [sd_txt, sd_cls, hwd]; rw [if_pos hsp2, if_pos hff, htt], hS.2.2.2⟩
                          ·
                            refine sd_aload_n sD11_reads_309 rfl ?_
                            refine sd_callV (as := []) (st := []) sD11_reads_310 sM11_167 rfl rfl sOM15 rfl (by decide) (Nat.le_of_ble_eq_true rfl) (cM_wrong0 fr n q139_66 q139_66 _ m hx hS) (fun r m hq ho310 hm => ?_)
                            obtain ⟨rfl, hk310_70, hS⟩ := hq
                            replace hx := hk310_70.ns hx
                            replace hK6 := hK6.k2 hk310_70
                            replace hf : ∀ i, i < 4 → m (5504 + i) = f i := fun i hi => (hk310_70 _ (by omega) (by omega)).trans (hf i hi)
                            replace hg := (hk310_70 5510 (by decide) (by decide)).trans hg
                            replace hgb := (hk310_70 5511 (by decide) (by decide)).trans hgb
                            rcases (⟨trivial⟩ : Nonempty True) with hy310_70
                            ·
                              show sd_Wp sd_SM 4 sY11_reads 313 [some (.inr 15), some (.inl pl), some (.inl mn), some (.inl w), some (.inl 0), some (.inl ((c : Int) + 1)), some (.inl (sd_b ((0 + (j45_1 : Int)) = 1))), some (.inl (2 + (j68_9 : Int))), some (.inl (sd_and (sd_b (sd_hl f t139_37)) 0)), some (.inl (6 + (j107_30 : Int))), some (.inl 0), some (.inl 2), some (.inl 0)] [] m _
                              refine sd_vreturn sD11_reads_313 rfl (fun hm => hQ _ _ ⟨rfl, hK6, ?_⟩)
                              have hwd : sd_wd B p = .inr ((j45_1, j68_9), q68_9) := by simp only [sd_wd, hz45_1]; rw [if_pos hb62_8, hz68_9]
                              have htt : sd_tt B 3 (sd_fe B (q68_9 + 1) 7) = .inl q139_66 := by rw [hfe]; simp only [sd_tt, hz139_37, hz139_66]; simp [*]
                              exact Or.inl ⟨q139_66, by simp only [sd_txt, sd_cls, hwd]; rw [if_pos hsp2, if_pos hff, htt], hS.2.2.2⟩
                    ·
                      show sd_Wp sd_SM 4 sY11_reads 142 [some (.inr 15), some (.inl pl), some (.inl mn), some (.inl w), some (.inl 1), some (.inl (c : Int)), some (.inl (sd_b ((0 + (j45_1 : Int)) = 1))), some (.inl (2 + (j68_9 : Int))), some (.inl (sd_b (sd_hl f t139_37))), some (.inl (6 + (j107_30 : Int))), some (.inl 1), some (.inl 1), some (.inl (sd_b (sd_hl f t139_37)))] [.inl (sd_b (sd_hl f t139_66))] m _
                      refine sd_istore (ls' := [some (.inr 15), some (.inl pl), some (.inl mn), some (.inl w), some (.inl 1), some (.inl (c : Int)), some (.inl (sd_b ((0 + (j45_1 : Int)) = 1))), some (.inl (2 + (j68_9 : Int))), some (.inl (sd_b (sd_hl f t139_37))), some (.inl (6 + (j107_30 : Int))), some (.inl 1), some (.inl 1), some (.inl (sd_b (sd_hl f t139_66)))]) sD11_reads_142 (by decide) rfl ?_
                      refine sd_iload sD11_reads_144 rfl ?_
                      refine sd_iload sD11_reads_146 rfl ?_
                      refine sd_iand sD11_reads_148 ?_
                      rw [sd_and_b]
                      refine sd_istore (ls' := [some (.inr 15), some (.inl pl), some (.inl mn), some (.inl w), some (.inl 1), some (.inl (c : Int)), some (.inl (sd_b ((0 + (j45_1 : Int)) = 1))), some (.inl (2 + (j68_9 : Int))), some (.inl (sd_b ((sd_hl f t139_37) ∧ (sd_hl f t139_66)))), some (.inl (6 + (j107_30 : Int))), some (.inl 1), some (.inl 1), some (.inl (sd_b (sd_hl f t139_66)))]) sD11_reads_149 (by decide) rfl ?_
                      refine sd_iload sD11_reads_151 rfl ?_
                      refine sd_iconst sD11_reads_153 (by decide) ?_
                      refine sd_icmp_ge (tgt := 177) sD11_reads_154 (by decide) (fun zc154 => (by exfalso; omega)) (fun zc154 => ?_)
                      refine sd_aload_n sD11_reads_157 rfl ?_
                      refine sd_callVp (as := []) (st := []) (v := .inl 1) sD11_reads_158 sM11_160 sOM15 rfl rfl rfl (by decide) (Nat.le_of_ble_eq_true rfl) (cM_isGood1 fr n q139_66 _ m hx hS) (fun ho158 => ?_)
                      refine sd_if_eq (tgt := 177) sD11_reads_161 (by decide) (fun zc161 => (by exfalso; omega)) (fun zc161 => ?_)
                      refine sd_aload_n sD11_reads_164 rfl ?_
                      refine sd_callVp (as := []) (st := []) (v := .inl (B q139_66)) sD11_reads_165 sM11_164 sOM15 rfl rfl rfl (by decide) (Nat.le_of_ble_eq_true rfl) (cM_byteAt _ fr B n q139_66 _ m hx hB hS) (fun ho165 => ?_)
                      refine sd_bipush sD11_reads_168 rfl (by decide) ?_
                      refine sd_icmp_ne (tgt := 177) sD11_reads_170 (by decide) (fun zc170 => ?_) (fun zc170 => ?_)
                      ·
                        refine sd_iconst sD11_reads_177 (by decide) ?_
                        refine sd_istore (ls' := [some (.inr 15), some (.inl pl), some (.inl mn), some (.inl w), some (.inl 1), some (.inl (c : Int)), some (.inl (sd_b ((0 + (j45_1 : Int)) = 1))), some (.inl (2 + (j68_9 : Int))), some (.inl (sd_b ((sd_hl f t139_37) ∧ (sd_hl f t139_66)))), some (.inl (6 + (j107_30 : Int))), some (.inl 0), some (.inl 1), some (.inl (sd_b (sd_hl f t139_66)))]) sD11_reads_178 (by decide) rfl ?_
                        refine sd_aload_n sD11_reads_180 rfl ?_
                        refine sd_dup sD11_reads_181 ?_
                        refine sd_getfi sD11_reads_182 sF11_147 sGM15_12 ?_
                        rw [show m 5492 = (q139_66 : Int) from hS.2.2.1]
                        refine sd_iload sD11_reads_185 rfl ?_
                        refine sd_if_eq (tgt := 194) sD11_reads_187 (by decide) (fun zc187 => ?_) (fun zc187 => (by exfalso; omega))
                        refine sd_iconst sD11_reads_194 (by decide) ?_
                        refine sd_iadd (z := (q139_66 : Int)) sD11_reads_195 (by omega) (by omega) ?_
                        refine sd_putfc sd_sokM sd_oneM hx sD11_reads_196 sF11_147 sGM15_12 (by decide) (Or.inl rfl) (fun m hx em196 => ?_)
                        have hk196x := sd_k2.up em196 (Or.inl rfl)
                        replace hK6 := hK6.k2 hk196x
                        replace hf : ∀ i, i < 4 → m (5504 + i) = f i := fun i hi => (hk196x _ (by omega) (by omega)).trans (hf i hi)
                        replace hg := (hk196x 5510 (by decide) (by decide)).trans hg
                        replace hgb := (hk196x 5511 (by decide) (by decide)).trans hgb
                        replace hS : sd_RS m fr n q139_66 (-1) := ⟨by rw [em196, sd_up_ne (by decide)]; exact hS.1, by rw [em196, sd_up_ne (by decide)]; exact hS.2.1, by rw [em196, sd_up_eq]; (try omega), by rw [em196, sd_up_ne (by decide)]; exact hS.2.2.2⟩
                        refine sd_iinc (y := 2) (ls' := [some (.inr 15), some (.inl pl), some (.inl mn), some (.inl w), some (.inl 1), some (.inl (c : Int)), some (.inl (sd_b ((0 + (j45_1 : Int)) = 1))), some (.inl (2 + (j68_9 : Int))), some (.inl (sd_b ((sd_hl f t139_37) ∧ (sd_hl f t139_66)))), some (.inl (6 + (j107_30 : Int))), some (.inl 0), some (.inl 2), some (.inl (sd_b (sd_hl f t139_66)))]) sD11_reads_199 rfl (by omega) (by omega) (by decide) rfl ?_
                        refine sd_goto (tgt := 127) sD11_reads_202 (by decide) ?_
                        refine sd_iload sD11_reads_127 rfl ?_
                        refine sd_iconst sD11_reads_129 (by decide) ?_
                        refine sd_icmp_ge (tgt := 205) sD11_reads_130 (by decide) (fun zc130 => (by exfalso; omega)) (fun zc130 => ?_)
                        refine sd_iload sD11_reads_133 rfl ?_
                        refine sd_if_eq (tgt := 205) sD11_reads_135 (by decide) (fun zc135 => ?_) (fun zc135 => (by exfalso; omega))
                        have hwd : sd_wd B p = .inr ((j45_1, j68_9), q68_9) := by simp only [sd_wd, hz45_1]; rw [if_pos hb62_8, hz68_9]
                        have htt : sd_tt B 3 (sd_fe B (q68_9 + 1) 7) = .inr ([t139_37, t139_66], q139_66) := by rw [hfe]; simp only [sd_tt, hz139_37, hz139_66]; simp [*]
                        have hcl : sd_cls B p = .inr ((j45_1, j68_9, [t139_37, t139_66]), q139_66) := by simp only [sd_cls, hwd]; rw [if_pos hsp2, if_pos hff, htt]
                        refine sd_aload_n sD11_reads_205 rfl ?_
                        refine sd_callVp (as := []) (st := []) (v := .inl 1) sD11_reads_206 sM11_160 sOM15 rfl rfl rfl (by decide) (Nat.le_of_ble_eq_true rfl) (cM_isGood1 fr n q139_66 _ m hx hS) (fun ho206 => ?_)
                        refine sd_if_eq (tgt := 244) sD11_reads_209 (by decide) (fun zc209 => (by exfalso; omega)) (fun zc209 => ?_)
                        refine sd_iload sD11_reads_212 rfl ?_
                        refine sd_bif_eq (tgt := 244) sD11_reads_214 (by decide) (fun zc214 => ?_) (fun zc214 => ?_)
                        ·
                          have hmt : ¬ sd_mt f w (j45_1, j68_9, [t139_37, t139_66]) := fun qm => by have qm1 : (j68_9 : Int) = w := qm.1; have qm2 := qm.2; (have qn : sd_hl f t139_37 ∧ sd_hl f t139_66 := ⟨qm2 _ (by simp), qm2 _ (by simp)⟩; contradiction)
                          rcases (show ¬ g = -1 ∨ g = -1 by omega) with hgc | hgc
                          ·
                            refine sd_iload sD11_reads_244 rfl ?_
                            refine sd_iconst sD11_reads_246 (by decide) ?_
                            refine sd_icmp_ge (tgt := 270) sD11_reads_247 (by decide) (fun zc247 => ?_) (fun zc247 => ?_)
                            ·
                              refine sd_iconst sD11_reads_270 (by decide) ?_
                              refine sd_istore (ls' := [some (.inr 15), some (.inl pl), some (.inl mn), some (.inl w), some (.inl 0), some (.inl (c : Int)), some (.inl (sd_b ((0 + (j45_1 : Int)) = 1))), some (.inl (2 + (j68_9 : Int))), some (.inl (sd_b ((sd_hl f t139_37) ∧ (sd_hl f t139_66)))), some (.inl (6 + (j107_30 : Int))), some (.inl 0), some (.inl 2), some (.inl (sd_b (sd_hl f t139_66)))]) sD11_reads_271 (by decide) rfl ?_
                              refine sd_aload_n sD11_reads_273 rfl ?_
                              refine sd_dup sD11_reads_274 ?_
                              refine sd_getfi sD11_reads_275 sF11_147 sGM15_12 ?_
                              rw [show m 5492 = (q139_66 : Int) from hS.2.2.1]
                              refine sd_iload sD11_reads_278 rfl ?_
                              refine sd_if_eq (tgt := 287) sD11_reads_280 (by decide) (fun zc280 => ?_) (fun zc280 => (by exfalso; omega))
                              refine sd_iconst sD11_reads_287 (by decide) ?_
                              refine sd_iadd (z := (q139_66 : Int)) sD11_reads_288 (by omega) (by omega) ?_
                              refine sd_putfc sd_sokM sd_oneM hx sD11_reads_289 sF11_147 sGM15_12 (by decide) (Or.inl rfl) (fun m hx em289 => ?_)
                              have hk289x := sd_k2.up em289 (Or.inl rfl)
                              replace hK6 := hK6.k2 hk289x
                              replace hf : ∀ i, i < 4 → m (5504 + i) = f i := fun i hi => (hk289x _ (by omega) (by omega)).trans (hf i hi)
                              replace hg := (hk289x 5510 (by decide) (by decide)).trans hg
                              replace hgb := (hk289x 5511 (by decide) (by decide)).trans hgb
                              replace hS : sd_RS m fr n q139_66 (-1) := ⟨by rw [em289, sd_up_ne (by decide)]; exact hS.1, by rw [em289, sd_up_ne (by decide)]; exact hS.2.1, by rw [em289, sd_up_eq]; (try omega), by rw [em289, sd_up_ne (by decide)]; exact hS.2.2.2⟩
                              refine sd_iinc (y := ((c : Int) + 1)) (ls' := [some (.inr 15), some (.inl pl), some (.inl mn), some (.inl w), some (.inl 0), some (.inl ((c : Int) + 1)), some (.inl (sd_b ((0 + (j45_1 : Int)) = 1))), some (.inl (2 + (j68_9 : Int))), some (.inl (sd_b ((sd_hl f t139_37) ∧ (sd_hl f t139_66)))), some (.inl (6 + (j107_30 : Int))), some (.inl 0), some (.inl 2), some (.inl (sd_b (sd_hl f t139_66)))]) sD11_reads_292 rfl (by omega) (by omega) (by decide) rfl ?_
                              refine sd_goto (tgt := 31) sD11_reads_295 (by decide) ?_
                              refine sd_iload sD11_reads_31 rfl ?_
                              refine sd_iconst sD11_reads_33 (by decide) ?_
                              refine sd_icmp_ge (tgt := 298) sD11_reads_34 (by decide) (fun zc34 => ?_) (fun zc34 => ?_)
                              ·
                                refine sd_aload_n sD11_reads_298 rfl ?_
                                refine sd_getfi sD11_reads_299 sF11_147 sGM15_12 ?_
                                rw [show m 5492 = (q139_66 : Int) from hS.2.2.1]
                                refine sd_aload_n sD11_reads_302 rfl ?_
                                refine sd_getfi sD11_reads_303 sF11_151 sGM15_11 ?_
                                rw [show m 5491 = (n : Int) from hS.2.1]
                                refine sd_icmp_ge (tgt := 313) sD11_reads_306 (by decide) (fun zc306 => ?_) (fun zc306 => ?_)
                                ·
                                  refine sd_vreturn sD11_reads_313 rfl (fun hm => hQ _ _ ⟨rfl, hK6, ?_⟩)
                                  exact Or.inr ⟨[(j45_1, j68_9, [t139_37, t139_66])], by simp only [sd_txt, hcl]; rw [if_pos (by omega)], hS.2.2.2, Or.inl ⟨by omega, hg, hgb⟩⟩
                                ·
                                  refine sd_aload_n sD11_reads_309 rfl ?_
                                  refine sd_callV (as := []) (st := []) sD11_reads_310 sM11_167 rfl rfl sOM15 rfl (by decide) (Nat.le_of_ble_eq_true rfl) (cM_wrong1 fr n q139_66 _ m hx hS) (fun r m hq ho310 hm => ?_)
                                  obtain ⟨rfl, hk310_71, hS⟩ := hq
                                  replace hx := hk310_71.ns hx
                                  replace hK6 := hK6.k2 hk310_71
                                  replace hf : ∀ i, i < 4 → m (5504 + i) = f i := fun i hi => (hk310_71 _ (by omega) (by omega)).trans (hf i hi)
                                  replace hg := (hk310_71 5510 (by decide) (by decide)).trans hg
                                  replace hgb := (hk310_71 5511 (by decide) (by decide)).trans hgb
                                  rcases (⟨trivial⟩ : Nonempty True) with hy310_71
                                  ·
                                    show sd_Wp sd_SM 4 sY11_reads 313 [some (.inr 15), some (.inl pl), some (.inl mn), some (.inl w), some (.inl 0), some (.inl ((c : Int) + 1)), some (.inl (sd_b ((0 + (j45_1 : Int)) = 1))), some (.inl (2 + (j68_9 : Int))), some (.inl (sd_b ((sd_hl f t139_37) ∧ (sd_hl f t139_66)))), some (.inl (6 + (j107_30 : Int))), some (.inl 0), some (.inl 2), some (.inl (sd_b (sd_hl f t139_66)))] [] m _
                                    refine sd_vreturn sD11_reads_313 rfl (fun hm => hQ _ _ ⟨rfl, hK6, ?_⟩)
                                    exact Or.inl ⟨q139_66, by simp only [sd_txt, hcl]; rw [if_neg (by omega)]; first | (rw [if_pos (by omega)]; done) | (rw [if_neg (by omega), if_neg (by assumption)]; done), hS.2.2.2⟩
                              ·
                                refine sd_iload sD11_reads_37 rfl ?_
                                refine sd_if_eq (tgt := 298) sD11_reads_39 (by decide) (fun zc39 => ?_) (fun zc39 => (by exfalso; omega))
                                refine sd_aload_n sD11_reads_298 rfl ?_
                                refine sd_getfi sD11_reads_299 sF11_147 sGM15_12 ?_
                                rw [show m 5492 = (q139_66 : Int) from hS.2.2.1]
                                refine sd_aload_n sD11_reads_302 rfl ?_
                                refine sd_getfi sD11_reads_303 sF11_151 sGM15_11 ?_
                                rw [show m 5491 = (n : Int) from hS.2.1]
                                refine sd_icmp_ge (tgt := 313) sD11_reads_306 (by decide) (fun zc306 => ?_) (fun zc306 => ?_)
                                ·
                                  refine sd_vreturn sD11_reads_313 rfl (fun hm => hQ _ _ ⟨rfl, hK6, ?_⟩)
                                  exact Or.inr ⟨[(j45_1, j68_9, [t139_37, t139_66])], by simp only [sd_txt, hcl]; rw [if_pos (by omega)], hS.2.2.2, Or.inl ⟨by omega, hg, hgb⟩⟩
                                ·
                                  refine sd_aload_n sD11_reads_309 rfl ?_
                                  refine sd_callV (as := []) (st := []) sD11_reads_310 sM11_167 rfl rfl sOM15 rfl (by decide) (Nat.le_of_ble_eq_true rfl) (cM_wrong1 fr n q139_66 _ m hx hS) (fun r m hq ho310 hm => ?_)
                                  obtain ⟨rfl, hk310_72, hS⟩ := hq
                                  replace hx := hk310_72.ns hx
                                  replace hK6 := hK6.k2 hk310_72
                                  replace hf : ∀ i, i < 4 → m (5504 + i) = f i := fun i hi => (hk310_72 _ (by omega) (by omega)).trans (hf i hi)
                                  replace hg := (hk310_72 5510 (by decide) (by decide)).trans hg
                                  replace hgb := (hk310_72 5511 (by decide) (by decide)).trans hgb
                                  rcases (⟨trivial⟩ : Nonempty True) with hy310_72
                                  ·
                                    show sd_Wp sd_SM 4 sY11_reads 313 [some (.inr 15), some (.inl pl), some (.inl mn), some (.inl w), some (.inl 0), some (.inl ((c : Int) + 1)), some (.inl (sd_b ((0 + (j45_1 : Int)) = 1))), some (.inl (2 + (j68_9 : Int))), some (.inl (sd_b ((sd_hl f t139_37) ∧ (sd_hl f t139_66)))), some (.inl (6 + (j107_30 : Int))), some (.inl 0), some (.inl 2), some (.inl (sd_b (sd_hl f t139_66)))] [] m _
                                    refine sd_vreturn sD11_reads_313 rfl (fun hm => hQ _ _ ⟨rfl, hK6, ?_⟩)
                                    exact Or.inl ⟨q139_66, by simp only [sd_txt, hcl]; rw [if_neg (by omega)]; first | (rw [if_pos (by omega)]; done) | (rw [if_neg (by omega), if_neg (by assumption)]; done), hS.2.2.2⟩
                            ·
                              refine sd_aload_n sD11_reads_250 rfl ?_
                              refine sd_callVp (as := []) (st := []) (v := .inl 1) sD11_reads_251 sM11_160 sOM15 rfl rfl rfl (by decide) (Nat.le_of_ble_eq_true rfl) (cM_isGood1 fr n q139_66 _ m hx hS) (fun ho251 => ?_)
                              refine sd_if_eq (tgt := 270) sD11_reads_254 (by decide) (fun zc254 => (by exfalso; omega)) (fun zc254 => ?_)
                              refine sd_aload_n sD11_reads_257 rfl ?_
                              refine sd_callVp (as := []) (st := []) (v := .inl (B q139_66)) sD11_reads_258 sM11_164 sOM15 rfl rfl rfl (by decide) (Nat.le_of_ble_eq_true rfl) (cM_byteAt _ fr B n q139_66 _ m hx hB hS) (fun ho258 => ?_)
                              refine sd_bipush sD11_reads_261 rfl (by decide) ?_
                              refine sd_icmp_ne (tgt := 270) sD11_reads_263 (by decide) (fun zc263 => ?_) (fun zc263 => ?_)
                              ·
                                refine sd_iconst sD11_reads_270 (by decide) ?_
                                refine sd_istore (ls' := [some (.inr 15), some (.inl pl), some (.inl mn), some (.inl w), some (.inl 0), some (.inl (c : Int)), some (.inl (sd_b ((0 + (j45_1 : Int)) = 1))), some (.inl (2 + (j68_9 : Int))), some (.inl (sd_b ((sd_hl f t139_37) ∧ (sd_hl f t139_66)))), some (.inl (6 + (j107_30 : Int))), some (.inl 0), some (.inl 2), some (.inl (sd_b (sd_hl f t139_66)))]) sD11_reads_271 (by decide) rfl ?_
                                refine sd_aload_n sD11_reads_273 rfl ?_
                                refine sd_dup sD11_reads_274 ?_
                                refine sd_getfi sD11_reads_275 sF11_147 sGM15_12 ?_
                                rw [show m 5492 = (q139_66 : Int) from hS.2.2.1]
                                refine sd_iload sD11_reads_278 rfl ?_
                                refine sd_if_eq (tgt := 287) sD11_reads_280 (by decide) (fun zc280 => ?_) (fun zc280 => (by exfalso; omega))
                                refine sd_iconst sD11_reads_287 (by decide) ?_
                                refine sd_iadd (z := (q139_66 : Int)) sD11_reads_288 (by omega) (by omega) ?_
                                refine sd_putfc sd_sokM sd_oneM hx sD11_reads_289 sF11_147 sGM15_12 (by decide) (Or.inl rfl) (fun m hx em289 => ?_)
                                have hk289x := sd_k2.up em289 (Or.inl rfl)
                                replace hK6 := hK6.k2 hk289x
                                replace hf : ∀ i, i < 4 → m (5504 + i) = f i := fun i hi => (hk289x _ (by omega) (by omega)).trans (hf i hi)
                                replace hg := (hk289x 5510 (by decide) (by decide)).trans hg
                                replace hgb := (hk289x 5511 (by decide) (by decide)).trans hgb
                                replace hS : sd_RS m fr n q139_66 (-1) := ⟨by rw [em289, sd_up_ne (by decide)]; exact hS.1, by rw [em289, sd_up_ne (by decide)]; exact hS.2.1, by rw [em289, sd_up_eq]; (try omega), by rw [em289, sd_up_ne (by decide)]; exact hS.2.2.2⟩
                                refine sd_iinc (y := ((c : Int) + 1)) (ls' := [some (.inr 15), some (.inl pl), some (.inl mn), some (.inl w), some (.inl 0), some (.inl ((c : Int) + 1)), some (.inl (sd_b ((0 + (j45_1 : Int)) = 1))), some (.inl (2 + (j68_9 : Int))), some (.inl (sd_b ((sd_hl f t139_37) ∧ (sd_hl f t139_66)))), some (.inl (6 + (j107_30 : Int))), some (.inl 0), some (.inl 2), some (.inl (sd_b (sd_hl f t139_66)))]) sD11_reads_292 rfl (by omega) (by omega) (by decide) rfl ?_
                                refine sd_goto (tgt := 31) sD11_reads_295 (by decide) ?_
                                refine sd_iload sD11_reads_31 rfl ?_
                                refine sd_iconst sD11_reads_33 (by decide) ?_
                                refine sd_icmp_ge (tgt := 298) sD11_reads_34 (by decide) (fun zc34 => ?_) (fun zc34 => ?_)
                                ·
                                  refine sd_aload_n sD11_reads_298 rfl ?_
                                  refine sd_getfi sD11_reads_299 sF11_147 sGM15_12 ?_
                                  rw [show m 5492 = (q139_66 : Int) from hS.2.2.1]
                                  refine sd_aload_n sD11_reads_302 rfl ?_
                                  refine sd_getfi sD11_reads_303 sF11_151 sGM15_11 ?_
                                  rw [show m 5491 = (n : Int) from hS.2.1]
                                  refine sd_icmp_ge (tgt := 313) sD11_reads_306 (by decide) (fun zc306 => ?_) (fun zc306 => ?_)
                                  ·
                                    refine sd_vreturn sD11_reads_313 rfl (fun hm => hQ _ _ ⟨rfl, hK6, ?_⟩)
                                    exact Or.inr ⟨[(j45_1, j68_9, [t139_37, t139_66])], by simp only [sd_txt, hcl]; rw [if_pos (by omega)], hS.2.2.2, Or.inl ⟨by omega, hg, hgb⟩⟩
                                  ·
                                    refine sd_aload_n sD11_reads_309 rfl ?_
                                    refine sd_callV (as := []) (st := []) sD11_reads_310 sM11_167 rfl rfl sOM15 rfl (by decide) (Nat.le_of_ble_eq_true rfl) (cM_wrong1 fr n q139_66 _ m hx hS) (fun r m hq ho310 hm => ?_)
                                    obtain ⟨rfl, hk310_73, hS⟩ := hq
                                    replace hx := hk310_73.ns hx
                                    replace hK6 := hK6.k2 hk310_73
                                    replace hf : ∀ i, i < 4 → m (5504 + i) = f i := fun i hi => (hk310_73 _ (by omega) (by omega)).trans (hf i hi)
                                    replace hg := (hk310_73 5510 (by decide) (by decide)).trans hg
                                    replace hgb := (hk310_73 5511 (by decide) (by decide)).trans hgb
                                    rcases (⟨trivial⟩ : Nonempty True) with hy310_73
                                    ·
                                      show sd_Wp sd_SM 4 sY11_reads 313 [some (.inr 15), some (.inl pl), some (.inl mn), some (.inl w), some (.inl 0), some (.inl ((c : Int) + 1)), some (.inl (sd_b ((0 + (j45_1 : Int)) = 1))), some (.inl (2 + (j68_9 : Int))), some (.inl (sd_b ((sd_hl f t139_37) ∧ (sd_hl f t139_66)))), some (.inl (6 + (j107_30 : Int))), some (.inl 0), some (.inl 2), some (.inl (sd_b (sd_hl f t139_66)))] [] m _
                                      refine sd_vreturn sD11_reads_313 rfl (fun hm => hQ _ _ ⟨rfl, hK6, ?_⟩)
                                      exact Or.inl ⟨q139_66, by simp only [sd_txt, hcl]; rw [if_neg (by omega)]; first | (rw [if_pos (by omega)]; done) | (rw [if_neg (by omega), if_neg (by assumption)]; done), hS.2.2.2⟩
                                ·
                                  refine sd_iload sD11_reads_37 rfl ?_
                                  refine sd_if_eq (tgt := 298) sD11_reads_39 (by decide) (fun zc39 => ?_) (fun zc39 => (by exfalso; omega))
                                  refine sd_aload_n sD11_reads_298 rfl ?_
                                  refine sd_getfi sD11_reads_299 sF11_147 sGM15_12 ?_
                                  rw [show m 5492 = (q139_66 : Int) from hS.2.2.1]
                                  refine sd_aload_n sD11_reads_302 rfl ?_
                                  refine sd_getfi sD11_reads_303 sF11_151 sGM15_11 ?_
                                  rw [show m 5491 = (n : Int) from hS.2.1]
                                  refine sd_icmp_ge (tgt := 313) sD11_reads_306 (by decide) (fun zc306 => ?_) (fun zc306 => ?_)
                                  ·
                                    refine sd_vreturn sD11_reads_313 rfl (fun hm => hQ _ _ ⟨rfl, hK6, ?_⟩)
                                    exact Or.inr ⟨[(j45_1, j68_9, [t139_37, t139_66])], by simp only [sd_txt, hcl]; rw [if_pos (by omega)], hS.2.2.2, Or.inl ⟨by omega, hg, hgb⟩⟩
                                  ·
                                    refine sd_aload_n sD11_reads_309 rfl ?_
                                    refine sd_callV (as := []) (st := []) sD11_reads_310 sM11_167 rfl rfl sOM15 rfl (by decide) (Nat.le_of_ble_eq_true rfl) (cM_wrong1 fr n q139_66 _ m hx hS) (fun r m hq ho310 hm => ?_)
                                    obtain ⟨rfl, hk310_74, hS⟩ := hq
                                    replace hx := hk310_74.ns hx
                                    replace hK6 := hK6.k2 hk310_74
                                    replace hf : ∀ i, i < 4 → m (5504 + i) = f i := fun i hi => (hk310_74 _ (by omega) (by omega)).trans (hf i hi)
                                    replace hg := (hk310_74 5510 (by decide) (by decide)).trans hg
                                    replace hgb := (hk310_74 5511 (by decide) (by decide)).trans hgb
                                    rcases (⟨trivial⟩ : Nonempty True) with hy310_74
                                    ·
                                      show sd_Wp sd_SM 4 sY11_reads 313 [some (.inr 15), some (.inl pl), some (.inl mn), some (.inl w), some (.inl 0), some (.inl ((c : Int) + 1)), some (.inl (sd_b ((0 + (j45_1 : Int)) = 1))), some (.inl (2 + (j68_9 : Int))), some (.inl (sd_b ((sd_hl f t139_37) ∧ (sd_hl f t139_66)))), some (.inl (6 + (j107_30 : Int))), some (.inl 0), some (.inl 2), some (.inl (sd_b (sd_hl f t139_66)))] [] m _
                                      refine sd_vreturn sD11_reads_313 rfl (fun hm => hQ _ _ ⟨rfl, hK6, ?_⟩)
                                      exact Or.inl ⟨q139_66, by simp only [sd_txt, hcl]; rw [if_neg (by omega)]; first | (rw [if_pos (by omega)]; done) | (rw [if_neg (by omega), if_neg (by assumption)]; done), hS.2.2.2⟩
                              ·
                                have hsm : B q139_66 = 59 := by assumption
                                have hin3 := hB.in (p := q139_66) (by omega)
                                have hn1 := hB.1
                                refine sd_iconst sD11_reads_266 (by decide) ?_
                                refine sd_goto (tgt := 271) sD11_reads_267 (by decide) ?_
                                refine sd_istore (ls' := [some (.inr 15), some (.inl pl), some (.inl mn), some (.inl w), some (.inl 1), some (.inl (c : Int)), some (.inl (sd_b ((0 + (j45_1 : Int)) = 1))), some (.inl (2 + (j68_9 : Int))), some (.inl (sd_b ((sd_hl f t139_37) ∧ (sd_hl f t139_66)))), some (.inl (6 + (j107_30 : Int))), some (.inl 0), some (.inl 2), some (.inl (sd_b (sd_hl f t139_66)))]) sD11_reads_271 (by decide) rfl ?_
                                refine sd_aload_n sD11_reads_273 rfl ?_
                                refine sd_dup sD11_reads_274 ?_
                                refine sd_getfi sD11_reads_275 sF11_147 sGM15_12 ?_
                                rw [show m 5492 = (q139_66 : Int) from hS.2.2.1]
                                refine sd_iload sD11_reads_278 rfl ?_
                                refine sd_if_eq (tgt := 287) sD11_reads_280 (by decide) (fun zc280 => (by exfalso; omega)) (fun zc280 => ?_)
                                refine sd_iconst sD11_reads_283 (by decide) ?_
                                refine sd_goto (tgt := 288) sD11_reads_284 (by decide) ?_
                                refine sd_iadd (z := ((q139_66 : Int) + 1)) sD11_reads_288 (by omega) (by omega) ?_
                                refine sd_putfc sd_sokM sd_oneM hx sD11_reads_289 sF11_147 sGM15_12 (by decide) (Or.inl rfl) (fun m hx em289 => ?_)
                                have hk289x := sd_k2.up em289 (Or.inl rfl)
                                replace hK6 := hK6.k2 hk289x
                                replace hf : ∀ i, i < 4 → m (5504 + i) = f i := fun i hi => (hk289x _ (by omega) (by omega)).trans (hf i hi)
                                replace hg := (hk289x 5510 (by decide) (by decide)).trans hg
                                replace hgb := (hk289x 5511 (by decide) (by decide)).trans hgb
                                replace hS : sd_RS m fr n (q139_66 + 1) (-1) := ⟨by rw [em289, sd_up_ne (by decide)]; exact hS.1, by rw [em289, sd_up_ne (by decide)]; exact hS.2.1, by rw [em289, sd_up_eq]; (try omega), by rw [em289, sd_up_ne (by decide)]; exact hS.2.2.2⟩
                                refine sd_iinc (y := ((c : Int) + 1)) (ls' := [some (.inr 15), some (.inl pl), some (.inl mn), some (.inl w), some (.inl 1), some (.inl ((c : Int) + 1)), some (.inl (sd_b ((0 + (j45_1 : Int)) = 1))), some (.inl (2 + (j68_9 : Int))), some (.inl (sd_b ((sd_hl f t139_37) ∧ (sd_hl f t139_66)))), some (.inl (6 + (j107_30 : Int))), some (.inl 0), some (.inl 2), some (.inl (sd_b (sd_hl f t139_66)))]) sD11_reads_292 rfl (by omega) (by omega) (by decide) rfl ?_
                                refine sd_goto (tgt := 31) sD11_reads_295 (by decide) ?_
                                refine sd_less (ls' := [some (.inr 15), some (.inl pl), some (.inl mn), some (.inl w), some (.inl 1), some (.inl ((c : Int) + 1)), none, none, none, none, none, none, none]) ?_ rfl (by intro zi zv zh; rcases zi with _ | _ | _ | _ | _ | _ | _ | _ | _ | _ | _ | _ | _ | zi <;> first | exact zh | cases zh)
                                refine sd_eqw (ls' := [some (.inr 15), some (.inl pl), some (.inl mn), some (.inl w), some (.inl 1), some (.inl ((c + 1 : Nat) : Int)), none, none, none, none, none, none, none]) ?_ (sd_cg rfl (sd_cg rfl (sd_cg rfl (sd_cg rfl (sd_cg rfl (sd_cg (sd_ce (by omega)) rfl)))))) rfl
                                exact ih (by omega) g b m (q139_66 + 1) hx hS (by omega) hK6 hf hg hgb (by omega) (fun r m2 hq => hQ r m2 (sd_rd_A hcl (by omega) (by omega) hsm (by omega) hq))
                          ·
                            refine sd_iload sD11_reads_244 rfl ?_
                            refine sd_iconst sD11_reads_246 (by decide) ?_
                            refine sd_icmp_ge (tgt := 270) sD11_reads_247 (by decide) (fun zc247 => ?_) (fun zc247 => ?_)
                            ·
                              refine sd_iconst sD11_reads_270 (by decide) ?_
                              refine sd_istore (ls' := [some (.inr 15), some (.inl pl), some (.inl mn), some (.inl w), some (.inl 0), some (.inl (c : Int)), some (.inl (sd_b ((0 + (j45_1 : Int)) = 1))), some (.inl (2 + (j68_9 : Int))), some (.inl (sd_b ((sd_hl f t139_37) ∧ (sd_hl f t139_66)))), some (.inl (6 + (j107_30 : Int))), some (.inl 0), some (.inl 2), some (.inl (sd_b (sd_hl f t139_66)))]) sD11_reads_271 (by decide) rfl ?_
                              refine sd_aload_n sD11_reads_273 rfl ?_
                              refine sd_dup sD11_reads_274 ?_
                              refine sd_getfi sD11_reads_275 sF11_147 sGM15_12 ?_
                              rw [show m 5492 = (q139_66 : Int) from hS.2.2.1]
                              refine sd_iload sD11_reads_278 rfl ?_
                              refine sd_if_eq (tgt := 287) sD11_reads_280 (by decide) (fun zc280 => ?_) (fun zc280 => (by exfalso; omega))
                              refine sd_iconst sD11_reads_287 (by decide) ?_
                              refine sd_iadd (z := (q139_66 : Int)) sD11_reads_288 (by omega) (by omega) ?_
                              refine sd_putfc sd_sokM sd_oneM hx sD11_reads_289 sF11_147 sGM15_12 (by decide) (Or.inl rfl) (fun m hx em289 => ?_)
                              have hk289x := sd_k2.up em289 (Or.inl rfl)
                              replace hK6 := hK6.k2 hk289x
                              replace hf : ∀ i, i < 4 → m (5504 + i) = f i := fun i hi => (hk289x _ (by omega) (by omega)).trans (hf i hi)
                              replace hg := (hk289x 5510 (by decide) (by decide)).trans hg
                              replace hgb := (hk289x 5511 (by decide) (by decide)).trans hgb
                              replace hS : sd_RS m fr n q139_66 (-1) := ⟨by rw [em289, sd_up_ne (by decide)]; exact hS.1, by rw [em289, sd_up_ne (by decide)]; exact hS.2.1, by rw [em289, sd_up_eq]; (try omega), by rw [em289, sd_up_ne (by decide)]; exact hS.2.2.2⟩
                              refine sd_iinc (y := ((c : Int) + 1)) (ls' := [some (.inr 15), some (.inl pl), some (.inl mn), some (.inl w), some (.inl 0), some (.inl ((c : Int) + 1)), some (.inl (sd_b ((0 + (j45_1 : Int)) = 1))), some (.inl (2 + (j68_9 : Int))), some (.inl (sd_b ((sd_hl f t139_37) ∧ (sd_hl f t139_66)))), some (.inl (6 + (j107_30 : Int))), some (.inl 0), some (.inl 2), some (.inl (sd_b (sd_hl f t139_66)))]) sD11_reads_292 rfl (by omega) (by omega) (by decide) rfl ?_
                              refine sd_goto (tgt := 31) sD11_reads_295 (by decide) ?_
                              refine sd_iload sD11_reads_31 rfl ?_
                              refine sd_iconst sD11_reads_33 (by decide) ?_
                              refine sd_icmp_ge (tgt := 298) sD11_reads_34 (by decide) (fun zc34 => ?_) (fun zc34 => ?_)
                              ·
                                refine sd_aload_n sD11_reads_298 rfl ?_
                                refine sd_getfi sD11_reads_299 sF11_147 sGM15_12 ?_
                                rw [show m 5492 = (q139_66 : Int) from hS.2.2.1]
                                refine sd_aload_n sD11_reads_302 rfl ?_
                                refine sd_getfi sD11_reads_303 sF11_151 sGM15_11 ?_
                                rw [show m 5491 = (n : Int) from hS.2.1]
                                refine sd_icmp_ge (tgt := 313) sD11_reads_306 (by decide) (fun zc306 => ?_) (fun zc306 => ?_)
                                ·
                                  refine sd_vreturn sD11_reads_313 rfl (fun hm => hQ _ _ ⟨rfl, hK6, ?_⟩)
                                  exact Or.inr ⟨[(j45_1, j68_9, [t139_37, t139_66])], by simp only [sd_txt, hcl]; rw [if_pos (by omega)], hS.2.2.2, Or.inr (Or.inl ⟨by omega, sd_fcl_n hmt, by rw [hg]; omega⟩)⟩
                                ·
                                  refine sd_aload_n sD11_reads_309 rfl ?_
                                  refine sd_callV (as := []) (st := []) sD11_reads_310 sM11_167 rfl rfl sOM15 rfl (by decide) (Nat.le_of_ble_eq_true rfl) (cM_wrong1 fr n q139_66 _ m hx hS) (fun r m hq ho310 hm => ?_)
                                  obtain ⟨rfl, hk310_75, hS⟩ := hq
                                  replace hx := hk310_75.ns hx
                                  replace hK6 := hK6.k2 hk310_75
                                  replace hf : ∀ i, i < 4 → m (5504 + i) = f i := fun i hi => (hk310_75 _ (by omega) (by omega)).trans (hf i hi)
                                  replace hg := (hk310_75 5510 (by decide) (by decide)).trans hg
                                  replace hgb := (hk310_75 5511 (by decide) (by decide)).trans hgb
                                  rcases (⟨trivial⟩ : Nonempty True) with hy310_75
                                  ·
                                    show sd_Wp sd_SM 4 sY11_reads 313 [some (.inr 15), some (.inl pl), some (.inl mn), some (.inl w), some (.inl 0), some (.inl ((c : Int) + 1)), some (.inl (sd_b ((0 + (j45_1 : Int)) = 1))), some (.inl (2 + (j68_9 : Int))), some (.inl (sd_b ((sd_hl f t139_37) ∧ (sd_hl f t139_66)))), some (.inl (6 + (j107_30 : Int))), some (.inl 0), some (.inl 2), some (.inl (sd_b (sd_hl f t139_66)))] [] m _
                                    refine sd_vreturn sD11_reads_313 rfl (fun hm => hQ _ _ ⟨rfl, hK6, ?_⟩)
                                    exact Or.inl ⟨q139_66, by simp only [sd_txt, hcl]; rw [if_neg (by omega)]; first | (rw [if_pos (by omega)]; done) | (rw [if_neg (by omega), if_neg (by assumption)]; done), hS.2.2.2⟩
                              ·
                                refine sd_iload sD11_reads_37 rfl ?_
                                refine sd_if_eq (tgt := 298) sD11_reads_39 (by decide) (fun zc39 => ?_) (fun zc39 => (by exfalso; omega))
                                refine sd_aload_n sD11_reads_298 rfl ?_
                                refine sd_getfi sD11_reads_299 sF11_147 sGM15_12 ?_
                                rw [show m 5492 = (q139_66 : Int) from hS.2.2.1]
                                refine sd_aload_n sD11_reads_302 rfl ?_
                                refine sd_getfi sD11_reads_303 sF11_151 sGM15_11 ?_
                                rw [show m 5491 = (n : Int) from hS.2.1]
                                refine sd_icmp_ge (tgt := 313) sD11_reads_306 (by decide) (fun zc306 => ?_) (fun zc306 => ?_)
                                ·
                                  refine sd_vreturn sD11_reads_313 rfl (fun hm => hQ _ _ ⟨rfl, hK6, ?_⟩)
                                  exact Or.inr ⟨[(j45_1, j68_9, [t139_37, t139_66])], by simp only [sd_txt, hcl]; rw [if_pos (by omega)], hS.2.2.2, Or.inr (Or.inl ⟨by omega, sd_fcl_n hmt, by rw [hg]; omega⟩)⟩
                                ·
                                  refine sd_aload_n sD11_reads_309 rfl ?_
                                  refine sd_callV (as := []) (st := []) sD11_reads_310 sM11_167 rfl rfl sOM15 rfl (by decide) (Nat.le_of_ble_eq_true rfl) (cM_wrong1 fr n q139_66 _ m hx hS) (fun r m hq ho310 hm => ?_)
                                  obtain ⟨rfl, hk310_76, hS⟩ := hq
                                  replace hx := hk310_76.ns hx
                                  replace hK6 := hK6.k2 hk310_76
                                  replace hf : ∀ i, i < 4 → m (5504 + i) = f i := fun i hi => (hk310_76 _ (by omega) (by omega)).trans (hf i hi)
                                  replace hg := (hk310_76 5510 (by decide) (by decide)).trans hg
                                  replace hgb := (hk310_76 5511 (by decide) (by decide)).trans hgb
                                  rcases (⟨trivial⟩ : Nonempty True) with hy310_76
                                  ·
                                    show sd_Wp sd_SM 4 sY11_reads 313 [some (.inr 15), some (.inl pl), some (.inl mn), some (.inl w), some (.inl 0), some (.inl ((c : Int) + 1)), some (.inl (sd_b ((0 + (j45_1 : Int)) = 1))), some (.inl (2 + (j68_9 : Int))), some (.inl (sd_b ((sd_hl f t139_37) ∧ (sd_hl f t139_66)))), some (.inl (6 + (j107_30 : Int))), some (.inl 0), some (.inl 2), some (.inl (sd_b (sd_hl f t139_66)))] [] m _
                                    refine sd_vreturn sD11_reads_313 rfl (fun hm => hQ _ _ ⟨rfl, hK6, ?_⟩)
                                    exact Or.inl ⟨q139_66, by simp only [sd_txt, hcl]; rw [if_neg (by omega)]; first | (rw [if_pos (by omega)]; done) | (rw [if_neg (by omega), if_neg (by assumption)]; done), hS.2.2.2⟩
                            ·
                              refine sd_aload_n sD11_reads_250 rfl ?_
                              refine sd_callVp (as := []) (st := []) (v := .inl 1) sD11_reads_251 sM11_160 sOM15 rfl rfl rfl (by decide) (Nat.le_of_ble_eq_true rfl) (cM_isGood1 fr n q139_66 _ m hx hS) (fun ho251 => ?_)
                              refine sd_if_eq (tgt := 270) sD11_reads_254 (by decide) (fun zc254 => (by exfalso; omega)) (fun zc254 => ?_)
                              refine sd_aload_n sD11_reads_257 rfl ?_
                              refine sd_callVp (as := []) (st := []) (v := .inl (B q139_66)) sD11_reads_258 sM11_164 sOM15 rfl rfl rfl (by decide) (Nat.le_of_ble_eq_true rfl) (cM_byteAt _ fr B n q139_66 _ m hx hB hS) (fun ho258 => ?_)
                              refine sd_bipush sD11_reads_261 rfl (by decide) ?_
                              refine sd_icmp_ne (tgt := 270) sD11_reads_263 (by decide) (fun zc263 => ?_) (fun zc263 => ?_)
                              ·
                                refine sd_iconst sD11_reads_270 (by decide) ?_
                                refine sd_istore (ls' := [some (.inr 15), some (.inl pl), some (.inl mn), some (.inl w), some (.inl 0), some (.inl (c : Int)), some (.inl (sd_b ((0 + (j45_1 : Int)) = 1))), some (.inl (2 + (j68_9 : Int))), some (.inl (sd_b ((sd_hl f t139_37) ∧ (sd_hl f t139_66)))), some (.inl (6 + (j107_30 : Int))), some (.inl 0), some (.inl 2), some (.inl (sd_b (sd_hl f t139_66)))]) sD11_reads_271 (by decide) rfl ?_
                                refine sd_aload_n sD11_reads_273 rfl ?_
                                refine sd_dup sD11_reads_274 ?_
                                refine sd_getfi sD11_reads_275 sF11_147 sGM15_12 ?_
                                rw [show m 5492 = (q139_66 : Int) from hS.2.2.1]
                                refine sd_iload sD11_reads_278 rfl ?_
                                refine sd_if_eq (tgt := 287) sD11_reads_280 (by decide) (fun zc280 => ?_) (fun zc280 => (by exfalso; omega))
                                refine sd_iconst sD11_reads_287 (by decide) ?_
                                refine sd_iadd (z := (q139_66 : Int)) sD11_reads_288 (by omega) (by omega) ?_
                                refine sd_putfc sd_sokM sd_oneM hx sD11_reads_289 sF11_147 sGM15_12 (by decide) (Or.inl rfl) (fun m hx em289 => ?_)
                                have hk289x := sd_k2.up em289 (Or.inl rfl)
                                replace hK6 := hK6.k2 hk289x
                                replace hf : ∀ i, i < 4 → m (5504 + i) = f i := fun i hi => (hk289x _ (by omega) (by omega)).trans (hf i hi)
                                replace hg := (hk289x 5510 (by decide) (by decide)).trans hg
                                replace hgb := (hk289x 5511 (by decide) (by decide)).trans hgb
                                replace hS : sd_RS m fr n q139_66 (-1) := ⟨by rw [em289, sd_up_ne (by decide)]; exact hS.1, by rw [em289, sd_up_ne (by decide)]; exact hS.2.1, by rw [em289, sd_up_eq]; (try omega), by rw [em289, sd_up_ne (by decide)]; exact hS.2.2.2⟩
                                refine sd_iinc (y := ((c : Int) + 1)) (ls' := [some (.inr 15), some (.inl pl), some (.inl mn), some (.inl w), some (.inl 0), some (.inl ((c : Int) + 1)), some (.inl (sd_b ((0 + (j45_1 : Int)) = 1))), some (.inl (2 + (j68_9 : Int))), some (.inl (sd_b ((sd_hl f t139_37) ∧ (sd_hl f t139_66)))), some (.inl (6 + (j107_30 : Int))), some (.inl 0), some (.inl 2), some (.inl (sd_b (sd_hl f t139_66)))]) sD11_reads_292 rfl (by omega) (by omega) (by decide) rfl ?_
                                refine sd_goto (tgt := 31) sD11_reads_295 (by decide) ?_
                                refine sd_iload sD11_reads_31 rfl ?_
                                refine sd_iconst sD11_reads_33 (by decide) ?_
                                refine sd_icmp_ge (tgt := 298) sD11_reads_34 (by decide) (fun zc34 => ?_) (fun zc34 => ?_)
                                ·
                                  refine sd_aload_n sD11_reads_298 rfl ?_
                                  refine sd_getfi sD11_reads_299 sF11_147 sGM15_12 ?_
                                  rw [show m 5492 = (q139_66 : Int) from hS.2.2.1]
                                  refine sd_aload_n sD11_reads_302 rfl ?_
                                  refine sd_getfi sD11_reads_303 sF11_151 sGM15_11 ?_
                                  rw [show m 5491 = (n : Int) from hS.2.1]
                                  refine sd_icmp_ge (tgt := 313) sD11_reads_306 (by decide) (fun zc306 => ?_) (fun zc306 => ?_)
                                  ·
                                    refine sd_vreturn sD11_reads_313 rfl (fun hm => hQ _ _ ⟨rfl, hK6, ?_⟩)
                                    exact Or.inr ⟨[(j45_1, j68_9, [t139_37, t139_66])], by simp only [sd_txt, hcl]; rw [if_pos (by omega)], hS.2.2.2, Or.inr (Or.inl ⟨by omega, sd_fcl_n hmt, by rw [hg]; omega⟩)⟩
                                  ·
                                    refine sd_aload_n sD11_reads_309 rfl ?_
                                    refine sd_callV (as := []) (st := []) sD11_reads_310 sM11_167 rfl rfl sOM15 rfl (by decide) (Nat.le_of_ble_eq_true rfl) (cM_wrong1 fr n q139_66 _ m hx hS) (fun r m hq ho310 hm => ?_)
                                    obtain ⟨rfl, hk310_77, hS⟩ := hq
                                    replace hx := hk310_77.ns hx
                                    replace hK6 := hK6.k2 hk310_77
                                    replace hf : ∀ i, i < 4 → m (5504 + i) = f i := fun i hi => (hk310_77 _ (by omega) (by omega)).trans (hf i hi)
                                    replace hg := (hk310_77 5510 (by decide) (by decide)).trans hg
                                    replace hgb := (hk310_77 5511 (by decide) (by decide)).trans hgb
                                    rcases (⟨trivial⟩ : Nonempty True) with hy310_77
                                    ·
                                      show sd_Wp sd_SM 4 sY11_reads 313 [some (.inr 15), some (.inl pl), some (.inl mn), some (.inl w), some (.inl 0), some (.inl ((c : Int) + 1)), some (.inl (sd_b ((0 + (j45_1 : Int)) = 1))), some (.inl (2 + (j68_9 : Int))), some (.inl (sd_b ((sd_hl f t139_37) ∧ (sd_hl f t139_66)))), some (.inl (6 + (j107_30 : Int))), some (.inl 0), some (.inl 2), some (.inl (sd_b (sd_hl f t139_66)))] [] m _
                                      refine sd_vreturn sD11_reads_313 rfl (fun hm => hQ _ _ ⟨rfl, hK6, ?_⟩)
                                      exact Or.inl ⟨q139_66, by simp only [sd_txt, hcl]; rw [if_neg (by omega)]; first | (rw [if_pos (by omega)]; done) | (rw [if_neg (by omega), if_neg (by assumption)]; done), hS.2.2.2⟩
                                ·
                                  refine sd_iload sD11_reads_37 rfl ?_
                                  refine sd_if_eq (tgt := 298) sD11_reads_39 (by decide) (fun zc39 => ?_) (fun zc39 => (by exfalso; omega))
                                  refine sd_aload_n sD11_reads_298 rfl ?_
                                  refine sd_getfi sD11_reads_299 sF11_147 sGM15_12 ?_
                                  rw [show m 5492 = (q139_66 : Int) from hS.2.2.1]
                                  refine sd_aload_n sD11_reads_302 rfl ?_
                                  refine sd_getfi sD11_reads_303 sF11_151 sGM15_11 ?_
                                  rw [show m 5491 = (n : Int) from hS.2.1]
                                  refine sd_icmp_ge (tgt := 313) sD11_reads_306 (by decide) (fun zc306 => ?_) (fun zc306 => ?_)
                                  ·
                                    refine sd_vreturn sD11_reads_313 rfl (fun hm => hQ _ _ ⟨rfl, hK6, ?_⟩)
                                    exact Or.inr ⟨[(j45_1, j68_9, [t139_37, t139_66])], by simp only [sd_txt, hcl]; rw [if_pos (by omega)], hS.2.2.2, Or.inr (Or.inl ⟨by omega, sd_fcl_n hmt, by rw [hg]; omega⟩)⟩
                                  ·
                                    refine sd_aload_n sD11_reads_309 rfl ?_
                                    refine sd_callV (as := []) (st := []) sD11_reads_310 sM11_167 rfl rfl sOM15 rfl (by decide) (Nat.le_of_ble_eq_true rfl) (cM_wrong1 fr n q139_66 _ m hx hS) (fun r m hq ho310 hm => ?_)
                                    obtain ⟨rfl, hk310_78, hS⟩ := hq
                                    replace hx := hk310_78.ns hx
                                    replace hK6 := hK6.k2 hk310_78
                                    replace hf : ∀ i, i < 4 → m (5504 + i) = f i := fun i hi => (hk310_78 _ (by omega) (by omega)).trans (hf i hi)
                                    replace hg := (hk310_78 5510 (by decide) (by decide)).trans hg
                                    replace hgb := (hk310_78 5511 (by decide) (by decide)).trans hgb
                                    rcases (⟨trivial⟩ : Nonempty True) with hy310_78
                                    ·
                                      show sd_Wp sd_SM 4 sY11_reads 313 [some (.inr 15), some (.inl pl), some (.inl mn), some (.inl w), some (.inl 0), some (.inl ((c : Int) + 1)), some (.inl (sd_b ((0 + (j45_1 : Int)) = 1))), some (.inl (2 + (j68_9 : Int))), some (.inl (sd_b ((sd_hl f t139_37) ∧ (sd_hl f t139_66)))), some (.inl (6 + (j107_30 : Int))), some (.inl 0), some (.inl 2), some (.inl (sd_b (sd_hl f t139_66)))] [] m _
                                      refine sd_vreturn sD11_reads_313 rfl (fun hm => hQ _ _ ⟨rfl, hK6, ?_⟩)
                                      exact Or.inl ⟨q139_66, by simp only [sd_txt, hcl]; rw [if_neg (by omega)]; first | (rw [if_pos (by omega)]; done) | (rw [if_neg (by omega), if_neg (by assumption)]; done), hS.2.2.2⟩
                              ·
                                have hsm : B q139_66 = 59 := by assumption
                                have hin3 := hB.in (p := q139_66) (by omega)
                                have hn1 := hB.1
                                refine sd_iconst sD11_reads_266 (by decide) ?_
                                refine sd_goto (tgt := 271) sD11_reads_267 (by decide) ?_
                                refine sd_istore (ls' := [some (.inr 15), some (.inl pl), some (.inl mn), some (.inl w), some (.inl 1), some (.inl (c : Int)), some (.inl (sd_b ((0 + (j45_1 : Int)) = 1))), some (.inl (2 + (j68_9 : Int))), some (.inl (sd_b ((sd_hl f t139_37) ∧ (sd_hl f t139_66)))), some (.inl (6 + (j107_30 : Int))), some (.inl 0), some (.inl 2), some (.inl (sd_b (sd_hl f t139_66)))]) sD11_reads_271 (by decide) rfl ?_
                                refine sd_aload_n sD11_reads_273 rfl ?_
                                refine sd_dup sD11_reads_274 ?_
                                refine sd_getfi sD11_reads_275 sF11_147 sGM15_12 ?_
                                rw [show m 5492 = (q139_66 : Int) from hS.2.2.1]
                                refine sd_iload sD11_reads_278 rfl ?_
                                refine sd_if_eq (tgt := 287) sD11_reads_280 (by decide) (fun zc280 => (by exfalso; omega)) (fun zc280 => ?_)
                                refine sd_iconst sD11_reads_283 (by decide) ?_
                                refine sd_goto (tgt := 288) sD11_reads_284 (by decide) ?_
                                refine sd_iadd (z := ((q139_66 : Int) + 1)) sD11_reads_288 (by omega) (by omega) ?_
                                refine sd_putfc sd_sokM sd_oneM hx sD11_reads_289 sF11_147 sGM15_12 (by decide) (Or.inl rfl) (fun m hx em289 => ?_)
                                have hk289x := sd_k2.up em289 (Or.inl rfl)
                                replace hK6 := hK6.k2 hk289x
                                replace hf : ∀ i, i < 4 → m (5504 + i) = f i := fun i hi => (hk289x _ (by omega) (by omega)).trans (hf i hi)
                                replace hg := (hk289x 5510 (by decide) (by decide)).trans hg
                                replace hgb := (hk289x 5511 (by decide) (by decide)).trans hgb
                                replace hS : sd_RS m fr n (q139_66 + 1) (-1) := ⟨by rw [em289, sd_up_ne (by decide)]; exact hS.1, by rw [em289, sd_up_ne (by decide)]; exact hS.2.1, by rw [em289, sd_up_eq]; (try omega), by rw [em289, sd_up_ne (by decide)]; exact hS.2.2.2⟩
                                refine sd_iinc (y := ((c : Int) + 1)) (ls' := [some (.inr 15), some (.inl pl), some (.inl mn), some (.inl w), some (.inl 1), some (.inl ((c : Int) + 1)), some (.inl (sd_b ((0 + (j45_1 : Int)) = 1))), some (.inl (2 + (j68_9 : Int))), some (.inl (sd_b ((sd_hl f t139_37) ∧ (sd_hl f t139_66)))), some (.inl (6 + (j107_30 : Int))), some (.inl 0), some (.inl 2), some (.inl (sd_b (sd_hl f t139_66)))]) sD11_reads_292 rfl (by omega) (by omega) (by decide) rfl ?_
                                refine sd_goto (tgt := 31) sD11_reads_295 (by decide) ?_
                                refine sd_less (ls' := [some (.inr 15), some (.inl pl), some (.inl mn), some (.inl w), some (.inl 1), some (.inl ((c : Int) + 1)), none, none, none, none, none, none, none]) ?_ rfl (by intro zi zv zh; rcases zi with _ | _ | _ | _ | _ | _ | _ | _ | _ | _ | _ | _ | _ | zi <;> first | exact zh | cases zh)
                                refine sd_eqw (ls' := [some (.inr 15), some (.inl pl), some (.inl mn), some (.inl w), some (.inl 1), some (.inl ((c + 1 : Nat) : Int)), none, none, none, none, none, none, none]) ?_ (sd_cg rfl (sd_cg rfl (sd_cg rfl (sd_cg rfl (sd_cg rfl (sd_cg (sd_ce (by omega)) rfl)))))) rfl
                                exact ih (by omega) g b m (q139_66 + 1) hx hS (by omega) hK6 hf hg hgb (by omega) (fun r m2 hq => hQ r m2 (sd_rd_C hcl (by omega) (by omega) hsm (by omega) hmt hq))
                        ·
                          refine sd_iload sD11_reads_217 rfl ?_
                          refine sd_iconst sD11_reads_219 (by decide) ?_
                          refine sd_isub (z := (j68_9 : Int)) sD11_reads_220 (by omega) (by omega) ?_
                          refine sd_iload_n sD11_reads_221 rfl ?_
                          refine sd_icmp_ne (tgt := 244) sD11_reads_222 (by decide) (fun zc222 => ?_) (fun zc222 => ?_)
                          ·
                            have hmt : ¬ sd_mt f w (j45_1, j68_9, [t139_37, t139_66]) := fun qm => by have qm1 : (j68_9 : Int) = w := qm.1; have qm2 := qm.2; omega
                            rcases (show ¬ g = -1 ∨ g = -1 by omega) with hgc | hgc
                            ·
                              refine sd_iload sD11_reads_244 rfl ?_
                              refine sd_iconst sD11_reads_246 (by decide) ?_
                              refine sd_icmp_ge (tgt := 270) sD11_reads_247 (by decide) (fun zc247 => ?_) (fun zc247 => ?_)
                              ·
                                refine sd_iconst sD11_reads_270 (by decide) ?_
                                refine sd_istore (ls' := [some (.inr 15), some (.inl pl), some (.inl mn), some (.inl w), some (.inl 0), some (.inl (c : Int)), some (.inl (sd_b ((0 + (j45_1 : Int)) = 1))), some (.inl (2 + (j68_9 : Int))), some (.inl (sd_b ((sd_hl f t139_37) ∧ (sd_hl f t139_66)))), some (.inl (6 + (j107_30 : Int))), some (.inl 0), some (.inl 2), some (.inl (sd_b (sd_hl f t139_66)))]) sD11_reads_271 (by decide) rfl ?_
                                refine sd_aload_n sD11_reads_273 rfl ?_
                                refine sd_dup sD11_reads_274 ?_
                                refine sd_getfi sD11_reads_275 sF11_147 sGM15_12 ?_
                                rw [show m 5492 = (q139_66 : Int) from hS.2.2.1]
                                refine sd_iload sD11_reads_278 rfl ?_
                                refine sd_if_eq (tgt := 287) sD11_reads_280 (by decide) (fun zc280 => ?_) (fun zc280 => (by exfalso; omega))
                                refine sd_iconst sD11_reads_287 (by decide) ?_
                                refine sd_iadd (z := (q139_66 : Int)) sD11_reads_288 (by omega) (by omega) ?_
                                refine sd_putfc sd_sokM sd_oneM hx sD11_reads_289 sF11_147 sGM15_12 (by decide) (Or.inl rfl) (fun m hx em289 => ?_)
                                have hk289x := sd_k2.up em289 (Or.inl rfl)
                                replace hK6 := hK6.k2 hk289x
                                replace hf : ∀ i, i < 4 → m (5504 + i) = f i := fun i hi => (hk289x _ (by omega) (by omega)).trans (hf i hi)
                                replace hg := (hk289x 5510 (by decide) (by decide)).trans hg
                                replace hgb := (hk289x 5511 (by decide) (by decide)).trans hgb
                                replace hS : sd_RS m fr n q139_66 (-1) := ⟨by rw [em289, sd_up_ne (by decide)]; exact hS.1, by rw [em289, sd_up_ne (by decide)]; exact hS.2.1, by rw [em289, sd_up_eq]; (try omega), by rw [em289, sd_up_ne (by decide)]; exact hS.2.2.2⟩
                                refine sd_iinc (y := ((c : Int) + 1)) (ls' := [some (.inr 15), some (.inl pl), some (.inl mn), some (.inl w), some (.inl 0), some (.inl ((c : Int) + 1)), some (.inl (sd_b ((0 + (j45_1 : Int)) = 1))), some (.inl (2 + (j68_9 : Int))), some (.inl (sd_b ((sd_hl f t139_37) ∧ (sd_hl f t139_66)))), some (.inl (6 + (j107_30 : Int))), some (.inl 0), some (.inl 2), some (.inl (sd_b (sd_hl f t139_66)))]) sD11_reads_292 rfl (by omega) (by omega) (by decide) rfl ?_
                                refine sd_goto (tgt := 31) sD11_reads_295 (by decide) ?_
                                refine sd_iload sD11_reads_31 rfl ?_
                                refine sd_iconst sD11_reads_33 (by decide) ?_
                                refine sd_icmp_ge (tgt := 298) sD11_reads_34 (by decide) (fun zc34 => ?_) (fun zc34 => ?_)
                                ·
                                  refine sd_aload_n sD11_reads_298 rfl ?_
                                  refine sd_getfi sD11_reads_299 sF11_147 sGM15_12 ?_
                                  rw [show m 5492 = (q139_66 : Int) from hS.2.2.1]
                                  refine sd_aload_n sD11_reads_302 rfl ?_
                                  refine sd_getfi sD11_reads_303 sF11_151 sGM15_11 ?_
                                  rw [show m 5491 = (n : Int) from hS.2.1]
                                  refine sd_icmp_ge (tgt := 313) sD11_reads_306 (by decide) (fun zc306 => ?_) (fun zc306 => ?_)
                                  ·
                                    refine sd_vreturn sD11_reads_313 rfl (fun hm => hQ _ _ ⟨rfl, hK6, ?_⟩)
                                    exact Or.inr ⟨[(j45_1, j68_9, [t139_37, t139_66])], by simp only [sd_txt, hcl]; rw [if_pos (by omega)], hS.2.2.2, Or.inl ⟨by omega, hg, hgb⟩⟩
                                  ·
                                    refine sd_aload_n sD11_reads_309 rfl ?_
                                    refine sd_callV (as := []) (st := []) sD11_reads_310 sM11_167 rfl rfl sOM15 rfl (by decide) (Nat.le_of_ble_eq_true rfl) (cM_wrong1 fr n q139_66 _ m hx hS) (fun r m hq ho310 hm => ?_)
                                    obtain ⟨rfl, hk310_79, hS⟩ := hq
                                    replace hx := hk310_79.ns hx
                                    replace hK6 := hK6.k2 hk310_79
                                    replace hf : ∀ i, i < 4 → m (5504 + i) = f i := fun i hi => (hk310_79 _ (by omega) (by omega)).trans (hf i hi)
                                    replace hg := (hk310_79 5510 (by decide) (by decide)).trans hg
                                    replace hgb := (hk310_79 5511 (by decide) (by decide)).trans hgb
                                    rcases (⟨trivial⟩ : Nonempty True) with hy310_79
                                    ·
                                      show sd_Wp sd_SM 4 sY11_reads 313 [some (.inr 15), some (.inl pl), some (.inl mn), some (.inl w), some (.inl 0), some (.inl ((c : Int) + 1)), some (.inl (sd_b ((0 + (j45_1 : Int)) = 1))), some (.inl (2 + (j68_9 : Int))), some (.inl (sd_b ((sd_hl f t139_37) ∧ (sd_hl f t139_66)))), some (.inl (6 + (j107_30 : Int))), some (.inl 0), some (.inl 2), some (.inl (sd_b (sd_hl f t139_66)))] [] m _
                                      refine sd_vreturn sD11_reads_313 rfl (fun hm => hQ _ _ ⟨rfl, hK6, ?_⟩)
                                      exact Or.inl ⟨q139_66, by simp only [sd_txt, hcl]; rw [if_neg (by omega)]; first | (rw [if_pos (by omega)]; done) | (rw [if_neg (by omega), if_neg (by assumption)]; done), hS.2.2.2⟩
                                ·
                                  refine sd_iload sD11_reads_37 rfl ?_
                                  refine sd_if_eq (tgt := 298) sD11_reads_39 (by decide) (fun zc39 => ?_) (fun zc39 => (by exfalso; omega))
                                  refine sd_aload_n sD11_reads_298 rfl ?_
                                  refine sd_getfi sD11_reads_299 sF11_147 sGM15_12 ?_
                                  rw [show m 5492 = (q139_66 : Int) from hS.2.2.1]
                                  refine sd_aload_n sD11_reads_302 rfl ?_
                                  refine sd_getfi sD11_reads_303 sF11_151 sGM15_11 ?_
                                  rw [show m 5491 = (n : Int) from hS.2.1]
                                  refine sd_icmp_ge (tgt := 313) sD11_reads_306 (by decide) (fun zc306 => ?_) (fun zc306 => ?_)
                                  ·
                                    refine sd_vreturn sD11_reads_313 rfl (fun hm => hQ _ _ ⟨rfl, hK6, ?_⟩)
                                    exact Or.inr ⟨[(j45_1, j68_9, [t139_37, t139_66])], by simp only [sd_txt, hcl]; rw [if_pos (by omega)], hS.2.2.2, Or.inl ⟨by omega, hg, hgb⟩⟩
                                  ·
                                    refine sd_aload_n sD11_reads_309 rfl ?_
                                    refine sd_callV (as := []) (st := []) sD11_reads_310 sM11_167 rfl rfl sOM15 rfl (by decide) (Nat.le_of_ble_eq_true rfl) (cM_wrong1 fr n q139_66 _ m hx hS) (fun r m hq ho310 hm => ?_)
                                    obtain ⟨rfl, hk310_80, hS⟩ := hq
                                    replace hx := hk310_80.ns hx
                                    replace hK6 := hK6.k2 hk310_80
                                    replace hf : ∀ i, i < 4 → m (5504 + i) = f i := fun i hi => (hk310_80 _ (by omega) (by omega)).trans (hf i hi)
                                    replace hg := (hk310_80 5510 (by decide) (by decide)).trans hg
                                    replace hgb := (hk310_80 5511 (by decide) (by decide)).trans hgb
                                    rcases (⟨trivial⟩ : Nonempty True) with hy310_80
                                    ·
                                      show sd_Wp sd_SM 4 sY11_reads 313 [some (.inr 15), some (.inl pl), some (.inl mn), some (.inl w), some (.inl 0), some (.inl ((c : Int) + 1)), some (.inl (sd_b ((0 + (j45_1 : Int)) = 1))), some (.inl (2 + (j68_9 : Int))), some (.inl (sd_b ((sd_hl f t139_37) ∧ (sd_hl f t139_66)))), some (.inl (6 + (j107_30 : Int))), some (.inl 0), some (.inl 2), some (.inl (sd_b (sd_hl f t139_66)))] [] m _
                                      refine sd_vreturn sD11_reads_313 rfl (fun hm => hQ _ _ ⟨rfl, hK6, ?_⟩)
                                      exact Or.inl ⟨q139_66, by simp only [sd_txt, hcl]; rw [if_neg (by omega)]; first | (rw [if_pos (by omega)]; done) | (rw [if_neg (by omega), if_neg (by assumption)]; done), hS.2.2.2⟩
                              ·
                                refine sd_aload_n sD11_reads_250 rfl ?_
                                refine sd_callVp (as := []) (st := []) (v := .inl 1) sD11_reads_251 sM11_160 sOM15 rfl rfl rfl (by decide) (Nat.le_of_ble_eq_true rfl) (cM_isGood1 fr n q139_66 _ m hx hS) (fun ho251 => ?_)
                                refine sd_if_eq (tgt := 270) sD11_reads_254 (by decide) (fun zc254 => (by exfalso; omega)) (fun zc254 => ?_)
                                refine sd_aload_n sD11_reads_257 rfl ?_
                                refine sd_callVp (as := []) (st := []) (v := .inl (B q139_66)) sD11_reads_258 sM11_164 sOM15 rfl rfl rfl (by decide) (Nat.le_of_ble_eq_true rfl) (cM_byteAt _ fr B n q139_66 _ m hx hB hS) (fun ho258 => ?_)
                                refine sd_bipush sD11_reads_261 rfl (by decide) ?_
                                refine sd_icmp_ne (tgt := 270) sD11_reads_263 (by decide) (fun zc263 => ?_) (fun zc263 => ?_)
                                ·
                                  refine sd_iconst sD11_reads_270 (by decide) ?_
                                  refine sd_istore (ls' := [some (.inr 15), some (.inl pl), some (.inl mn), some (.inl w), some (.inl 0), some (.inl (c : Int)), some (.inl (sd_b ((0 + (j45_1 : Int)) = 1))), some (.inl (2 + (j68_9 : Int))), some (.inl (sd_b ((sd_hl f t139_37) ∧ (sd_hl f t139_66)))), some (.inl (6 + (j107_30 : Int))), some (.inl 0), some (.inl 2), some (.inl (sd_b (sd_hl f t139_66)))]) sD11_reads_271 (by decide) rfl ?_
                                  refine sd_aload_n sD11_reads_273 rfl ?_
                                  refine sd_dup sD11_reads_274 ?_
                                  refine sd_getfi sD11_reads_275 sF11_147 sGM15_12 ?_
                                  rw [show m 5492 = (q139_66 : Int) from hS.2.2.1]
                                  refine sd_iload sD11_reads_278 rfl ?_
                                  refine sd_if_eq (tgt := 287) sD11_reads_280 (by decide) (fun zc280 => ?_) (fun zc280 => (by exfalso; omega))
                                  refine sd_iconst sD11_reads_287 (by decide) ?_
                                  refine sd_iadd (z := (q139_66 : Int)) sD11_reads_288 (by omega) (by omega) ?_
                                  refine sd_putfc sd_sokM sd_oneM hx sD11_reads_289 sF11_147 sGM15_12 (by decide) (Or.inl rfl) (fun m hx em289 => ?_)
                                  have hk289x := sd_k2.up em289 (Or.inl rfl)
                                  replace hK6 := hK6.k2 hk289x
                                  replace hf : ∀ i, i < 4 → m (5504 + i) = f i := fun i hi => (hk289x _ (by omega) (by omega)).trans (hf i hi)
                                  replace hg := (hk289x 5510 (by decide) (by decide)).trans hg
                                  replace hgb := (hk289x 5511 (by decide) (by decide)).trans hgb
                                  replace hS : sd_RS m fr n q139_66 (-1) := ⟨by rw [em289, sd_up_ne (by decide)]; exact hS.1, by rw [em289, sd_up_ne (by decide)]; exact hS.2.1, by rw [em289, sd_up_eq]; (try omega), by rw [em289, sd_up_ne (by decide)]; exact hS.2.2.2⟩
                                  refine sd_iinc (y := ((c : Int) + 1)) (ls' := [some (.inr 15), some (.inl pl), some (.inl mn), some (.inl w), some (.inl 0), some (.inl ((c : Int) + 1)), some (.inl (sd_b ((0 + (j45_1 : Int)) = 1))), some (.inl (2 + (j68_9 : Int))), some (.inl (sd_b ((sd_hl f t139_37) ∧ (sd_hl f t139_66)))), some (.inl (6 + (j107_30 : Int))), some (.inl 0), some (.inl 2), some (.inl (sd_b (sd_hl f t139_66)))]) sD11_reads_292 rfl (by omega) (by omega) (by decide) rfl ?_
                                  refine sd_goto (tgt := 31) sD11_reads_295 (by decide) ?_
                                  refine sd_iload sD11_reads_31 rfl ?_
                                  refine sd_iconst sD11_reads_33 (by decide) ?_
                                  refine sd_icmp_ge (tgt := 298) sD11_reads_34 (by decide) (fun zc34 => ?_) (fun zc34 => ?_)
                                  ·
                                    refine sd_aload_n sD11_reads_298 rfl ?_
                                    refine sd_getfi sD11_reads_299 sF11_147 sGM15_12 ?_
                                    rw [show m 5492 = (q139_66 : Int) from hS.2.2.1]
                                    refine sd_aload_n sD11_reads_302 rfl ?_
                                    refine sd_getfi sD11_reads_303 sF11_151 sGM15_11 ?_
                                    rw [show m 5491 = (n : Int) from hS.2.1]
                                    refine sd_icmp_ge (tgt := 313) sD11_reads_306 (by decide) (fun zc306 => ?_) (fun zc306 => ?_)
                                    ·
                                      refine sd_vreturn sD11_reads_313 rfl (fun hm => hQ _ _ ⟨rfl, hK6, ?_⟩)
                                      exact Or.inr ⟨[(j45_1, j68_9, [t139_37, t139_66])], by simp only [sd_txt, hcl]; rw [if_pos (by omega)], hS.2.2.2, Or.inl ⟨by omega, hg, hgb⟩⟩
                                    ·
                                      refine sd_aload_n sD11_reads_309 rfl ?_
                                      refine sd_callV (as := []) (st := []) sD11_reads_310 sM11_167 rfl rfl sOM15 rfl (by decide) (Nat.le_of_ble_eq_true rfl) (cM_wrong1 fr n q139_66 _ m hx hS) (fun r m hq ho310 hm => ?_)
                                      obtain ⟨rfl, hk310_81, hS⟩ := hq
                                      replace hx := hk310_81.ns hx
                                      replace hK6 := hK6.k2 hk310_81
                                      replace hf : ∀ i, i < 4 → m (5504 + i) = f i := fun i hi => (hk310_81 _ (by omega) (by omega)).trans (hf i hi)
                                      replace hg := (hk310_81 5510 (by decide) (by decide)).trans hg
                                      replace hgb := (hk310_81 5511 (by decide) (by decide)).trans hgb
                                      rcases (⟨trivial⟩ : Nonempty True) with hy310_81
                                      ·
                                        show sd_Wp sd_SM 4 sY11_reads 313 [some (.inr 15), some (.inl pl), some (.inl mn), some (.inl w), some (.inl 0), some (.inl ((c : Int) + 1)), some (.inl (sd_b ((0 + (j45_1 : Int)) = 1))), some (.inl (2 + (j68_9 : Int))), some (.inl (sd_b ((sd_hl f t139_37) ∧ (sd_hl f t139_66)))), some (.inl (6 + (j107_30 : Int))), some (.inl 0), some (.inl 2), some (.inl (sd_b (sd_hl f t139_66)))] [] m _
                                        refine sd_vreturn sD11_reads_313 rfl (fun hm => hQ _ _ ⟨rfl, hK6, ?_⟩)
                                        exact Or.inl ⟨q139_66, by simp only [sd_txt, hcl]; rw [if_neg (by omega)]; first | (rw [if_pos (by omega)]; done) | (rw [if_neg (by omega), if_neg (by assumption)]; done), hS.2.2.2⟩
                                  ·
                                    refine sd_iload sD11_reads_37 rfl ?_
                                    refine sd_if_eq (tgt := 298) sD11_reads_39 (by decide) (fun zc39 => ?_) (fun zc39 => (by exfalso; omega))
                                    refine sd_aload_n sD11_reads_298 rfl ?_
                                    refine sd_getfi sD11_reads_299 sF11_147 sGM15_12 ?_
                                    rw [show m 5492 = (q139_66 : Int) from hS.2.2.1]
                                    refine sd_aload_n sD11_reads_302 rfl ?_
                                    refine sd_getfi sD11_reads_303 sF11_151 sGM15_11 ?_
                                    rw [show m 5491 = (n : Int) from hS.2.1]
                                    refine sd_icmp_ge (tgt := 313) sD11_reads_306 (by decide) (fun zc306 => ?_) (fun zc306 => ?_)
                                    ·
                                      refine sd_vreturn sD11_reads_313 rfl (fun hm => hQ _ _ ⟨rfl, hK6, ?_⟩)
                                      exact Or.inr ⟨[(j45_1, j68_9, [t139_37, t139_66])], by simp only [sd_txt, hcl]; rw [if_pos (by omega)], hS.2.2.2, Or.inl ⟨by omega, hg, hgb⟩⟩
                                    ·
                                      refine sd_aload_n sD11_reads_309 rfl ?_
                                      refine sd_callV (as := []) (st := []) sD11_reads_310 sM11_167 rfl rfl sOM15 rfl (by decide) (Nat.le_of_ble_eq_true rfl) (cM_wrong1 fr n q139_66 _ m hx hS) (fun r m hq ho310 hm => ?_)
                                      obtain ⟨rfl, hk310_82, hS⟩ := hq
                                      replace hx := hk310_82.ns hx
                                      replace hK6 := hK6.k2 hk310_82
                                      replace hf : ∀ i, i < 4 → m (5504 + i) = f i := fun i hi => (hk310_82 _ (by omega) (by omega)).trans (hf i hi)
                                      replace hg := (hk310_82 5510 (by decide) (by decide)).trans hg
                                      replace hgb := (hk310_82 5511 (by decide) (by decide)).trans hgb
                                      rcases (⟨trivial⟩ : Nonempty True) with hy310_82
                                      ·
                                        show sd_Wp sd_SM 4 sY11_reads 313 [some (.inr 15), some (.inl pl), some (.inl mn), some (.inl w), some (.inl 0), some (.inl ((c : Int) + 1)), some (.inl (sd_b ((0 + (j45_1 : Int)) = 1))), some (.inl (2 + (j68_9 : Int))), some (.inl (sd_b ((sd_hl f t139_37) ∧ (sd_hl f t139_66)))), some (.inl (6 + (j107_30 : Int))), some (.inl 0), some (.inl 2), some (.inl (sd_b (sd_hl f t139_66)))] [] m _
                                        refine sd_vreturn sD11_reads_313 rfl (fun hm => hQ _ _ ⟨rfl, hK6, ?_⟩)
                                        exact Or.inl ⟨q139_66, by simp only [sd_txt, hcl]; rw [if_neg (by omega)]; first | (rw [if_pos (by omega)]; done) | (rw [if_neg (by omega), if_neg (by assumption)]; done), hS.2.2.2⟩
                                ·
                                  have hsm : B q139_66 = 59 := by assumption
                                  have hin3 := hB.in (p := q139_66) (by omega)
                                  have hn1 := hB.1
                                  refine sd_iconst sD11_reads_266 (by decide) ?_
                                  refine sd_goto (tgt := 271) sD11_reads_267 (by decide) ?_
                                  refine sd_istore (ls' := [some (.inr 15), some (.inl pl), some (.inl mn), some (.inl w), some (.inl 1), some (.inl (c : Int)), some (.inl (sd_b ((0 + (j45_1 : Int)) = 1))), some (.inl (2 + (j68_9 : Int))), some (.inl (sd_b ((sd_hl f t139_37) ∧ (sd_hl f t139_66)))), some (.inl (6 + (j107_30 : Int))), some (.inl 0), some (.inl 2), some (.inl (sd_b (sd_hl f t139_66)))]) sD11_reads_271 (by decide) rfl ?_
                                  refine sd_aload_n sD11_reads_273 rfl ?_
                                  refine sd_dup sD11_reads_274 ?_
                                  refine sd_getfi sD11_reads_275 sF11_147 sGM15_12 ?_
                                  rw [show m 5492 = (q139_66 : Int) from hS.2.2.1]
                                  refine sd_iload sD11_reads_278 rfl ?_
                                  refine sd_if_eq (tgt := 287) sD11_reads_280 (by decide) (fun zc280 => (by exfalso; omega)) (fun zc280 => ?_)
                                  refine sd_iconst sD11_reads_283 (by decide) ?_
                                  refine sd_goto (tgt := 288) sD11_reads_284 (by decide) ?_
                                  refine sd_iadd (z := ((q139_66 : Int) + 1)) sD11_reads_288 (by omega) (by omega) ?_
                                  refine sd_putfc sd_sokM sd_oneM hx sD11_reads_289 sF11_147 sGM15_12 (by decide) (Or.inl rfl) (fun m hx em289 => ?_)
                                  have hk289x := sd_k2.up em289 (Or.inl rfl)
                                  replace hK6 := hK6.k2 hk289x
                                  replace hf : ∀ i, i < 4 → m (5504 + i) = f i := fun i hi => (hk289x _ (by omega) (by omega)).trans (hf i hi)
                                  replace hg := (hk289x 5510 (by decide) (by decide)).trans hg
                                  replace hgb := (hk289x 5511 (by decide) (by decide)).trans hgb
                                  replace hS : sd_RS m fr n (q139_66 + 1) (-1) := ⟨by rw [em289, sd_up_ne (by decide)]; exact hS.1, by rw [em289, sd_up_ne (by decide)]; exact hS.2.1, by rw [em289, sd_up_eq]; (try omega), by rw [em289, sd_up_ne (by decide)]; exact hS.2.2.2⟩
                                  refine sd_iinc (y := ((c : Int) + 1)) (ls' := [some (.inr 15), some (.inl pl), some (.inl mn), some (.inl w), some (.inl 1), some (.inl ((c : Int) + 1)), some (.inl (sd_b ((0 + (j45_1 : Int)) = 1))), some (.inl (2 + (j68_9 : Int))), some (.inl (sd_b ((sd_hl f t139_37) ∧ (sd_hl f t139_66)))), some (.inl (6 + (j107_30 : Int))), some (.inl 0), some (.inl 2), some (.inl (sd_b (sd_hl f t139_66)))]) sD11_reads_292 rfl (by omega) (by omega) (by decide) rfl ?_
                                  refine sd_goto (tgt := 31) sD11_reads_295 (by decide) ?_
                                  refine sd_less (ls' := [some (.inr 15), some (.inl pl), some (.inl mn), some (.inl w), some (.inl 1), some (.inl ((c : Int) + 1)), none, none, none, none, none, none, none]) ?_ rfl (by intro zi zv zh; rcases zi with _ | _ | _ | _ | _ | _ | _ | _ | _ | _ | _ | _ | _ | zi <;> first | exact zh | cases zh)
                                  refine sd_eqw (ls' := [some (.inr 15), some (.inl pl), some (.inl mn), some (.inl w), some (.inl 1), some (.inl ((c + 1 : Nat) : Int)), none, none, none, none, none, none, none]) ?_ (sd_cg rfl (sd_cg rfl (sd_cg rfl (sd_cg rfl (sd_cg rfl (sd_cg (sd_ce (by omega)) rfl)))))) rfl
                                  exact ih (by omega) g b m (q139_66 + 1) hx hS (by omega) hK6 hf hg hgb (by omega) (fun r m2 hq => hQ r m2 (sd_rd_A hcl (by omega) (by omega) hsm (by omega) hq))
                            ·
                              refine sd_iload sD11_reads_244 rfl ?_
                              refine sd_iconst sD11_reads_246 (by decide) ?_
                              refine sd_icmp_ge (tgt := 270) sD11_reads_247 (by decide) (fun zc247 => ?_) (fun zc247 => ?_)
                              ·
                                refine sd_iconst sD11_reads_270 (by decide) ?_
                                refine sd_istore (ls' := [some (.inr 15), some (.inl pl), some (.inl mn), some (.inl w), some (.inl 0), some (.inl (c : Int)), some (.inl (sd_b ((0 + (j45_1 : Int)) = 1))), some (.inl (2 + (j68_9 : Int))), some (.inl (sd_b ((sd_hl f t139_37) ∧ (sd_hl f t139_66)))), some (.inl (6 + (j107_30 : Int))), some (.inl 0), some (.inl 2), some (.inl (sd_b (sd_hl f t139_66)))]) sD11_reads_271 (by decide) rfl ?_
                                refine sd_aload_n sD11_reads_273 rfl ?_
                                refine sd_dup sD11_reads_274 ?_
                                refine sd_getfi sD11_reads_275 sF11_147 sGM15_12 ?_
                                rw [show m 5492 = (q139_66 : Int) from hS.2.2.1]
                                refine sd_iload sD11_reads_278 rfl ?_
                                refine sd_if_eq (tgt := 287) sD11_reads_280 (by decide) (fun zc280 => ?_) (fun zc280 => (by exfalso; omega))
                                refine sd_iconst sD11_reads_287 (by decide) ?_
                                refine sd_iadd (z := (q139_66 : Int)) sD11_reads_288 (by omega) (by omega) ?_
                                refine sd_putfc sd_sokM sd_oneM hx sD11_reads_289 sF11_147 sGM15_12 (by decide) (Or.inl rfl) (fun m hx em289 => ?_)
                                have hk289x := sd_k2.up em289 (Or.inl rfl)
                                replace hK6 := hK6.k2 hk289x
                                replace hf : ∀ i, i < 4 → m (5504 + i) = f i := fun i hi => (hk289x _ (by omega) (by omega)).trans (hf i hi)
                                replace hg := (hk289x 5510 (by decide) (by decide)).trans hg
                                replace hgb := (hk289x 5511 (by decide) (by decide)).trans hgb
                                replace hS : sd_RS m fr n q139_66 (-1) := ⟨by rw [em289, sd_up_ne (by decide)]; exact hS.1, by rw [em289, sd_up_ne (by decide)]; exact hS.2.1, by rw [em289, sd_up_eq]; (try omega), by rw [em289, sd_up_ne (by decide)]; exact hS.2.2.2⟩
                                refine sd_iinc (y := ((c : Int) + 1)) (ls' := [some (.inr 15), some (.inl pl), some (.inl mn), some (.inl w), some (.inl 0), some (.inl ((c : Int) + 1)), some (.inl (sd_b ((0 + (j45_1 : Int)) = 1))), some (.inl (2 + (j68_9 : Int))), some (.inl (sd_b ((sd_hl f t139_37) ∧ (sd_hl f t139_66)))), some (.inl (6 + (j107_30 : Int))), some (.inl 0), some (.inl 2), some (.inl (sd_b (sd_hl f t139_66)))]) sD11_reads_292 rfl (by omega) (by omega) (by decide) rfl ?_
                                refine sd_goto (tgt := 31) sD11_reads_295 (by decide) ?_
                                refine sd_iload sD11_reads_31 rfl ?_
                                refine sd_iconst sD11_reads_33 (by decide) ?_
                                refine sd_icmp_ge (tgt := 298) sD11_reads_34 (by decide) (fun zc34 => ?_) (fun zc34 => ?_)
                                ·
                                  refine sd_aload_n sD11_reads_298 rfl ?_
                                  refine sd_getfi sD11_reads_299 sF11_147 sGM15_12 ?_
                                  rw [show m 5492 = (q139_66 : Int) from hS.2.2.1]
                                  refine sd_aload_n sD11_reads_302 rfl ?_
                                  refine sd_getfi sD11_reads_303 sF11_151 sGM15_11 ?_
                                  rw [show m 5491 = (n : Int) from hS.2.1]
                                  refine sd_icmp_ge (tgt := 313) sD11_reads_306 (by decide) (fun zc306 => ?_) (fun zc306 => ?_)
                                  ·
                                    refine sd_vreturn sD11_reads_313 rfl (fun hm => hQ _ _ ⟨rfl, hK6, ?_⟩)
                                    exact Or.inr ⟨[(j45_1, j68_9, [t139_37, t139_66])], by simp only [sd_txt, hcl]; rw [if_pos (by omega)], hS.2.2.2, Or.inr (Or.inl ⟨by omega, sd_fcl_n hmt, by rw [hg]; omega⟩)⟩
                                  ·
                                    refine sd_aload_n sD11_reads_309 rfl ?_
                                    refine sd_callV (as := []) (st := []) sD11_reads_310 sM11_167 rfl rfl sOM15 rfl (by decide) (Nat.le_of_ble_eq_true rfl) (cM_wrong1 fr n q139_66 _ m hx hS) (fun r m hq ho310 hm => ?_)
                                    obtain ⟨rfl, hk310_83, hS⟩ := hq
                                    replace hx := hk310_83.ns hx
                                    replace hK6 := hK6.k2 hk310_83
                                    replace hf : ∀ i, i < 4 → m (5504 + i) = f i := fun i hi => (hk310_83 _ (by omega) (by omega)).trans (hf i hi)
                                    replace hg := (hk310_83 5510 (by decide) (by decide)).trans hg
                                    replace hgb := (hk310_83 5511 (by decide) (by decide)).trans hgb
                                    rcases (⟨trivial⟩ : Nonempty True) with hy310_83
                                    ·
                                      show sd_Wp sd_SM 4 sY11_reads 313 [some (.inr 15), some (.inl pl), some (.inl mn), some (.inl w), some (.inl 0), some (.inl ((c : Int) + 1)), some (.inl (sd_b ((0 + (j45_1 : Int)) = 1))), some (.inl (2 + (j68_9 : Int))), some (.inl (sd_b ((sd_hl f t139_37) ∧ (sd_hl f t139_66)))), some (.inl (6 + (j107_30 : Int))), some (.inl 0), some (.inl 2), some (.inl (sd_b (sd_hl f t139_66)))] [] m _
                                      refine sd_vreturn sD11_reads_313 rfl (fun hm => hQ _ _ ⟨rfl, hK6, ?_⟩)
                                      exact Or.inl ⟨q139_66, by simp only [sd_txt, hcl]; rw [if_neg (by omega)]; first | (rw [if_pos (by omega)]; done) | (rw [if_neg (by omega), if_neg (by assumption)]; done), hS.2.2.2⟩
                                ·
                                  refine sd_iload sD11_reads_37 rfl ?_
                                  refine sd_if_eq (tgt := 298) sD11_reads_39 (by decide) (fun zc39 => ?_) (fun zc39 => (by exfalso; omega))
                                  refine sd_aload_n sD11_reads_298 rfl ?_
                                  refine sd_getfi sD11_reads_299 sF11_147 sGM15_12 ?_
                                  rw [show m 5492 = (q139_66 : Int) from hS.2.2.1]
                                  refine sd_aload_n sD11_reads_302 rfl ?_
                                  refine sd_getfi sD11_reads_303 sF11_151 sGM15_11 ?_
                                  rw [show m 5491 = (n : Int) from hS.2.1]
                                  refine sd_icmp_ge (tgt := 313) sD11_reads_306 (by decide) (fun zc306 => ?_) (fun zc306 => ?_)
                                  ·
                                    refine sd_vreturn sD11_reads_313 rfl (fun hm => hQ _ _ ⟨rfl, hK6, ?_⟩)
                                    exact Or.inr ⟨[(j45_1, j68_9, [t139_37, t139_66])], by simp only [sd_txt, hcl]; rw [if_pos (by omega)], hS.2.2.2, Or.inr (Or.inl ⟨by omega, sd_fcl_n hmt, by rw [hg]; omega⟩)⟩
                                  ·
                                    refine sd_aload_n sD11_reads_309 rfl ?_
                                    refine sd_callV (as := []) (st := []) sD11_reads_310 sM11_167 rfl rfl sOM15 rfl (by decide) (Nat.le_of_ble_eq_true rfl) (cM_wrong1 fr n q139_66 _ m hx hS) (fun r m hq ho310 hm => ?_)
                                    obtain ⟨rfl, hk310_84, hS⟩ := hq
                                    replace hx := hk310_84.ns hx
                                    replace hK6 := hK6.k2 hk310_84
                                    replace hf : ∀ i, i < 4 → m (5504 + i) = f i := fun i hi => (hk310_84 _ (by omega) (by omega)).trans (hf i hi)
                                    replace hg := (hk310_84 5510 (by decide) (by decide)).trans hg
                                    replace hgb := (hk310_84 5511 (by decide) (by decide)).trans hgb
                                    rcases (⟨trivial⟩ : Nonempty True) with hy310_84
                                    ·
                                      show sd_Wp sd_SM 4 sY11_reads 313 [some (.inr 15), some (.inl pl), some (.inl mn), some (.inl w), some (.inl 0), some (.inl ((c : Int) + 1)), some (.inl (sd_b ((0 + (j45_1 : Int)) = 1))), some (.inl (2 + (j68_9 : Int))), some (.inl (sd_b ((sd_hl f t139_37) ∧ (sd_hl f t139_66)))), some (.inl (6 + (j107_30 : Int))), some (.inl 0), some (.inl 2), some (.inl (sd_b (sd_hl f t139_66)))] [] m _
                                      refine sd_vreturn sD11_reads_313 rfl (fun hm => hQ _ _ ⟨rfl, hK6, ?_⟩)
                                      exact Or.inl ⟨q139_66, by simp only [sd_txt, hcl]; rw [if_neg (by omega)]; first | (rw [if_pos (by omega)]; done) | (rw [if_neg (by omega), if_neg (by assumption)]; done), hS.2.2.2⟩
                              ·
                                refine sd_aload_n sD11_reads_250 rfl ?_
                                refine sd_callVp (as := []) (st := []) (v := .inl 1) sD11_reads_251 sM11_160 sOM15 rfl rfl rfl (by decide) (Nat.le_of_ble_eq_true rfl) (cM_isGood1 fr n q139_66 _ m hx hS) (fun ho251 => ?_)
                                refine sd_if_eq (tgt := 270) sD11_reads_254 (by decide) (fun zc254 => (by exfalso; omega)) (fun zc254 => ?_)
                                refine sd_aload_n sD11_reads_257 rfl ?_
                                refine sd_callVp (as := []) (st := []) (v := .inl (B q139_66)) sD11_reads_258 sM11_164 sOM15 rfl rfl rfl (by decide) (Nat.le_of_ble_eq_true rfl) (cM_byteAt _ fr B n q139_66 _ m hx hB hS) (fun ho258 => ?_)
                                refine sd_bipush sD11_reads_261 rfl (by decide) ?_
                                refine sd_icmp_ne (tgt := 270) sD11_reads_263 (by decide) (fun zc263 => ?_) (fun zc263 => ?_)
                                ·
                                  refine sd_iconst sD11_reads_270 (by decide) ?_
                                  refine sd_istore (ls' := [some (.inr 15), some (.inl pl), some (.inl mn), some (.inl w), some (.inl 0), some (.inl (c : Int)), some (.inl (sd_b ((0 + (j45_1 : Int)) = 1))), some (.inl (2 + (j68_9 : Int))), some (.inl (sd_b ((sd_hl f t139_37) ∧ (sd_hl f t139_66)))), some (.inl (6 + (j107_30 : Int))), some (.inl 0), some (.inl 2), some (.inl (sd_b (sd_hl f t139_66)))]) sD11_reads_271 (by decide) rfl ?_
                                  refine sd_aload_n sD11_reads_273 rfl ?_
                                  refine sd_dup sD11_reads_274 ?_
                                  refine sd_getfi sD11_reads_275 sF11_147 sGM15_12 ?_
                                  rw [show m 5492 = (q139_66 : Int) from hS.2.2.1]
                                  refine sd_iload sD11_reads_278 rfl ?_
                                  refine sd_if_eq (tgt := 287) sD11_reads_280 (by decide) (fun zc280 => ?_) (fun zc280 => (by exfalso; omega))
                                  refine sd_iconst sD11_reads_287 (by decide) ?_
                                  refine sd_iadd (z := (q139_66 : Int)) sD11_reads_288 (by omega) (by omega) ?_
                                  refine sd_putfc sd_sokM sd_oneM hx sD11_reads_289 sF11_147 sGM15_12 (by decide) (Or.inl rfl) (fun m hx em289 => ?_)
                                  have hk289x := sd_k2.up em289 (Or.inl rfl)
                                  replace hK6 := hK6.k2 hk289x
                                  replace hf : ∀ i, i < 4 → m (5504 + i) = f i := fun i hi => (hk289x _ (by omega) (by omega)).trans (hf i hi)
                                  replace hg := (hk289x 5510 (by decide) (by decide)).trans hg
                                  replace hgb := (hk289x 5511 (by decide) (by decide)).trans hgb
                                  replace hS : sd_RS m fr n q139_66 (-1) := ⟨by rw [em289, sd_up_ne (by decide)]; exact hS.1, by rw [em289, sd_up_ne (by decide)]; exact hS.2.1, by rw [em289, sd_up_eq]; (try omega), by rw [em289, sd_up_ne (by decide)]; exact hS.2.2.2⟩
                                  refine sd_iinc (y := ((c : Int) + 1)) (ls' := [some (.inr 15), some (.inl pl), some (.inl mn), some (.inl w), some (.inl 0), some (.inl ((c : Int) + 1)), some (.inl (sd_b ((0 + (j45_1 : Int)) = 1))), some (.inl (2 + (j68_9 : Int))), some (.inl (sd_b ((sd_hl f t139_37) ∧ (sd_hl f t139_66)))), some (.inl (6 + (j107_30 : Int))), some (.inl 0), some (.inl 2), some (.inl (sd_b (sd_hl f t139_66)))]) sD11_reads_292 rfl (by omega) (by omega) (by decide) rfl ?_
                                  refine sd_goto (tgt := 31) sD11_reads_295 (by decide) ?_
                                  refine sd_iload sD11_reads_31 rfl ?_
                                  refine sd_iconst sD11_reads_33 (by decide) ?_
                                  refine sd_icmp_ge (tgt := 298) sD11_reads_34 (by decide) (fun zc34 => ?_) (fun zc34 => ?_)
                                  ·
                                    refine sd_aload_n sD11_reads_298 rfl ?_
                                    refine sd_getfi sD11_reads_299 sF11_147 sGM15_12 ?_
                                    rw [show m 5492 = (q139_66 : Int) from hS.2.2.1]
                                    refine sd_aload_n sD11_reads_302 rfl ?_
                                    refine sd_getfi sD11_reads_303 sF11_151 sGM15_11 ?_
                                    rw [show m 5491 = (n : Int) from hS.2.1]
                                    refine sd_icmp_ge (tgt := 313) sD11_reads_306 (by decide) (fun zc306 => ?_) (fun zc306 => ?_)
                                    ·
                                      refine sd_vreturn sD11_reads_313 rfl (fun hm => hQ _ _ ⟨rfl, hK6, ?_⟩)
                                      exact Or.inr ⟨[(j45_1, j68_9, [t139_37, t139_66])], by simp only [sd_txt, hcl]; rw [if_pos (by omega)], hS.2.2.2, Or.inr (Or.inl ⟨by omega, sd_fcl_n hmt, by rw [hg]; omega⟩)⟩
                                    ·
                                      refine sd_aload_n sD11_reads_309 rfl ?_
                                      refine sd_callV (as := []) (st := []) sD11_reads_310 sM11_167 rfl rfl sOM15 rfl (by decide) (Nat.le_of_ble_eq_true rfl) (cM_wrong1 fr n q139_66 _ m hx hS) (fun r m hq ho310 hm => ?_)
                                      obtain ⟨rfl, hk310_85, hS⟩ := hq
                                      replace hx := hk310_85.ns hx
                                      replace hK6 := hK6.k2 hk310_85
                                      replace hf : ∀ i, i < 4 → m (5504 + i) = f i := fun i hi => (hk310_85 _ (by omega) (by omega)).trans (hf i hi)
                                      replace hg := (hk310_85 5510 (by decide) (by decide)).trans hg
                                      replace hgb := (hk310_85 5511 (by decide) (by decide)).trans hgb
                                      rcases (⟨trivial⟩ : Nonempty True) with hy310_85
                                      ·
                                        show sd_Wp sd_SM 4 sY11_reads 313 [some (.inr 15), some (.inl pl), some (.inl mn), some (.inl w), some (.inl 0), some (.inl ((c : Int) + 1)), some (.inl (sd_b ((0 + (j45_1 : Int)) = 1))), some (.inl (2 + (j68_9 : Int))), some (.inl (sd_b ((sd_hl f t139_37) ∧ (sd_hl f t139_66)))), some (.inl (6 + (j107_30 : Int))), some (.inl 0), some (.inl 2), some (.inl (sd_b (sd_hl f t139_66)))] [] m _
                                        refine sd_vreturn sD11_reads_313 rfl (fun hm => hQ _ _ ⟨rfl, hK6, ?_⟩)
                                        exact Or.inl ⟨q139_66, by simp only [sd_txt, hcl]; rw [if_neg (by omega)]; first | (rw [if_pos (by omega)]; done) | (rw [if_neg (by omega), if_neg (by assumption)]; done), hS.2.2.2⟩
                                  ·
                                    refine sd_iload sD11_reads_37 rfl ?_
                                    refine sd_if_eq (tgt := 298) sD11_reads_39 (by decide) (fun zc39 => ?_) (fun zc39 => (by exfalso; omega))
                                    refine sd_aload_n sD11_reads_298 rfl ?_
                                    refine sd_getfi sD11_reads_299 sF11_147 sGM15_12 ?_
                                    rw [show m 5492 = (q139_66 : Int) from hS.2.2.1]
                                    refine sd_aload_n sD11_reads_302 rfl ?_
                                    refine sd_getfi sD11_reads_303 sF11_151 sGM15_11 ?_
                                    rw [show m 5491 = (n : Int) from hS.2.1]
                                    refine sd_icmp_ge (tgt := 313) sD11_reads_306 (by decide) (fun zc306 => ?_) (fun zc306 => ?_)
                                    ·
                                      refine sd_vreturn sD11_reads_313 rfl (fun hm => hQ _ _ ⟨rfl, hK6, ?_⟩)
                                      exact Or.inr ⟨[(j45_1, j68_9, [t139_37, t139_66])], by simp only [sd_txt, hcl]; rw [if_pos (by omega)], hS.2.2.2, Or.inr (Or.inl ⟨by omega, sd_fcl_n hmt, by rw [hg]; omega⟩)⟩
                                    ·
                                      refine sd_aload_n sD11_reads_309 rfl ?_
                                      refine sd_callV (as := []) (st := []) sD11_reads_310 sM11_167 rfl rfl sOM15 rfl (by decide) (Nat.le_of_ble_eq_true rfl) (cM_wrong1 fr n q139_66 _ m hx hS) (fun r m hq ho310 hm => ?_)
                                      obtain ⟨rfl, hk310_86, hS⟩ := hq
                                      replace hx := hk310_86.ns hx
                                      replace hK6 := hK6.k2 hk310_86
                                      replace hf : ∀ i, i < 4 → m (5504 + i) = f i := fun i hi => (hk310_86 _ (by omega) (by omega)).trans (hf i hi)
                                      replace hg := (hk310_86 5510 (by decide) (by decide)).trans hg
                                      replace hgb := (hk310_86 5511 (by decide) (by decide)).trans hgb
                                      rcases (⟨trivial⟩ : Nonempty True) with hy310_86
                                      ·
                                        show sd_Wp sd_SM 4 sY11_reads 313 [some (.inr 15), some (.inl pl), some (.inl mn), some (.inl w), some (.inl 0), some (.inl ((c : Int) + 1)), some (.inl (sd_b ((0 + (j45_1 : Int)) = 1))), some (.inl (2 + (j68_9 : Int))), some (.inl (sd_b ((sd_hl f t139_37) ∧ (sd_hl f t139_66)))), some (.inl (6 + (j107_30 : Int))), some (.inl 0), some (.inl 2), some (.inl (sd_b (sd_hl f t139_66)))] [] m _
                                        refine sd_vreturn sD11_reads_313 rfl (fun hm => hQ _ _ ⟨rfl, hK6, ?_⟩)
                                        exact Or.inl ⟨q139_66, by simp only [sd_txt, hcl]; rw [if_neg (by omega)]; first | (rw [if_pos (by omega)]; done) | (rw [if_neg (by omega), if_neg (by assumption)]; done), hS.2.2.2⟩
                                ·
                                  have hsm : B q139_66 = 59 := by assumption
                                  have hin3 := hB.in (p := q139_66) (by omega)
                                  have hn1 := hB.1
                                  refine sd_iconst sD11_reads_266 (by decide) ?_
                                  refine sd_goto (tgt := 271) sD11_reads_267 (by decide) ?_
                                  refine sd_istore (ls' := [some (.inr 15), some (.inl pl), some (.inl mn), some (.inl w), some (.inl 1), some (.inl (c : Int)), some (.inl (sd_b ((0 + (j45_1 : Int)) = 1))), some (.inl (2 + (j68_9 : Int))), some (.inl (sd_b ((sd_hl f t139_37) ∧ (sd_hl f t139_66)))), some (.inl (6 + (j107_30 : Int))), some (.inl 0), some (.inl 2), some (.inl (sd_b (sd_hl f t139_66)))]) sD11_reads_271 (by decide) rfl ?_
                                  refine sd_aload_n sD11_reads_273 rfl ?_
                                  refine sd_dup sD11_reads_274 ?_
                                  refine sd_getfi sD11_reads_275 sF11_147 sGM15_12 ?_
                                  rw [show m 5492 = (q139_66 : Int) from hS.2.2.1]
                                  refine sd_iload sD11_reads_278 rfl ?_
                                  refine sd_if_eq (tgt := 287) sD11_reads_280 (by decide) (fun zc280 => (by exfalso; omega)) (fun zc280 => ?_)
                                  refine sd_iconst sD11_reads_283 (by decide) ?_
                                  refine sd_goto (tgt := 288) sD11_reads_284 (by decide) ?_
                                  refine sd_iadd (z := ((q139_66 : Int) + 1)) sD11_reads_288 (by omega) (by omega) ?_
                                  refine sd_putfc sd_sokM sd_oneM hx sD11_reads_289 sF11_147 sGM15_12 (by decide) (Or.inl rfl) (fun m hx em289 => ?_)
                                  have hk289x := sd_k2.up em289 (Or.inl rfl)
                                  replace hK6 := hK6.k2 hk289x
                                  replace hf : ∀ i, i < 4 → m (5504 + i) = f i := fun i hi => (hk289x _ (by omega) (by omega)).trans (hf i hi)
                                  replace hg := (hk289x 5510 (by decide) (by decide)).trans hg
                                  replace hgb := (hk289x 5511 (by decide) (by decide)).trans hgb
                                  replace hS : sd_RS m fr n (q139_66 + 1) (-1) := ⟨by rw [em289, sd_up_ne (by decide)]; exact hS.1, by rw [em289, sd_up_ne (by decide)]; exact hS.2.1, by rw [em289, sd_up_eq]; (try omega), by rw [em289, sd_up_ne (by decide)]; exact hS.2.2.2⟩
                                  refine sd_iinc (y := ((c : Int) + 1)) (ls' := [some (.inr 15), some (.inl pl), some (.inl mn), some (.inl w), some (.inl 1), some (.inl ((c : Int) + 1)), some (.inl (sd_b ((0 + (j45_1 : Int)) = 1))), some (.inl (2 + (j68_9 : Int))), some (.inl (sd_b ((sd_hl f t139_37) ∧ (sd_hl f t139_66)))), some (.inl (6 + (j107_30 : Int))), some (.inl 0), some (.inl 2), some (.inl (sd_b (sd_hl f t139_66)))]) sD11_reads_292 rfl (by omega) (by omega) (by decide) rfl ?_
                                  refine sd_goto (tgt := 31) sD11_reads_295 (by decide) ?_
                                  refine sd_less (ls' := [some (.inr 15), some (.inl pl), some (.inl mn), some (.inl w), some (.inl 1), some (.inl ((c : Int) + 1)), none, none, none, none, none, none, none]) ?_ rfl (by intro zi zv zh; rcases zi with _ | _ | _ | _ | _ | _ | _ | _ | _ | _ | _ | _ | _ | zi <;> first | exact zh | cases zh)
                                  refine sd_eqw (ls' := [some (.inr 15), some (.inl pl), some (.inl mn), some (.inl w), some (.inl 1), some (.inl ((c + 1 : Nat) : Int)), none, none, none, none, none, none, none]) ?_ (sd_cg rfl (sd_cg rfl (sd_cg rfl (sd_cg rfl (sd_cg rfl (sd_cg (sd_ce (by omega)) rfl)))))) rfl
                                  exact ih (by omega) g b m (q139_66 + 1) hx hS (by omega) hK6 hf hg hgb (by omega) (fun r m2 hq => hQ r m2 (sd_rd_C hcl (by omega) (by omega) hsm (by omega) hmt hq))
                          ·
                            refine sd_aload_n sD11_reads_225 rfl ?_
                            refine sd_getfi sD11_reads_226 sF11_176 sGM15_15 ?_
                            rw [show m 5510 = g from hg]
                            refine sd_if_ge (tgt := 244) sD11_reads_229 (by decide) (fun zc229 => ?_) (fun zc229 => ?_)
                            ·
                              refine sd_iload sD11_reads_244 rfl ?_
                              refine sd_iconst sD11_reads_246 (by decide) ?_
                              refine sd_icmp_ge (tgt := 270) sD11_reads_247 (by decide) (fun zc247 => ?_) (fun zc247 => ?_)
                              ·
                                refine sd_iconst sD11_reads_270 (by decide) ?_
                                refine sd_istore (ls' := [some (.inr 15), some (.inl pl), some (.inl mn), some (.inl w), some (.inl 0), some (.inl (c : Int)), some (.inl (sd_b ((0 + (j45_1 : Int)) = 1))), some (.inl (2 + (j68_9 : Int))), some (.inl (sd_b ((sd_hl f t139_37) ∧ (sd_hl f t139_66)))), some (.inl (6 + (j107_30 : Int))), some (.inl 0), some (.inl 2), some (.inl (sd_b (sd_hl f t139_66)))]) sD11_reads_271 (by decide) rfl ?_
                                refine sd_aload_n sD11_reads_273 rfl ?_
                                refine sd_dup sD11_reads_274 ?_
                                refine sd_getfi sD11_reads_275 sF11_147 sGM15_12 ?_
                                rw [show m 5492 = (q139_66 : Int) from hS.2.2.1]
                                refine sd_iload sD11_reads_278 rfl ?_
                                refine sd_if_eq (tgt := 287) sD11_reads_280 (by decide) (fun zc280 => ?_) (fun zc280 => (by exfalso; omega))
                                refine sd_iconst sD11_reads_287 (by decide) ?_
                                refine sd_iadd (z := (q139_66 : Int)) sD11_reads_288 (by omega) (by omega) ?_
                                refine sd_putfc sd_sokM sd_oneM hx sD11_reads_289 sF11_147 sGM15_12 (by decide) (Or.inl rfl) (fun m hx em289 => ?_)
                                have hk289x := sd_k2.up em289 (Or.inl rfl)
                                replace hK6 := hK6.k2 hk289x
                                replace hf : ∀ i, i < 4 → m (5504 + i) = f i := fun i hi => (hk289x _ (by omega) (by omega)).trans (hf i hi)
                                replace hg := (hk289x 5510 (by decide) (by decide)).trans hg
                                replace hgb := (hk289x 5511 (by decide) (by decide)).trans hgb
                                replace hS : sd_RS m fr n q139_66 (-1) := ⟨by rw [em289, sd_up_ne (by decide)]; exact hS.1, by rw [em289, sd_up_ne (by decide)]; exact hS.2.1, by rw [em289, sd_up_eq]; (try omega), by rw [em289, sd_up_ne (by decide)]; exact hS.2.2.2⟩
                                refine sd_iinc (y := ((c : Int) + 1)) (ls' := [some (.inr 15), some (.inl pl), some (.inl mn), some (.inl w), some (.inl 0), some (.inl ((c : Int) + 1)), some (.inl (sd_b ((0 + (j45_1 : Int)) = 1))), some (.inl (2 + (j68_9 : Int))), some (.inl (sd_b ((sd_hl f t139_37) ∧ (sd_hl f t139_66)))), some (.inl (6 + (j107_30 : Int))), some (.inl 0), some (.inl 2), some (.inl (sd_b (sd_hl f t139_66)))]) sD11_reads_292 rfl (by omega) (by omega) (by decide) rfl ?_
                                refine sd_goto (tgt := 31) sD11_reads_295 (by decide) ?_
                                refine sd_iload sD11_reads_31 rfl ?_
                                refine sd_iconst sD11_reads_33 (by decide) ?_
                                refine sd_icmp_ge (tgt := 298) sD11_reads_34 (by decide) (fun zc34 => ?_) (fun zc34 => ?_)
                                ·
                                  refine sd_aload_n sD11_reads_298 rfl ?_
                                  refine sd_getfi sD11_reads_299 sF11_147 sGM15_12 ?_
                                  rw [show m 5492 = (q139_66 : Int) from hS.2.2.1]
                                  refine sd_aload_n sD11_reads_302 rfl ?_
                                  refine sd_getfi sD11_reads_303 sF11_151 sGM15_11 ?_
                                  rw [show m 5491 = (n : Int) from hS.2.1]
                                  refine sd_icmp_ge (tgt := 313) sD11_reads_306 (by decide) (fun zc306 => ?_) (fun zc306 => ?_)
                                  ·
                                    refine sd_vreturn sD11_reads_313 rfl (fun hm => hQ _ _ ⟨rfl, hK6, ?_⟩)
                                    exact Or.inr ⟨[(j45_1, j68_9, [t139_37, t139_66])], by simp only [sd_txt, hcl]; rw [if_pos (by omega)], hS.2.2.2, Or.inl ⟨by omega, hg, hgb⟩⟩
                                  ·
                                    refine sd_aload_n sD11_reads_309 rfl ?_
                                    refine sd_callV (as := []) (st := []) sD11_reads_310 sM11_167 rfl rfl sOM15 rfl (by decide) (Nat.le_of_ble_eq_true rfl) (cM_wrong1 fr n q139_66 _ m hx hS) (fun r m hq ho310 hm => ?_)
                                    obtain ⟨rfl, hk310_87, hS⟩ := hq
                                    replace hx := hk310_87.ns hx
                                    replace hK6 := hK6.k2 hk310_87
                                    replace hf : ∀ i, i < 4 → m (5504 + i) = f i := fun i hi => (hk310_87 _ (by omega) (by omega)).trans (hf i hi)
                                    replace hg := (hk310_87 5510 (by decide) (by decide)).trans hg
                                    replace hgb := (hk310_87 5511 (by decide) (by decide)).trans hgb
                                    rcases (⟨trivial⟩ : Nonempty True) with hy310_87
                                    ·
                                      show sd_Wp sd_SM 4 sY11_reads 313 [some (.inr 15), some (.inl pl), some (.inl mn), some (.inl w), some (.inl 0), some (.inl ((c : Int) + 1)), some (.inl (sd_b ((0 + (j45_1 : Int)) = 1))), some (.inl (2 + (j68_9 : Int))), some (.inl (sd_b ((sd_hl f t139_37) ∧ (sd_hl f t139_66)))), some (.inl (6 + (j107_30 : Int))), some (.inl 0), some (.inl 2), some (.inl (sd_b (sd_hl f t139_66)))] [] m _
                                      refine sd_vreturn sD11_reads_313 rfl (fun hm => hQ _ _ ⟨rfl, hK6, ?_⟩)
                                      exact Or.inl ⟨q139_66, by simp only [sd_txt, hcl]; rw [if_neg (by omega)]; first | (rw [if_pos (by omega)]; done) | (rw [if_neg (by omega), if_neg (by assumption)]; done), hS.2.2.2⟩
                                ·
                                  refine sd_iload sD11_reads_37 rfl ?_
                                  refine sd_if_eq (tgt := 298) sD11_reads_39 (by decide) (fun zc39 => ?_) (fun zc39 => (by exfalso; omega))
                                  refine sd_aload_n sD11_reads_298 rfl ?_
                                  refine sd_getfi sD11_reads_299 sF11_147 sGM15_12 ?_
                                  rw [show m 5492 = (q139_66 : Int) from hS.2.2.1]
                                  refine sd_aload_n sD11_reads_302 rfl ?_
                                  refine sd_getfi sD11_reads_303 sF11_151 sGM15_11 ?_
                                  rw [show m 5491 = (n : Int) from hS.2.1]
                                  refine sd_icmp_ge (tgt := 313) sD11_reads_306 (by decide) (fun zc306 => ?_) (fun zc306 => ?_)
                                  ·
                                    refine sd_vreturn sD11_reads_313 rfl (fun hm => hQ _ _ ⟨rfl, hK6, ?_⟩)
                                    exact Or.inr ⟨[(j45_1, j68_9, [t139_37, t139_66])], by simp only [sd_txt, hcl]; rw [if_pos (by omega)], hS.2.2.2, Or.inl ⟨by omega, hg, hgb⟩⟩
                                  ·
                                    refine sd_aload_n sD11_reads_309 rfl ?_
                                    refine sd_callV (as := []) (st := []) sD11_reads_310 sM11_167 rfl rfl sOM15 rfl (by decide) (Nat.le_of_ble_eq_true rfl) (cM_wrong1 fr n q139_66 _ m hx hS) (fun r m hq ho310 hm => ?_)
                                    obtain ⟨rfl, hk310_88, hS⟩ := hq
                                    replace hx := hk310_88.ns hx
                                    replace hK6 := hK6.k2 hk310_88
                                    replace hf : ∀ i, i < 4 → m (5504 + i) = f i := fun i hi => (hk310_88 _ (by omega) (by omega)).trans (hf i hi)
                                    replace hg := (hk310_88 5510 (by decide) (by decide)).trans hg
                                    replace hgb := (hk310_88 5511 (by decide) (by decide)).trans hgb
                                    rcases (⟨trivial⟩ : Nonempty True) with hy310_88
                                    ·
                                      show sd_Wp sd_SM 4 sY11_reads 313 [some (.inr 15), some (.inl pl), some (.inl mn), some (.inl w), some (.inl 0), some (.inl ((c : Int) + 1)), some (.inl (sd_b ((0 + (j45_1 : Int)) = 1))), some (.inl (2 + (j68_9 : Int))), some (.inl (sd_b ((sd_hl f t139_37) ∧ (sd_hl f t139_66)))), some (.inl (6 + (j107_30 : Int))), some (.inl 0), some (.inl 2), some (.inl (sd_b (sd_hl f t139_66)))] [] m _
                                      refine sd_vreturn sD11_reads_313 rfl (fun hm => hQ _ _ ⟨rfl, hK6, ?_⟩)
                                      exact Or.inl ⟨q139_66, by simp only [sd_txt, hcl]; rw [if_neg (by omega)]; first | (rw [if_pos (by omega)]; done) | (rw [if_neg (by omega), if_neg (by assumption)]; done), hS.2.2.2⟩
                              ·
                                refine sd_aload_n sD11_reads_250 rfl ?_
                                refine sd_callVp (as := []) (st := []) (v := .inl 1) sD11_reads_251 sM11_160 sOM15 rfl rfl rfl (by decide) (Nat.le_of_ble_eq_true rfl) (cM_isGood1 fr n q139_66 _ m hx hS) (fun ho251 => ?_)
                                refine sd_if_eq (tgt := 270) sD11_reads_254 (by decide) (fun zc254 => (by exfalso; omega)) (fun zc254 => ?_)
                                refine sd_aload_n sD11_reads_257 rfl ?_
                                refine sd_callVp (as := []) (st := []) (v := .inl (B q139_66)) sD11_reads_258 sM11_164 sOM15 rfl rfl rfl (by decide) (Nat.le_of_ble_eq_true rfl) (cM_byteAt _ fr B n q139_66 _ m hx hB hS) (fun ho258 => ?_)
                                refine sd_bipush sD11_reads_261 rfl (by decide) ?_
                                refine sd_icmp_ne (tgt := 270) sD11_reads_263 (by decide) (fun zc263 => ?_) (fun zc263 => ?_)
                                ·
                                  refine sd_iconst sD11_reads_270 (by decide) ?_
                                  refine sd_istore (ls' := [some (.inr 15), some (.inl pl), some (.inl mn), some (.inl w), some (.inl 0), some (.inl (c : Int)), some (.inl (sd_b ((0 + (j45_1 : Int)) = 1))), some (.inl (2 + (j68_9 : Int))), some (.inl (sd_b ((sd_hl f t139_37) ∧ (sd_hl f t139_66)))), some (.inl (6 + (j107_30 : Int))), some (.inl 0), some (.inl 2), some (.inl (sd_b (sd_hl f t139_66)))]) sD11_reads_271 (by decide) rfl ?_
                                  refine sd_aload_n sD11_reads_273 rfl ?_
                                  refine sd_dup sD11_reads_274 ?_
                                  refine sd_getfi sD11_reads_275 sF11_147 sGM15_12 ?_
                                  rw [show m 5492 = (q139_66 : Int) from hS.2.2.1]
                                  refine sd_iload sD11_reads_278 rfl ?_
                                  refine sd_if_eq (tgt := 287) sD11_reads_280 (by decide) (fun zc280 => ?_) (fun zc280 => (by exfalso; omega))
                                  refine sd_iconst sD11_reads_287 (by decide) ?_
                                  refine sd_iadd (z := (q139_66 : Int)) sD11_reads_288 (by omega) (by omega) ?_
                                  refine sd_putfc sd_sokM sd_oneM hx sD11_reads_289 sF11_147 sGM15_12 (by decide) (Or.inl rfl) (fun m hx em289 => ?_)
                                  have hk289x := sd_k2.up em289 (Or.inl rfl)
                                  replace hK6 := hK6.k2 hk289x
                                  replace hf : ∀ i, i < 4 → m (5504 + i) = f i := fun i hi => (hk289x _ (by omega) (by omega)).trans (hf i hi)
                                  replace hg := (hk289x 5510 (by decide) (by decide)).trans hg
                                  replace hgb := (hk289x 5511 (by decide) (by decide)).trans hgb
                                  replace hS : sd_RS m fr n q139_66 (-1) := ⟨by rw [em289, sd_up_ne (by decide)]; exact hS.1, by rw [em289, sd_up_ne (by decide)]; exact hS.2.1, by rw [em289, sd_up_eq]; (try omega), by rw [em289, sd_up_ne (by decide)]; exact hS.2.2.2⟩
                                  refine sd_iinc (y := ((c : Int) + 1)) (ls' := [some (.inr 15), some (.inl pl), some (.inl mn), some (.inl w), some (.inl 0), some (.inl ((c : Int) + 1)), some (.inl (sd_b ((0 + (j45_1 : Int)) = 1))), some (.inl (2 + (j68_9 : Int))), some (.inl (sd_b ((sd_hl f t139_37) ∧ (sd_hl f t139_66)))), some (.inl (6 + (j107_30 : Int))), some (.inl 0), some (.inl 2), some (.inl (sd_b (sd_hl f t139_66)))]) sD11_reads_292 rfl (by omega) (by omega) (by decide) rfl ?_
                                  refine sd_goto (tgt := 31) sD11_reads_295 (by decide) ?_
                                  refine sd_iload sD11_reads_31 rfl ?_
                                  refine sd_iconst sD11_reads_33 (by decide) ?_
                                  refine sd_icmp_ge (tgt := 298) sD11_reads_34 (by decide) (fun zc34 => ?_) (fun zc34 => ?_)
                                  ·
                                    refine sd_aload_n sD11_reads_298 rfl ?_
                                    refine sd_getfi sD11_reads_299 sF11_147 sGM15_12 ?_
                                    rw [show m 5492 = (q139_66 : Int) from hS.2.2.1]
                                    refine sd_aload_n sD11_reads_302 rfl ?_
                                    refine sd_getfi sD11_reads_303 sF11_151 sGM15_11 ?_
                                    rw [show m 5491 = (n : Int) from hS.2.1]
                                    refine sd_icmp_ge (tgt := 313) sD11_reads_306 (by decide) (fun zc306 => ?_) (fun zc306 => ?_)
                                    ·
                                      refine sd_vreturn sD11_reads_313 rfl (fun hm => hQ _ _ ⟨rfl, hK6, ?_⟩)
                                      exact Or.inr ⟨[(j45_1, j68_9, [t139_37, t139_66])], by simp only [sd_txt, hcl]; rw [if_pos (by omega)], hS.2.2.2, Or.inl ⟨by omega, hg, hgb⟩⟩
                                    ·
                                      refine sd_aload_n sD11_reads_309 rfl ?_
                                      refine sd_callV (as := []) (st := []) sD11_reads_310 sM11_167 rfl rfl sOM15 rfl (by decide) (Nat.le_of_ble_eq_true rfl) (cM_wrong1 fr n q139_66 _ m hx hS) (fun r m hq ho310 hm => ?_)
                                      obtain ⟨rfl, hk310_89, hS⟩ := hq
                                      replace hx := hk310_89.ns hx
                                      replace hK6 := hK6.k2 hk310_89
                                      replace hf : ∀ i, i < 4 → m (5504 + i) = f i := fun i hi => (hk310_89 _ (by omega) (by omega)).trans (hf i hi)
                                      replace hg := (hk310_89 5510 (by decide) (by decide)).trans hg
                                      replace hgb := (hk310_89 5511 (by decide) (by decide)).trans hgb
                                      rcases (⟨trivial⟩ : Nonempty True) with hy310_89
                                      ·
                                        show sd_Wp sd_SM 4 sY11_reads 313 [some (.inr 15), some (.inl pl), some (.inl mn), some (.inl w), some (.inl 0), some (.inl ((c : Int) + 1)), some (.inl (sd_b ((0 + (j45_1 : Int)) = 1))), some (.inl (2 + (j68_9 : Int))), some (.inl (sd_b ((sd_hl f t139_37) ∧ (sd_hl f t139_66)))), some (.inl (6 + (j107_30 : Int))), some (.inl 0), some (.inl 2), some (.inl (sd_b (sd_hl f t139_66)))] [] m _
                                        refine sd_vreturn sD11_reads_313 rfl (fun hm => hQ _ _ ⟨rfl, hK6, ?_⟩)
                                        exact Or.inl ⟨q139_66, by simp only [sd_txt, hcl]; rw [if_neg (by omega)]; first | (rw [if_pos (by omega)]; done) | (rw [if_neg (by omega), if_neg (by assumption)]; done), hS.2.2.2⟩
                                  ·
                                    refine sd_iload sD11_reads_37 rfl ?_
                                    refine sd_if_eq (tgt := 298) sD11_reads_39 (by decide) (fun zc39 => ?_) (fun zc39 => (by exfalso; omega))
                                    refine sd_aload_n sD11_reads_298 rfl ?_
                                    refine sd_getfi sD11_reads_299 sF11_147 sGM15_12 ?_
                                    rw [show m 5492 = (q139_66 : Int) from hS.2.2.1]
                                    refine sd_aload_n sD11_reads_302 rfl ?_
                                    refine sd_getfi sD11_reads_303 sF11_151 sGM15_11 ?_
                                    rw [show m 5491 = (n : Int) from hS.2.1]
                                    refine sd_icmp_ge (tgt := 313) sD11_reads_306 (by decide) (fun zc306 => ?_) (fun zc306 => ?_)
                                    ·
                                      refine sd_vreturn sD11_reads_313 rfl (fun hm => hQ _ _ ⟨rfl, hK6, ?_⟩)
                                      exact Or.inr ⟨[(j45_1, j68_9, [t139_37, t139_66])], by simp only [sd_txt, hcl]; rw [if_pos (by omega)], hS.2.2.2, Or.inl ⟨by omega, hg, hgb⟩⟩
                                    ·
                                      refine sd_aload_n sD11_reads_309 rfl ?_
                                      refine sd_callV (as := []) (st := []) sD11_reads_310 sM11_167 rfl rfl sOM15 rfl (by decide) (Nat.le_of_ble_eq_true rfl) (cM_wrong1 fr n q139_66 _ m hx hS) (fun r m hq ho310 hm => ?_)
                                      obtain ⟨rfl, hk310_90, hS⟩ := hq
                                      replace hx := hk310_90.ns hx
                                      replace hK6 := hK6.k2 hk310_90
                                      replace hf : ∀ i, i < 4 → m (5504 + i) = f i := fun i hi => (hk310_90 _ (by omega) (by omega)).trans (hf i hi)
                                      replace hg := (hk310_90 5510 (by decide) (by decide)).trans hg
                                      replace hgb := (hk310_90 5511 (by decide) (by decide)).trans hgb
                                      rcases (⟨trivial⟩ : Nonempty True) with hy310_90
                                      ·
                                        show sd_Wp sd_SM 4 sY11_reads 313 [some (.inr 15), some (.inl pl), some (.inl mn), some (.inl w), some (.inl 0), some (.inl ((c : Int) + 1)), some (.inl (sd_b ((0 + (j45_1 : Int)) = 1))), some (.inl (2 + (j68_9 : Int))), some (.inl (sd_b ((sd_hl f t139_37) ∧ (sd_hl f t139_66)))), some (.inl (6 + (j107_30 : Int))), some (.inl 0), some (.inl 2), some (.inl (sd_b (sd_hl f t139_66)))] [] m _
                                        refine sd_vreturn sD11_reads_313 rfl (fun hm => hQ _ _ ⟨rfl, hK6, ?_⟩)
                                        exact Or.inl ⟨q139_66, by simp only [sd_txt, hcl]; rw [if_neg (by omega)]; first | (rw [if_pos (by omega)]; done) | (rw [if_neg (by omega), if_neg (by assumption)]; done), hS.2.2.2⟩
                                ·
                                  have hsm : B q139_66 = 59 := by assumption
                                  have hin3 := hB.in (p := q139_66) (by omega)
                                  have hn1 := hB.1
                                  refine sd_iconst sD11_reads_266 (by decide) ?_
                                  refine sd_goto (tgt := 271) sD11_reads_267 (by decide) ?_
                                  refine sd_istore (ls' := [some (.inr 15), some (.inl pl), some (.inl mn), some (.inl w), some (.inl 1), some (.inl (c : Int)), some (.inl (sd_b ((0 + (j45_1 : Int)) = 1))), some (.inl (2 + (j68_9 : Int))), some (.inl (sd_b ((sd_hl f t139_37) ∧ (sd_hl f t139_66)))), some (.inl (6 + (j107_30 : Int))), some (.inl 0), some (.inl 2), some (.inl (sd_b (sd_hl f t139_66)))]) sD11_reads_271 (by decide) rfl ?_
                                  refine sd_aload_n sD11_reads_273 rfl ?_
                                  refine sd_dup sD11_reads_274 ?_
                                  refine sd_getfi sD11_reads_275 sF11_147 sGM15_12 ?_
                                  rw [show m 5492 = (q139_66 : Int) from hS.2.2.1]
                                  refine sd_iload sD11_reads_278 rfl ?_
                                  refine sd_if_eq (tgt := 287) sD11_reads_280 (by decide) (fun zc280 => (by exfalso; omega)) (fun zc280 => ?_)
                                  refine sd_iconst sD11_reads_283 (by decide) ?_
                                  refine sd_goto (tgt := 288) sD11_reads_284 (by decide) ?_
                                  refine sd_iadd (z := ((q139_66 : Int) + 1)) sD11_reads_288 (by omega) (by omega) ?_
                                  refine sd_putfc sd_sokM sd_oneM hx sD11_reads_289 sF11_147 sGM15_12 (by decide) (Or.inl rfl) (fun m hx em289 => ?_)
                                  have hk289x := sd_k2.up em289 (Or.inl rfl)
                                  replace hK6 := hK6.k2 hk289x
                                  replace hf : ∀ i, i < 4 → m (5504 + i) = f i := fun i hi => (hk289x _ (by omega) (by omega)).trans (hf i hi)
                                  replace hg := (hk289x 5510 (by decide) (by decide)).trans hg
                                  replace hgb := (hk289x 5511 (by decide) (by decide)).trans hgb
                                  replace hS : sd_RS m fr n (q139_66 + 1) (-1) := ⟨by rw [em289, sd_up_ne (by decide)]; exact hS.1, by rw [em289, sd_up_ne (by decide)]; exact hS.2.1, by rw [em289, sd_up_eq]; (try omega), by rw [em289, sd_up_ne (by decide)]; exact hS.2.2.2⟩
                                  refine sd_iinc (y := ((c : Int) + 1)) (ls' := [some (.inr 15), some (.inl pl), some (.inl mn), some (.inl w), some (.inl 1), some (.inl ((c : Int) + 1)), some (.inl (sd_b ((0 + (j45_1 : Int)) = 1))), some (.inl (2 + (j68_9 : Int))), some (.inl (sd_b ((sd_hl f t139_37) ∧ (sd_hl f t139_66)))), some (.inl (6 + (j107_30 : Int))), some (.inl 0), some (.inl 2), some (.inl (sd_b (sd_hl f t139_66)))]) sD11_reads_292 rfl (by omega) (by omega) (by decide) rfl ?_
                                  refine sd_goto (tgt := 31) sD11_reads_295 (by decide) ?_
                                  refine sd_less (ls' := [some (.inr 15), some (.inl pl), some (.inl mn), some (.inl w), some (.inl 1), some (.inl ((c : Int) + 1)), none, none, none, none, none, none, none]) ?_ rfl (by intro zi zv zh; rcases zi with _ | _ | _ | _ | _ | _ | _ | _ | _ | _ | _ | _ | _ | zi <;> first | exact zh | cases zh)
                                  refine sd_eqw (ls' := [some (.inr 15), some (.inl pl), some (.inl mn), some (.inl w), some (.inl 1), some (.inl ((c + 1 : Nat) : Int)), none, none, none, none, none, none, none]) ?_ (sd_cg rfl (sd_cg rfl (sd_cg rfl (sd_cg rfl (sd_cg rfl (sd_cg (sd_ce (by omega)) rfl)))))) rfl
                                  exact ih (by omega) g b m (q139_66 + 1) hx hS (by omega) hK6 hf hg hgb (by omega) (fun r m2 hq => hQ r m2 (sd_rd_A hcl (by omega) (by omega) hsm (by omega) hq))
                            ·
                              refine sd_aload_n sD11_reads_232 rfl ?_
                              refine sd_iload sD11_reads_233 rfl ?_
                              refine sd_putfc sd_sokM sd_oneM hx sD11_reads_235 sF11_176 sGM15_15 (by decide) (Or.inl rfl) (fun m hx em235 => ?_)
                              replace hK6 := hK6.up em235 (by omega)
                              replace hf : ∀ i, i < 4 → m (5504 + i) = f i := fun i hi => by rw [em235, sd_up_ne (by omega)]; exact hf i hi
                              replace hS : sd_RS m fr n q139_66 (-1) := ⟨by rw [em235, sd_up_ne (by decide)]; exact hS.1, by rw [em235, sd_up_ne (by decide)]; exact hS.2.1, by rw [em235, sd_up_ne (by decide)]; exact hS.2.2.1, by rw [em235, sd_up_ne (by decide)]; exact hS.2.2.2⟩
                              replace hg : m 5510 = (c : Int) := by rw [em235, sd_up_eq]
                              replace hgb : m 5511 = b := by rw [em235, sd_up_ne (by decide)]; exact hgb
                              refine sd_aload_n sD11_reads_238 rfl ?_
                              refine sd_iload sD11_reads_239 rfl ?_
                              refine sd_putfc sd_sokM sd_oneM hx sD11_reads_241 sF11_182 sGM15_16 (by decide) (Or.inr ⟨rfl, sd_b01 _⟩) (fun m hx em241 => ?_)
                              replace hK6 := hK6.up em241 (by omega)
                              replace hf : ∀ i, i < 4 → m (5504 + i) = f i := fun i hi => by rw [em241, sd_up_ne (by omega)]; exact hf i hi
                              replace hS : sd_RS m fr n q139_66 (-1) := ⟨by rw [em241, sd_up_ne (by decide)]; exact hS.1, by rw [em241, sd_up_ne (by decide)]; exact hS.2.1, by rw [em241, sd_up_ne (by decide)]; exact hS.2.2.1, by rw [em241, sd_up_ne (by decide)]; exact hS.2.2.2⟩
                              replace hg : m 5510 = (c : Int) := by rw [em241, sd_up_ne (by decide)]; exact hg
                              replace hgb : m 5511 = sd_b ((0 + (j45_1 : Int)) = 1) := by rw [em241, sd_up_eq]
                              have hmt : sd_mt f w (j45_1, j68_9, [t139_37, t139_66]) := ⟨by show (j68_9 : Int) = w; omega, (fun t ht => by simp at ht; rcases ht with rfl | rfl; exact zc214.1; exact zc214.2)⟩
                              refine sd_iload sD11_reads_244 rfl ?_
                              refine sd_iconst sD11_reads_246 (by decide) ?_
                              refine sd_icmp_ge (tgt := 270) sD11_reads_247 (by decide) (fun zc247 => ?_) (fun zc247 => ?_)
                              ·
                                refine sd_iconst sD11_reads_270 (by decide) ?_
                                refine sd_istore (ls' := [some (.inr 15), some (.inl pl), some (.inl mn), some (.inl w), some (.inl 0), some (.inl (c : Int)), some (.inl (sd_b ((0 + (j45_1 : Int)) = 1))), some (.inl (2 + (j68_9 : Int))), some (.inl (sd_b ((sd_hl f t139_37) ∧ (sd_hl f t139_66)))), some (.inl (6 + (j107_30 : Int))), some (.inl 0), some (.inl 2), some (.inl (sd_b (sd_hl f t139_66)))]) sD11_reads_271 (by decide) rfl ?_
                                refine sd_aload_n sD11_reads_273 rfl ?_
                                refine sd_dup sD11_reads_274 ?_
                                refine sd_getfi sD11_reads_275 sF11_147 sGM15_12 ?_
                                rw [show m 5492 = (q139_66 : Int) from hS.2.2.1]
                                refine sd_iload sD11_reads_278 rfl ?_
                                refine sd_if_eq (tgt := 287) sD11_reads_280 (by decide) (fun zc280 => ?_) (fun zc280 => (by exfalso; omega))
                                refine sd_iconst sD11_reads_287 (by decide) ?_
                                refine sd_iadd (z := (q139_66 : Int)) sD11_reads_288 (by omega) (by omega) ?_
                                refine sd_putfc sd_sokM sd_oneM hx sD11_reads_289 sF11_147 sGM15_12 (by decide) (Or.inl rfl) (fun m hx em289 => ?_)
                                have hk289x := sd_k2.up em289 (Or.inl rfl)
                                replace hK6 := hK6.k2 hk289x
                                replace hf : ∀ i, i < 4 → m (5504 + i) = f i := fun i hi => (hk289x _ (by omega) (by omega)).trans (hf i hi)
                                replace hg := (hk289x 5510 (by decide) (by decide)).trans hg
                                replace hgb := (hk289x 5511 (by decide) (by decide)).trans hgb
                                replace hS : sd_RS m fr n q139_66 (-1) := ⟨by rw [em289, sd_up_ne (by decide)]; exact hS.1, by rw [em289, sd_up_ne (by decide)]; exact hS.2.1, by rw [em289, sd_up_eq]; (try omega), by rw [em289, sd_up_ne (by decide)]; exact hS.2.2.2⟩
                                refine sd_iinc (y := ((c : Int) + 1)) (ls' := [some (.inr 15), some (.inl pl), some (.inl mn), some (.inl w), some (.inl 0), some (.inl ((c : Int) + 1)), some (.inl (sd_b ((0 + (j45_1 : Int)) = 1))), some (.inl (2 + (j68_9 : Int))), some (.inl (sd_b ((sd_hl f t139_37) ∧ (sd_hl f t139_66)))), some (.inl (6 + (j107_30 : Int))), some (.inl 0), some (.inl 2), some (.inl (sd_b (sd_hl f t139_66)))]) sD11_reads_292 rfl (by omega) (by omega) (by decide) rfl ?_
                                refine sd_goto (tgt := 31) sD11_reads_295 (by decide) ?_
                                refine sd_iload sD11_reads_31 rfl ?_
                                refine sd_iconst sD11_reads_33 (by decide) ?_
                                refine sd_icmp_ge (tgt := 298) sD11_reads_34 (by decide) (fun zc34 => ?_) (fun zc34 => ?_)
                                ·
                                  refine sd_aload_n sD11_reads_298 rfl ?_
                                  refine sd_getfi sD11_reads_299 sF11_147 sGM15_12 ?_
                                  rw [show m 5492 = (q139_66 : Int) from hS.2.2.1]
                                  refine sd_aload_n sD11_reads_302 rfl ?_
                                  refine sd_getfi sD11_reads_303 sF11_151 sGM15_11 ?_
                                  rw [show m 5491 = (n : Int) from hS.2.1]
                                  refine sd_icmp_ge (tgt := 313) sD11_reads_306 (by decide) (fun zc306 => ?_) (fun zc306 => ?_)
                                  ·
                                    refine sd_vreturn sD11_reads_313 rfl (fun hm => hQ _ _ ⟨rfl, hK6, ?_⟩)
                                    exact Or.inr ⟨[(j45_1, j68_9, [t139_37, t139_66])], by simp only [sd_txt, hcl]; rw [if_pos (by omega)], hS.2.2.2, Or.inr (Or.inr ⟨by omega, by rw [(sd_fcl_y hmt).1]; decide, by rw [hg, (sd_fcl_y hmt).1]; omega, by rw [hgb, (sd_fcl_y hmt).2]; exact sd_b1j (by omega)⟩)⟩
                                  ·
                                    refine sd_aload_n sD11_reads_309 rfl ?_
                                    refine sd_callV (as := []) (st := []) sD11_reads_310 sM11_167 rfl rfl sOM15 rfl (by decide) (Nat.le_of_ble_eq_true rfl) (cM_wrong1 fr n q139_66 _ m hx hS) (fun r m hq ho310 hm => ?_)
                                    obtain ⟨rfl, hk310_91, hS⟩ := hq
                                    replace hx := hk310_91.ns hx
                                    replace hK6 := hK6.k2 hk310_91
                                    replace hf : ∀ i, i < 4 → m (5504 + i) = f i := fun i hi => (hk310_91 _ (by omega) (by omega)).trans (hf i hi)
                                    replace hg := (hk310_91 5510 (by decide) (by decide)).trans hg
                                    replace hgb := (hk310_91 5511 (by decide) (by decide)).trans hgb
                                    rcases (⟨trivial⟩ : Nonempty True) with hy310_91
                                    ·
                                      show sd_Wp sd_SM 4 sY11_reads 313 [some (.inr 15), some (.inl pl), some (.inl mn), some (.inl w), some (.inl 0), some (.inl ((c : Int) + 1)), some (.inl (sd_b ((0 + (j45_1 : Int)) = 1))), some (.inl (2 + (j68_9 : Int))), some (.inl (sd_b ((sd_hl f t139_37) ∧ (sd_hl f t139_66)))), some (.inl (6 + (j107_30 : Int))), some (.inl 0), some (.inl 2), some (.inl (sd_b (sd_hl f t139_66)))] [] m _
                                      refine sd_vreturn sD11_reads_313 rfl (fun hm => hQ _ _ ⟨rfl, hK6, ?_⟩)
                                      exact Or.inl ⟨q139_66, by simp only [sd_txt, hcl]; rw [if_neg (by omega)]; first | (rw [if_pos (by omega)]; done) | (rw [if_neg (by omega), if_neg (by assumption)]; done), hS.2.2.2⟩
                                ·
                                  refine sd_iload sD11_reads_37 rfl ?_
                                  refine sd_if_eq (tgt := 298) sD11_reads_39 (by decide) (fun zc39 => ?_) (fun zc39 => (by exfalso; omega))
                                  refine sd_aload_n sD11_reads_298 rfl ?_
                                  refine sd_getfi sD11_reads_299 sF11_147 sGM15_12 ?_
                                  rw [show m 5492 = (q139_66 : Int) from hS.2.2.1]
                                  refine sd_aload_n sD11_reads_302 rfl ?_
                                  refine sd_getfi sD11_reads_303 sF11_151 sGM15_11 ?_
                                  rw [show m 5491 = (n : Int) from hS.2.1]
                                  refine sd_icmp_ge (tgt := 313) sD11_reads_306 (by decide) (fun zc306 => ?_) (fun zc306 => ?_)
                                  ·
                                    refine sd_vreturn sD11_reads_313 rfl (fun hm => hQ _ _ ⟨rfl, hK6, ?_⟩)
                                    exact Or.inr ⟨[(j45_1, j68_9, [t139_37, t139_66])], by simp only [sd_txt, hcl]; rw [if_pos (by omega)], hS.2.2.2, Or.inr (Or.inr ⟨by omega, by rw [(sd_fcl_y hmt).1]; decide, by rw [hg, (sd_fcl_y hmt).1]; omega, by rw [hgb, (sd_fcl_y hmt).2]; exact sd_b1j (by omega)⟩)⟩
                                  ·
                                    refine sd_aload_n sD11_reads_309 rfl ?_
                                    refine sd_callV (as := []) (st := []) sD11_reads_310 sM11_167 rfl rfl sOM15 rfl (by decide) (Nat.le_of_ble_eq_true rfl) (cM_wrong1 fr n q139_66 _ m hx hS) (fun r m hq ho310 hm => ?_)
                                    obtain ⟨rfl, hk310_92, hS⟩ := hq
                                    replace hx := hk310_92.ns hx
                                    replace hK6 := hK6.k2 hk310_92
                                    replace hf : ∀ i, i < 4 → m (5504 + i) = f i := fun i hi => (hk310_92 _ (by omega) (by omega)).trans (hf i hi)
                                    replace hg := (hk310_92 5510 (by decide) (by decide)).trans hg
                                    replace hgb := (hk310_92 5511 (by decide) (by decide)).trans hgb
                                    rcases (⟨trivial⟩ : Nonempty True) with hy310_92
                                    ·
                                      show sd_Wp sd_SM 4 sY11_reads 313 [some (.inr 15), some (.inl pl), some (.inl mn), some (.inl w), some (.inl 0), some (.inl ((c : Int) + 1)), some (.inl (sd_b ((0 + (j45_1 : Int)) = 1))), some (.inl (2 + (j68_9 : Int))), some (.inl (sd_b ((sd_hl f t139_37) ∧ (sd_hl f t139_66)))), some (.inl (6 + (j107_30 : Int))), some (.inl 0), some (.inl 2), some (.inl (sd_b (sd_hl f t139_66)))] [] m _
                                      refine sd_vreturn sD11_reads_313 rfl (fun hm => hQ _ _ ⟨rfl, hK6, ?_⟩)
                                      exact Or.inl ⟨q139_66, by simp only [sd_txt, hcl]; rw [if_neg (by omega)]; first | (rw [if_pos (by omega)]; done) | (rw [if_neg (by omega), if_neg (by assumption)]; done), hS.2.2.2⟩
                              ·
                                refine sd_aload_n sD11_reads_250 rfl ?_
                                refine sd_callVp (as := []) (st := []) (v := .inl 1) sD11_reads_251 sM11_160 sOM15 rfl rfl rfl (by decide) (Nat.le_of_ble_eq_true rfl) (cM_isGood1 fr n q139_66 _ m hx hS) (fun ho251 => ?_)
                                refine sd_if_eq (tgt := 270) sD11_reads_254 (by decide) (fun zc254 => (by exfalso; omega)) (fun zc254 => ?_)
                                refine sd_aload_n sD11_reads_257 rfl ?_
                                refine sd_callVp (as := []) (st := []) (v := .inl (B q139_66)) sD11_reads_258 sM11_164 sOM15 rfl rfl rfl (by decide) (Nat.le_of_ble_eq_true rfl) (cM_byteAt _ fr B n q139_66 _ m hx hB hS) (fun ho258 => ?_)
                                refine sd_bipush sD11_reads_261 rfl (by decide) ?_
                                refine sd_icmp_ne (tgt := 270) sD11_reads_263 (by decide) (fun zc263 => ?_) (fun zc263 => ?_)
                                ·
                                  refine sd_iconst sD11_reads_270 (by decide) ?_
                                  refine sd_istore (ls' := [some (.inr 15), some (.inl pl), some (.inl mn), some (.inl w), some (.inl 0), some (.inl (c : Int)), some (.inl (sd_b ((0 + (j45_1 : Int)) = 1))), some (.inl (2 + (j68_9 : Int))), some (.inl (sd_b ((sd_hl f t139_37) ∧ (sd_hl f t139_66)))), some (.inl (6 + (j107_30 : Int))), some (.inl 0), some (.inl 2), some (.inl (sd_b (sd_hl f t139_66)))]) sD11_reads_271 (by decide) rfl ?_
                                  refine sd_aload_n sD11_reads_273 rfl ?_
                                  refine sd_dup sD11_reads_274 ?_
                                  refine sd_getfi sD11_reads_275 sF11_147 sGM15_12 ?_
                                  rw [show m 5492 = (q139_66 : Int) from hS.2.2.1]
                                  refine sd_iload sD11_reads_278 rfl ?_
                                  refine sd_if_eq (tgt := 287) sD11_reads_280 (by decide) (fun zc280 => ?_) (fun zc280 => (by exfalso; omega))
                                  refine sd_iconst sD11_reads_287 (by decide) ?_
                                  refine sd_iadd (z := (q139_66 : Int)) sD11_reads_288 (by omega) (by omega) ?_
                                  refine sd_putfc sd_sokM sd_oneM hx sD11_reads_289 sF11_147 sGM15_12 (by decide) (Or.inl rfl) (fun m hx em289 => ?_)
                                  have hk289x := sd_k2.up em289 (Or.inl rfl)
                                  replace hK6 := hK6.k2 hk289x
                                  replace hf : ∀ i, i < 4 → m (5504 + i) = f i := fun i hi => (hk289x _ (by omega) (by omega)).trans (hf i hi)
                                  replace hg := (hk289x 5510 (by decide) (by decide)).trans hg
                                  replace hgb := (hk289x 5511 (by decide) (by decide)).trans hgb
                                  replace hS : sd_RS m fr n q139_66 (-1) := ⟨by rw [em289, sd_up_ne (by decide)]; exact hS.1, by rw [em289, sd_up_ne (by decide)]; exact hS.2.1, by rw [em289, sd_up_eq]; (try omega), by rw [em289, sd_up_ne (by decide)]; exact hS.2.2.2⟩
                                  refine sd_iinc (y := ((c : Int) + 1)) (ls' := [some (.inr 15), some (.inl pl), some (.inl mn), some (.inl w), some (.inl 0), some (.inl ((c : Int) + 1)), some (.inl (sd_b ((0 + (j45_1 : Int)) = 1))), some (.inl (2 + (j68_9 : Int))), some (.inl (sd_b ((sd_hl f t139_37) ∧ (sd_hl f t139_66)))), some (.inl (6 + (j107_30 : Int))), some (.inl 0), some (.inl 2), some (.inl (sd_b (sd_hl f t139_66)))]) sD11_reads_292 rfl (by omega) (by omega) (by decide) rfl ?_
                                  refine sd_goto (tgt := 31) sD11_reads_295 (by decide) ?_
                                  refine sd_iload sD11_reads_31 rfl ?_
                                  refine sd_iconst sD11_reads_33 (by decide) ?_
                                  refine sd_icmp_ge (tgt := 298) sD11_reads_34 (by decide) (fun zc34 => ?_) (fun zc34 => ?_)
                                  ·
                                    refine sd_aload_n sD11_reads_298 rfl ?_
                                    refine sd_getfi sD11_reads_299 sF11_147 sGM15_12 ?_
                                    rw [show m 5492 = (q139_66 : Int) from hS.2.2.1]
                                    refine sd_aload_n sD11_reads_302 rfl ?_
                                    refine sd_getfi sD11_reads_303 sF11_151 sGM15_11 ?_
                                    rw [show m 5491 = (n : Int) from hS.2.1]
                                    refine sd_icmp_ge (tgt := 313) sD11_reads_306 (by decide) (fun zc306 => ?_) (fun zc306 => ?_)
                                    ·
                                      refine sd_vreturn sD11_reads_313 rfl (fun hm => hQ _ _ ⟨rfl, hK6, ?_⟩)
                                      exact Or.inr ⟨[(j45_1, j68_9, [t139_37, t139_66])], by simp only [sd_txt, hcl]; rw [if_pos (by omega)], hS.2.2.2, Or.inr (Or.inr ⟨by omega, by rw [(sd_fcl_y hmt).1]; decide, by rw [hg, (sd_fcl_y hmt).1]; omega, by rw [hgb, (sd_fcl_y hmt).2]; exact sd_b1j (by omega)⟩)⟩
                                    ·
                                      refine sd_aload_n sD11_reads_309 rfl ?_
                                      refine sd_callV (as := []) (st := []) sD11_reads_310 sM11_167 rfl rfl sOM15 rfl (by decide) (Nat.le_of_ble_eq_true rfl) (cM_wrong1 fr n q139_66 _ m hx hS) (fun r m hq ho310 hm => ?_)
                                      obtain ⟨rfl, hk310_93, hS⟩ := hq
                                      replace hx := hk310_93.ns hx
                                      replace hK6 := hK6.k2 hk310_93
                                      replace hf : ∀ i, i < 4 → m (5504 + i) = f i := fun i hi => (hk310_93 _ (by omega) (by omega)).trans (hf i hi)
                                      replace hg := (hk310_93 5510 (by decide) (by decide)).trans hg
                                      replace hgb := (hk310_93 5511 (by decide) (by decide)).trans hgb
                                      rcases (⟨trivial⟩ : Nonempty True) with hy310_93
                                      ·
                                        show sd_Wp sd_SM 4 sY11_reads 313 [some (.inr 15), some (.inl pl), some (.inl mn), some (.inl w), some (.inl 0), some (.inl ((c : Int) + 1)), some (.inl (sd_b ((0 + (j45_1 : Int)) = 1))), some (.inl (2 + (j68_9 : Int))), some (.inl (sd_b ((sd_hl f t139_37) ∧ (sd_hl f t139_66)))), some (.inl (6 + (j107_30 : Int))), some (.inl 0), some (.inl 2), some (.inl (sd_b (sd_hl f t139_66)))] [] m _
                                        refine sd_vreturn sD11_reads_313 rfl (fun hm => hQ _ _ ⟨rfl, hK6, ?_⟩)
                                        exact Or.inl ⟨q139_66, by simp only [sd_txt, hcl]; rw [if_neg (by omega)]; first | (rw [if_pos (by omega)]; done) | (rw [if_neg (by omega), if_neg (by assumption)]; done), hS.2.2.2⟩
                                  ·
                                    refine sd_iload sD11_reads_37 rfl ?_
                                    refine sd_if_eq (tgt := 298) sD11_reads_39 (by decide) (fun zc39 => ?_) (fun zc39 => (by exfalso; omega))
                                    refine sd_aload_n sD11_reads_298 rfl ?_
                                    refine sd_getfi sD11_reads_299 sF11_147 sGM15_12 ?_
                                    rw [show m 5492 = (q139_66 : Int) from hS.2.2.1]
                                    refine sd_aload_n sD11_reads_302 rfl ?_
                                    refine sd_getfi sD11_reads_303 sF11_151 sGM15_11 ?_
                                    rw [show m 5491 = (n : Int) from hS.2.1]
                                    refine sd_icmp_ge (tgt := 313) sD11_reads_306 (by decide) (fun zc306 => ?_) (fun zc306 => ?_)
                                    ·
                                      refine sd_vreturn sD11_reads_313 rfl (fun hm => hQ _ _ ⟨rfl, hK6, ?_⟩)
                                      exact Or.inr ⟨[(j45_1, j68_9, [t139_37, t139_66])], by simp only [sd_txt, hcl]; rw [if_pos (by omega)], hS.2.2.2, Or.inr (Or.inr ⟨by omega, by rw [(sd_fcl_y hmt).1]; decide, by rw [hg, (sd_fcl_y hmt).1]; omega, by rw [hgb, (sd_fcl_y hmt).2]; exact sd_b1j (by omega)⟩)⟩
                                    ·
                                      refine sd_aload_n sD11_reads_309 rfl ?_
                                      refine sd_callV (as := []) (st := []) sD11_reads_310 sM11_167 rfl rfl sOM15 rfl (by decide) (Nat.le_of_ble_eq_true rfl) (cM_wrong1 fr n q139_66 _ m hx hS) (fun r m hq ho310 hm => ?_)
                                      obtain ⟨rfl, hk310_94, hS⟩ := hq
                                      replace hx := hk310_94.ns hx
                                      replace hK6 := hK6.k2 hk310_94
                                      replace hf : ∀ i, i < 4 → m (5504 + i) = f i := fun i hi => (hk310_94 _ (by omega) (by omega)).trans (hf i hi)
                                      replace hg := (hk310_94 5510 (by decide) (by decide)).trans hg
                                      replace hgb := (hk310_94 5511 (by decide) (by decide)).trans hgb
                                      rcases (⟨trivial⟩ : Nonempty True) with hy310_94
                                      ·
                                        show sd_Wp sd_SM 4 sY11_reads 313 [some (.inr 15), some (.inl pl), some (.inl mn), some (.inl w), some (.inl 0), some (.inl ((c : Int) + 1)), some (.inl (sd_b ((0 + (j45_1 : Int)) = 1))), some (.inl (2 + (j68_9 : Int))), some (.inl (sd_b ((sd_hl f t139_37) ∧ (sd_hl f t139_66)))), some (.inl (6 + (j107_30 : Int))), some (.inl 0), some (.inl 2), some (.inl (sd_b (sd_hl f t139_66)))] [] m _
                                        refine sd_vreturn sD11_reads_313 rfl (fun hm => hQ _ _ ⟨rfl, hK6, ?_⟩)
                                        exact Or.inl ⟨q139_66, by simp only [sd_txt, hcl]; rw [if_neg (by omega)]; first | (rw [if_pos (by omega)]; done) | (rw [if_neg (by omega), if_neg (by assumption)]; done), hS.2.2.2⟩
                                ·
                                  have hsm : B q139_66 = 59 := by assumption
                                  have hin3 := hB.in (p := q139_66) (by omega)
                                  have hn1 := hB.1
                                  refine sd_iconst sD11_reads_266 (by decide) ?_
                                  refine sd_goto (tgt := 271) sD11_reads_267 (by decide) ?_
                                  refine sd_istore (ls' := [some (.inr 15), some (.inl pl), some (.inl mn), some (.inl w), some (.inl 1), some (.inl (c : Int)), some (.inl (sd_b ((0 + (j45_1 : Int)) = 1))), some (.inl (2 + (j68_9 : Int))), some (.inl (sd_b ((sd_hl f t139_37) ∧ (sd_hl f t139_66)))), some (.inl (6 + (j107_30 : Int))), some (.inl 0), some (.inl 2), some (.inl (sd_b (sd_hl f t139_66)))]) sD11_reads_271 (by decide) rfl ?_
                                  refine sd_aload_n sD11_reads_273 rfl ?_
                                  refine sd_dup sD11_reads_274 ?_
                                  refine sd_getfi sD11_reads_275 sF11_147 sGM15_12 ?_
                                  rw [show m 5492 = (q139_66 : Int) from hS.2.2.1]
                                  refine sd_iload sD11_reads_278 rfl ?_
                                  refine sd_if_eq (tgt := 287) sD11_reads_280 (by decide) (fun zc280 => (by exfalso; omega)) (fun zc280 => ?_)
                                  refine sd_iconst sD11_reads_283 (by decide) ?_
                                  refine sd_goto (tgt := 288) sD11_reads_284 (by decide) ?_
                                  refine sd_iadd (z := ((q139_66 : Int) + 1)) sD11_reads_288 (by omega) (by omega) ?_
                                  refine sd_putfc sd_sokM sd_oneM hx sD11_reads_289 sF11_147 sGM15_12 (by decide) (Or.inl rfl) (fun m hx em289 => ?_)
                                  have hk289x := sd_k2.up em289 (Or.inl rfl)
                                  replace hK6 := hK6.k2 hk289x
                                  replace hf : ∀ i, i < 4 → m (5504 + i) = f i := fun i hi => (hk289x _ (by omega) (by omega)).trans (hf i hi)
                                  replace hg := (hk289x 5510 (by decide) (by decide)).trans hg
                                  replace hgb := (hk289x 5511 (by decide) (by decide)).trans hgb
                                  replace hS : sd_RS m fr n (q139_66 + 1) (-1) := ⟨by rw [em289, sd_up_ne (by decide)]; exact hS.1, by rw [em289, sd_up_ne (by decide)]; exact hS.2.1, by rw [em289, sd_up_eq]; (try omega), by rw [em289, sd_up_ne (by decide)]; exact hS.2.2.2⟩
                                  refine sd_iinc (y := ((c : Int) + 1)) (ls' := [some (.inr 15), some (.inl pl), some (.inl mn), some (.inl w), some (.inl 1), some (.inl ((c : Int) + 1)), some (.inl (sd_b ((0 + (j45_1 : Int)) = 1))), some (.inl (2 + (j68_9 : Int))), some (.inl (sd_b ((sd_hl f t139_37) ∧ (sd_hl f t139_66)))), some (.inl (6 + (j107_30 : Int))), some (.inl 0), some (.inl 2), some (.inl (sd_b (sd_hl f t139_66)))]) sD11_reads_292 rfl (by omega) (by omega) (by decide) rfl ?_
                                  refine sd_goto (tgt := 31) sD11_reads_295 (by decide) ?_
                                  refine sd_less (ls' := [some (.inr 15), some (.inl pl), some (.inl mn), some (.inl w), some (.inl 1), some (.inl ((c : Int) + 1)), none, none, none, none, none, none, none]) ?_ rfl (by intro zi zv zh; rcases zi with _ | _ | _ | _ | _ | _ | _ | _ | _ | _ | _ | _ | _ | zi <;> first | exact zh | cases zh)
                                  refine sd_eqw (ls' := [some (.inr 15), some (.inl pl), some (.inl mn), some (.inl w), some (.inl 1), some (.inl ((c + 1 : Nat) : Int)), none, none, none, none, none, none, none]) ?_ (sd_cg rfl (sd_cg rfl (sd_cg rfl (sd_cg rfl (sd_cg rfl (sd_cg (sd_ce (by omega)) rfl)))))) rfl
                                  replace hgb : m 5511 = (j45_1 : Int) := by rw [hgb]; exact sd_b1j (by have := hja; omega)
                                  exact ih (by omega) (c : Int) (j45_1 : Int) m (q139_66 + 1) hx hS (by omega) hK6 hf hg hgb (by omega) (fun r m2 hq => hQ r m2 (sd_rd_B hcl (by omega) (by omega) hsm (by omega) hmt hq))
                      ·
                        have hin4 := hB.in (p := q139_66) (by omega)
                        have hn1 := hB.1
                        refine sd_iconst sD11_reads_173 (by decide) ?_
                        refine sd_goto (tgt := 178) sD11_reads_174 (by decide) ?_
                        refine sd_istore (ls' := [some (.inr 15), some (.inl pl), some (.inl mn), some (.inl w), some (.inl 1), some (.inl (c : Int)), some (.inl (sd_b ((0 + (j45_1 : Int)) = 1))), some (.inl (2 + (j68_9 : Int))), some (.inl (sd_b ((sd_hl f t139_37) ∧ (sd_hl f t139_66)))), some (.inl (6 + (j107_30 : Int))), some (.inl 1), some (.inl 1), some (.inl (sd_b (sd_hl f t139_66)))]) sD11_reads_178 (by decide) rfl ?_
                        refine sd_aload_n sD11_reads_180 rfl ?_
                        refine sd_dup sD11_reads_181 ?_
                        refine sd_getfi sD11_reads_182 sF11_147 sGM15_12 ?_
                        rw [show m 5492 = (q139_66 : Int) from hS.2.2.1]
                        refine sd_iload sD11_reads_185 rfl ?_
                        refine sd_if_eq (tgt := 194) sD11_reads_187 (by decide) (fun zc187 => (by exfalso; omega)) (fun zc187 => ?_)
                        refine sd_iconst sD11_reads_190 (by decide) ?_
                        refine sd_goto (tgt := 195) sD11_reads_191 (by decide) ?_
                        refine sd_iadd (z := ((q139_66 : Int) + 1)) sD11_reads_195 (by omega) (by omega) ?_
                        refine sd_putfc sd_sokM sd_oneM hx sD11_reads_196 sF11_147 sGM15_12 (by decide) (Or.inl rfl) (fun m hx em196 => ?_)
                        have hk196x := sd_k2.up em196 (Or.inl rfl)
                        replace hK6 := hK6.k2 hk196x
                        replace hf : ∀ i, i < 4 → m (5504 + i) = f i := fun i hi => (hk196x _ (by omega) (by omega)).trans (hf i hi)
                        replace hg := (hk196x 5510 (by decide) (by decide)).trans hg
                        replace hgb := (hk196x 5511 (by decide) (by decide)).trans hgb
                        replace hS : sd_RS m fr n (q139_66 + 1) (-1) := ⟨by rw [em196, sd_up_ne (by decide)]; exact hS.1, by rw [em196, sd_up_ne (by decide)]; exact hS.2.1, by rw [em196, sd_up_eq]; (try omega), by rw [em196, sd_up_ne (by decide)]; exact hS.2.2.2⟩
                        refine sd_iinc (y := 2) (ls' := [some (.inr 15), some (.inl pl), some (.inl mn), some (.inl w), some (.inl 1), some (.inl (c : Int)), some (.inl (sd_b ((0 + (j45_1 : Int)) = 1))), some (.inl (2 + (j68_9 : Int))), some (.inl (sd_b ((sd_hl f t139_37) ∧ (sd_hl f t139_66)))), some (.inl (6 + (j107_30 : Int))), some (.inl 1), some (.inl 2), some (.inl (sd_b (sd_hl f t139_66)))]) sD11_reads_199 rfl (by omega) (by omega) (by decide) rfl ?_
                        refine sd_goto (tgt := 127) sD11_reads_202 (by decide) ?_
                        refine sd_iload sD11_reads_127 rfl ?_
                        refine sd_iconst sD11_reads_129 (by decide) ?_
                        refine sd_icmp_ge (tgt := 205) sD11_reads_130 (by decide) (fun zc130 => (by exfalso; omega)) (fun zc130 => ?_)
                        refine sd_iload sD11_reads_133 rfl ?_
                        refine sd_if_eq (tgt := 205) sD11_reads_135 (by decide) (fun zc135 => (by exfalso; omega)) (fun zc135 => ?_)
                        refine sd_aload_n sD11_reads_138 rfl ?_
                        refine sd_callV (as := []) (st := []) sD11_reads_139 sM11_179 rfl rfl sOM15 rfl (by decide) (Nat.le_of_ble_eq_true rfl) (cM_test1 f m hf fr B n (q139_66 + 1) _ m hx hB hS (by omega) hL sd_k2.rf) (fun r m hq ho139 hm => ?_)
                        obtain ⟨hk139_95, hq139_95⟩ := hq
                        replace hx := hk139_95.ns hx
                        replace hK6 := hK6.k2 hk139_95
                        replace hf : ∀ i, i < 4 → m (5504 + i) = f i := fun i hi => (hk139_95 _ (by omega) (by omega)).trans (hf i hi)
                        replace hg := (hk139_95 5510 (by decide) (by decide)).trans hg
                        replace hgb := (hk139_95 5511 (by decide) (by decide)).trans hgb
                        rcases hq139_95 with ⟨q139_95, hz139_95, rfl, hS, hn139_95⟩ | ⟨t139_95, q139_95, hz139_95, rfl, hS, hn139_95⟩
                        ·
                          show sd_Wp sd_SM 4 sY11_reads 142 [some (.inr 15), some (.inl pl), some (.inl mn), some (.inl w), some (.inl 1), some (.inl (c : Int)), some (.inl (sd_b ((0 + (j45_1 : Int)) = 1))), some (.inl (2 + (j68_9 : Int))), some (.inl (sd_b ((sd_hl f t139_37) ∧ (sd_hl f t139_66)))), some (.inl (6 + (j107_30 : Int))), some (.inl 1), some (.inl 2), some (.inl (sd_b (sd_hl f t139_66)))] [.inl 0] m _
                          refine sd_istore (ls' := [some (.inr 15), some (.inl pl), some (.inl mn), some (.inl w), some (.inl 1), some (.inl (c : Int)), some (.inl (sd_b ((0 + (j45_1 : Int)) = 1))), some (.inl (2 + (j68_9 : Int))), some (.inl (sd_b ((sd_hl f t139_37) ∧ (sd_hl f t139_66)))), some (.inl (6 + (j107_30 : Int))), some (.inl 1), some (.inl 2), some (.inl 0)]) sD11_reads_142 (by decide) rfl ?_
                          refine sd_iload sD11_reads_144 rfl ?_
                          refine sd_iload sD11_reads_146 rfl ?_
                          refine sd_iand sD11_reads_148 ?_
                          refine sd_istore (ls' := [some (.inr 15), some (.inl pl), some (.inl mn), some (.inl w), some (.inl 1), some (.inl (c : Int)), some (.inl (sd_b ((0 + (j45_1 : Int)) = 1))), some (.inl (2 + (j68_9 : Int))), some (.inl (sd_and (sd_b ((sd_hl f t139_37) ∧ (sd_hl f t139_66))) 0)), some (.inl (6 + (j107_30 : Int))), some (.inl 1), some (.inl 2), some (.inl 0)]) sD11_reads_149 (by decide) rfl ?_
                          refine sd_iload sD11_reads_151 rfl ?_
                          refine sd_iconst sD11_reads_153 (by decide) ?_
                          refine sd_icmp_ge (tgt := 177) sD11_reads_154 (by decide) (fun zc154 => ?_) (fun zc154 => (by exfalso; omega))
                          refine sd_iconst sD11_reads_177 (by decide) ?_
                          refine sd_istore (ls' := [some (.inr 15), some (.inl pl), some (.inl mn), some (.inl w), some (.inl 1), some (.inl (c : Int)), some (.inl (sd_b ((0 + (j45_1 : Int)) = 1))), some (.inl (2 + (j68_9 : Int))), some (.inl (sd_and (sd_b ((sd_hl f t139_37) ∧ (sd_hl f t139_66))) 0)), some (.inl (6 + (j107_30 : Int))), some (.inl 0), some (.inl 2), some (.inl 0)]) sD11_reads_178 (by decide) rfl ?_
                          refine sd_aload_n sD11_reads_180 rfl ?_
                          refine sd_dup sD11_reads_181 ?_
                          refine sd_getfi sD11_reads_182 sF11_147 sGM15_12 ?_
                          rw [show m 5492 = (q139_95 : Int) from hS.2.2.1]
                          refine sd_iload sD11_reads_185 rfl ?_
                          refine sd_if_eq (tgt := 194) sD11_reads_187 (by decide) (fun zc187 => ?_) (fun zc187 => (by exfalso; omega))
                          refine sd_iconst sD11_reads_194 (by decide) ?_
                          refine sd_iadd (z := (q139_95 : Int)) sD11_reads_195 (by omega) (by omega) ?_
                          refine sd_putfc sd_sokM sd_oneM hx sD11_reads_196 sF11_147 sGM15_12 (by decide) (Or.inl rfl) (fun m hx em196 => ?_)
                          have hk196x := sd_k2.up em196 (Or.inl rfl)
                          replace hK6 := hK6.k2 hk196x
                          replace hf : ∀ i, i < 4 → m (5504 + i) = f i := fun i hi => (hk196x _ (by omega) (by omega)).trans (hf i hi)
                          replace hg := (hk196x 5510 (by decide) (by decide)).trans hg
                          replace hgb := (hk196x 5511 (by decide) (by decide)).trans hgb
                          replace hS : sd_RS m fr n q139_95 (q139_95 : Int) := ⟨by rw [em196, sd_up_ne (by decide)]; exact hS.1, by rw [em196, sd_up_ne (by decide)]; exact hS.2.1, by rw [em196, sd_up_eq]; (try omega), by rw [em196, sd_up_ne (by decide)]; exact hS.2.2.2⟩
                          refine sd_iinc (y := 3) (ls' := [some (.inr 15), some (.inl pl), some (.inl mn), some (.inl w), some (.inl 1), some (.inl (c : Int)), some (.inl (sd_b ((0 + (j45_1 : Int)) = 1))), some (.inl (2 + (j68_9 : Int))), some (.inl (sd_and (sd_b ((sd_hl f t139_37) ∧ (sd_hl f t139_66))) 0)), some (.inl (6 + (j107_30 : Int))), some (.inl 0), some (.inl 3), some (.inl 0)]) sD11_reads_199 rfl (by omega) (by omega) (by decide) rfl ?_
                          refine sd_goto (tgt := 127) sD11_reads_202 (by decide) ?_
                          refine sd_iload sD11_reads_127 rfl ?_
                          refine sd_iconst sD11_reads_129 (by decide) ?_
                          refine sd_icmp_ge (tgt := 205) sD11_reads_130 (by decide) (fun zc130 => ?_) (fun zc130 => (by exfalso; omega))
                          refine sd_aload_n sD11_reads_205 rfl ?_
                          refine sd_callVp (as := []) (st := []) (v := .inl 0) sD11_reads_206 sM11_160 sOM15 rfl rfl rfl (by decide) (Nat.le_of_ble_eq_true rfl) (cM_isGood0 fr n q139_95 q139_95 _ m hx hS) (fun ho206 => ?_)
                          refine sd_if_eq (tgt := 244) sD11_reads_209 (by decide) (fun zc209 => ?_) (fun zc209 => (by exfalso; omega))
                          refine sd_iload sD11_reads_244 rfl ?_
                          refine sd_iconst sD11_reads_246 (by decide) ?_
                          refine sd_icmp_ge (tgt := 270) sD11_reads_247 (by decide) (fun zc247 => ?_) (fun zc247 => ?_)
                          ·
                            refine sd_iconst sD11_reads_270 (by decide) ?_
                            refine sd_istore (ls' := [some (.inr 15), some (.inl pl), some (.inl mn), some (.inl w), some (.inl 0), some (.inl (c : Int)), some (.inl (sd_b ((0 + (j45_1 : Int)) = 1))), some (.inl (2 + (j68_9 : Int))), some (.inl (sd_and (sd_b ((sd_hl f t139_37) ∧ (sd_hl f t139_66))) 0)), some (.inl (6 + (j107_30 : Int))), some (.inl 0), some (.inl 3), some (.inl 0)]) sD11_reads_271 (by decide) rfl ?_
                            refine sd_aload_n sD11_reads_273 rfl ?_
                            refine sd_dup sD11_reads_274 ?_
                            refine sd_getfi sD11_reads_275 sF11_147 sGM15_12 ?_
                            rw [show m 5492 = (q139_95 : Int) from hS.2.2.1]
                            refine sd_iload sD11_reads_278 rfl ?_
                            refine sd_if_eq (tgt := 287) sD11_reads_280 (by decide) (fun zc280 => ?_) (fun zc280 => (by exfalso; omega))
                            refine sd_iconst sD11_reads_287 (by decide) ?_
                            refine sd_iadd (z := (q139_95 : Int)) sD11_reads_288 (by omega) (by omega) ?_
                            refine sd_putfc sd_sokM sd_oneM hx sD11_reads_289 sF11_147 sGM15_12 (by decide) (Or.inl rfl) (fun m hx em289 => ?_)
                            have hk289x := sd_k2.up em289 (Or.inl rfl)
                            replace hK6 := hK6.k2 hk289x
                            replace hf : ∀ i, i < 4 → m (5504 + i) = f i := fun i hi => (hk289x _ (by omega) (by omega)).trans (hf i hi)
                            replace hg := (hk289x 5510 (by decide) (by decide)).trans hg
                            replace hgb := (hk289x 5511 (by decide) (by decide)).trans hgb
                            replace hS : sd_RS m fr n q139_95 (q139_95 : Int) := ⟨by rw [em289, sd_up_ne (by decide)]; exact hS.1, by rw [em289, sd_up_ne (by decide)]; exact hS.2.1, by rw [em289, sd_up_eq]; (try omega), by rw [em289, sd_up_ne (by decide)]; exact hS.2.2.2⟩
                            refine sd_iinc (y := ((c : Int) + 1)) (ls' := [some (.inr 15), some (.inl pl), some (.inl mn), some (.inl w), some (.inl 0), some (.inl ((c : Int) + 1)), some (.inl (sd_b ((0 + (j45_1 : Int)) = 1))), some (.inl (2 + (j68_9 : Int))), some (.inl (sd_and (sd_b ((sd_hl f t139_37) ∧ (sd_hl f t139_66))) 0)), some (.inl (6 + (j107_30 : Int))), some (.inl 0), some (.inl 3), some (.inl 0)]) sD11_reads_292 rfl (by omega) (by omega) (by decide) rfl ?_
                            refine sd_goto (tgt := 31) sD11_reads_295 (by decide) ?_
                            refine sd_iload sD11_reads_31 rfl ?_
                            refine sd_iconst sD11_reads_33 (by decide) ?_
                            refine sd_icmp_ge (tgt := 298) sD11_reads_34 (by decide) (fun zc34 => ?_) (fun zc34 => ?_)
                            ·
                              refine sd_aload_n sD11_reads_298 rfl ?_
                              refine sd_getfi sD11_reads_299 sF11_147 sGM15_12 ?_
                              rw [show m 5492 = (q139_95 : Int) from hS.2.2.1]
                              refine sd_aload_n sD11_reads_302 rfl ?_
                              refine sd_getfi sD11_reads_303 sF11_151 sGM15_11 ?_
                              rw [show m 5491 = (n : Int) from hS.2.1]
                              refine sd_icmp_ge (tgt := 313) sD11_reads_306 (by decide) (fun zc306 => ?_) (fun zc306 => ?_)
                              ·
                                refine sd_vreturn sD11_reads_313 rfl (fun hm => hQ _ _ ⟨rfl, hK6, ?_⟩)
                                have hwd : sd_wd B p = .inr ((j45_1, j68_9), q68_9) := by simp only [sd_wd, hz45_1]; rw [if_pos hb62_8, hz68_9]
                                have htt : sd_tt B 3 (sd_fe B (q68_9 + 1) 7) = .inl q139_95 := by rw [hfe]; simp only [sd_tt, hz139_37, hz139_66, hz139_95]; simp [*]
                                exact Or.inl ⟨q139_95, by simp only [sd_txt, sd_cls, hwd]; rw [if_pos hsp2, if_pos hff, htt], hS.2.2.2⟩
                              ·
                                refine sd_aload_n sD11_reads_309 rfl ?_
                                refine sd_callV (as := []) (st := []) sD11_reads_310 sM11_167 rfl rfl sOM15 rfl (by decide) (Nat.le_of_ble_eq_true rfl) (cM_wrong0 fr n q139_95 q139_95 _ m hx hS) (fun r m hq ho310 hm => ?_)
                                obtain ⟨rfl, hk310_96, hS⟩ := hq
                                replace hx := hk310_96.ns hx
                                replace hK6 := hK6.k2 hk310_96
                                replace hf : ∀ i, i < 4 → m (5504 + i) = f i := fun i hi => (hk310_96 _ (by omega) (by omega)).trans (hf i hi)
                                replace hg := (hk310_96 5510 (by decide) (by decide)).trans hg
                                replace hgb := (hk310_96 5511 (by decide) (by decide)).trans hgb
                                rcases (⟨trivial⟩ : Nonempty True) with hy310_96
                                ·
                                  show sd_Wp sd_SM 4 sY11_reads 313 [some (.inr 15), some (.inl pl), some (.inl mn), some (.inl w), some (.inl 0), some (.inl ((c : Int) + 1)), some (.inl (sd_b ((0 + (j45_1 : Int)) = 1))), some (.inl (2 + (j68_9 : Int))), some (.inl (sd_and (sd_b ((sd_hl f t139_37) ∧ (sd_hl f t139_66))) 0)), some (.inl (6 + (j107_30 : Int))), some (.inl 0), some (.inl 3), some (.inl 0)] [] m _
                                  refine sd_vreturn sD11_reads_313 rfl (fun hm => hQ _ _ ⟨rfl, hK6, ?_⟩)
                                  have hwd : sd_wd B p = .inr ((j45_1, j68_9), q68_9) := by simp only [sd_wd, hz45_1]; rw [if_pos hb62_8, hz68_9]
                                  have htt : sd_tt B 3 (sd_fe B (q68_9 + 1) 7) = .inl q139_95 := by rw [hfe]; simp only [sd_tt, hz139_37, hz139_66, hz139_95]; simp [*]
                                  exact Or.inl ⟨q139_95, by simp only [sd_txt, sd_cls, hwd]; rw [if_pos hsp2, if_pos hff, htt], hS.2.2.2⟩
                            ·
                              refine sd_iload sD11_reads_37 rfl ?_
                              refine sd_if_eq (tgt := 298) sD11_reads_39 (by decide) (fun zc39 => ?_) (fun zc39 => (by exfalso; omega))
                              refine sd_aload_n sD11_reads_298 rfl ?_
                              refine sd_getfi sD11_reads_299 sF11_147 sGM15_12 ?_
                              rw [show m 5492 = (q139_95 : Int) from hS.2.2.1]
                              refine sd_aload_n sD11_reads_302 rfl ?_
                              refine sd_getfi sD11_reads_303 sF11_151 sGM15_11 ?_
                              rw [show m 5491 = (n : Int) from hS.2.1]
                              refine sd_icmp_ge (tgt := 313) sD11_reads_306 (by decide) (fun zc306 => ?_) (fun zc306 => ?_)
                              ·
                                refine sd_vreturn sD11_reads_313 rfl (fun hm => hQ _ _ ⟨rfl, hK6, ?_⟩)
                                have hwd : sd_wd B p = .inr ((j45_1, j68_9), q68_9) := by simp only [sd_wd, hz45_1]; rw [if_pos hb62_8, hz68_9]
                                have htt : sd_tt B 3 (sd_fe B (q68_9 + 1) 7) = .inl q139_95 := by rw [hfe]; simp only [sd_tt, hz139_37, hz139_66, hz139_95]; simp [*]
                                exact Or.inl ⟨q139_95, by simp only [sd_txt, sd_cls, hwd]; rw [if_pos hsp2, if_pos hff, htt], hS.2.2.2⟩
                              ·
                                refine sd_aload_n sD11_reads_309 rfl ?_
                                refine sd_callV (as := []) (st := []) sD11_reads_310 sM11_167 rfl rfl sOM15 rfl (by decide) (Nat.le_of_ble_eq_true rfl) (cM_wrong0 fr n q139_95 q139_95 _ m hx hS) (fun r m hq ho310 hm => ?_)
                                obtain ⟨rfl, hk310_97, hS⟩ := hq
                                replace hx := hk310_97.ns hx
                                replace hK6 := hK6.k2 hk310_97
                                replace hf : ∀ i, i < 4 → m (5504 + i) = f i := fun i hi => (hk310_97 _ (by omega) (by omega)).trans (hf i hi)
                                replace hg := (hk310_97 5510 (by decide) (by decide)).trans hg
                                replace hgb := (hk310_97 5511 (by decide) (by decide)).trans hgb
                                rcases (⟨trivial⟩ : Nonempty True) with hy310_97
                                ·
                                  show sd_Wp sd_SM 4 sY11_reads 313 [some (.inr 15), some (.inl pl), some (.inl mn), some (.inl w), some (.inl 0), some (.inl ((c : Int) + 1)), some (.inl (sd_b ((0 + (j45_1 : Int)) = 1))), some (.inl (2 + (j68_9 : Int))), some (.inl (sd_and (sd_b ((sd_hl f t139_37) ∧ (sd_hl f t139_66))) 0)), some (.inl (6 + (j107_30 : Int))), some (.inl 0), some (.inl 3), some (.inl 0)] [] m _
                                  refine sd_vreturn sD11_reads_313 rfl (fun hm => hQ _ _ ⟨rfl, hK6, ?_⟩)
                                  have hwd : sd_wd B p = .inr ((j45_1, j68_9), q68_9) := by simp only [sd_wd, hz45_1]; rw [if_pos hb62_8, hz68_9]
                                  have htt : sd_tt B 3 (sd_fe B (q68_9 + 1) 7) = .inl q139_95 := by rw [hfe]; simp only [sd_tt, hz139_37, hz139_66, hz139_95]; simp [*]
                                  exact Or.inl ⟨q139_95, by simp only [sd_txt, sd_cls, hwd]; rw [if_pos hsp2, if_pos hff, htt], hS.2.2.2⟩
                          ·
                            refine sd_aload_n sD11_reads_250 rfl ?_
                            refine sd_callVp (as := []) (st := []) (v := .inl 0) sD11_reads_251 sM11_160 sOM15 rfl rfl rfl (by decide) (Nat.le_of_ble_eq_true rfl) (cM_isGood0 fr n q139_95 q139_95 _ m hx hS) (fun ho251 => ?_)
                            refine sd_if_eq (tgt := 270) sD11_reads_254 (by decide) (fun zc254 => ?_) (fun zc254 => (by exfalso; omega))
                            refine sd_iconst sD11_reads_270 (by decide) ?_
                            refine sd_istore (ls' := [some (.inr 15), some (.inl pl), some (.inl mn), some (.inl w), some (.inl 0), some (.inl (c : Int)), some (.inl (sd_b ((0 + (j45_1 : Int)) = 1))), some (.inl (2 + (j68_9 : Int))), some (.inl (sd_and (sd_b ((sd_hl f t139_37) ∧ (sd_hl f t139_66))) 0)), some (.inl (6 + (j107_30 : Int))), some (.inl 0), some (.inl 3), some (.inl 0)]) sD11_reads_271 (by decide) rfl ?_
                            refine sd_aload_n sD11_reads_273 rfl ?_
                            refine sd_dup sD11_reads_274 ?_
                            refine sd_getfi sD11_reads_275 sF11_147 sGM15_12 ?_
                            rw [show m 5492 = (q139_95 : Int) from hS.2.2.1]
                            refine sd_iload sD11_reads_278 rfl ?_
                            refine sd_if_eq (tgt := 287) sD11_reads_280 (by decide) (fun zc280 => ?_) (fun zc280 => (by exfalso; omega))
                            refine sd_iconst sD11_reads_287 (by decide) ?_
                            refine sd_iadd (z := (q139_95 : Int)) sD11_reads_288 (by omega) (by omega) ?_
                            refine sd_putfc sd_sokM sd_oneM hx sD11_reads_289 sF11_147 sGM15_12 (by decide) (Or.inl rfl) (fun m hx em289 => ?_)
                            have hk289x := sd_k2.up em289 (Or.inl rfl)
                            replace hK6 := hK6.k2 hk289x
                            replace hf : ∀ i, i < 4 → m (5504 + i) = f i := fun i hi => (hk289x _ (by omega) (by omega)).trans (hf i hi)
                            replace hg := (hk289x 5510 (by decide) (by decide)).trans hg
                            replace hgb := (hk289x 5511 (by decide) (by decide)).trans hgb
                            replace hS : sd_RS m fr n q139_95 (q139_95 : Int) := ⟨by rw [em289, sd_up_ne (by decide)]; exact hS.1, by rw [em289, sd_up_ne (by decide)]; exact hS.2.1, by rw [em289, sd_up_eq]; (try omega), by rw [em289, sd_up_ne (by decide)]; exact hS.2.2.2⟩
                            refine sd_iinc (y := ((c : Int) + 1)) (ls' := [some (.inr 15), some (.inl pl), some (.inl mn), some (.inl w), some (.inl 0), some (.inl ((c : Int) + 1)), some (.inl (sd_b ((0 + (j45_1 : Int)) = 1))), some (.inl (2 + (j68_9 : Int))), some (.inl (sd_and (sd_b ((sd_hl f t139_37) ∧ (sd_hl f t139_66))) 0)), some (.inl (6 + (j107_30 : Int))), some (.inl 0), some (.inl 3), some (.inl 0)]) sD11_reads_292 rfl (by omega) (by omega) (by decide) rfl ?_
                            refine sd_goto (tgt := 31) sD11_reads_295 (by decide) ?_
                            refine sd_iload sD11_reads_31 rfl ?_
                            refine sd_iconst sD11_reads_33 (by decide) ?_
                            refine sd_icmp_ge (tgt := 298) sD11_reads_34 (by decide) (fun zc34 => ?_) (fun zc34 => ?_)
                            ·
                              refine sd_aload_n sD11_reads_298 rfl ?_
                              refine sd_getfi sD11_reads_299 sF11_147 sGM15_12 ?_
                              rw [show m 5492 = (q139_95 : Int) from hS.2.2.1]
                              refine sd_aload_n sD11_reads_302 rfl ?_
                              refine sd_getfi sD11_reads_303 sF11_151 sGM15_11 ?_
                              rw [show m 5491 = (n : Int) from hS.2.1]
                              refine sd_icmp_ge (tgt := 313) sD11_reads_306 (by decide) (fun zc306 => ?_) (fun zc306 => ?_)
                              ·
                                refine sd_vreturn sD11_reads_313 rfl (fun hm => hQ _ _ ⟨rfl, hK6, ?_⟩)
                                have hwd : sd_wd B p = .inr ((j45_1, j68_9), q68_9) := by simp only [sd_wd, hz45_1]; rw [if_pos hb62_8, hz68_9]
                                have htt : sd_tt B 3 (sd_fe B (q68_9 + 1) 7) = .inl q139_95 := by rw [hfe]; simp only [sd_tt, hz139_37, hz139_66, hz139_95]; simp [*]
                                exact Or.inl ⟨q139_95, by simp only [sd_txt, sd_cls, hwd]; rw [if_pos hsp2, if_pos hff, htt], hS.2.2.2⟩
                              ·
                                refine sd_aload_n sD11_reads_309 rfl ?_
                                refine sd_callV (as := []) (st := []) sD11_reads_310 sM11_167 rfl rfl sOM15 rfl (by decide) (Nat.le_of_ble_eq_true rfl) (cM_wrong0 fr n q139_95 q139_95 _ m hx hS) (fun r m hq ho310 hm => ?_)
                                obtain ⟨rfl, hk310_98, hS⟩ := hq
                                replace hx := hk310_98.ns hx
                                replace hK6 := hK6.k2 hk310_98
                                replace hf : ∀ i, i < 4 → m (5504 + i) = f i := fun i hi => (hk310_98 _ (by omega) (by omega)).trans (hf i hi)
                                replace hg := (hk310_98 5510 (by decide) (by decide)).trans hg
                                replace hgb := (hk310_98 5511 (by decide) (by decide)).trans hgb
                                rcases (⟨trivial⟩ : Nonempty True) with hy310_98
                                ·
                                  show sd_Wp sd_SM 4 sY11_reads 313 [some (.inr 15), some (.inl pl), some (.inl mn), some (.inl w), some (.inl 0), some (.inl ((c : Int) + 1)), some (.inl (sd_b ((0 + (j45_1 : Int)) = 1))), some (.inl (2 + (j68_9 : Int))), some (.inl (sd_and (sd_b ((sd_hl f t139_37) ∧ (sd_hl f t139_66))) 0)), some (.inl (6 + (j107_30 : Int))), some (.inl 0), some (.inl 3), some (.inl 0)] [] m _
                                  refine sd_vreturn sD11_reads_313 rfl (fun hm => hQ _ _ ⟨rfl, hK6, ?_⟩)
                                  have hwd : sd_wd B p = .inr ((j45_1, j68_9), q68_9) := by simp only [sd_wd, hz45_1]; rw [if_pos hb62_8, hz68_9]
                                  have htt : sd_tt B 3 (sd_fe B (q68_9 + 1) 7) = .inl q139_95 := by rw [hfe]; simp only [sd_tt, hz139_37, hz139_66, hz139_95]; simp [*]
                                  exact Or.inl ⟨q139_95, by simp only [sd_txt, sd_cls, hwd]; rw [if_pos hsp2, if_pos hff, htt], hS.2.2.2⟩
                            ·
                              refine sd_iload sD11_reads_37 rfl ?_
                              refine sd_if_eq (tgt := 298) sD11_reads_39 (by decide) (fun zc39 => ?_) (fun zc39 => (by exfalso; omega))
                              refine sd_aload_n sD11_reads_298 rfl ?_
                              refine sd_getfi sD11_reads_299 sF11_147 sGM15_12 ?_
                              rw [show m 5492 = (q139_95 : Int) from hS.2.2.1]
                              refine sd_aload_n sD11_reads_302 rfl ?_
                              refine sd_getfi sD11_reads_303 sF11_151 sGM15_11 ?_
                              rw [show m 5491 = (n : Int) from hS.2.1]
                              refine sd_icmp_ge (tgt := 313) sD11_reads_306 (by decide) (fun zc306 => ?_) (fun zc306 => ?_)
                              ·
                                refine sd_vreturn sD11_reads_313 rfl (fun hm => hQ _ _ ⟨rfl, hK6, ?_⟩)
                                have hwd : sd_wd B p = .inr ((j45_1, j68_9), q68_9) := by simp only [sd_wd, hz45_1]; rw [if_pos hb62_8, hz68_9]
                                have htt : sd_tt B 3 (sd_fe B (q68_9 + 1) 7) = .inl q139_95 := by rw [hfe]; simp only [sd_tt, hz139_37, hz139_66, hz139_95]; simp [*]
                                exact Or.inl ⟨q139_95, by simp only [sd_txt, sd_cls, hwd]; rw [if_pos hsp2, if_pos hff, htt], hS.2.2.2⟩
                              ·
                                refine sd_aload_n sD11_reads_309 rfl ?_
                                refine sd_callV (as := []) (st := []) sD11_reads_310 sM11_167 rfl rfl sOM15 rfl (by decide) (Nat.le_of_ble_eq_true rfl) (cM_wrong0 fr n q139_95 q139_95 _ m hx hS) (fun r m hq ho310 hm => ?_)
                                obtain ⟨rfl, hk310_99, hS⟩ := hq
                                replace hx := hk310_99.ns hx
                                replace hK6 := hK6.k2 hk310_99
                                replace hf : ∀ i, i < 4 → m (5504 + i) = f i := fun i hi => (hk310_99 _ (by omega) (by omega)).trans (hf i hi)
                                replace hg := (hk310_99 5510 (by decide) (by decide)).trans hg
                                replace hgb := (hk310_99 5511 (by decide) (by decide)).trans hgb
                                rcases (⟨trivial⟩ : Nonempty True) with hy310_99
                                ·
                                  show sd_Wp sd_SM 4 sY11_reads 313 [some (.inr 15), some (.inl pl), some (.inl mn), some (.inl w), some (.inl 0), some (.inl ((c : Int) + 1)), some (.inl (sd_b ((0 + (j45_1 : Int)) = 1))), some (.inl (2 + (j68_9 : Int))), some (.inl (sd_and (sd_b ((sd_hl f t139_37) ∧ (sd_hl f t139_66))) 0)), some (.inl (6 + (j107_30 : Int))), some (.inl 0), some (.inl 3), some (.inl 0)] [] m _
                                  refine sd_vreturn sD11_reads_313 rfl (fun hm => hQ _ _ ⟨rfl, hK6, ?_⟩)
                                  have hwd : sd_wd B p = .inr ((j45_1, j68_9), q68_9) := by simp only [sd_wd, hz45_1]; rw [if_pos hb62_8, hz68_9]
                                  have htt : sd_tt B 3 (sd_fe B (q68_9 + 1) 7) = .inl q139_95 := by rw [hfe]; simp only [sd_tt, hz139_37, hz139_66, hz139_95]; simp [*]
                                  exact Or.inl ⟨q139_95, by simp only [sd_txt, sd_cls, hwd]; rw [if_pos hsp2, if_pos hff, htt], hS.2.2.2⟩
                        ·
                          show sd_Wp sd_SM 4 sY11_reads 142 [some (.inr 15), some (.inl pl), some (.inl mn), some (.inl w), some (.inl 1), some (.inl (c : Int)), some (.inl (sd_b ((0 + (j45_1 : Int)) = 1))), some (.inl (2 + (j68_9 : Int))), some (.inl (sd_b ((sd_hl f t139_37) ∧ (sd_hl f t139_66)))), some (.inl (6 + (j107_30 : Int))), some (.inl 1), some (.inl 2), some (.inl (sd_b (sd_hl f t139_66)))] [.inl (sd_b (sd_hl f t139_95))] m _
                          refine sd_istore (ls' := [some (.inr 15), some (.inl pl), some (.inl mn), some (.inl w), some (.inl 1), some (.inl (c : Int)), some (.inl (sd_b ((0 + (j45_1 : Int)) = 1))), some (.inl (2 + (j68_9 : Int))), some (.inl (sd_b ((sd_hl f t139_37) ∧ (sd_hl f t139_66)))), some (.inl (6 + (j107_30 : Int))), some (.inl 1), some (.inl 2), some (.inl (sd_b (sd_hl f t139_95)))]) sD11_reads_142 (by decide) rfl ?_
                          refine sd_iload sD11_reads_144 rfl ?_
                          refine sd_iload sD11_reads_146 rfl ?_
                          refine sd_iand sD11_reads_148 ?_
                          rw [sd_and_b]
                          refine sd_istore (ls' := [some (.inr 15), some (.inl pl), some (.inl mn), some (.inl w), some (.inl 1), some (.inl (c : Int)), some (.inl (sd_b ((0 + (j45_1 : Int)) = 1))), some (.inl (2 + (j68_9 : Int))), some (.inl (sd_b (((sd_hl f t139_37) ∧ (sd_hl f t139_66)) ∧ (sd_hl f t139_95)))), some (.inl (6 + (j107_30 : Int))), some (.inl 1), some (.inl 2), some (.inl (sd_b (sd_hl f t139_95)))]) sD11_reads_149 (by decide) rfl ?_
                          refine sd_iload sD11_reads_151 rfl ?_
                          refine sd_iconst sD11_reads_153 (by decide) ?_
                          refine sd_icmp_ge (tgt := 177) sD11_reads_154 (by decide) (fun zc154 => ?_) (fun zc154 => (by exfalso; omega))
                          refine sd_iconst sD11_reads_177 (by decide) ?_
                          refine sd_istore (ls' := [some (.inr 15), some (.inl pl), some (.inl mn), some (.inl w), some (.inl 1), some (.inl (c : Int)), some (.inl (sd_b ((0 + (j45_1 : Int)) = 1))), some (.inl (2 + (j68_9 : Int))), some (.inl (sd_b (((sd_hl f t139_37) ∧ (sd_hl f t139_66)) ∧ (sd_hl f t139_95)))), some (.inl (6 + (j107_30 : Int))), some (.inl 0), some (.inl 2), some (.inl (sd_b (sd_hl f t139_95)))]) sD11_reads_178 (by decide) rfl ?_
                          refine sd_aload_n sD11_reads_180 rfl ?_
                          refine sd_dup sD11_reads_181 ?_
                          refine sd_getfi sD11_reads_182 sF11_147 sGM15_12 ?_
                          rw [show m 5492 = (q139_95 : Int) from hS.2.2.1]
                          refine sd_iload sD11_reads_185 rfl ?_
                          refine sd_if_eq (tgt := 194) sD11_reads_187 (by decide) (fun zc187 => ?_) (fun zc187 => (by exfalso; omega))
                          refine sd_iconst sD11_reads_194 (by decide) ?_
                          refine sd_iadd (z := (q139_95 : Int)) sD11_reads_195 (by omega) (by omega) ?_
                          refine sd_putfc sd_sokM sd_oneM hx sD11_reads_196 sF11_147 sGM15_12 (by decide) (Or.inl rfl) (fun m hx em196 => ?_)
                          have hk196x := sd_k2.up em196 (Or.inl rfl)
                          replace hK6 := hK6.k2 hk196x
                          replace hf : ∀ i, i < 4 → m (5504 + i) = f i := fun i hi => (hk196x _ (by omega) (by omega)).trans (hf i hi)
                          replace hg := (hk196x 5510 (by decide) (by decide)).trans hg
                          replace hgb := (hk196x 5511 (by decide) (by decide)).trans hgb
                          replace hS : sd_RS m fr n q139_95 (-1) := ⟨by rw [em196, sd_up_ne (by decide)]; exact hS.1, by rw [em196, sd_up_ne (by decide)]; exact hS.2.1, by rw [em196, sd_up_eq]; (try omega), by rw [em196, sd_up_ne (by decide)]; exact hS.2.2.2⟩
                          refine sd_iinc (y := 3) (ls' := [some (.inr 15), some (.inl pl), some (.inl mn), some (.inl w), some (.inl 1), some (.inl (c : Int)), some (.inl (sd_b ((0 + (j45_1 : Int)) = 1))), some (.inl (2 + (j68_9 : Int))), some (.inl (sd_b (((sd_hl f t139_37) ∧ (sd_hl f t139_66)) ∧ (sd_hl f t139_95)))), some (.inl (6 + (j107_30 : Int))), some (.inl 0), some (.inl 3), some (.inl (sd_b (sd_hl f t139_95)))]) sD11_reads_199 rfl (by omega) (by omega) (by decide) rfl ?_
                          refine sd_goto (tgt := 127) sD11_reads_202 (by decide) ?_
                          refine sd_iload sD11_reads_127 rfl ?_
                          refine sd_iconst sD11_reads_129 (by decide) ?_
                          refine sd_icmp_ge (tgt := 205) sD11_reads_130 (by decide) (fun zc130 => ?_) (fun zc130 => (by exfalso; omega))
                          have hwd : sd_wd B p = .inr ((j45_1, j68_9), q68_9) := by simp only [sd_wd, hz45_1]; rw [if_pos hb62_8, hz68_9]
                          have htt : sd_tt B 3 (sd_fe B (q68_9 + 1) 7) = .inr ([t139_37, t139_66, t139_95], q139_95) := by rw [hfe]; simp only [sd_tt, hz139_37, hz139_66, hz139_95]; simp [*]
                          have hcl : sd_cls B p = .inr ((j45_1, j68_9, [t139_37, t139_66, t139_95]), q139_95) := by simp only [sd_cls, hwd]; rw [if_pos hsp2, if_pos hff, htt]
                          refine sd_aload_n sD11_reads_205 rfl ?_
                          refine sd_callVp (as := []) (st := []) (v := .inl 1) sD11_reads_206 sM11_160 sOM15 rfl rfl rfl (by decide) (Nat.le_of_ble_eq_true rfl) (cM_isGood1 fr n q139_95 _ m hx hS) (fun ho206 => ?_)
                          refine sd_if_eq (tgt := 244) sD11_reads_209 (by decide) (fun zc209 => (by exfalso; omega)) (fun zc209 => ?_)
                          refine sd_iload sD11_reads_212 rfl ?_
                          refine sd_bif_eq (tgt := 244) sD11_reads_214 (by decide) (fun zc214 => ?_) (fun zc214 => ?_)
                          ·
                            have hmt : ¬ sd_mt f w (j45_1, j68_9, [t139_37, t139_66, t139_95]) := fun qm => by have qm1 : (j68_9 : Int) = w := qm.1; have qm2 := qm.2; (have qn : (sd_hl f t139_37 ∧ sd_hl f t139_66) ∧ sd_hl f t139_95 := ⟨⟨qm2 _ (by simp), qm2 _ (by simp)⟩, qm2 _ (by simp)⟩; contradiction)
                            rcases (show ¬ g = -1 ∨ g = -1 by omega) with hgc | hgc
                            ·
                              refine sd_iload sD11_reads_244 rfl ?_
                              refine sd_iconst sD11_reads_246 (by decide) ?_
                              refine sd_icmp_ge (tgt := 270) sD11_reads_247 (by decide) (fun zc247 => ?_) (fun zc247 => ?_)
                              ·
                                refine sd_iconst sD11_reads_270 (by decide) ?_
                                refine sd_istore (ls' := [some (.inr 15), some (.inl pl), some (.inl mn), some (.inl w), some (.inl 0), some (.inl (c : Int)), some (.inl (sd_b ((0 + (j45_1 : Int)) = 1))), some (.inl (2 + (j68_9 : Int))), some (.inl (sd_b (((sd_hl f t139_37) ∧ (sd_hl f t139_66)) ∧ (sd_hl f t139_95)))), some (.inl (6 + (j107_30 : Int))), some (.inl 0), some (.inl 3), some (.inl (sd_b (sd_hl f t139_95)))]) sD11_reads_271 (by decide) rfl ?_
                                refine sd_aload_n sD11_reads_273 rfl ?_
                                refine sd_dup sD11_reads_274 ?_
                                refine sd_getfi sD11_reads_275 sF11_147 sGM15_12 ?_
                                rw [show m 5492 = (q139_95 : Int) from hS.2.2.1]
                                refine sd_iload sD11_reads_278 rfl ?_
                                refine sd_if_eq (tgt := 287) sD11_reads_280 (by decide) (fun zc280 => ?_) (fun zc280 => (by exfalso; omega))
                                refine sd_iconst sD11_reads_287 (by decide) ?_
                                refine sd_iadd (z := (q139_95 : Int)) sD11_reads_288 (by omega) (by omega) ?_
                                refine sd_putfc sd_sokM sd_oneM hx sD11_reads_289 sF11_147 sGM15_12 (by decide) (Or.inl rfl) (fun m hx em289 => ?_)
                                have hk289x := sd_k2.up em289 (Or.inl rfl)
                                replace hK6 := hK6.k2 hk289x
                                replace hf : ∀ i, i < 4 → m (5504 + i) = f i := fun i hi => (hk289x _ (by omega) (by omega)).trans (hf i hi)
                                replace hg := (hk289x 5510 (by decide) (by decide)).trans hg
                                replace hgb := (hk289x 5511 (by decide) (by decide)).trans hgb
                                replace hS : sd_RS m fr n q139_95 (-1) := ⟨by rw [em289, sd_up_ne (by decide)]; exact hS.1, by rw [em289, sd_up_ne (by decide)]; exact hS.2.1, by rw [em289, sd_up_eq]; (try omega), by rw [em289, sd_up_ne (by decide)]; exact hS.2.2.2⟩
                                refine sd_iinc (y := ((c : Int) + 1)) (ls' := [some (.inr 15), some (.inl pl), some (.inl mn), some (.inl w), some (.inl 0), some (.inl ((c : Int) + 1)), some (.inl (sd_b ((0 + (j45_1 : Int)) = 1))), some (.inl (2 + (j68_9 : Int))), some (.inl (sd_b (((sd_hl f t139_37) ∧ (sd_hl f t139_66)) ∧ (sd_hl f t139_95)))), some (.inl (6 + (j107_30 : Int))), some (.inl 0), some (.inl 3), some (.inl (sd_b (sd_hl f t139_95)))]) sD11_reads_292 rfl (by omega) (by omega) (by decide) rfl ?_
                                refine sd_goto (tgt := 31) sD11_reads_295 (by decide) ?_
                                refine sd_iload sD11_reads_31 rfl ?_
                                refine sd_iconst sD11_reads_33 (by decide) ?_
                                refine sd_icmp_ge (tgt := 298) sD11_reads_34 (by decide) (fun zc34 => ?_) (fun zc34 => ?_)
                                ·
                                  refine sd_aload_n sD11_reads_298 rfl ?_
                                  refine sd_getfi sD11_reads_299 sF11_147 sGM15_12 ?_
                                  rw [show m 5492 = (q139_95 : Int) from hS.2.2.1]
                                  refine sd_aload_n sD11_reads_302 rfl ?_
                                  refine sd_getfi sD11_reads_303 sF11_151 sGM15_11 ?_
                                  rw [show m 5491 = (n : Int) from hS.2.1]
                                  refine sd_icmp_ge (tgt := 313) sD11_reads_306 (by decide) (fun zc306 => ?_) (fun zc306 => ?_)
                                  ·
                                    refine sd_vreturn sD11_reads_313 rfl (fun hm => hQ _ _ ⟨rfl, hK6, ?_⟩)
                                    exact Or.inr ⟨[(j45_1, j68_9, [t139_37, t139_66, t139_95])], by simp only [sd_txt, hcl]; rw [if_pos (by omega)], hS.2.2.2, Or.inl ⟨by omega, hg, hgb⟩⟩
                                  ·
                                    refine sd_aload_n sD11_reads_309 rfl ?_
                                    refine sd_callV (as := []) (st := []) sD11_reads_310 sM11_167 rfl rfl sOM15 rfl (by decide) (Nat.le_of_ble_eq_true rfl) (cM_wrong1 fr n q139_95 _ m hx hS) (fun r m hq ho310 hm => ?_)
                                    obtain ⟨rfl, hk310_100, hS⟩ := hq
                                    replace hx := hk310_100.ns hx
                                    replace hK6 := hK6.k2 hk310_100
                                    replace hf : ∀ i, i < 4 → m (5504 + i) = f i := fun i hi => (hk310_100 _ (by omega) (by omega)).trans (hf i hi)
                                    replace hg := (hk310_100 5510 (by decide) (by decide)).trans hg
                                    replace hgb := (hk310_100 5511 (by decide) (by decide)).trans hgb
                                    rcases (⟨trivial⟩ : Nonempty True) with hy310_100
                                    ·
                                      show sd_Wp sd_SM 4 sY11_reads 313 [some (.inr 15), some (.inl pl), some (.inl mn), some (.inl w), some (.inl 0), some (.inl ((c : Int) + 1)), some (.inl (sd_b ((0 + (j45_1 : Int)) = 1))), some (.inl (2 + (j68_9 : Int))), some (.inl (sd_b (((sd_hl f t139_37) ∧ (sd_hl f t139_66)) ∧ (sd_hl f t139_95)))), some (.inl (6 + (j107_30 : Int))), some (.inl 0), some (.inl 3), some (.inl (sd_b (sd_hl f t139_95)))] [] m _
                                      refine sd_vreturn sD11_reads_313 rfl (fun hm => hQ _ _ ⟨rfl, hK6, ?_⟩)
                                      exact Or.inl ⟨q139_95, by simp only [sd_txt, hcl]; rw [if_neg (by omega)]; first | (rw [if_pos (by omega)]; done) | (rw [if_neg (by omega), if_neg (by assumption)]; done), hS.2.2.2⟩
                                ·
                                  refine sd_iload sD11_reads_37 rfl ?_
                                  refine sd_if_eq (tgt := 298) sD11_reads_39 (by decide) (fun zc39 => ?_) (fun zc39 => (by exfalso; omega))
                                  refine sd_aload_n sD11_reads_298 rfl ?_
                                  refine sd_getfi sD11_reads_299 sF11_147 sGM15_12 ?_
                                  rw [show m 5492 = (q139_95 : Int) from hS.2.2.1]
                                  refine sd_aload_n sD11_reads_302 rfl ?_
                                  refine sd_getfi sD11_reads_303 sF11_151 sGM15_11 ?_
                                  rw [show m 5491 = (n : Int) from hS.2.1]
                                  refine sd_icmp_ge (tgt := 313) sD11_reads_306 (by decide) (fun zc306 => ?_) (fun zc306 => ?_)
                                  ·
                                    refine sd_vreturn sD11_reads_313 rfl (fun hm => hQ _ _ ⟨rfl, hK6, ?_⟩)
                                    exact Or.inr ⟨[(j45_1, j68_9, [t139_37, t139_66, t139_95])], by simp only [sd_txt, hcl]; rw [if_pos (by omega)], hS.2.2.2, Or.inl ⟨by omega, hg, hgb⟩⟩
                                  ·
                                    refine sd_aload_n sD11_reads_309 rfl ?_
                                    refine sd_callV (as := []) (st := []) sD11_reads_310 sM11_167 rfl rfl sOM15 rfl (by decide) (Nat.le_of_ble_eq_true rfl) (cM_wrong1 fr n q139_95 _ m hx hS) (fun r m hq ho310 hm => ?_)
                                    obtain ⟨rfl, hk310_101, hS⟩ := hq
                                    replace hx := hk310_101.ns hx
                                    replace hK6 := hK6.k2 hk310_101
                                    replace hf : ∀ i, i < 4 → m (5504 + i) = f i := fun i hi => (hk310_101 _ (by omega) (by omega)).trans (hf i hi)
                                    replace hg := (hk310_101 5510 (by decide) (by decide)).trans hg
                                    replace hgb := (hk310_101 5511 (by decide) (by decide)).trans hgb
                                    rcases (⟨trivial⟩ : Nonempty True) with hy310_101
                                    ·
                                      show sd_Wp sd_SM 4 sY11_reads 313 [some (.inr 15), some (.inl pl), some (.inl mn), some (.inl w), some (.inl 0), some (.inl ((c : Int) + 1)), some (.inl (sd_b ((0 + (j45_1 : Int)) = 1))), some (.inl (2 + (j68_9 : Int))), some (.inl (sd_b (((sd_hl f t139_37) ∧ (sd_hl f t139_66)) ∧ (sd_hl f t139_95)))), some (.inl (6 + (j107_30 : Int))), some (.inl 0), some (.inl 3), some (.inl (sd_b (sd_hl f t139_95)))] [] m _
                                      refine sd_vreturn sD11_reads_313 rfl (fun hm => hQ _ _ ⟨rfl, hK6, ?_⟩)
                                      exact Or.inl ⟨q139_95, by simp only [sd_txt, hcl]; rw [if_neg (by omega)]; first | (rw [if_pos (by omega)]; done) | (rw [if_neg (by omega), if_neg (by assumption)]; done), hS.2.2.2⟩
                              ·
                                refine sd_aload_n sD11_reads_250 rfl ?_
                                refine sd_callVp (as := []) (st := []) (v := .inl 1) sD11_reads_251 sM11_160 sOM15 rfl rfl rfl (by decide) (Nat.le_of_ble_eq_true rfl) (cM_isGood1 fr n q139_95 _ m hx hS) (fun ho251 => ?_)
                                refine sd_if_eq (tgt := 270) sD11_reads_254 (by decide) (fun zc254 => (by exfalso; omega)) (fun zc254 => ?_)
                                refine sd_aload_n sD11_reads_257 rfl ?_
                                refine sd_callVp (as := []) (st := []) (v := .inl (B q139_95)) sD11_reads_258 sM11_164 sOM15 rfl rfl rfl (by decide) (Nat.le_of_ble_eq_true rfl) (cM_byteAt _ fr B n q139_95 _ m hx hB hS) (fun ho258 => ?_)
                                refine sd_bipush sD11_reads_261 rfl (by decide) ?_
                                refine sd_icmp_ne (tgt := 270) sD11_reads_263 (by decide) (fun zc263 => ?_) (fun zc263 => ?_)
                                ·
                                  refine sd_iconst sD11_reads_270 (by decide) ?_
                                  refine sd_istore (ls' := [some (.inr 15), some (.inl pl), some (.inl mn), some (.inl w), some (.inl 0), some (.inl (c : Int)), some (.inl (sd_b ((0 + (j45_1 : Int)) = 1))), some (.inl (2 + (j68_9 : Int))), some (.inl (sd_b (((sd_hl f t139_37) ∧ (sd_hl f t139_66)) ∧ (sd_hl f t139_95)))), some (.inl (6 + (j107_30 : Int))), some (.inl 0), some (.inl 3), some (.inl (sd_b (sd_hl f t139_95)))]) sD11_reads_271 (by decide) rfl ?_
                                  refine sd_aload_n sD11_reads_273 rfl ?_
                                  refine sd_dup sD11_reads_274 ?_
                                  refine sd_getfi sD11_reads_275 sF11_147 sGM15_12 ?_
                                  rw [show m 5492 = (q139_95 : Int) from hS.2.2.1]
                                  refine sd_iload sD11_reads_278 rfl ?_
                                  refine sd_if_eq (tgt := 287) sD11_reads_280 (by decide) (fun zc280 => ?_) (fun zc280 => (by exfalso; omega))
                                  refine sd_iconst sD11_reads_287 (by decide) ?_
                                  refine sd_iadd (z := (q139_95 : Int)) sD11_reads_288 (by omega) (by omega) ?_
                                  refine sd_putfc sd_sokM sd_oneM hx sD11_reads_289 sF11_147 sGM15_12 (by decide) (Or.inl rfl) (fun m hx em289 => ?_)
                                  have hk289x := sd_k2.up em289 (Or.inl rfl)
                                  replace hK6 := hK6.k2 hk289x
                                  replace hf : ∀ i, i < 4 → m (5504 + i) = f i := fun i hi => (hk289x _ (by omega) (by omega)).trans (hf i hi)
                                  replace hg := (hk289x 5510 (by decide) (by decide)).trans hg
                                  replace hgb := (hk289x 5511 (by decide) (by decide)).trans hgb
                                  replace hS : sd_RS m fr n q139_95 (-1) := ⟨by rw [em289, sd_up_ne (by decide)]; exact hS.1, by rw [em289, sd_up_ne (by decide)]; exact hS.2.1, by rw [em289, sd_up_eq]; (try omega), by rw [em289, sd_up_ne (by decide)]; exact hS.2.2.2⟩
                                  refine sd_iinc (y := ((c : Int) + 1)) (ls' := [some (.inr 15), some (.inl pl), some (.inl mn), some (.inl w), some (.inl 0), some (.inl ((c : Int) + 1)), some (.inl (sd_b ((0 + (j45_1 : Int)) = 1))), some (.inl (2 + (j68_9 : Int))), some (.inl (sd_b (((sd_hl f t139_37) ∧ (sd_hl f t139_66)) ∧ (sd_hl f t139_95)))), some (.inl (6 + (j107_30 : Int))), some (.inl 0), some (.inl 3), some (.inl (sd_b (sd_hl f t139_95)))]) sD11_reads_292 rfl (by omega) (by omega) (by decide) rfl ?_
                                  refine sd_goto (tgt := 31) sD11_reads_295 (by decide) ?_
                                  refine sd_iload sD11_reads_31 rfl ?_
                                  refine sd_iconst sD11_reads_33 (by decide) ?_
                                  refine sd_icmp_ge (tgt := 298) sD11_reads_34 (by decide) (fun zc34 => ?_) (fun zc34 => ?_)
                                  ·
                                    refine sd_aload_n sD11_reads_298 rfl ?_
                                    refine sd_getfi sD11_reads_299 sF11_147 sGM15_12 ?_
                                    rw [show m 5492 = (q139_95 : Int) from hS.2.2.1]
                                    refine sd_aload_n sD11_reads_302 rfl ?_
                                    refine sd_getfi sD11_reads_303 sF11_151 sGM15_11 ?_
                                    rw [show m 5491 = (n : Int) from hS.2.1]
                                    refine sd_icmp_ge (tgt := 313) sD11_reads_306 (by decide) (fun zc306 => ?_) (fun zc306 => ?_)
                                    ·
                                      refine sd_vreturn sD11_reads_313 rfl (fun hm => hQ _ _ ⟨rfl, hK6, ?_⟩)
                                      exact Or.inr ⟨[(j45_1, j68_9, [t139_37, t139_66, t139_95])], by simp only [sd_txt, hcl]; rw [if_pos (by omega)], hS.2.2.2, Or.inl ⟨by omega, hg, hgb⟩⟩
                                    ·
                                      refine sd_aload_n sD11_reads_309 rfl ?_
                                      refine sd_callV (as := []) (st := []) sD11_reads_310 sM11_167 rfl rfl sOM15 rfl (by decide) (Nat.le_of_ble_eq_true rfl) (cM_wrong1 fr n q139_95 _ m hx hS) (fun r m hq ho310 hm => ?_)
                                      obtain ⟨rfl, hk310_102, hS⟩ := hq
                                      replace hx := hk310_102.ns hx
                                      replace hK6 := hK6.k2 hk310_102
                                      replace hf : ∀ i, i < 4 → m (5504 + i) = f i := fun i hi => (hk310_102 _ (by omega) (by omega)).trans (hf i hi)
                                      replace hg := (hk310_102 5510 (by decide) (by decide)).trans hg
                                      replace hgb := (hk310_102 5511 (by decide) (by decide)).trans hgb
                                      rcases (⟨trivial⟩ : Nonempty True) with hy310_102
                                      ·
                                        show sd_Wp sd_SM 4 sY11_reads 313 [some (.inr 15), some (.inl pl), some (.inl mn), some (.inl w), some (.inl 0), some (.inl ((c : Int) + 1)), some (.inl (sd_b ((0 + (j45_1 : Int)) = 1))), some (.inl (2 + (j68_9 : Int))), some (.inl (sd_b (((sd_hl f t139_37) ∧ (sd_hl f t139_66)) ∧ (sd_hl f t139_95)))), some (.inl (6 + (j107_30 : Int))), some (.inl 0), some (.inl 3), some (.inl (sd_b (sd_hl f t139_95)))] [] m _
                                        refine sd_vreturn sD11_reads_313 rfl (fun hm => hQ _ _ ⟨rfl, hK6, ?_⟩)
                                        exact Or.inl ⟨q139_95, by simp only [sd_txt, hcl]; rw [if_neg (by omega)]; first | (rw [if_pos (by omega)]; done) | (rw [if_neg (by omega), if_neg (by assumption)]; done), hS.2.2.2⟩
                                  ·
                                    refine sd_iload sD11_reads_37 rfl ?_
                                    refine sd_if_eq (tgt := 298) sD11_reads_39 (by decide) (fun zc39 => ?_) (fun zc39 => (by exfalso; omega))
                                    refine sd_aload_n sD11_reads_298 rfl ?_
                                    refine sd_getfi sD11_reads_299 sF11_147 sGM15_12 ?_
                                    rw [show m 5492 = (q139_95 : Int) from hS.2.2.1]
                                    refine sd_aload_n sD11_reads_302 rfl ?_
                                    refine sd_getfi sD11_reads_303 sF11_151 sGM15_11 ?_
                                    rw [show m 5491 = (n : Int) from hS.2.1]
                                    refine sd_icmp_ge (tgt := 313) sD11_reads_306 (by decide) (fun zc306 => ?_) (fun zc306 => ?_)
                                    ·
                                      refine sd_vreturn sD11_reads_313 rfl (fun hm => hQ _ _ ⟨rfl, hK6, ?_⟩)
                                      exact Or.inr ⟨[(j45_1, j68_9, [t139_37, t139_66, t139_95])], by simp only [sd_txt, hcl]; rw [if_pos (by omega)], hS.2.2.2, Or.inl ⟨by omega, hg, hgb⟩⟩
                                    ·
                                      refine sd_aload_n sD11_reads_309 rfl ?_
                                      refine sd_callV (as := []) (st := []) sD11_reads_310 sM11_167 rfl rfl sOM15 rfl (by decide) (Nat.le_of_ble_eq_true rfl) (cM_wrong1 fr n q139_95 _ m hx hS) (fun r m hq ho310 hm => ?_)
                                      obtain ⟨rfl, hk310_103, hS⟩ := hq
                                      replace hx := hk310_103.ns hx
                                      replace hK6 := hK6.k2 hk310_103
                                      replace hf : ∀ i, i < 4 → m (5504 + i) = f i := fun i hi => (hk310_103 _ (by omega) (by omega)).trans (hf i hi)
                                      replace hg := (hk310_103 5510 (by decide) (by decide)).trans hg
                                      replace hgb := (hk310_103 5511 (by decide) (by decide)).trans hgb
                                      rcases (⟨trivial⟩ : Nonempty True) with hy310_103
                                      ·
                                        show sd_Wp sd_SM 4 sY11_reads 313 [some (.inr 15), some (.inl pl), some (.inl mn), some (.inl w), some (.inl 0), some (.inl ((c : Int) + 1)), some (.inl (sd_b ((0 + (j45_1 : Int)) = 1))), some (.inl (2 + (j68_9 : Int))), some (.inl (sd_b (((sd_hl f t139_37) ∧ (sd_hl f t139_66)) ∧ (sd_hl f t139_95)))), some (.inl (6 + (j107_30 : Int))), some (.inl 0), some (.inl 3), some (.inl (sd_b (sd_hl f t139_95)))] [] m _
                                        refine sd_vreturn sD11_reads_313 rfl (fun hm => hQ _ _ ⟨rfl, hK6, ?_⟩)
                                        exact Or.inl ⟨q139_95, by simp only [sd_txt, hcl]; rw [if_neg (by omega)]; first | (rw [if_pos (by omega)]; done) | (rw [if_neg (by omega), if_neg (by assumption)]; done), hS.2.2.2⟩
                                ·
                                  have hsm : B q139_95 = 59 := by assumption
                                  have hin3 := hB.in (p := q139_95) (by omega)
                                  have hn1 := hB.1
                                  refine sd_iconst sD11_reads_266 (by decide) ?_
                                  refine sd_goto (tgt := 271) sD11_reads_267 (by decide) ?_
                                  refine sd_istore (ls' := [some (.inr 15), some (.inl pl), some (.inl mn), some (.inl w), some (.inl 1), some (.inl (c : Int)), some (.inl (sd_b ((0 + (j45_1 : Int)) = 1))), some (.inl (2 + (j68_9 : Int))), some (.inl (sd_b (((sd_hl f t139_37) ∧ (sd_hl f t139_66)) ∧ (sd_hl f t139_95)))), some (.inl (6 + (j107_30 : Int))), some (.inl 0), some (.inl 3), some (.inl (sd_b (sd_hl f t139_95)))]) sD11_reads_271 (by decide) rfl ?_
                                  refine sd_aload_n sD11_reads_273 rfl ?_
                                  refine sd_dup sD11_reads_274 ?_
                                  refine sd_getfi sD11_reads_275 sF11_147 sGM15_12 ?_
                                  rw [show m 5492 = (q139_95 : Int) from hS.2.2.1]
                                  refine sd_iload sD11_reads_278 rfl ?_
                                  refine sd_if_eq (tgt := 287) sD11_reads_280 (by decide) (fun zc280 => (by exfalso; omega)) (fun zc280 => ?_)
                                  refine sd_iconst sD11_reads_283 (by decide) ?_
                                  refine sd_goto (tgt := 288) sD11_reads_284 (by decide) ?_
                                  refine sd_iadd (z := ((q139_95 : Int) + 1)) sD11_reads_288 (by omega) (by omega) ?_
                                  refine sd_putfc sd_sokM sd_oneM hx sD11_reads_289 sF11_147 sGM15_12 (by decide) (Or.inl rfl) (fun m hx em289 => ?_)
                                  have hk289x := sd_k2.up em289 (Or.inl rfl)
                                  replace hK6 := hK6.k2 hk289x
                                  replace hf : ∀ i, i < 4 → m (5504 + i) = f i := fun i hi => (hk289x _ (by omega) (by omega)).trans (hf i hi)
                                  replace hg := (hk289x 5510 (by decide) (by decide)).trans hg
                                  replace hgb := (hk289x 5511 (by decide) (by decide)).trans hgb
                                  replace hS : sd_RS m fr n (q139_95 + 1) (-1) := ⟨by rw [em289, sd_up_ne (by decide)]; exact hS.1, by rw [em289, sd_up_ne (by decide)]; exact hS.2.1, by rw [em289, sd_up_eq]; (try omega), by rw [em289, sd_up_ne (by decide)]; exact hS.2.2.2⟩
                                  refine sd_iinc (y := ((c : Int) + 1)) (ls' := [some (.inr 15), some (.inl pl), some (.inl mn), some (.inl w), some (.inl 1), some (.inl ((c : Int) + 1)), some (.inl (sd_b ((0 + (j45_1 : Int)) = 1))), some (.inl (2 + (j68_9 : Int))), some (.inl (sd_b (((sd_hl f t139_37) ∧ (sd_hl f t139_66)) ∧ (sd_hl f t139_95)))), some (.inl (6 + (j107_30 : Int))), some (.inl 0), some (.inl 3), some (.inl (sd_b (sd_hl f t139_95)))]) sD11_reads_292 rfl (by omega) (by omega) (by decide) rfl ?_
                                  refine sd_goto (tgt := 31) sD11_reads_295 (by decide) ?_
                                  refine sd_less (ls' := [some (.inr 15), some (.inl pl), some (.inl mn), some (.inl w), some (.inl 1), some (.inl ((c : Int) + 1)), none, none, none, none, none, none, none]) ?_ rfl (by intro zi zv zh; rcases zi with _ | _ | _ | _ | _ | _ | _ | _ | _ | _ | _ | _ | _ | zi <;> first | exact zh | cases zh)
                                  refine sd_eqw (ls' := [some (.inr 15), some (.inl pl), some (.inl mn), some (.inl w), some (.inl 1), some (.inl ((c + 1 : Nat) : Int)), none, none, none, none, none, none, none]) ?_ (sd_cg rfl (sd_cg rfl (sd_cg rfl (sd_cg rfl (sd_cg rfl (sd_cg (sd_ce (by omega)) rfl)))))) rfl
                                  exact ih (by omega) g b m (q139_95 + 1) hx hS (by omega) hK6 hf hg hgb (by omega) (fun r m2 hq => hQ r m2 (sd_rd_A hcl (by omega) (by omega) hsm (by omega) hq))
                            ·
                              refine sd_iload sD11_reads_244 rfl ?_
                              refine sd_iconst sD11_reads_246 (by decide) ?_
                              refine sd_icmp_ge (tgt := 270) sD11_reads_247 (by decide) (fun zc247 => ?_) (fun zc247 => ?_)
                              ·
                                refine sd_iconst sD11_reads_270 (by decide) ?_
                                refine sd_istore (ls' := [some (.inr 15), some (.inl pl), some (.inl mn), some (.inl w), some (.inl 0), some (.inl (c : Int)), some (.inl (sd_b ((0 + (j45_1 : Int)) = 1))), some (.inl (2 + (j68_9 : Int))), some (.inl (sd_b (((sd_hl f t139_37) ∧ (sd_hl f t139_66)) ∧ (sd_hl f t139_95)))), some (.inl (6 + (j107_30 : Int))), some (.inl 0), some (.inl 3), some (.inl (sd_b (sd_hl f t139_95)))]) sD11_reads_271 (by decide) rfl ?_
                                refine sd_aload_n sD11_reads_273 rfl ?_
                                refine sd_dup sD11_reads_274 ?_
                                refine sd_getfi sD11_reads_275 sF11_147 sGM15_12 ?_
                                rw [show m 5492 = (q139_95 : Int) from hS.2.2.1]
                                refine sd_iload sD11_reads_278 rfl ?_
                                refine sd_if_eq (tgt := 287) sD11_reads_280 (by decide) (fun zc280 => ?_) (fun zc280 => (by exfalso; omega))
                                refine sd_iconst sD11_reads_287 (by decide) ?_
                                refine sd_iadd (z := (q139_95 : Int)) sD11_reads_288 (by omega) (by omega) ?_
                                refine sd_putfc sd_sokM sd_oneM hx sD11_reads_289 sF11_147 sGM15_12 (by decide) (Or.inl rfl) (fun m hx em289 => ?_)
                                have hk289x := sd_k2.up em289 (Or.inl rfl)
                                replace hK6 := hK6.k2 hk289x
                                replace hf : ∀ i, i < 4 → m (5504 + i) = f i := fun i hi => (hk289x _ (by omega) (by omega)).trans (hf i hi)
                                replace hg := (hk289x 5510 (by decide) (by decide)).trans hg
                                replace hgb := (hk289x 5511 (by decide) (by decide)).trans hgb
                                replace hS : sd_RS m fr n q139_95 (-1) := ⟨by rw [em289, sd_up_ne (by decide)]; exact hS.1, by rw [em289, sd_up_ne (by decide)]; exact hS.2.1, by rw [em289, sd_up_eq]; (try omega), by rw [em289, sd_up_ne (by decide)]; exact hS.2.2.2⟩
                                refine sd_iinc (y := ((c : Int) + 1)) (ls' := [some (.inr 15), some (.inl pl), some (.inl mn), some (.inl w), some (.inl 0), some (.inl ((c : Int) + 1)), some (.inl (sd_b ((0 + (j45_1 : Int)) = 1))), some (.inl (2 + (j68_9 : Int))), some (.inl (sd_b (((sd_hl f t139_37) ∧ (sd_hl f t139_66)) ∧ (sd_hl f t139_95)))), some (.inl (6 + (j107_30 : Int))), some (.inl 0), some (.inl 3), some (.inl (sd_b (sd_hl f t139_95)))]) sD11_reads_292 rfl (by omega) (by omega) (by decide) rfl ?_
                                refine sd_goto (tgt := 31) sD11_reads_295 (by decide) ?_
                                refine sd_iload sD11_reads_31 rfl ?_
                                refine sd_iconst sD11_reads_33 (by decide) ?_
                                refine sd_icmp_ge (tgt := 298) sD11_reads_34 (by decide) (fun zc34 => ?_) (fun zc34 => ?_)
                                ·
                                  refine sd_aload_n sD11_reads_298 rfl ?_
                                  refine sd_getfi sD11_reads_299 sF11_147 sGM15_12 ?_
                                  rw [show m 5492 = (q139_95 : Int) from hS.2.2.1]
                                  refine sd_aload_n sD11_reads_302 rfl ?_
                                  refine sd_getfi sD11_reads_303 sF11_151 sGM15_11 ?_
                                  rw [show m 5491 = (n : Int) from hS.2.1]
                                  refine sd_icmp_ge (tgt := 313) sD11_reads_306 (by decide) (fun zc306 => ?_) (fun zc306 => ?_)
                                  ·
                                    refine sd_vreturn sD11_reads_313 rfl (fun hm => hQ _ _ ⟨rfl, hK6, ?_⟩)
                                    exact Or.inr ⟨[(j45_1, j68_9, [t139_37, t139_66, t139_95])], by simp only [sd_txt, hcl]; rw [if_pos (by omega)], hS.2.2.2, Or.inr (Or.inl ⟨by omega, sd_fcl_n hmt, by rw [hg]; omega⟩)⟩
                                  ·
                                    refine sd_aload_n sD11_reads_309 rfl ?_
                                    refine sd_callV (as := []) (st := []) sD11_reads_310 sM11_167 rfl rfl sOM15 rfl (by decide) (Nat.le_of_ble_eq_true rfl) (cM_wrong1 fr n q139_95 _ m hx hS) (fun r m hq ho310 hm => ?_)
                                    obtain ⟨rfl, hk310_104, hS⟩ := hq
                                    replace hx := hk310_104.ns hx
                                    replace hK6 := hK6.k2 hk310_104
                                    replace hf : ∀ i, i < 4 → m (5504 + i) = f i := fun i hi => (hk310_104 _ (by omega) (by omega)).trans (hf i hi)
                                    replace hg := (hk310_104 5510 (by decide) (by decide)).trans hg
                                    replace hgb := (hk310_104 5511 (by decide) (by decide)).trans hgb
                                    rcases (⟨trivial⟩ : Nonempty True) with hy310_104
                                    ·
                                      show sd_Wp sd_SM 4 sY11_reads 313 [some (.inr 15), some (.inl pl), some (.inl mn), some (.inl w), some (.inl 0), some (.inl ((c : Int) + 1)), some (.inl (sd_b ((0 + (j45_1 : Int)) = 1))), some (.inl (2 + (j68_9 : Int))), some (.inl (sd_b (((sd_hl f t139_37) ∧ (sd_hl f t139_66)) ∧ (sd_hl f t139_95)))), some (.inl (6 + (j107_30 : Int))), some (.inl 0), some (.inl 3), some (.inl (sd_b (sd_hl f t139_95)))] [] m _
                                      refine sd_vreturn sD11_reads_313 rfl (fun hm => hQ _ _ ⟨rfl, hK6, ?_⟩)
                                      exact Or.inl ⟨q139_95, by simp only [sd_txt, hcl]; rw [if_neg (by omega)]; first | (rw [if_pos (by omega)]; done) | (rw [if_neg (by omega), if_neg (by assumption)]; done), hS.2.2.2⟩
                                ·
                                  refine sd_iload sD11_reads_37 rfl ?_
                                  refine sd_if_eq (tgt := 298) sD11_reads_39 (by decide) (fun zc39 => ?_) (fun zc39 => (by exfalso; omega))
                                  refine sd_aload_n sD11_reads_298 rfl ?_
                                  refine sd_getfi sD11_reads_299 sF11_147 sGM15_12 ?_
                                  rw [show m 5492 = (q139_95 : Int) from hS.2.2.1]
                                  refine sd_aload_n sD11_reads_302 rfl ?_
                                  refine sd_getfi sD11_reads_303 sF11_151 sGM15_11 ?_
                                  rw [show m 5491 = (n : Int) from hS.2.1]
                                  refine sd_icmp_ge (tgt := 313) sD11_reads_306 (by decide) (fun zc306 => ?_) (fun zc306 => ?_)
                                  ·
                                    refine sd_vreturn sD11_reads_313 rfl (fun hm => hQ _ _ ⟨rfl, hK6, ?_⟩)
                                    exact Or.inr ⟨[(j45_1, j68_9, [t139_37, t139_66, t139_95])], by simp only [sd_txt, hcl]; rw [if_pos (by omega)], hS.2.2.2, Or.inr (Or.inl ⟨by omega, sd_fcl_n hmt, by rw [hg]; omega⟩)⟩
                                  ·
                                    refine sd_aload_n sD11_reads_309 rfl ?_
                                    refine sd_callV (as := []) (st := []) sD11_reads_310 sM11_167 rfl rfl sOM15 rfl (by decide) (Nat.le_of_ble_eq_true rfl) (cM_wrong1 fr n q139_95 _ m hx hS) (fun r m hq ho310 hm => ?_)
                                    obtain ⟨rfl, hk310_105, hS⟩ := hq
                                    replace hx := hk310_105.ns hx
                                    replace hK6 := hK6.k2 hk310_105
                                    replace hf : ∀ i, i < 4 → m (5504 + i) = f i := fun i hi => (hk310_105 _ (by omega) (by omega)).trans (hf i hi)
                                    replace hg := (hk310_105 5510 (by decide) (by decide)).trans hg
                                    replace hgb := (hk310_105 5511 (by decide) (by decide)).trans hgb
                                    rcases (⟨trivial⟩ : Nonempty True) with hy310_105
                                    ·
                                      show sd_Wp sd_SM 4 sY11_reads 313 [some (.inr 15), some (.inl pl), some (.inl mn), some (.inl w), some (.inl 0), some (.inl ((c : Int) + 1)), some (.inl (sd_b ((0 + (j45_1 : Int)) = 1))), some (.inl (2 + (j68_9 : Int))), some (.inl (sd_b (((sd_hl f t139_37) ∧ (sd_hl f t139_66)) ∧ (sd_hl f t139_95)))), some (.inl (6 + (j107_30 : Int))), some (.inl 0), some (.inl 3), some (.inl (sd_b (sd_hl f t139_95)))] [] m _
                                      refine sd_vreturn sD11_reads_313 rfl (fun hm => hQ _ _ ⟨rfl, hK6, ?_⟩)
                                      exact Or.inl ⟨q139_95, by simp only [sd_txt, hcl]; rw [if_neg (by omega)]; first | (rw [if_pos (by omega)]; done) | (rw [if_neg (by omega), if_neg (by assumption)]; done), hS.2.2.2⟩
                              ·
                                refine sd_aload_n sD11_reads_250 rfl ?_
                                refine sd_callVp (as := []) (st := []) (v := .inl 1) sD11_reads_251 sM11_160 sOM15 rfl rfl rfl (by decide) (Nat.le_of_ble_eq_true rfl) (cM_isGood1 fr n q139_95 _ m hx hS) (fun ho251 => ?_)
                                refine sd_if_eq (tgt := 270) sD11_reads_254 (by decide) (fun zc254 => (by exfalso; omega)) (fun zc254 => ?_)
                                refine sd_aload_n sD11_reads_257 rfl ?_
                                refine sd_callVp (as := []) (st := []) (v := .inl (B q139_95)) sD11_reads_258 sM11_164 sOM15 rfl rfl rfl (by decide) (Nat.le_of_ble_eq_true rfl) (cM_byteAt _ fr B n q139_95 _ m hx hB hS) (fun ho258 => ?_)
                                refine sd_bipush sD11_reads_261 rfl (by decide) ?_
                                refine sd_icmp_ne (tgt := 270) sD11_reads_263 (by decide) (fun zc263 => ?_) (fun zc263 => ?_)
                                ·
                                  refine sd_iconst sD11_reads_270 (by decide) ?_
                                  refine sd_istore (ls' := [some (.inr 15), some (.inl pl), some (.inl mn), some (.inl w), some (.inl 0), some (.inl (c : Int)), some (.inl (sd_b ((0 + (j45_1 : Int)) = 1))), some (.inl (2 + (j68_9 : Int))), some (.inl (sd_b (((sd_hl f t139_37) ∧ (sd_hl f t139_66)) ∧ (sd_hl f t139_95)))), some (.inl (6 + (j107_30 : Int))), some (.inl 0), some (.inl 3), some (.inl (sd_b (sd_hl f t139_95)))]) sD11_reads_271 (by decide) rfl ?_
                                  refine sd_aload_n sD11_reads_273 rfl ?_
                                  refine sd_dup sD11_reads_274 ?_
                                  refine sd_getfi sD11_reads_275 sF11_147 sGM15_12 ?_
                                  rw [show m 5492 = (q139_95 : Int) from hS.2.2.1]
                                  refine sd_iload sD11_reads_278 rfl ?_
                                  refine sd_if_eq (tgt := 287) sD11_reads_280 (by decide) (fun zc280 => ?_) (fun zc280 => (by exfalso; omega))
                                  refine sd_iconst sD11_reads_287 (by decide) ?_
                                  refine sd_iadd (z := (q139_95 : Int)) sD11_reads_288 (by omega) (by omega) ?_
                                  refine sd_putfc sd_sokM sd_oneM hx sD11_reads_289 sF11_147 sGM15_12 (by decide) (Or.inl rfl) (fun m hx em289 => ?_)
                                  have hk289x := sd_k2.up em289 (Or.inl rfl)
                                  replace hK6 := hK6.k2 hk289x
                                  replace hf : ∀ i, i < 4 → m (5504 + i) = f i := fun i hi => (hk289x _ (by omega) (by omega)).trans (hf i hi)
                                  replace hg := (hk289x 5510 (by decide) (by decide)).trans hg
                                  replace hgb := (hk289x 5511 (by decide) (by decide)).trans hgb
                                  replace hS : sd_RS m fr n q139_95 (-1) := ⟨by rw [em289, sd_up_ne (by decide)]; exact hS.1, by rw [em289, sd_up_ne (by decide)]; exact hS.2.1, by rw [em289, sd_up_eq]; (try omega), by rw [em289, sd_up_ne (by decide)]; exact hS.2.2.2⟩
                                  refine sd_iinc (y := ((c : Int) + 1)) (ls' := [some (.inr 15), some (.inl pl), some (.inl mn), some (.inl w), some (.inl 0), some (.inl ((c : Int) + 1)), some (.inl (sd_b ((0 + (j45_1 : Int)) = 1))), some (.inl (2 + (j68_9 : Int))), some (.inl (sd_b (((sd_hl f t139_37) ∧ (sd_hl f t139_66)) ∧ (sd_hl f t139_95)))), some (.inl (6 + (j107_30 : Int))), some (.inl 0), some (.inl 3), some (.inl (sd_b (sd_hl f t139_95)))]) sD11_reads_292 rfl (by omega) (by omega) (by decide) rfl ?_
                                  refine sd_goto (tgt := 31) sD11_reads_295 (by decide) ?_
                                  refine sd_iload sD11_reads_31 rfl ?_
                                  refine sd_iconst sD11_reads_33 (by decide) ?_
                                  refine sd_icmp_ge (tgt := 298) sD11_reads_34 (by decide) (fun zc34 => ?_) (fun zc34 => ?_)
                                  ·
                                    refine sd_aload_n sD11_reads_298 rfl ?_
                                    refine sd_getfi sD11_reads_299 sF11_147 sGM15_12 ?_
                                    rw [show m 5492 = (q139_95 : Int) from hS.2.2.1]
                                    refine sd_aload_n sD11_reads_302 rfl ?_
                                    refine sd_getfi sD11_reads_303 sF11_151 sGM15_11 ?_
                                    rw [show m 5491 = (n : Int) from hS.2.1]
                                    refine sd_icmp_ge (tgt := 313) sD11_reads_306 (by decide) (fun zc306 => ?_) (fun zc306 => ?_)
                                    ·
                                      refine sd_vreturn sD11_reads_313 rfl (fun hm => hQ _ _ ⟨rfl, hK6, ?_⟩)
                                      exact Or.inr ⟨[(j45_1, j68_9, [t139_37, t139_66, t139_95])], by simp only [sd_txt, hcl]; rw [if_pos (by omega)], hS.2.2.2, Or.inr (Or.inl ⟨by omega, sd_fcl_n hmt, by rw [hg]; omega⟩)⟩
                                    ·
                                      refine sd_aload_n sD11_reads_309 rfl ?_
                                      refine sd_callV (as := []) (st := []) sD11_reads_310 sM11_167 rfl rfl sOM15 rfl (by decide) (Nat.le_of_ble_eq_true rfl) (cM_wrong1 fr n q139_95 _ m hx hS) (fun r m hq ho310 hm => ?_)
                                      obtain ⟨rfl, hk310_106, hS⟩ := hq
                                      replace hx := hk310_106.ns hx
                                      replace hK6 := hK6.k2 hk310_106
                                      replace hf : ∀ i, i < 4 → m (5504 + i) = f i := fun i hi => (hk310_106 _ (by omega) (by omega)).trans (hf i hi)
                                      replace hg := (hk310_106 5510 (by decide) (by decide)).trans hg
                                      replace hgb := (hk310_106 5511 (by decide) (by decide)).trans hgb
                                      rcases (⟨trivial⟩ : Nonempty True) with hy310_106
                                      ·
                                        show sd_Wp sd_SM 4 sY11_reads 313 [some (.inr 15), some (.inl pl), some (.inl mn), some (.inl w), some (.inl 0), some (.inl ((c : Int) + 1)), some (.inl (sd_b ((0 + (j45_1 : Int)) = 1))), some (.inl (2 + (j68_9 : Int))), some (.inl (sd_b (((sd_hl f t139_37) ∧ (sd_hl f t139_66)) ∧ (sd_hl f t139_95)))), some (.inl (6 + (j107_30 : Int))), some (.inl 0), some (.inl 3), some (.inl (sd_b (sd_hl f t139_95)))] [] m _
                                        refine sd_vreturn sD11_reads_313 rfl (fun hm => hQ _ _ ⟨rfl, hK6, ?_⟩)
                                        exact Or.inl ⟨q139_95, by simp only [sd_txt, hcl]; rw [if_neg (by omega)]; first | (rw [if_pos (by omega)]; done) | (rw [if_neg (by omega), if_neg (by assumption)]; done), hS.2.2.2⟩
                                  ·
                                    refine sd_iload sD11_reads_37 rfl ?_
                                    refine sd_if_eq (tgt := 298) sD11_reads_39 (by decide) (fun zc39 => ?_) (fun zc39 => (by exfalso; omega))
                                    refine sd_aload_n sD11_reads_298 rfl ?_
                                    refine sd_getfi sD11_reads_299 sF11_147 sGM15_12 ?_
                                    rw [show m 5492 = (q139_95 : Int) from hS.2.2.1]
                                    refine sd_aload_n sD11_reads_302 rfl ?_
                                    refine sd_getfi sD11_reads_303 sF11_151 sGM15_11 ?_
                                    rw [show m 5491 = (n : Int) from hS.2.1]
                                    refine sd_icmp_ge (tgt := 313) sD11_reads_306 (by decide) (fun zc306 => ?_) (fun zc306 => ?_)
                                    ·
                                      refine sd_vreturn sD11_reads_313 rfl (fun hm => hQ _ _ ⟨rfl, hK6, ?_⟩)
                                      exact Or.inr ⟨[(j45_1, j68_9, [t139_37, t139_66, t139_95])], by simp only [sd_txt, hcl]; rw [if_pos (by omega)], hS.2.2.2, Or.inr (Or.inl ⟨by omega, sd_fcl_n hmt, by rw [hg]; omega⟩)⟩
                                    ·
                                      refine sd_aload_n sD11_reads_309 rfl ?_
                                      refine sd_callV (as := []) (st := []) sD11_reads_310 sM11_167 rfl rfl sOM15 rfl (by decide) (Nat.le_of_ble_eq_true rfl) (cM_wrong1 fr n q139_95 _ m hx hS) (fun r m hq ho310 hm => ?_)
                                      obtain ⟨rfl, hk310_107, hS⟩ := hq
                                      replace hx := hk310_107.ns hx
                                      replace hK6 := hK6.k2 hk310_107
                                      replace hf : ∀ i, i < 4 → m (5504 + i) = f i := fun i hi => (hk310_107 _ (by omega) (by omega)).trans (hf i hi)
                                      replace hg := (hk310_107 5510 (by decide) (by decide)).trans hg
                                      replace hgb := (hk310_107 5511 (by decide) (by decide)).trans hgb
                                      rcases (⟨trivial⟩ : Nonempty True) with hy310_107
                                      ·
                                        show sd_Wp sd_SM 4 sY11_reads 313 [some (.inr 15), some (.inl pl), some (.inl mn), some (.inl w), some (.inl 0), some (.inl ((c : Int) + 1)), some (.inl (sd_b ((0 + (j45_1 : Int)) = 1))), some (.inl (2 + (j68_9 : Int))), some (.inl (sd_b (((sd_hl f t139_37) ∧ (sd_hl f t139_66)) ∧ (sd_hl f t139_95)))), some (.inl (6 + (j107_30 : Int))), some (.inl 0), some (.inl 3), some (.inl (sd_b (sd_hl f t139_95)))] [] m _
                                        refine sd_vreturn sD11_reads_313 rfl (fun hm => hQ _ _ ⟨rfl, hK6, ?_⟩)
                                        exact Or.inl ⟨q139_95, by simp only [sd_txt, hcl]; rw [if_neg (by omega)]; first | (rw [if_pos (by omega)]; done) | (rw [if_neg (by omega), if_neg (by assumption)]; done), hS.2.2.2⟩
                                ·
                                  have hsm : B q139_95 = 59 := by assumption
                                  have hin3 := hB.in (p := q139_95) (by omega)
                                  have hn1 := hB.1
                                  refine sd_iconst sD11_reads_266 (by decide) ?_
                                  refine sd_goto (tgt := 271) sD11_reads_267 (by decide) ?_
                                  refine sd_istore (ls' := [some (.inr 15), some (.inl pl), some (.inl mn), some (.inl w), some (.inl 1), some (.inl (c : Int)), some (.inl (sd_b ((0 + (j45_1 : Int)) = 1))), some (.inl (2 + (j68_9 : Int))), some (.inl (sd_b (((sd_hl f t139_37) ∧ (sd_hl f t139_66)) ∧ (sd_hl f t139_95)))), some (.inl (6 + (j107_30 : Int))), some (.inl 0), some (.inl 3), some (.inl (sd_b (sd_hl f t139_95)))]) sD11_reads_271 (by decide) rfl ?_
                                  refine sd_aload_n sD11_reads_273 rfl ?_
                                  refine sd_dup sD11_reads_274 ?_
                                  refine sd_getfi sD11_reads_275 sF11_147 sGM15_12 ?_
                                  rw [show m 5492 = (q139_95 : Int) from hS.2.2.1]
                                  refine sd_iload sD11_reads_278 rfl ?_
                                  refine sd_if_eq (tgt := 287) sD11_reads_280 (by decide) (fun zc280 => (by exfalso; omega)) (fun zc280 => ?_)
                                  refine sd_iconst sD11_reads_283 (by decide) ?_
                                  refine sd_goto (tgt := 288) sD11_reads_284 (by decide) ?_
                                  refine sd_iadd (z := ((q139_95 : Int) + 1)) sD11_reads_288 (by omega) (by omega) ?_
                                  refine sd_putfc sd_sokM sd_oneM hx sD11_reads_289 sF11_147 sGM15_12 (by decide) (Or.inl rfl) (fun m hx em289 => ?_)
                                  have hk289x := sd_k2.up em289 (Or.inl rfl)
                                  replace hK6 := hK6.k2 hk289x
                                  replace hf : ∀ i, i < 4 → m (5504 + i) = f i := fun i hi => (hk289x _ (by omega) (by omega)).trans (hf i hi)
                                  replace hg := (hk289x 5510 (by decide) (by decide)).trans hg
                                  replace hgb := (hk289x 5511 (by decide) (by decide)).trans hgb
                                  replace hS : sd_RS m fr n (q139_95 + 1) (-1) := ⟨by rw [em289, sd_up_ne (by decide)]; exact hS.1, by rw [em289, sd_up_ne (by decide)]; exact hS.2.1, by rw [em289, sd_up_eq]; (try omega), by rw [em289, sd_up_ne (by decide)]; exact hS.2.2.2⟩
                                  refine sd_iinc (y := ((c : Int) + 1)) (ls' := [some (.inr 15), some (.inl pl), some (.inl mn), some (.inl w), some (.inl 1), some (.inl ((c : Int) + 1)), some (.inl (sd_b ((0 + (j45_1 : Int)) = 1))), some (.inl (2 + (j68_9 : Int))), some (.inl (sd_b (((sd_hl f t139_37) ∧ (sd_hl f t139_66)) ∧ (sd_hl f t139_95)))), some (.inl (6 + (j107_30 : Int))), some (.inl 0), some (.inl 3), some (.inl (sd_b (sd_hl f t139_95)))]) sD11_reads_292 rfl (by omega) (by omega) (by decide) rfl ?_
                                  refine sd_goto (tgt := 31) sD11_reads_295 (by decide) ?_
                                  refine sd_less (ls' := [some (.inr 15), some (.inl pl), some (.inl mn), some (.inl w), some (.inl 1), some (.inl ((c : Int) + 1)), none, none, none, none, none, none, none]) ?_ rfl (by intro zi zv zh; rcases zi with _ | _ | _ | _ | _ | _ | _ | _ | _ | _ | _ | _ | _ | zi <;> first | exact zh | cases zh)
                                  refine sd_eqw (ls' := [some (.inr 15), some (.inl pl), some (.inl mn), some (.inl w), some (.inl 1), some (.inl ((c + 1 : Nat) : Int)), none, none, none, none, none, none, none]) ?_ (sd_cg rfl (sd_cg rfl (sd_cg rfl (sd_cg rfl (sd_cg rfl (sd_cg (sd_ce (by omega)) rfl)))))) rfl
                                  exact ih (by omega) g b m (q139_95 + 1) hx hS (by omega) hK6 hf hg hgb (by omega) (fun r m2 hq => hQ r m2 (sd_rd_C hcl (by omega) (by omega) hsm (by omega) hmt hq))
                          ·
                            refine sd_iload sD11_reads_217 rfl ?_
                            refine sd_iconst sD11_reads_219 (by decide) ?_
                            refine sd_isub (z := (j68_9 : Int)) sD11_reads_220 (by omega) (by omega) ?_
                            refine sd_iload_n sD11_reads_221 rfl ?_
                            refine sd_icmp_ne (tgt := 244) sD11_reads_222 (by decide) (fun zc222 => ?_) (fun zc222 => ?_)
                            ·
                              have hmt : ¬ sd_mt f w (j45_1, j68_9, [t139_37, t139_66, t139_95]) := fun qm => by have qm1 : (j68_9 : Int) = w := qm.1; have qm2 := qm.2; omega
                              rcases (show ¬ g = -1 ∨ g = -1 by omega) with hgc | hgc
                              ·
                                refine sd_iload sD11_reads_244 rfl ?_
                                refine sd_iconst sD11_reads_246 (by decide) ?_
                                refine sd_icmp_ge (tgt := 270) sD11_reads_247 (by decide) (fun zc247 => ?_) (fun zc247 => ?_)
                                ·
                                  refine sd_iconst sD11_reads_270 (by decide) ?_
                                  refine sd_istore (ls' := [some (.inr 15), some (.inl pl), some (.inl mn), some (.inl w), some (.inl 0), some (.inl (c : Int)), some (.inl (sd_b ((0 + (j45_1 : Int)) = 1))), some (.inl (2 + (j68_9 : Int))), some (.inl (sd_b (((sd_hl f t139_37) ∧ (sd_hl f t139_66)) ∧ (sd_hl f t139_95)))), some (.inl (6 + (j107_30 : Int))), some (.inl 0), some (.inl 3), some (.inl (sd_b (sd_hl f t139_95)))]) sD11_reads_271 (by decide) rfl ?_
                                  refine sd_aload_n sD11_reads_273 rfl ?_
                                  refine sd_dup sD11_reads_274 ?_
                                  refine sd_getfi sD11_reads_275 sF11_147 sGM15_12 ?_
                                  rw [show m 5492 = (q139_95 : Int) from hS.2.2.1]
                                  refine sd_iload sD11_reads_278 rfl ?_
                                  refine sd_if_eq (tgt := 287) sD11_reads_280 (by decide) (fun zc280 => ?_) (fun zc280 => (by exfalso; omega))
                                  refine sd_iconst sD11_reads_287 (by decide) ?_
                                  refine sd_iadd (z := (q139_95 : Int)) sD11_reads_288 (by omega) (by omega) ?_
                                  refine sd_putfc sd_sokM sd_oneM hx sD11_reads_289 sF11_147 sGM15_12 (by decide) (Or.inl rfl) (fun m hx em289 => ?_)
                                  have hk289x := sd_k2.up em289 (Or.inl rfl)
                                  replace hK6 := hK6.k2 hk289x
                                  replace hf : ∀ i, i < 4 → m (5504 + i) = f i := fun i hi => (hk289x _ (by omega) (by omega)).trans (hf i hi)
                                  replace hg := (hk289x 5510 (by decide) (by decide)).trans hg
                                  replace hgb := (hk289x 5511 (by decide) (by decide)).trans hgb
                                  replace hS : sd_RS m fr n q139_95 (-1) := ⟨by rw [em289, sd_up_ne (by decide)]; exact hS.1, by rw [em289, sd_up_ne (by decide)]; exact hS.2.1, by rw [em289, sd_up_eq]; (try omega), by rw [em289, sd_up_ne (by decide)]; exact hS.2.2.2⟩
                                  refine sd_iinc (y := ((c : Int) + 1)) (ls' := [some (.inr 15), some (.inl pl), some (.inl mn), some (.inl w), some (.inl 0), some (.inl ((c : Int) + 1)), some (.inl (sd_b ((0 + (j45_1 : Int)) = 1))), some (.inl (2 + (j68_9 : Int))), some (.inl (sd_b (((sd_hl f t139_37) ∧ (sd_hl f t139_66)) ∧ (sd_hl f t139_95)))), some (.inl (6 + (j107_30 : Int))), some (.inl 0), some (.inl 3), some (.inl (sd_b (sd_hl f t139_95)))]) sD11_reads_292 rfl (by omega) (by omega) (by decide) rfl ?_
                                  refine sd_goto (tgt := 31) sD11_reads_295 (by decide) ?_
                                  refine sd_iload sD11_reads_31 rfl ?_
                                  refine sd_iconst sD11_reads_33 (by decide) ?_
                                  refine sd_icmp_ge (tgt := 298) sD11_reads_34 (by decide) (fun zc34 => ?_) (fun zc34 => ?_)
                                  ·
                                    refine sd_aload_n sD11_reads_298 rfl ?_
                                    refine sd_getfi sD11_reads_299 sF11_147 sGM15_12 ?_
                                    rw [show m 5492 = (q139_95 : Int) from hS.2.2.1]
                                    refine sd_aload_n sD11_reads_302 rfl ?_
                                    refine sd_getfi sD11_reads_303 sF11_151 sGM15_11 ?_
                                    rw [show m 5491 = (n : Int) from hS.2.1]
                                    refine sd_icmp_ge (tgt := 313) sD11_reads_306 (by decide) (fun zc306 => ?_) (fun zc306 => ?_)
                                    ·
                                      refine sd_vreturn sD11_reads_313 rfl (fun hm => hQ _ _ ⟨rfl, hK6, ?_⟩)
                                      exact Or.inr ⟨[(j45_1, j68_9, [t139_37, t139_66, t139_95])], by simp only [sd_txt, hcl]; rw [if_pos (by omega)], hS.2.2.2, Or.inl ⟨by omega, hg, hgb⟩⟩
                                    ·
                                      refine sd_aload_n sD11_reads_309 rfl ?_
                                      refine sd_callV (as := []) (st := []) sD11_reads_310 sM11_167 rfl rfl sOM15 rfl (by decide) (Nat.le_of_ble_eq_true rfl) (cM_wrong1 fr n q139_95 _ m hx hS) (fun r m hq ho310 hm => ?_)
                                      obtain ⟨rfl, hk310_108, hS⟩ := hq
                                      replace hx := hk310_108.ns hx
                                      replace hK6 := hK6.k2 hk310_108
                                      replace hf : ∀ i, i < 4 → m (5504 + i) = f i := fun i hi => (hk310_108 _ (by omega) (by omega)).trans (hf i hi)
                                      replace hg := (hk310_108 5510 (by decide) (by decide)).trans hg
                                      replace hgb := (hk310_108 5511 (by decide) (by decide)).trans hgb
                                      rcases (⟨trivial⟩ : Nonempty True) with hy310_108
                                      ·
                                        show sd_Wp sd_SM 4 sY11_reads 313 [some (.inr 15), some (.inl pl), some (.inl mn), some (.inl w), some (.inl 0), some (.inl ((c : Int) + 1)), some (.inl (sd_b ((0 + (j45_1 : Int)) = 1))), some (.inl (2 + (j68_9 : Int))), some (.inl (sd_b (((sd_hl f t139_37) ∧ (sd_hl f t139_66)) ∧ (sd_hl f t139_95)))), some (.inl (6 + (j107_30 : Int))), some (.inl 0), some (.inl 3), some (.inl (sd_b (sd_hl f t139_95)))] [] m _
                                        refine sd_vreturn sD11_reads_313 rfl (fun hm => hQ _ _ ⟨rfl, hK6, ?_⟩)
                                        exact Or.inl ⟨q139_95, by simp only [sd_txt, hcl]; rw [if_neg (by omega)]; first | (rw [if_pos (by omega)]; done) | (rw [if_neg (by omega), if_neg (by assumption)]; done), hS.2.2.2⟩
                                  ·
                                    refine sd_iload sD11_reads_37 rfl ?_
                                    refine sd_if_eq (tgt := 298) sD11_reads_39 (by decide) (fun zc39 => ?_) (fun zc39 => (by exfalso; omega))
                                    refine sd_aload_n sD11_reads_298 rfl ?_
                                    refine sd_getfi sD11_reads_299 sF11_147 sGM15_12 ?_
                                    rw [show m 5492 = (q139_95 : Int) from hS.2.2.1]
                                    refine sd_aload_n sD11_reads_302 rfl ?_
                                    refine sd_getfi sD11_reads_303 sF11_151 sGM15_11 ?_
                                    rw [show m 5491 = (n : Int) from hS.2.1]
                                    refine sd_icmp_ge (tgt := 313) sD11_reads_306 (by decide) (fun zc306 => ?_) (fun zc306 => ?_)
                                    ·
                                      refine sd_vreturn sD11_reads_313 rfl (fun hm => hQ _ _ ⟨rfl, hK6, ?_⟩)
                                      exact Or.inr ⟨[(j45_1, j68_9, [t139_37, t139_66, t139_95])], by simp only [sd_txt, hcl]; rw [if_pos (by omega)], hS.2.2.2, Or.inl ⟨by omega, hg, hgb⟩⟩
                                    ·
                                      refine sd_aload_n sD11_reads_309 rfl ?_
                                      refine sd_callV (as := []) (st := []) sD11_reads_310 sM11_167 rfl rfl sOM15 rfl (by decide) (Nat.le_of_ble_eq_true rfl) (cM_wrong1 fr n q139_95 _ m hx hS) (fun r m hq ho310 hm => ?_)
                                      obtain ⟨rfl, hk310_109, hS⟩ := hq
                                      replace hx := hk310_109.ns hx
                                      replace hK6 := hK6.k2 hk310_109
                                      replace hf : ∀ i, i < 4 → m (5504 + i) = f i := fun i hi => (hk310_109 _ (by omega) (by omega)).trans (hf i hi)
                                      replace hg := (hk310_109 5510 (by decide) (by decide)).trans hg
                                      replace hgb := (hk310_109 5511 (by decide) (by decide)).trans hgb
                                      rcases (⟨trivial⟩ : Nonempty True) with hy310_109
                                      ·
                                        show sd_Wp sd_SM 4 sY11_reads 313 [some (.inr 15), some (.inl pl), some (.inl mn), some (.inl w), some (.inl 0), some (.inl ((c : Int) + 1)), some (.inl (sd_b ((0 + (j45_1 : Int)) = 1))), some (.inl (2 + (j68_9 : Int))), some (.inl (sd_b (((sd_hl f t139_37) ∧ (sd_hl f t139_66)) ∧ (sd_hl f t139_95)))), some (.inl (6 + (j107_30 : Int))), some (.inl 0), some (.inl 3), some (.inl (sd_b (sd_hl f t139_95)))] [] m _
                                        refine sd_vreturn sD11_reads_313 rfl (fun hm => hQ _ _ ⟨rfl, hK6, ?_⟩)
                                        exact Or.inl ⟨q139_95, by simp only [sd_txt, hcl]; rw [if_neg (by omega)]; first | (rw [if_pos (by omega)]; done) | (rw [if_neg (by omega), if_neg (by assumption)]; done), hS.2.2.2⟩
                                ·
                                  refine sd_aload_n sD11_reads_250 rfl ?_
                                  refine sd_callVp (as := []) (st := []) (v := .inl 1) sD11_reads_251 sM11_160 sOM15 rfl rfl rfl (by decide) (Nat.le_of_ble_eq_true rfl) (cM_isGood1 fr n q139_95 _ m hx hS) (fun ho251 => ?_)
                                  refine sd_if_eq (tgt := 270) sD11_reads_254 (by decide) (fun zc254 => (by exfalso; omega)) (fun zc254 => ?_)
                                  refine sd_aload_n sD11_reads_257 rfl ?_
                                  refine sd_callVp (as := []) (st := []) (v := .inl (B q139_95)) sD11_reads_258 sM11_164 sOM15 rfl rfl rfl (by decide) (Nat.le_of_ble_eq_true rfl) (cM_byteAt _ fr B n q139_95 _ m hx hB hS) (fun ho258 => ?_)
                                  refine sd_bipush sD11_reads_261 rfl (by decide) ?_
                                  refine sd_icmp_ne (tgt := 270) sD11_reads_263 (by decide) (fun zc263 => ?_) (fun zc263 => ?_)
                                  ·
                                    refine sd_iconst sD11_reads_270 (by decide) ?_
                                    refine sd_istore (ls' := [some (.inr 15), some (.inl pl), some (.inl mn), some (.inl w), some (.inl 0), some (.inl (c : Int)), some (.inl (sd_b ((0 + (j45_1 : Int)) = 1))), some (.inl (2 + (j68_9 : Int))), some (.inl (sd_b (((sd_hl f t139_37) ∧ (sd_hl f t139_66)) ∧ (sd_hl f t139_95)))), some (.inl (6 + (j107_30 : Int))), some (.inl 0), some (.inl 3), some (.inl (sd_b (sd_hl f t139_95)))]) sD11_reads_271 (by decide) rfl ?_
                                    refine sd_aload_n sD11_reads_273 rfl ?_
                                    refine sd_dup sD11_reads_274 ?_
                                    refine sd_getfi sD11_reads_275 sF11_147 sGM15_12 ?_
                                    rw [show m 5492 = (q139_95 : Int) from hS.2.2.1]
                                    refine sd_iload sD11_reads_278 rfl ?_
                                    refine sd_if_eq (tgt := 287) sD11_reads_280 (by decide) (fun zc280 => ?_) (fun zc280 => (by exfalso; omega))
                                    refine sd_iconst sD11_reads_287 (by decide) ?_
                                    refine sd_iadd (z := (q139_95 : Int)) sD11_reads_288 (by omega) (by omega) ?_
                                    refine sd_putfc sd_sokM sd_oneM hx sD11_reads_289 sF11_147 sGM15_12 (by decide) (Or.inl rfl) (fun m hx em289 => ?_)
                                    have hk289x := sd_k2.up em289 (Or.inl rfl)
                                    replace hK6 := hK6.k2 hk289x
                                    replace hf : ∀ i, i < 4 → m (5504 + i) = f i := fun i hi => (hk289x _ (by omega) (by omega)).trans (hf i hi)
                                    replace hg := (hk289x 5510 (by decide) (by decide)).trans hg
                                    replace hgb := (hk289x 5511 (by decide) (by decide)).trans hgb
                                    replace hS : sd_RS m fr n q139_95 (-1) := ⟨by rw [em289, sd_up_ne (by decide)]; exact hS.1, by rw [em289, sd_up_ne (by decide)]; exact hS.2.1, by rw [em289, sd_up_eq]; (try omega), by rw [em289, sd_up_ne (by decide)]; exact hS.2.2.2⟩
                                    refine sd_iinc (y := ((c : Int) + 1)) (ls' := [some (.inr 15), some (.inl pl), some (.inl mn), some (.inl w), some (.inl 0), some (.inl ((c : Int) + 1)), some (.inl (sd_b ((0 + (j45_1 : Int)) = 1))), some (.inl (2 + (j68_9 : Int))), some (.inl (sd_b (((sd_hl f t139_37) ∧ (sd_hl f t139_66)) ∧ (sd_hl f t139_95)))), some (.inl (6 + (j107_30 : Int))), some (.inl 0), some (.inl 3), some (.inl (sd_b (sd_hl f t139_95)))]) sD11_reads_292 rfl (by omega) (by omega) (by decide) rfl ?_
                                    refine sd_goto (tgt := 31) sD11_reads_295 (by decide) ?_
                                    refine sd_iload sD11_reads_31 rfl ?_
                                    refine sd_iconst sD11_reads_33 (by decide) ?_
                                    refine sd_icmp_ge (tgt := 298) sD11_reads_34 (by decide) (fun zc34 => ?_) (fun zc34 => ?_)
                                    ·
                                      refine sd_aload_n sD11_reads_298 rfl ?_
                                      refine sd_getfi sD11_reads_299 sF11_147 sGM15_12 ?_
                                      rw [show m 5492 = (q139_95 : Int) from hS.2.2.1]
                                      refine sd_aload_n sD11_reads_302 rfl ?_
                                      refine sd_getfi sD11_reads_303 sF11_151 sGM15_11 ?_
                                      rw [show m 5491 = (n : Int) from hS.2.1]
                                      refine sd_icmp_ge (tgt := 313) sD11_reads_306 (by decide) (fun zc306 => ?_) (fun zc306 => ?_)
                                      ·
                                        refine sd_vreturn sD11_reads_313 rfl (fun hm => hQ _ _ ⟨rfl, hK6, ?_⟩)
                                        exact Or.inr ⟨[(j45_1, j68_9, [t139_37, t139_66, t139_95])], by simp only [sd_txt, hcl]; rw [if_pos (by omega)], hS.2.2.2, Or.inl ⟨by omega, hg, hgb⟩⟩
                                      ·
                                        refine sd_aload_n sD11_reads_309 rfl ?_
                                        refine sd_callV (as := []) (st := []) sD11_reads_310 sM11_167 rfl rfl sOM15 rfl (by decide) (Nat.le_of_ble_eq_true rfl) (cM_wrong1 fr n q139_95 _ m hx hS) (fun r m hq ho310 hm => ?_)
                                        obtain ⟨rfl, hk310_110, hS⟩ := hq
                                        replace hx := hk310_110.ns hx
                                        replace hK6 := hK6.k2 hk310_110
                                        replace hf : ∀ i, i < 4 → m (5504 + i) = f i := fun i hi => (hk310_110 _ (by omega) (by omega)).trans (hf i hi)
                                        replace hg := (hk310_110 5510 (by decide) (by decide)).trans hg
                                        replace hgb := (hk310_110 5511 (by decide) (by decide)).trans hgb
                                        rcases (⟨trivial⟩ : Nonempty True) with hy310_110
                                        ·
                                          show sd_Wp sd_SM 4 sY11_reads 313 [some (.inr 15), some (.inl pl), some (.inl mn), some (.inl w), some (.inl 0), some (.inl ((c : Int) + 1)), some (.inl (sd_b ((0 + (j45_1 : Int)) = 1))), some (.inl (2 + (j68_9 : Int))), some (.inl (sd_b (((sd_hl f t139_37) ∧ (sd_hl f t139_66)) ∧ (sd_hl f t139_95)))), some (.inl (6 + (j107_30 : Int))), some (.inl 0), some (.inl 3), some (.inl (sd_b (sd_hl f t139_95)))] [] m _
                                          refine sd_vreturn sD11_reads_313 rfl (fun hm => hQ _ _ ⟨rfl, hK6, ?_⟩)
                                          exact Or.inl ⟨q139_95, by simp only [sd_txt, hcl]; rw [if_neg (by omega)]; first | (rw [if_pos (by omega)]; done) | (rw [if_neg (by omega), if_neg (by assumption)]; done), hS.2.2.2⟩
                                    ·
                                      refine sd_iload sD11_reads_37 rfl ?_
                                      refine sd_if_eq (tgt := 298) sD11_reads_39 (by decide) (fun zc39 => ?_) (fun zc39 => (by exfalso; omega))
                                      refine sd_aload_n sD11_reads_298 rfl ?_
                                      refine sd_getfi sD11_reads_299 sF11_147 sGM15_12 ?_
                                      rw [show m 5492 = (q139_95 : Int) from hS.2.2.1]
                                      refine sd_aload_n sD11_reads_302 rfl ?_
                                      refine sd_getfi sD11_reads_303 sF11_151 sGM15_11 ?_
                                      rw [show m 5491 = (n : Int) from hS.2.1]
                                      refine sd_icmp_ge (tgt := 313) sD11_reads_306 (by decide) (fun zc306 => ?_) (fun zc306 => ?_)
                                      ·
                                        refine sd_vreturn sD11_reads_313 rfl (fun hm => hQ _ _ ⟨rfl, hK6, ?_⟩)
                                        exact Or.inr ⟨[(j45_1, j68_9, [t139_37, t139_66, t139_95])], by simp only [sd_txt, hcl]; rw [if_pos (by omega)], hS.2.2.2, Or.inl ⟨by omega, hg, hgb⟩⟩
                                      ·
                                        refine sd_aload_n sD11_reads_309 rfl ?_
                                        refine sd_callV (as := []) (st := []) sD11_reads_310 sM11_167 rfl rfl sOM15 rfl (by decide) (Nat.le_of_ble_eq_true rfl) (cM_wrong1 fr n q139_95 _ m hx hS) (fun r m hq ho310 hm => ?_)
                                        obtain ⟨rfl, hk310_111, hS⟩ := hq
                                        replace hx := hk310_111.ns hx
                                        replace hK6 := hK6.k2 hk310_111
                                        replace hf : ∀ i, i < 4 → m (5504 + i) = f i := fun i hi => (hk310_111 _ (by omega) (by omega)).trans (hf i hi)
                                        replace hg := (hk310_111 5510 (by decide) (by decide)).trans hg
                                        replace hgb := (hk310_111 5511 (by decide) (by decide)).trans hgb
                                        rcases (⟨trivial⟩ : Nonempty True) with hy310_111
                                        ·
                                          show sd_Wp sd_SM 4 sY11_reads 313 [some (.inr 15), some (.inl pl), some (.inl mn), some (.inl w), some (.inl 0), some (.inl ((c : Int) + 1)), some (.inl (sd_b ((0 + (j45_1 : Int)) = 1))), some (.inl (2 + (j68_9 : Int))), some (.inl (sd_b (((sd_hl f t139_37) ∧ (sd_hl f t139_66)) ∧ (sd_hl f t139_95)))), some (.inl (6 + (j107_30 : Int))), some (.inl 0), some (.inl 3), some (.inl (sd_b (sd_hl f t139_95)))] [] m _
                                          refine sd_vreturn sD11_reads_313 rfl (fun hm => hQ _ _ ⟨rfl, hK6, ?_⟩)
                                          exact Or.inl ⟨q139_95, by simp only [sd_txt, hcl]; rw [if_neg (by omega)]; first | (rw [if_pos (by omega)]; done) | (rw [if_neg (by omega), if_neg (by assumption)]; done), hS.2.2.2⟩
                                  ·
                                    have hsm : B q139_95 = 59 := by assumption
                                    have hin3 := hB.in (p := q139_95) (by omega)
                                    have hn1 := hB.1
                                    refine sd_iconst sD11_reads_266 (by decide) ?_
                                    refine sd_goto (tgt := 271) sD11_reads_267 (by decide) ?_
                                    refine sd_istore (ls' := [some (.inr 15), some (.inl pl), some (.inl mn), some (.inl w), some (.inl 1), some (.inl (c : Int)), some (.inl (sd_b ((0 + (j45_1 : Int)) = 1))), some (.inl (2 + (j68_9 : Int))), some (.inl (sd_b (((sd_hl f t139_37) ∧ (sd_hl f t139_66)) ∧ (sd_hl f t139_95)))), some (.inl (6 + (j107_30 : Int))), some (.inl 0), some (.inl 3), some (.inl (sd_b (sd_hl f t139_95)))]) sD11_reads_271 (by decide) rfl ?_
                                    refine sd_aload_n sD11_reads_273 rfl ?_
                                    refine sd_dup sD11_reads_274 ?_
                                    refine sd_getfi sD11_reads_275 sF11_147 sGM15_12 ?_
                                    rw [show m 5492 = (q139_95 : Int) from hS.2.2.1]
                                    refine sd_iload sD11_reads_278 rfl ?_
                                    refine sd_if_eq (tgt := 287) sD11_reads_280 (by decide) (fun zc280 => (by exfalso; omega)) (fun zc280 => ?_)
                                    refine sd_iconst sD11_reads_283 (by decide) ?_
                                    refine sd_goto (tgt := 288) sD11_reads_284 (by decide) ?_
                                    refine sd_iadd (z := ((q139_95 : Int) + 1)) sD11_reads_288 (by omega) (by omega) ?_
                                    refine sd_putfc sd_sokM sd_oneM hx sD11_reads_289 sF11_147 sGM15_12 (by decide) (Or.inl rfl) (fun m hx em289 => ?_)
                                    have hk289x := sd_k2.up em289 (Or.inl rfl)
                                    replace hK6 := hK6.k2 hk289x
                                    replace hf : ∀ i, i < 4 → m (5504 + i) = f i := fun i hi => (hk289x _ (by omega) (by omega)).trans (hf i hi)
                                    replace hg := (hk289x 5510 (by decide) (by decide)).trans hg
                                    replace hgb := (hk289x 5511 (by decide) (by decide)).trans hgb
                                    replace hS : sd_RS m fr n (q139_95 + 1) (-1) := ⟨by rw [em289, sd_up_ne (by decide)]; exact hS.1, by rw [em289, sd_up_ne (by decide)]; exact hS.2.1, by rw [em289, sd_up_eq]; (try omega), by rw [em289, sd_up_ne (by decide)]; exact hS.2.2.2⟩
                                    refine sd_iinc (y := ((c : Int) + 1)) (ls' := [some (.inr 15), some (.inl pl), some (.inl mn), some (.inl w), some (.inl 1), some (.inl ((c : Int) + 1)), some (.inl (sd_b ((0 + (j45_1 : Int)) = 1))), some (.inl (2 + (j68_9 : Int))), some (.inl (sd_b (((sd_hl f t139_37) ∧ (sd_hl f t139_66)) ∧ (sd_hl f t139_95)))), some (.inl (6 + (j107_30 : Int))), some (.inl 0), some (.inl 3), some (.inl (sd_b (sd_hl f t139_95)))]) sD11_reads_292 rfl (by omega) (by omega) (by decide) rfl ?_
                                    refine sd_goto (tgt := 31) sD11_reads_295 (by decide) ?_
                                    refine sd_less (ls' := [some (.inr 15), some (.inl pl), some (.inl mn), some (.inl w), some (.inl 1), some (.inl ((c : Int) + 1)), none, none, none, none, none, none, none]) ?_ rfl (by intro zi zv zh; rcases zi with _ | _ | _ | _ | _ | _ | _ | _ | _ | _ | _ | _ | _ | zi <;> first | exact zh | cases zh)
                                    refine sd_eqw (ls' := [some (.inr 15), some (.inl pl), some (.inl mn), some (.inl w), some (.inl 1), some (.inl ((c + 1 : Nat) : Int)), none, none, none, none, none, none, none]) ?_ (sd_cg rfl (sd_cg rfl (sd_cg rfl (sd_cg rfl (sd_cg rfl (sd_cg (sd_ce (by omega)) rfl)))))) rfl
                                    exact ih (by omega) g b m (q139_95 + 1) hx hS (by omega) hK6 hf hg hgb (by omega) (fun r m2 hq => hQ r m2 (sd_rd_A hcl (by omega) (by omega) hsm (by omega) hq))
                              ·
                                refine sd_iload sD11_reads_244 rfl ?_
                                refine sd_iconst sD11_reads_246 (by decide) ?_
                                refine sd_icmp_ge (tgt := 270) sD11_reads_247 (by decide) (fun zc247 => ?_) (fun zc247 => ?_)
                                ·
                                  refine sd_iconst sD11_reads_270 (by decide) ?_
                                  refine sd_istore (ls' := [some (.inr 15), some (.inl pl), some (.inl mn), some (.inl w), some (.inl 0), some (.inl (c : Int)), some (.inl (sd_b ((0 + (j45_1 : Int)) = 1))), some (.inl (2 + (j68_9 : Int))), some (.inl (sd_b (((sd_hl f t139_37) ∧ (sd_hl f t139_66)) ∧ (sd_hl f t139_95)))), some (.inl (6 + (j107_30 : Int))), some (.inl 0), some (.inl 3), some (.inl (sd_b (sd_hl f t139_95)))]) sD11_reads_271 (by decide) rfl ?_
                                  refine sd_aload_n sD11_reads_273 rfl ?_
                                  refine sd_dup sD11_reads_274 ?_
                                  refine sd_getfi sD11_reads_275 sF11_147 sGM15_12 ?_
                                  rw [show m 5492 = (q139_95 : Int) from hS.2.2.1]
                                  refine sd_iload sD11_reads_278 rfl ?_
                                  refine sd_if_eq (tgt := 287) sD11_reads_280 (by decide) (fun zc280 => ?_) (fun zc280 => (by exfalso; omega))
                                  refine sd_iconst sD11_reads_287 (by decide) ?_
                                  refine sd_iadd (z := (q139_95 : Int)) sD11_reads_288 (by omega) (by omega) ?_
                                  refine sd_putfc sd_sokM sd_oneM hx sD11_reads_289 sF11_147 sGM15_12 (by decide) (Or.inl rfl) (fun m hx em289 => ?_)
                                  have hk289x := sd_k2.up em289 (Or.inl rfl)
                                  replace hK6 := hK6.k2 hk289x
                                  replace hf : ∀ i, i < 4 → m (5504 + i) = f i := fun i hi => (hk289x _ (by omega) (by omega)).trans (hf i hi)
                                  replace hg := (hk289x 5510 (by decide) (by decide)).trans hg
                                  replace hgb := (hk289x 5511 (by decide) (by decide)).trans hgb
                                  replace hS : sd_RS m fr n q139_95 (-1) := ⟨by rw [em289, sd_up_ne (by decide)]; exact hS.1, by rw [em289, sd_up_ne (by decide)]; exact hS.2.1, by rw [em289, sd_up_eq]; (try omega), by rw [em289, sd_up_ne (by decide)]; exact hS.2.2.2⟩
                                  refine sd_iinc (y := ((c : Int) + 1)) (ls' := [some (.inr 15), some (.inl pl), some (.inl mn), some (.inl w), some (.inl 0), some (.inl ((c : Int) + 1)), some (.inl (sd_b ((0 + (j45_1 : Int)) = 1))), some (.inl (2 + (j68_9 : Int))), some (.inl (sd_b (((sd_hl f t139_37) ∧ (sd_hl f t139_66)) ∧ (sd_hl f t139_95)))), some (.inl (6 + (j107_30 : Int))), some (.inl 0), some (.inl 3), some (.inl (sd_b (sd_hl f t139_95)))]) sD11_reads_292 rfl (by omega) (by omega) (by decide) rfl ?_
                                  refine sd_goto (tgt := 31) sD11_reads_295 (by decide) ?_
                                  refine sd_iload sD11_reads_31 rfl ?_
                                  refine sd_iconst sD11_reads_33 (by decide) ?_
                                  refine sd_icmp_ge (tgt := 298) sD11_reads_34 (by decide) (fun zc34 => ?_) (fun zc34 => ?_)
                                  ·
                                    refine sd_aload_n sD11_reads_298 rfl ?_
                                    refine sd_getfi sD11_reads_299 sF11_147 sGM15_12 ?_
                                    rw [show m 5492 = (q139_95 : Int) from hS.2.2.1]
                                    refine sd_aload_n sD11_reads_302 rfl ?_
                                    refine sd_getfi sD11_reads_303 sF11_151 sGM15_11 ?_
                                    rw [show m 5491 = (n : Int) from hS.2.1]
                                    refine sd_icmp_ge (tgt := 313) sD11_reads_306 (by decide) (fun zc306 => ?_) (fun zc306 => ?_)
                                    ·
                                      refine sd_vreturn sD11_reads_313 rfl (fun hm => hQ _ _ ⟨rfl, hK6, ?_⟩)
                                      exact Or.inr ⟨[(j45_1, j68_9, [t139_37, t139_66, t139_95])], by simp only [sd_txt, hcl]; rw [if_pos (by omega)], hS.2.2.2, Or.inr (Or.inl ⟨by omega, sd_fcl_n hmt, by rw [hg]; omega⟩)⟩
                                    ·
                                      refine sd_aload_n sD11_reads_309 rfl ?_
                                      refine sd_callV (as := []) (st := []) sD11_reads_310 sM11_167 rfl rfl sOM15 rfl (by decide) (Nat.le_of_ble_eq_true rfl) (cM_wrong1 fr n q139_95 _ m hx hS) (fun r m hq ho310 hm => ?_)
                                      obtain ⟨rfl, hk310_112, hS⟩ := hq
                                      replace hx := hk310_112.ns hx
                                      replace hK6 := hK6.k2 hk310_112
                                      replace hf : ∀ i, i < 4 → m (5504 + i) = f i := fun i hi => (hk310_112 _ (by omega) (by omega)).trans (hf i hi)
                                      replace hg := (hk310_112 5510 (by decide) (by decide)).trans hg
                                      replace hgb := (hk310_112 5511 (by decide) (by decide)).trans hgb
                                      rcases (⟨trivial⟩ : Nonempty True) with hy310_112
                                      ·
                                        show sd_Wp sd_SM 4 sY11_reads 313 [some (.inr 15), some (.inl pl), some (.inl mn), some (.inl w), some (.inl 0), some (.inl ((c : Int) + 1)), some (.inl (sd_b ((0 + (j45_1 : Int)) = 1))), some (.inl (2 + (j68_9 : Int))), some (.inl (sd_b (((sd_hl f t139_37) ∧ (sd_hl f t139_66)) ∧ (sd_hl f t139_95)))), some (.inl (6 + (j107_30 : Int))), some (.inl 0), some (.inl 3), some (.inl (sd_b (sd_hl f t139_95)))] [] m _
                                        refine sd_vreturn sD11_reads_313 rfl (fun hm => hQ _ _ ⟨rfl, hK6, ?_⟩)
                                        exact Or.inl ⟨q139_95, by simp only [sd_txt, hcl]; rw [if_neg (by omega)]; first | (rw [if_pos (by omega)]; done) | (rw [if_neg (by omega), if_neg (by assumption)]; done), hS.2.2.2⟩
                                  ·
                                    refine sd_iload sD11_reads_37 rfl ?_
                                    refine sd_if_eq (tgt := 298) sD11_reads_39 (by decide) (fun zc39 => ?_) (fun zc39 => (by exfalso; omega))
                                    refine sd_aload_n sD11_reads_298 rfl ?_
                                    refine sd_getfi sD11_reads_299 sF11_147 sGM15_12 ?_
                                    rw [show m 5492 = (q139_95 : Int) from hS.2.2.1]
                                    refine sd_aload_n sD11_reads_302 rfl ?_
                                    refine sd_getfi sD11_reads_303 sF11_151 sGM15_11 ?_
                                    rw [show m 5491 = (n : Int) from hS.2.1]
                                    refine sd_icmp_ge (tgt := 313) sD11_reads_306 (by decide) (fun zc306 => ?_) (fun zc306 => ?_)
                                    ·
                                      refine sd_vreturn sD11_reads_313 rfl (fun hm => hQ _ _ ⟨rfl, hK6, ?_⟩)
                                      exact Or.inr ⟨[(j45_1, j68_9, [t139_37, t139_66, t139_95])], by simp only [sd_txt, hcl]; rw [if_pos (by omega)], hS.2.2.2, Or.inr (Or.inl ⟨by omega, sd_fcl_n hmt, by rw [hg]; omega⟩)⟩
                                    ·
                                      refine sd_aload_n sD11_reads_309 rfl ?_
                                      refine sd_callV (as := []) (st := []) sD11_reads_310 sM11_167 rfl rfl sOM15 rfl (by decide) (Nat.le_of_ble_eq_true rfl) (cM_wrong1 fr n q139_95 _ m hx hS) (fun r m hq ho310 hm => ?_)
                                      obtain ⟨rfl, hk310_113, hS⟩ := hq
                                      replace hx := hk310_113.ns hx
                                      replace hK6 := hK6.k2 hk310_113
                                      replace hf : ∀ i, i < 4 → m (5504 + i) = f i := fun i hi => (hk310_113 _ (by omega) (by omega)).trans (hf i hi)
                                      replace hg := (hk310_113 5510 (by decide) (by decide)).trans hg
                                      replace hgb := (hk310_113 5511 (by decide) (by decide)).trans hgb
                                      rcases (⟨trivial⟩ : Nonempty True) with hy310_113
                                      ·
                                        show sd_Wp sd_SM 4 sY11_reads 313 [some (.inr 15), some (.inl pl), some (.inl mn), some (.inl w), some (.inl 0), some (.inl ((c : Int) + 1)), some (.inl (sd_b ((0 + (j45_1 : Int)) = 1))), some (.inl (2 + (j68_9 : Int))), some (.inl (sd_b (((sd_hl f t139_37) ∧ (sd_hl f t139_66)) ∧ (sd_hl f t139_95)))), some (.inl (6 + (j107_30 : Int))), some (.inl 0), some (.inl 3), some (.inl (sd_b (sd_hl f t139_95)))] [] m _
                                        refine sd_vreturn sD11_reads_313 rfl (fun hm => hQ _ _ ⟨rfl, hK6, ?_⟩)
                                        exact Or.inl ⟨q139_95, by simp only [sd_txt, hcl]; rw [if_neg (by omega)]; first | (rw [if_pos (by omega)]; done) | (rw [if_neg (by omega), if_neg (by assumption)]; done), hS.2.2.2⟩
                                ·
                                  refine sd_aload_n sD11_reads_250 rfl ?_
                                  refine sd_callVp (as := []) (st := []) (v := .inl 1) sD11_reads_251 sM11_160 sOM15 rfl rfl rfl (by decide) (Nat.le_of_ble_eq_true rfl) (cM_isGood1 fr n q139_95 _ m hx hS) (fun ho251 => ?_)
                                  refine sd_if_eq (tgt := 270) sD11_reads_254 (by decide) (fun zc254 => (by exfalso; omega)) (fun zc254 => ?_)
                                  refine sd_aload_n sD11_reads_257 rfl ?_
                                  refine sd_callVp (as := []) (st := []) (v := .inl (B q139_95)) sD11_reads_258 sM11_164 sOM15 rfl rfl rfl (by decide) (Nat.le_of_ble_eq_true rfl) (cM_byteAt _ fr B n q139_95 _ m hx hB hS) (fun ho258 => ?_)
                                  refine sd_bipush sD11_reads_261 rfl (by decide) ?_
                                  refine sd_icmp_ne (tgt := 270) sD11_reads_263 (by decide) (fun zc263 => ?_) (fun zc263 => ?_)
                                  ·
                                    refine sd_iconst sD11_reads_270 (by decide) ?_
                                    refine sd_istore (ls' := [some (.inr 15), some (.inl pl), some (.inl mn), some (.inl w), some (.inl 0), some (.inl (c : Int)), some (.inl (sd_b ((0 + (j45_1 : Int)) = 1))), some (.inl (2 + (j68_9 : Int))), some (.inl (sd_b (((sd_hl f t139_37) ∧ (sd_hl f t139_66)) ∧ (sd_hl f t139_95)))), some (.inl (6 + (j107_30 : Int))), some (.inl 0), some (.inl 3), some (.inl (sd_b (sd_hl f t139_95)))]) sD11_reads_271 (by decide) rfl ?_
                                    refine sd_aload_n sD11_reads_273 rfl ?_
                                    refine sd_dup sD11_reads_274 ?_
                                    refine sd_getfi sD11_reads_275 sF11_147 sGM15_12 ?_
                                    rw [show m 5492 = (q139_95 : Int) from hS.2.2.1]
                                    refine sd_iload sD11_reads_278 rfl ?_
                                    refine sd_if_eq (tgt := 287) sD11_reads_280 (by decide) (fun zc280 => ?_) (fun zc280 => (by exfalso; omega))
                                    refine sd_iconst sD11_reads_287 (by decide) ?_
                                    refine sd_iadd (z := (q139_95 : Int)) sD11_reads_288 (by omega) (by omega) ?_
                                    refine sd_putfc sd_sokM sd_oneM hx sD11_reads_289 sF11_147 sGM15_12 (by decide) (Or.inl rfl) (fun m hx em289 => ?_)
                                    have hk289x := sd_k2.up em289 (Or.inl rfl)
                                    replace hK6 := hK6.k2 hk289x
                                    replace hf : ∀ i, i < 4 → m (5504 + i) = f i := fun i hi => (hk289x _ (by omega) (by omega)).trans (hf i hi)
                                    replace hg := (hk289x 5510 (by decide) (by decide)).trans hg
                                    replace hgb := (hk289x 5511 (by decide) (by decide)).trans hgb
                                    replace hS : sd_RS m fr n q139_95 (-1) := ⟨by rw [em289, sd_up_ne (by decide)]; exact hS.1, by rw [em289, sd_up_ne (by decide)]; exact hS.2.1, by rw [em289, sd_up_eq]; (try omega), by rw [em289, sd_up_ne (by decide)]; exact hS.2.2.2⟩
                                    refine sd_iinc (y := ((c : Int) + 1)) (ls' := [some (.inr 15), some (.inl pl), some (.inl mn), some (.inl w), some (.inl 0), some (.inl ((c : Int) + 1)), some (.inl (sd_b ((0 + (j45_1 : Int)) = 1))), some (.inl (2 + (j68_9 : Int))), some (.inl (sd_b (((sd_hl f t139_37) ∧ (sd_hl f t139_66)) ∧ (sd_hl f t139_95)))), some (.inl (6 + (j107_30 : Int))), some (.inl 0), some (.inl 3), some (.inl (sd_b (sd_hl f t139_95)))]) sD11_reads_292 rfl (by omega) (by omega) (by decide) rfl ?_
                                    refine sd_goto (tgt := 31) sD11_reads_295 (by decide) ?_
                                    refine sd_iload sD11_reads_31 rfl ?_
                                    refine sd_iconst sD11_reads_33 (by decide) ?_
                                    refine sd_icmp_ge (tgt := 298) sD11_reads_34 (by decide) (fun zc34 => ?_) (fun zc34 => ?_)
                                    ·
                                      refine sd_aload_n sD11_reads_298 rfl ?_
                                      refine sd_getfi sD11_reads_299 sF11_147 sGM15_12 ?_
                                      rw [show m 5492 = (q139_95 : Int) from hS.2.2.1]
                                      refine sd_aload_n sD11_reads_302 rfl ?_
                                      refine sd_getfi sD11_reads_303 sF11_151 sGM15_11 ?_
                                      rw [show m 5491 = (n : Int) from hS.2.1]
                                      refine sd_icmp_ge (tgt := 313) sD11_reads_306 (by decide) (fun zc306 => ?_) (fun zc306 => ?_)
                                      ·
                                        refine sd_vreturn sD11_reads_313 rfl (fun hm => hQ _ _ ⟨rfl, hK6, ?_⟩)
                                        exact Or.inr ⟨[(j45_1, j68_9, [t139_37, t139_66, t139_95])], by simp only [sd_txt, hcl]; rw [if_pos (by omega)], hS.2.2.2, Or.inr (Or.inl ⟨by omega, sd_fcl_n hmt, by rw [hg]; omega⟩)⟩
                                      ·
                                        refine sd_aload_n sD11_reads_309 rfl ?_
                                        refine sd_callV (as := []) (st := []) sD11_reads_310 sM11_167 rfl rfl sOM15 rfl (by decide) (Nat.le_of_ble_eq_true rfl) (cM_wrong1 fr n q139_95 _ m hx hS) (fun r m hq ho310 hm => ?_)
                                        obtain ⟨rfl, hk310_114, hS⟩ := hq
                                        replace hx := hk310_114.ns hx
                                        replace hK6 := hK6.k2 hk310_114
                                        replace hf : ∀ i, i < 4 → m (5504 + i) = f i := fun i hi => (hk310_114 _ (by omega) (by omega)).trans (hf i hi)
                                        replace hg := (hk310_114 5510 (by decide) (by decide)).trans hg
                                        replace hgb := (hk310_114 5511 (by decide) (by decide)).trans hgb
                                        rcases (⟨trivial⟩ : Nonempty True) with hy310_114
                                        ·
                                          show sd_Wp sd_SM 4 sY11_reads 313 [some (.inr 15), some (.inl pl), some (.inl mn), some (.inl w), some (.inl 0), some (.inl ((c : Int) + 1)), some (.inl (sd_b ((0 + (j45_1 : Int)) = 1))), some (.inl (2 + (j68_9 : Int))), some (.inl (sd_b (((sd_hl f t139_37) ∧ (sd_hl f t139_66)) ∧ (sd_hl f t139_95)))), some (.inl (6 + (j107_30 : Int))), some (.inl 0), some (.inl 3), some (.inl (sd_b (sd_hl f t139_95)))] [] m _
                                          refine sd_vreturn sD11_reads_313 rfl (fun hm => hQ _ _ ⟨rfl, hK6, ?_⟩)
                                          exact Or.inl ⟨q139_95, by simp only [sd_txt, hcl]; rw [if_neg (by omega)]; first | (rw [if_pos (by omega)]; done) | (rw [if_neg (by omega), if_neg (by assumption)]; done), hS.2.2.2⟩
                                    ·
                                      refine sd_iload sD11_reads_37 rfl ?_
                                      refine sd_if_eq (tgt := 298) sD11_reads_39 (by decide) (fun zc39 => ?_) (fun zc39 => (by exfalso; omega))
                                      refine sd_aload_n sD11_reads_298 rfl ?_
                                      refine sd_getfi sD11_reads_299 sF11_147 sGM15_12 ?_
                                      rw [show m 5492 = (q139_95 : Int) from hS.2.2.1]
                                      refine sd_aload_n sD11_reads_302 rfl ?_
                                      refine sd_getfi sD11_reads_303 sF11_151 sGM15_11 ?_
                                      rw [show m 5491 = (n : Int) from hS.2.1]
                                      refine sd_icmp_ge (tgt := 313) sD11_reads_306 (by decide) (fun zc306 => ?_) (fun zc306 => ?_)
                                      ·
                                        refine sd_vreturn sD11_reads_313 rfl (fun hm => hQ _ _ ⟨rfl, hK6, ?_⟩)
                                        exact Or.inr ⟨[(j45_1, j68_9, [t139_37, t139_66, t139_95])], by simp only [sd_txt, hcl]; rw [if_pos (by omega)], hS.2.2.2, Or.inr (Or.inl ⟨by omega, sd_fcl_n hmt, by rw [hg]; omega⟩)⟩
                                      ·
                                        refine sd_aload_n sD11_reads_309 rfl ?_
                                        refine sd_callV (as := []) (st := []) sD11_reads_310 sM11_167 rfl rfl sOM15 rfl (by decide) (Nat.le_of_ble_eq_true rfl) (cM_wrong1 fr n q139_95 _ m hx hS) (fun r m hq ho310 hm => ?_)
                                        obtain ⟨rfl, hk310_115, hS⟩ := hq
                                        replace hx := hk310_115.ns hx
                                        replace hK6 := hK6.k2 hk310_115
                                        replace hf : ∀ i, i < 4 → m (5504 + i) = f i := fun i hi => (hk310_115 _ (by omega) (by omega)).trans (hf i hi)
                                        replace hg := (hk310_115 5510 (by decide) (by decide)).trans hg
                                        replace hgb := (hk310_115 5511 (by decide) (by decide)).trans hgb
                                        rcases (⟨trivial⟩ : Nonempty True) with hy310_115
                                        ·
                                          show sd_Wp sd_SM 4 sY11_reads 313 [some (.inr 15), some (.inl pl), some (.inl mn), some (.inl w), some (.inl 0), some (.inl ((c : Int) + 1)), some (.inl (sd_b ((0 + (j45_1 : Int)) = 1))), some (.inl (2 + (j68_9 : Int))), some (.inl (sd_b (((sd_hl f t139_37) ∧ (sd_hl f t139_66)) ∧ (sd_hl f t139_95)))), some (.inl (6 + (j107_30 : Int))), some (.inl 0), some (.inl 3), some (.inl (sd_b (sd_hl f t139_95)))] [] m _
                                          refine sd_vreturn sD11_reads_313 rfl (fun hm => hQ _ _ ⟨rfl, hK6, ?_⟩)
                                          exact Or.inl ⟨q139_95, by simp only [sd_txt, hcl]; rw [if_neg (by omega)]; first | (rw [if_pos (by omega)]; done) | (rw [if_neg (by omega), if_neg (by assumption)]; done), hS.2.2.2⟩
                                  ·
                                    have hsm : B q139_95 = 59 := by assumption
                                    have hin3 := hB.in (p := q139_95) (by omega)
                                    have hn1 := hB.1
                                    refine sd_iconst sD11_reads_266 (by decide) ?_
                                    refine sd_goto (tgt := 271) sD11_reads_267 (by decide) ?_
                                    refine sd_istore (ls' := [some (.inr 15), some (.inl pl), some (.inl mn), some (.inl w), some (.inl 1), some (.inl (c : Int)), some (.inl (sd_b ((0 + (j45_1 : Int)) = 1))), some (.inl (2 + (j68_9 : Int))), some (.inl (sd_b (((sd_hl f t139_37) ∧ (sd_hl f t139_66)) ∧ (sd_hl f t139_95)))), some (.inl (6 + (j107_30 : Int))), some (.inl 0), some (.inl 3), some (.inl (sd_b (sd_hl f t139_95)))]) sD11_reads_271 (by decide) rfl ?_
                                    refine sd_aload_n sD11_reads_273 rfl ?_
                                    refine sd_dup sD11_reads_274 ?_
                                    refine sd_getfi sD11_reads_275 sF11_147 sGM15_12 ?_
                                    rw [show m 5492 = (q139_95 : Int) from hS.2.2.1]
                                    refine sd_iload sD11_reads_278 rfl ?_
                                    refine sd_if_eq (tgt := 287) sD11_reads_280 (by decide) (fun zc280 => (by exfalso; omega)) (fun zc280 => ?_)
                                    refine sd_iconst sD11_reads_283 (by decide) ?_
                                    refine sd_goto (tgt := 288) sD11_reads_284 (by decide) ?_
                                    refine sd_iadd (z := ((q139_95 : Int) + 1)) sD11_reads_288 (by omega) (by omega) ?_
                                    refine sd_putfc sd_sokM sd_oneM hx sD11_reads_289 sF11_147 sGM15_12 (by decide) (Or.inl rfl) (fun m hx em289 => ?_)
                                    have hk289x := sd_k2.up em289 (Or.inl rfl)
                                    replace hK6 := hK6.k2 hk289x
                                    replace hf : ∀ i, i < 4 → m (5504 + i) = f i := fun i hi => (hk289x _ (by omega) (by omega)).trans (hf i hi)
                                    replace hg := (hk289x 5510 (by decide) (by decide)).trans hg
                                    replace hgb := (hk289x 5511 (by decide) (by decide)).trans hgb
                                    replace hS : sd_RS m fr n (q139_95 + 1) (-1) := ⟨by rw [em289, sd_up_ne (by decide)]; exact hS.1, by rw [em289, sd_up_ne (by decide)]; exact hS.2.1, by rw [em289, sd_up_eq]; (try omega), by rw [em289, sd_up_ne (by decide)]; exact hS.2.2.2⟩
                                    refine sd_iinc (y := ((c : Int) + 1)) (ls' := [some (.inr 15), some (.inl pl), some (.inl mn), some (.inl w), some (.inl 1), some (.inl ((c : Int) + 1)), some (.inl (sd_b ((0 + (j45_1 : Int)) = 1))), some (.inl (2 + (j68_9 : Int))), some (.inl (sd_b (((sd_hl f t139_37) ∧ (sd_hl f t139_66)) ∧ (sd_hl f t139_95)))), some (.inl (6 + (j107_30 : Int))), some (.inl 0), some (.inl 3), some (.inl (sd_b (sd_hl f t139_95)))]) sD11_reads_292 rfl (by omega) (by omega) (by decide) rfl ?_
                                    refine sd_goto (tgt := 31) sD11_reads_295 (by decide) ?_
                                    refine sd_less (ls' := [some (.inr 15), some (.inl pl), some (.inl mn), some (.inl w), some (.inl 1), some (.inl ((c : Int) + 1)), none, none, none, none, none, none, none]) ?_ rfl (by intro zi zv zh; rcases zi with _ | _ | _ | _ | _ | _ | _ | _ | _ | _ | _ | _ | _ | zi <;> first | exact zh | cases zh)
                                    refine sd_eqw (ls' := [some (.inr 15), some (.inl pl), some (.inl mn), some (.inl w), some (.inl 1), some (.inl ((c + 1 : Nat) : Int)), none, none, none, none, none, none, none]) ?_ (sd_cg rfl (sd_cg rfl (sd_cg rfl (sd_cg rfl (sd_cg rfl (sd_cg (sd_ce (by omega)) rfl)))))) rfl
                                    exact ih (by omega) g b m (q139_95 + 1) hx hS (by omega) hK6 hf hg hgb (by omega) (fun r m2 hq => hQ r m2 (sd_rd_C hcl (by omega) (by omega) hsm (by omega) hmt hq))
                            ·
                              refine sd_aload_n sD11_reads_225 rfl ?_
                              refine sd_getfi sD11_reads_226 sF11_176 sGM15_15 ?_
                              rw [show m 5510 = g from hg]
                              refine sd_if_ge (tgt := 244) sD11_reads_229 (by decide) (fun zc229 => ?_) (fun zc229 => ?_)
                              ·
                                refine sd_iload sD11_reads_244 rfl ?_
                                refine sd_iconst sD11_reads_246 (by decide) ?_
                                refine sd_icmp_ge (tgt := 270) sD11_reads_247 (by decide) (fun zc247 => ?_) (fun zc247 => ?_)
                                ·
                                  refine sd_iconst sD11_reads_270 (by decide) ?_
                                  refine sd_istore (ls' := [some (.inr 15), some (.inl pl), some (.inl mn), some (.inl w), some (.inl 0), some (.inl (c : Int)), some (.inl (sd_b ((0 + (j45_1 : Int)) = 1))), some (.inl (2 + (j68_9 : Int))), some (.inl (sd_b (((sd_hl f t139_37) ∧ (sd_hl f t139_66)) ∧ (sd_hl f t139_95)))), some (.inl (6 + (j107_30 : Int))), some (.inl 0), some (.inl 3), some (.inl (sd_b (sd_hl f t139_95)))]) sD11_reads_271 (by decide) rfl ?_
                                  refine sd_aload_n sD11_reads_273 rfl ?_
                                  refine sd_dup sD11_reads_274 ?_
                                  refine sd_getfi sD11_reads_275 sF11_147 sGM15_12 ?_
                                  rw [show m 5492 = (q139_95 : Int) from hS.2.2.1]
                                  refine sd_iload sD11_reads_278 rfl ?_
                                  refine sd_if_eq (tgt := 287) sD11_reads_280 (by decide) (fun zc280 => ?_) (fun zc280 => (by exfalso; omega))
                                  refine sd_iconst sD11_reads_287 (by decide) ?_
                                  refine sd_iadd (z := (q139_95 : Int)) sD11_reads_288 (by omega) (by omega) ?_
                                  refine sd_putfc sd_sokM sd_oneM hx sD11_reads_289 sF11_147 sGM15_12 (by decide) (Or.inl rfl) (fun m hx em289 => ?_)
                                  have hk289x := sd_k2.up em289 (Or.inl rfl)
                                  replace hK6 := hK6.k2 hk289x
                                  replace hf : ∀ i, i < 4 → m (5504 + i) = f i := fun i hi => (hk289x _ (by omega) (by omega)).trans (hf i hi)
                                  replace hg := (hk289x 5510 (by decide) (by decide)).trans hg
                                  replace hgb := (hk289x 5511 (by decide) (by decide)).trans hgb
                                  replace hS : sd_RS m fr n q139_95 (-1) := ⟨by rw [em289, sd_up_ne (by decide)]; exact hS.1, by rw [em289, sd_up_ne (by decide)]; exact hS.2.1, by rw [em289, sd_up_eq]; (try omega), by rw [em289, sd_up_ne (by decide)]; exact hS.2.2.2⟩
                                  refine sd_iinc (y := ((c : Int) + 1)) (ls' := [some (.inr 15), some (.inl pl), some (.inl mn), some (.inl w), some (.inl 0), some (.inl ((c : Int) + 1)), some (.inl (sd_b ((0 + (j45_1 : Int)) = 1))), some (.inl (2 + (j68_9 : Int))), some (.inl (sd_b (((sd_hl f t139_37) ∧ (sd_hl f t139_66)) ∧ (sd_hl f t139_95)))), some (.inl (6 + (j107_30 : Int))), some (.inl 0), some (.inl 3), some (.inl (sd_b (sd_hl f t139_95)))]) sD11_reads_292 rfl (by omega) (by omega) (by decide) rfl ?_
                                  refine sd_goto (tgt := 31) sD11_reads_295 (by decide) ?_
                                  refine sd_iload sD11_reads_31 rfl ?_
                                  refine sd_iconst sD11_reads_33 (by decide) ?_
                                  refine sd_icmp_ge (tgt := 298) sD11_reads_34 (by decide) (fun zc34 => ?_) (fun zc34 => ?_)
                                  ·
                                    refine sd_aload_n sD11_reads_298 rfl ?_
                                    refine sd_getfi sD11_reads_299 sF11_147 sGM15_12 ?_
                                    rw [show m 5492 = (q139_95 : Int) from hS.2.2.1]
                                    refine sd_aload_n sD11_reads_302 rfl ?_
                                    refine sd_getfi sD11_reads_303 sF11_151 sGM15_11 ?_
                                    rw [show m 5491 = (n : Int) from hS.2.1]
                                    refine sd_icmp_ge (tgt := 313) sD11_reads_306 (by decide) (fun zc306 => ?_) (fun zc306 => ?_)
                                    ·
                                      refine sd_vreturn sD11_reads_313 rfl (fun hm => hQ _ _ ⟨rfl, hK6, ?_⟩)
                                      exact Or.inr ⟨[(j45_1, j68_9, [t139_37, t139_66, t139_95])], by simp only [sd_txt, hcl]; rw [if_pos (by omega)], hS.2.2.2, Or.inl ⟨by omega, hg, hgb⟩⟩
                                    ·
                                      refine sd_aload_n sD11_reads_309 rfl ?_
                                      refine sd_callV (as := []) (st := []) sD11_reads_310 sM11_167 rfl rfl sOM15 rfl (by decide) (Nat.le_of_ble_eq_true rfl) (cM_wrong1 fr n q139_95 _ m hx hS) (fun r m hq ho310 hm => ?_)
                                      obtain ⟨rfl, hk310_116, hS⟩ := hq
                                      replace hx := hk310_116.ns hx
                                      replace hK6 := hK6.k2 hk310_116
                                      replace hf : ∀ i, i < 4 → m (5504 + i) = f i := fun i hi => (hk310_116 _ (by omega) (by omega)).trans (hf i hi)
                                      replace hg := (hk310_116 5510 (by decide) (by decide)).trans hg
                                      replace hgb := (hk310_116 5511 (by decide) (by decide)).trans hgb
                                      rcases (⟨trivial⟩ : Nonempty True) with hy310_116
                                      ·
                                        show sd_Wp sd_SM 4 sY11_reads 313 [some (.inr 15), some (.inl pl), some (.inl mn), some (.inl w), some (.inl 0), some (.inl ((c : Int) + 1)), some (.inl (sd_b ((0 + (j45_1 : Int)) = 1))), some (.inl (2 + (j68_9 : Int))), some (.inl (sd_b (((sd_hl f t139_37) ∧ (sd_hl f t139_66)) ∧ (sd_hl f t139_95)))), some (.inl (6 + (j107_30 : Int))), some (.inl 0), some (.inl 3), some (.inl (sd_b (sd_hl f t139_95)))] [] m _
                                        refine sd_vreturn sD11_reads_313 rfl (fun hm => hQ _ _ ⟨rfl, hK6, ?_⟩)
                                        exact Or.inl ⟨q139_95, by simp only [sd_txt, hcl]; rw [if_neg (by omega)]; first | (rw [if_pos (by omega)]; done) | (rw [if_neg (by omega), if_neg (by assumption)]; done), hS.2.2.2⟩
                                  ·
                                    refine sd_iload sD11_reads_37 rfl ?_
                                    refine sd_if_eq (tgt := 298) sD11_reads_39 (by decide) (fun zc39 => ?_) (fun zc39 => (by exfalso; omega))
                                    refine sd_aload_n sD11_reads_298 rfl ?_
                                    refine sd_getfi sD11_reads_299 sF11_147 sGM15_12 ?_
                                    rw [show m 5492 = (q139_95 : Int) from hS.2.2.1]
                                    refine sd_aload_n sD11_reads_302 rfl ?_
                                    refine sd_getfi sD11_reads_303 sF11_151 sGM15_11 ?_
                                    rw [show m 5491 = (n : Int) from hS.2.1]
                                    refine sd_icmp_ge (tgt := 313) sD11_reads_306 (by decide) (fun zc306 => ?_) (fun zc306 => ?_)
                                    ·
                                      refine sd_vreturn sD11_reads_313 rfl (fun hm => hQ _ _ ⟨rfl, hK6, ?_⟩)
                                      exact Or.inr ⟨[(j45_1, j68_9, [t139_37, t139_66, t139_95])], by simp only [sd_txt, hcl]; rw [if_pos (by omega)], hS.2.2.2, Or.inl ⟨by omega, hg, hgb⟩⟩
                                    ·
                                      refine sd_aload_n sD11_reads_309 rfl ?_
                                      refine sd_callV (as := []) (st := []) sD11_reads_310 sM11_167 rfl rfl sOM15 rfl (by decide) (Nat.le_of_ble_eq_true rfl) (cM_wrong1 fr n q139_95 _ m hx hS) (fun r m hq ho310 hm => ?_)
                                      obtain ⟨rfl, hk310_117, hS⟩ := hq
                                      replace hx := hk310_117.ns hx
                                      replace hK6 := hK6.k2 hk310_117
                                      replace hf : ∀ i, i < 4 → m (5504 + i) = f i := fun i hi => (hk310_117 _ (by omega) (by omega)).trans (hf i hi)
                                      replace hg := (hk310_117 5510 (by decide) (by decide)).trans hg
                                      replace hgb := (hk310_117 5511 (by decide) (by decide)).trans hgb
                                      rcases (⟨trivial⟩ : Nonempty True) with hy310_117
                                      ·
                                        show sd_Wp sd_SM 4 sY11_reads 313 [some (.inr 15), some (.inl pl), some (.inl mn), some (.inl w), some (.inl 0), some (.inl ((c : Int) + 1)), some (.inl (sd_b ((0 + (j45_1 : Int)) = 1))), some (.inl (2 + (j68_9 : Int))), some (.inl (sd_b (((sd_hl f t139_37) ∧ (sd_hl f t139_66)) ∧ (sd_hl f t139_95)))), some (.inl (6 + (j107_30 : Int))), some (.inl 0), some (.inl 3), some (.inl (sd_b (sd_hl f t139_95)))] [] m _
                                        refine sd_vreturn sD11_reads_313 rfl (fun hm => hQ _ _ ⟨rfl, hK6, ?_⟩)
                                        exact Or.inl ⟨q139_95, by simp only [sd_txt, hcl]; rw [if_neg (by omega)]; first | (rw [if_pos (by omega)]; done) | (rw [if_neg (by omega), if_neg (by assumption)]; done), hS.2.2.2⟩
                                ·
                                  refine sd_aload_n sD11_reads_250 rfl ?_
                                  refine sd_callVp (as := []) (st := []) (v := .inl 1) sD11_reads_251 sM11_160 sOM15 rfl rfl rfl (by decide) (Nat.le_of_ble_eq_true rfl) (cM_isGood1 fr n q139_95 _ m hx hS) (fun ho251 => ?_)
                                  refine sd_if_eq (tgt := 270) sD11_reads_254 (by decide) (fun zc254 => (by exfalso; omega)) (fun zc254 => ?_)
                                  refine sd_aload_n sD11_reads_257 rfl ?_
                                  refine sd_callVp (as := []) (st := []) (v := .inl (B q139_95)) sD11_reads_258 sM11_164 sOM15 rfl rfl rfl (by decide) (Nat.le_of_ble_eq_true rfl) (cM_byteAt _ fr B n q139_95 _ m hx hB hS) (fun ho258 => ?_)
                                  refine sd_bipush sD11_reads_261 rfl (by decide) ?_
                                  refine sd_icmp_ne (tgt := 270) sD11_reads_263 (by decide) (fun zc263 => ?_) (fun zc263 => ?_)
                                  ·
                                    refine sd_iconst sD11_reads_270 (by decide) ?_
                                    refine sd_istore (ls' := [some (.inr 15), some (.inl pl), some (.inl mn), some (.inl w), some (.inl 0), some (.inl (c : Int)), some (.inl (sd_b ((0 + (j45_1 : Int)) = 1))), some (.inl (2 + (j68_9 : Int))), some (.inl (sd_b (((sd_hl f t139_37) ∧ (sd_hl f t139_66)) ∧ (sd_hl f t139_95)))), some (.inl (6 + (j107_30 : Int))), some (.inl 0), some (.inl 3), some (.inl (sd_b (sd_hl f t139_95)))]) sD11_reads_271 (by decide) rfl ?_
                                    refine sd_aload_n sD11_reads_273 rfl ?_
                                    refine sd_dup sD11_reads_274 ?_
                                    refine sd_getfi sD11_reads_275 sF11_147 sGM15_12 ?_
                                    rw [show m 5492 = (q139_95 : Int) from hS.2.2.1]
                                    refine sd_iload sD11_reads_278 rfl ?_
                                    refine sd_if_eq (tgt := 287) sD11_reads_280 (by decide) (fun zc280 => ?_) (fun zc280 => (by exfalso; omega))
                                    refine sd_iconst sD11_reads_287 (by decide) ?_
                                    refine sd_iadd (z := (q139_95 : Int)) sD11_reads_288 (by omega) (by omega) ?_
                                    refine sd_putfc sd_sokM sd_oneM hx sD11_reads_289 sF11_147 sGM15_12 (by decide) (Or.inl rfl) (fun m hx em289 => ?_)
                                    have hk289x := sd_k2.up em289 (Or.inl rfl)
                                    replace hK6 := hK6.k2 hk289x
                                    replace hf : ∀ i, i < 4 → m (5504 + i) = f i := fun i hi => (hk289x _ (by omega) (by omega)).trans (hf i hi)
                                    replace hg := (hk289x 5510 (by decide) (by decide)).trans hg
                                    replace hgb := (hk289x 5511 (by decide) (by decide)).trans hgb
                                    replace hS : sd_RS m fr n q139_95 (-1) := ⟨by rw [em289, sd_up_ne (by decide)]; exact hS.1, by rw [em289, sd_up_ne (by decide)]; exact hS.2.1, by rw [em289, sd_up_eq]; (try omega), by rw [em289, sd_up_ne (by decide)]; exact hS.2.2.2⟩
                                    refine sd_iinc (y := ((c : Int) + 1)) (ls' := [some (.inr 15), some (.inl pl), some (.inl mn), some (.inl w), some (.inl 0), some (.inl ((c : Int) + 1)), some (.inl (sd_b ((0 + (j45_1 : Int)) = 1))), some (.inl (2 + (j68_9 : Int))), some (.inl (sd_b (((sd_hl f t139_37) ∧ (sd_hl f t139_66)) ∧ (sd_hl f t139_95)))), some (.inl (6 + (j107_30 : Int))), some (.inl 0), some (.inl 3), some (.inl (sd_b (sd_hl f t139_95)))]) sD11_reads_292 rfl (by omega) (by omega) (by decide) rfl ?_
                                    refine sd_goto (tgt := 31) sD11_reads_295 (by decide) ?_
                                    refine sd_iload sD11_reads_31 rfl ?_
                                    refine sd_iconst sD11_reads_33 (by decide) ?_
                                    refine sd_icmp_ge (tgt := 298) sD11_reads_34 (by decide) (fun zc34 => ?_) (fun zc34 => ?_)
                                    ·
                                      refine sd_aload_n sD11_reads_298 rfl ?_
                                      refine sd_getfi sD11_reads_299 sF11_147 sGM15_12 ?_
                                      rw [show m 5492 = (q139_95 : Int) from hS.2.2.1]
                                      refine sd_aload_n sD11_reads_302 rfl ?_
                                      refine sd_getfi sD11_reads_303 sF11_151 sGM15_11 ?_
                                      rw [show m 5491 = (n : Int) from hS.2.1]
                                      refine sd_icmp_ge (tgt := 313) sD11_reads_306 (by decide) (fun zc306 => ?_) (fun zc306 => ?_)
                                      ·
                                        refine sd_vreturn sD11_reads_313 rfl (fun hm => hQ _ _ ⟨rfl, hK6, ?_⟩)
                                        exact Or.inr ⟨[(j45_1, j68_9, [t139_37, t139_66, t139_95])], by simp only [sd_txt, hcl]; rw [if_pos (by omega)], hS.2.2.2, Or.inl ⟨by omega, hg, hgb⟩⟩
                                      ·
                                        refine sd_aload_n sD11_reads_309 rfl ?_
                                        refine sd_callV (as := []) (st := []) sD11_reads_310 sM11_167 rfl rfl sOM15 rfl (by decide) (Nat.le_of_ble_eq_true rfl) (cM_wrong1 fr n q139_95 _ m hx hS) (fun r m hq ho310 hm => ?_)
                                        obtain ⟨rfl, hk310_118, hS⟩ := hq
                                        replace hx := hk310_118.ns hx
                                        replace hK6 := hK6.k2 hk310_118
                                        replace hf : ∀ i, i < 4 → m (5504 + i) = f i := fun i hi => (hk310_118 _ (by omega) (by omega)).trans (hf i hi)
                                        replace hg := (hk310_118 5510 (by decide) (by decide)).trans hg
                                        replace hgb := (hk310_118 5511 (by decide) (by decide)).trans hgb
                                        rcases (⟨trivial⟩ : Nonempty True) with hy310_118
                                        ·
                                          show sd_Wp sd_SM 4 sY11_reads 313 [some (.inr 15), some (.inl pl), some (.inl mn), some (.inl w), some (.inl 0), some (.inl ((c : Int) + 1)), some (.inl (sd_b ((0 + (j45_1 : Int)) = 1))), some (.inl (2 + (j68_9 : Int))), some (.inl (sd_b (((sd_hl f t139_37) ∧ (sd_hl f t139_66)) ∧ (sd_hl f t139_95)))), some (.inl (6 + (j107_30 : Int))), some (.inl 0), some (.inl 3), some (.inl (sd_b (sd_hl f t139_95)))] [] m _
                                          refine sd_vreturn sD11_reads_313 rfl (fun hm => hQ _ _ ⟨rfl, hK6, ?_⟩)
                                          exact Or.inl ⟨q139_95, by simp only [sd_txt, hcl]; rw [if_neg (by omega)]; first | (rw [if_pos (by omega)]; done) | (rw [if_neg (by omega), if_neg (by assumption)]; done), hS.2.2.2⟩
                                    ·
                                      refine sd_iload sD11_reads_37 rfl ?_
                                      refine sd_if_eq (tgt := 298) sD11_reads_39 (by decide) (fun zc39 => ?_) (fun zc39 => (by exfalso; omega))
                                      refine sd_aload_n sD11_reads_298 rfl ?_
                                      refine sd_getfi sD11_reads_299 sF11_147 sGM15_12 ?_
                                      rw [show m 5492 = (q139_95 : Int) from hS.2.2.1]
                                      refine sd_aload_n sD11_reads_302 rfl ?_
                                      refine sd_getfi sD11_reads_303 sF11_151 sGM15_11 ?_
                                      rw [show m 5491 = (n : Int) from hS.2.1]
                                      refine sd_icmp_ge (tgt := 313) sD11_reads_306 (by decide) (fun zc306 => ?_) (fun zc306 => ?_)
                                      ·
                                        refine sd_vreturn sD11_reads_313 rfl (fun hm => hQ _ _ ⟨rfl, hK6, ?_⟩)
                                        exact Or.inr ⟨[(j45_1, j68_9, [t139_37, t139_66, t139_95])], by simp only [sd_txt, hcl]; rw [if_pos (by omega)], hS.2.2.2, Or.inl ⟨by omega, hg, hgb⟩⟩
                                      ·
                                        refine sd_aload_n sD11_reads_309 rfl ?_
                                        refine sd_callV (as := []) (st := []) sD11_reads_310 sM11_167 rfl rfl sOM15 rfl (by decide) (Nat.le_of_ble_eq_true rfl) (cM_wrong1 fr n q139_95 _ m hx hS) (fun r m hq ho310 hm => ?_)
                                        obtain ⟨rfl, hk310_119, hS⟩ := hq
                                        replace hx := hk310_119.ns hx
                                        replace hK6 := hK6.k2 hk310_119
                                        replace hf : ∀ i, i < 4 → m (5504 + i) = f i := fun i hi => (hk310_119 _ (by omega) (by omega)).trans (hf i hi)
                                        replace hg := (hk310_119 5510 (by decide) (by decide)).trans hg
                                        replace hgb := (hk310_119 5511 (by decide) (by decide)).trans hgb
                                        rcases (⟨trivial⟩ : Nonempty True) with hy310_119
                                        ·
                                          show sd_Wp sd_SM 4 sY11_reads 313 [some (.inr 15), some (.inl pl), some (.inl mn), some (.inl w), some (.inl 0), some (.inl ((c : Int) + 1)), some (.inl (sd_b ((0 + (j45_1 : Int)) = 1))), some (.inl (2 + (j68_9 : Int))), some (.inl (sd_b (((sd_hl f t139_37) ∧ (sd_hl f t139_66)) ∧ (sd_hl f t139_95)))), some (.inl (6 + (j107_30 : Int))), some (.inl 0), some (.inl 3), some (.inl (sd_b (sd_hl f t139_95)))] [] m _
                                          refine sd_vreturn sD11_reads_313 rfl (fun hm => hQ _ _ ⟨rfl, hK6, ?_⟩)
                                          exact Or.inl ⟨q139_95, by simp only [sd_txt, hcl]; rw [if_neg (by omega)]; first | (rw [if_pos (by omega)]; done) | (rw [if_neg (by omega), if_neg (by assumption)]; done), hS.2.2.2⟩
                                  ·
                                    have hsm : B q139_95 = 59 := by assumption
                                    have hin3 := hB.in (p := q139_95) (by omega)
                                    have hn1 := hB.1
                                    refine sd_iconst sD11_reads_266 (by decide) ?_
                                    refine sd_goto (tgt := 271) sD11_reads_267 (by decide) ?_
                                    refine sd_istore (ls' := [some (.inr 15), some (.inl pl), some (.inl mn), some (.inl w), some (.inl 1), some (.inl (c : Int)), some (.inl (sd_b ((0 + (j45_1 : Int)) = 1))), some (.inl (2 + (j68_9 : Int))), some (.inl (sd_b (((sd_hl f t139_37) ∧ (sd_hl f t139_66)) ∧ (sd_hl f t139_95)))), some (.inl (6 + (j107_30 : Int))), some (.inl 0), some (.inl 3), some (.inl (sd_b (sd_hl f t139_95)))]) sD11_reads_271 (by decide) rfl ?_
                                    refine sd_aload_n sD11_reads_273 rfl ?_
                                    refine sd_dup sD11_reads_274 ?_
                                    refine sd_getfi sD11_reads_275 sF11_147 sGM15_12 ?_
                                    rw [show m 5492 = (q139_95 : Int) from hS.2.2.1]
                                    refine sd_iload sD11_reads_278 rfl ?_
                                    refine sd_if_eq (tgt := 287) sD11_reads_280 (by decide) (fun zc280 => (by exfalso; omega)) (fun zc280 => ?_)
                                    refine sd_iconst sD11_reads_283 (by decide) ?_
                                    refine sd_goto (tgt := 288) sD11_reads_284 (by decide) ?_
                                    refine sd_iadd (z := ((q139_95 : Int) + 1)) sD11_reads_288 (by omega) (by omega) ?_
                                    refine sd_putfc sd_sokM sd_oneM hx sD11_reads_289 sF11_147 sGM15_12 (by decide) (Or.inl rfl) (fun m hx em289 => ?_)
                                    have hk289x := sd_k2.up em289 (Or.inl rfl)
                                    replace hK6 := hK6.k2 hk289x
                                    replace hf : ∀ i, i < 4 → m (5504 + i) = f i := fun i hi => (hk289x _ (by omega) (by omega)).trans (hf i hi)
                                    replace hg := (hk289x 5510 (by decide) (by decide)).trans hg
                                    replace hgb := (hk289x 5511 (by decide) (by decide)).trans hgb
                                    replace hS : sd_RS m fr n (q139_95 + 1) (-1) := ⟨by rw [em289, sd_up_ne (by decide)]; exact hS.1, by rw [em289, sd_up_ne (by decide)]; exact hS.2.1, by rw [em289, sd_up_eq]; (try omega), by rw [em289, sd_up_ne (by decide)]; exact hS.2.2.2⟩
                                    refine sd_iinc (y := ((c : Int) + 1)) (ls' := [some (.inr 15), some (.inl pl), some (.inl mn), some (.inl w), some (.inl 1), some (.inl ((c : Int) + 1)), some (.inl (sd_b ((0 + (j45_1 : Int)) = 1))), some (.inl (2 + (j68_9 : Int))), some (.inl (sd_b (((sd_hl f t139_37) ∧ (sd_hl f t139_66)) ∧ (sd_hl f t139_95)))), some (.inl (6 + (j107_30 : Int))), some (.inl 0), some (.inl 3), some (.inl (sd_b (sd_hl f t139_95)))]) sD11_reads_292 rfl (by omega) (by omega) (by decide) rfl ?_
                                    refine sd_goto (tgt := 31) sD11_reads_295 (by decide) ?_
                                    refine sd_less (ls' := [some (.inr 15), some (.inl pl), some (.inl mn), some (.inl w), some (.inl 1), some (.inl ((c : Int) + 1)), none, none, none, none, none, none, none]) ?_ rfl (by intro zi zv zh; rcases zi with _ | _ | _ | _ | _ | _ | _ | _ | _ | _ | _ | _ | _ | zi <;> first | exact zh | cases zh)
                                    refine sd_eqw (ls' := [some (.inr 15), some (.inl pl), some (.inl mn), some (.inl w), some (.inl 1), some (.inl ((c + 1 : Nat) : Int)), none, none, none, none, none, none, none]) ?_ (sd_cg rfl (sd_cg rfl (sd_cg rfl (sd_cg rfl (sd_cg rfl (sd_cg (sd_ce (by omega)) rfl)))))) rfl
                                    exact ih (by omega) g b m (q139_95 + 1) hx hS (by omega) hK6 hf hg hgb (by omega) (fun r m2 hq => hQ r m2 (sd_rd_A hcl (by omega) (by omega) hsm (by omega) hq))
                              ·
                                refine sd_aload_n sD11_reads_232 rfl ?_
                                refine sd_iload sD11_reads_233 rfl ?_
                                refine sd_putfc sd_sokM sd_oneM hx sD11_reads_235 sF11_176 sGM15_15 (by decide) (Or.inl rfl) (fun m hx em235 => ?_)
                                replace hK6 := hK6.up em235 (by omega)
                                replace hf : ∀ i, i < 4 → m (5504 + i) = f i := fun i hi => by rw [em235, sd_up_ne (by omega)]; exact hf i hi
                                replace hS : sd_RS m fr n q139_95 (-1) := ⟨by rw [em235, sd_up_ne (by decide)]; exact hS.1, by rw [em235, sd_up_ne (by decide)]; exact hS.2.1, by rw [em235, sd_up_ne (by decide)]; exact hS.2.2.1, by rw [em235, sd_up_ne (by decide)]; exact hS.2.2.2⟩
                                replace hg : m 5510 = (c : Int) := by rw [em235, sd_up_eq]
                                replace hgb : m 5511 = b := by rw [em235, sd_up_ne (by decide)]; exact hgb
                                refine sd_aload_n sD11_reads_238 rfl ?_
                                refine sd_iload sD11_reads_239 rfl ?_
                                refine sd_putfc sd_sokM sd_oneM hx sD11_reads_241 sF11_182 sGM15_16 (by decide) (Or.inr ⟨rfl, sd_b01 _⟩) (fun m hx em241 => ?_)
                                replace hK6 := hK6.up em241 (by omega)
                                replace hf : ∀ i, i < 4 → m (5504 + i) = f i := fun i hi => by rw [em241, sd_up_ne (by omega)]; exact hf i hi
                                replace hS : sd_RS m fr n q139_95 (-1) := ⟨by rw [em241, sd_up_ne (by decide)]; exact hS.1, by rw [em241, sd_up_ne (by decide)]; exact hS.2.1, by rw [em241, sd_up_ne (by decide)]; exact hS.2.2.1, by rw [em241, sd_up_ne (by decide)]; exact hS.2.2.2⟩
                                replace hg : m 5510 = (c : Int) := by rw [em241, sd_up_ne (by decide)]; exact hg
                                replace hgb : m 5511 = sd_b ((0 + (j45_1 : Int)) = 1) := by rw [em241, sd_up_eq]
                                have hmt : sd_mt f w (j45_1, j68_9, [t139_37, t139_66, t139_95]) := ⟨by show (j68_9 : Int) = w; omega, (fun t ht => by simp at ht; rcases ht with rfl | rfl | rfl; exact zc214.1.1; exact zc214.1.2; exact zc214.2)⟩
                                refine sd_iload sD11_reads_244 rfl ?_
                                refine sd_iconst sD11_reads_246 (by decide) ?_
                                refine sd_icmp_ge (tgt := 270) sD11_reads_247 (by decide) (fun zc247 => ?_) (fun zc247 => ?_)
                                ·
                                  refine sd_iconst sD11_reads_270 (by decide) ?_
                                  refine sd_istore (ls' := [some (.inr 15), some (.inl pl), some (.inl mn), some (.inl w), some (.inl 0), some (.inl (c : Int)), some (.inl (sd_b ((0 + (j45_1 : Int)) = 1))), some (.inl (2 + (j68_9 : Int))), some (.inl (sd_b (((sd_hl f t139_37) ∧ (sd_hl f t139_66)) ∧ (sd_hl f t139_95)))), some (.inl (6 + (j107_30 : Int))), some (.inl 0), some (.inl 3), some (.inl (sd_b (sd_hl f t139_95)))]) sD11_reads_271 (by decide) rfl ?_
                                  refine sd_aload_n sD11_reads_273 rfl ?_
                                  refine sd_dup sD11_reads_274 ?_
                                  refine sd_getfi sD11_reads_275 sF11_147 sGM15_12 ?_
                                  rw [show m 5492 = (q139_95 : Int) from hS.2.2.1]
                                  refine sd_iload sD11_reads_278 rfl ?_
                                  refine sd_if_eq (tgt := 287) sD11_reads_280 (by decide) (fun zc280 => ?_) (fun zc280 => (by exfalso; omega))
                                  refine sd_iconst sD11_reads_287 (by decide) ?_
                                  refine sd_iadd (z := (q139_95 : Int)) sD11_reads_288 (by omega) (by omega) ?_
                                  refine sd_putfc sd_sokM sd_oneM hx sD11_reads_289 sF11_147 sGM15_12 (by decide) (Or.inl rfl) (fun m hx em289 => ?_)
                                  have hk289x := sd_k2.up em289 (Or.inl rfl)
                                  replace hK6 := hK6.k2 hk289x
                                  replace hf : ∀ i, i < 4 → m (5504 + i) = f i := fun i hi => (hk289x _ (by omega) (by omega)).trans (hf i hi)
                                  replace hg := (hk289x 5510 (by decide) (by decide)).trans hg
                                  replace hgb := (hk289x 5511 (by decide) (by decide)).trans hgb
                                  replace hS : sd_RS m fr n q139_95 (-1) := ⟨by rw [em289, sd_up_ne (by decide)]; exact hS.1, by rw [em289, sd_up_ne (by decide)]; exact hS.2.1, by rw [em289, sd_up_eq]; (try omega), by rw [em289, sd_up_ne (by decide)]; exact hS.2.2.2⟩
                                  refine sd_iinc (y := ((c : Int) + 1)) (ls' := [some (.inr 15), some (.inl pl), some (.inl mn), some (.inl w), some (.inl 0), some (.inl ((c : Int) + 1)), some (.inl (sd_b ((0 + (j45_1 : Int)) = 1))), some (.inl (2 + (j68_9 : Int))), some (.inl (sd_b (((sd_hl f t139_37) ∧ (sd_hl f t139_66)) ∧ (sd_hl f t139_95)))), some (.inl (6 + (j107_30 : Int))), some (.inl 0), some (.inl 3), some (.inl (sd_b (sd_hl f t139_95)))]) sD11_reads_292 rfl (by omega) (by omega) (by decide) rfl ?_
                                  refine sd_goto (tgt := 31) sD11_reads_295 (by decide) ?_
                                  refine sd_iload sD11_reads_31 rfl ?_
                                  refine sd_iconst sD11_reads_33 (by decide) ?_
                                  refine sd_icmp_ge (tgt := 298) sD11_reads_34 (by decide) (fun zc34 => ?_) (fun zc34 => ?_)
                                  ·
                                    refine sd_aload_n sD11_reads_298 rfl ?_
                                    refine sd_getfi sD11_reads_299 sF11_147 sGM15_12 ?_
                                    rw [show m 5492 = (q139_95 : Int) from hS.2.2.1]
                                    refine sd_aload_n sD11_reads_302 rfl ?_
                                    refine sd_getfi sD11_reads_303 sF11_151 sGM15_11 ?_
                                    rw [show m 5491 = (n : Int) from hS.2.1]
                                    refine sd_icmp_ge (tgt := 313) sD11_reads_306 (by decide) (fun zc306 => ?_) (fun zc306 => ?_)
                                    ·
                                      refine sd_vreturn sD11_reads_313 rfl (fun hm => hQ _ _ ⟨rfl, hK6, ?_⟩)
                                      exact Or.inr ⟨[(j45_1, j68_9, [t139_37, t139_66, t139_95])], by simp only [sd_txt, hcl]; rw [if_pos (by omega)], hS.2.2.2, Or.inr (Or.inr ⟨by omega, by rw [(sd_fcl_y hmt).1]; decide, by rw [hg, (sd_fcl_y hmt).1]; omega, by rw [hgb, (sd_fcl_y hmt).2]; exact sd_b1j (by omega)⟩)⟩
                                    ·
                                      refine sd_aload_n sD11_reads_309 rfl ?_
                                      refine sd_callV (as := []) (st := []) sD11_reads_310 sM11_167 rfl rfl sOM15 rfl (by decide) (Nat.le_of_ble_eq_true rfl) (cM_wrong1 fr n q139_95 _ m hx hS) (fun r m hq ho310 hm => ?_)
                                      obtain ⟨rfl, hk310_120, hS⟩ := hq
                                      replace hx := hk310_120.ns hx
                                      replace hK6 := hK6.k2 hk310_120
                                      replace hf : ∀ i, i < 4 → m (5504 + i) = f i := fun i hi => (hk310_120 _ (by omega) (by omega)).trans (hf i hi)
                                      replace hg := (hk310_120 5510 (by decide) (by decide)).trans hg
                                      replace hgb := (hk310_120 5511 (by decide) (by decide)).trans hgb
                                      rcases (⟨trivial⟩ : Nonempty True) with hy310_120
                                      ·
                                        show sd_Wp sd_SM 4 sY11_reads 313 [some (.inr 15), some (.inl pl), some (.inl mn), some (.inl w), some (.inl 0), some (.inl ((c : Int) + 1)), some (.inl (sd_b ((0 + (j45_1 : Int)) = 1))), some (.inl (2 + (j68_9 : Int))), some (.inl (sd_b (((sd_hl f t139_37) ∧ (sd_hl f t139_66)) ∧ (sd_hl f t139_95)))), some (.inl (6 + (j107_30 : Int))), some (.inl 0), some (.inl 3), some (.inl (sd_b (sd_hl f t139_95)))] [] m _
                                        refine sd_vreturn sD11_reads_313 rfl (fun hm => hQ _ _ ⟨rfl, hK6, ?_⟩)
                                        exact Or.inl ⟨q139_95, by simp only [sd_txt, hcl]; rw [if_neg (by omega)]; first | (rw [if_pos (by omega)]; done) | (rw [if_neg (by omega), if_neg (by assumption)]; done), hS.2.2.2⟩
                                  ·
                                    refine sd_iload sD11_reads_37 rfl ?_
                                    refine sd_if_eq (tgt := 298) sD11_reads_39 (by decide) (fun zc39 => ?_) (fun zc39 => (by exfalso; omega))
                                    refine sd_aload_n sD11_reads_298 rfl ?_
                                    refine sd_getfi sD11_reads_299 sF11_147 sGM15_12 ?_
                                    rw [show m 5492 = (q139_95 : Int) from hS.2.2.1]
                                    refine sd_aload_n sD11_reads_302 rfl ?_
                                    refine sd_getfi sD11_reads_303 sF11_151 sGM15_11 ?_
                                    rw [show m 5491 = (n : Int) from hS.2.1]
                                    refine sd_icmp_ge (tgt := 313) sD11_reads_306 (by decide) (fun zc306 => ?_) (fun zc306 => ?_)
                                    ·
                                      refine sd_vreturn sD11_reads_313 rfl (fun hm => hQ _ _ ⟨rfl, hK6, ?_⟩)
                                      exact Or.inr ⟨[(j45_1, j68_9, [t139_37, t139_66, t139_95])], by simp only [sd_txt, hcl]; rw [if_pos (by omega)], hS.2.2.2, Or.inr (Or.inr ⟨by omega, by rw [(sd_fcl_y hmt).1]; decide, by rw [hg, (sd_fcl_y hmt).1]; omega, by rw [hgb, (sd_fcl_y hmt).2]; exact sd_b1j (by omega)⟩)⟩
                                    ·
                                      refine sd_aload_n sD11_reads_309 rfl ?_
                                      refine sd_callV (as := []) (st := []) sD11_reads_310 sM11_167 rfl rfl sOM15 rfl (by decide) (Nat.le_of_ble_eq_true rfl) (cM_wrong1 fr n q139_95 _ m hx hS) (fun r m hq ho310 hm => ?_)
                                      obtain ⟨rfl, hk310_121, hS⟩ := hq
                                      replace hx := hk310_121.ns hx
                                      replace hK6 := hK6.k2 hk310_121
                                      replace hf : ∀ i, i < 4 → m (5504 + i) = f i := fun i hi => (hk310_121 _ (by omega) (by omega)).trans (hf i hi)
                                      replace hg := (hk310_121 5510 (by decide) (by decide)).trans hg
                                      replace hgb := (hk310_121 5511 (by decide) (by decide)).trans hgb
                                      rcases (⟨trivial⟩ : Nonempty True) with hy310_121
                                      ·
                                        show sd_Wp sd_SM 4 sY11_reads 313 [some (.inr 15), some (.inl pl), some (.inl mn), some (.inl w), some (.inl 0), some (.inl ((c : Int) + 1)), some (.inl (sd_b ((0 + (j45_1 : Int)) = 1))), some (.inl (2 + (j68_9 : Int))), some (.inl (sd_b (((sd_hl f t139_37) ∧ (sd_hl f t139_66)) ∧ (sd_hl f t139_95)))), some (.inl (6 + (j107_30 : Int))), some (.inl 0), some (.inl 3), some (.inl (sd_b (sd_hl f t139_95)))] [] m _
                                        refine sd_vreturn sD11_reads_313 rfl (fun hm => hQ _ _ ⟨rfl, hK6, ?_⟩)
                                        exact Or.inl ⟨q139_95, by simp only [sd_txt, hcl]; rw [if_neg (by omega)]; first | (rw [if_pos (by omega)]; done) | (rw [if_neg (by omega), if_neg (by assumption)]; done), hS.2.2.2⟩
                                ·
                                  refine sd_aload_n sD11_reads_250 rfl ?_
                                  refine sd_callVp (as := []) (st := []) (v := .inl 1) sD11_reads_251 sM11_160 sOM15 rfl rfl rfl (by decide) (Nat.le_of_ble_eq_true rfl) (cM_isGood1 fr n q139_95 _ m hx hS) (fun ho251 => ?_)
                                  refine sd_if_eq (tgt := 270) sD11_reads_254 (by decide) (fun zc254 => (by exfalso; omega)) (fun zc254 => ?_)
                                  refine sd_aload_n sD11_reads_257 rfl ?_
                                  refine sd_callVp (as := []) (st := []) (v := .inl (B q139_95)) sD11_reads_258 sM11_164 sOM15 rfl rfl rfl (by decide) (Nat.le_of_ble_eq_true rfl) (cM_byteAt _ fr B n q139_95 _ m hx hB hS) (fun ho258 => ?_)
                                  refine sd_bipush sD11_reads_261 rfl (by decide) ?_
                                  refine sd_icmp_ne (tgt := 270) sD11_reads_263 (by decide) (fun zc263 => ?_) (fun zc263 => ?_)
                                  ·
                                    refine sd_iconst sD11_reads_270 (by decide) ?_
                                    refine sd_istore (ls' := [some (.inr 15), some (.inl pl), some (.inl mn), some (.inl w), some (.inl 0), some (.inl (c : Int)), some (.inl (sd_b ((0 + (j45_1 : Int)) = 1))), some (.inl (2 + (j68_9 : Int))), some (.inl (sd_b (((sd_hl f t139_37) ∧ (sd_hl f t139_66)) ∧ (sd_hl f t139_95)))), some (.inl (6 + (j107_30 : Int))), some (.inl 0), some (.inl 3), some (.inl (sd_b (sd_hl f t139_95)))]) sD11_reads_271 (by decide) rfl ?_
                                    refine sd_aload_n sD11_reads_273 rfl ?_
                                    refine sd_dup sD11_reads_274 ?_
                                    refine sd_getfi sD11_reads_275 sF11_147 sGM15_12 ?_
                                    rw [show m 5492 = (q139_95 : Int) from hS.2.2.1]
                                    refine sd_iload sD11_reads_278 rfl ?_
                                    refine sd_if_eq (tgt := 287) sD11_reads_280 (by decide) (fun zc280 => ?_) (fun zc280 => (by exfalso; omega))
                                    refine sd_iconst sD11_reads_287 (by decide) ?_
                                    refine sd_iadd (z := (q139_95 : Int)) sD11_reads_288 (by omega) (by omega) ?_
                                    refine sd_putfc sd_sokM sd_oneM hx sD11_reads_289 sF11_147 sGM15_12 (by decide) (Or.inl rfl) (fun m hx em289 => ?_)
                                    have hk289x := sd_k2.up em289 (Or.inl rfl)
                                    replace hK6 := hK6.k2 hk289x
                                    replace hf : ∀ i, i < 4 → m (5504 + i) = f i := fun i hi => (hk289x _ (by omega) (by omega)).trans (hf i hi)
                                    replace hg := (hk289x 5510 (by decide) (by decide)).trans hg
                                    replace hgb := (hk289x 5511 (by decide) (by decide)).trans hgb
                                    replace hS : sd_RS m fr n q139_95 (-1) := ⟨by rw [em289, sd_up_ne (by decide)]; exact hS.1, by rw [em289, sd_up_ne (by decide)]; exact hS.2.1, by rw [em289, sd_up_eq]; (try omega), by rw [em289, sd_up_ne (by decide)]; exact hS.2.2.2⟩
                                    refine sd_iinc (y := ((c : Int) + 1)) (ls' := [some (.inr 15), some (.inl pl), some (.inl mn), some (.inl w), some (.inl 0), some (.inl ((c : Int) + 1)), some (.inl (sd_b ((0 + (j45_1 : Int)) = 1))), some (.inl (2 + (j68_9 : Int))), some (.inl (sd_b (((sd_hl f t139_37) ∧ (sd_hl f t139_66)) ∧ (sd_hl f t139_95)))), some (.inl (6 + (j107_30 : Int))), some (.inl 0), some (.inl 3), some (.inl (sd_b (sd_hl f t139_95)))]) sD11_reads_292 rfl (by omega) (by omega) (by decide) rfl ?_
                                    refine sd_goto (tgt := 31) sD11_reads_295 (by decide) ?_
                                    refine sd_iload sD11_reads_31 rfl ?_
                                    refine sd_iconst sD11_reads_33 (by decide) ?_
                                    refine sd_icmp_ge (tgt := 298) sD11_reads_34 (by decide) (fun zc34 => ?_) (fun zc34 => ?_)
                                    ·
                                      refine sd_aload_n sD11_reads_298 rfl ?_
                                      refine sd_getfi sD11_reads_299 sF11_147 sGM15_12 ?_
                                      rw [show m 5492 = (q139_95 : Int) from hS.2.2.1]
                                      refine sd_aload_n sD11_reads_302 rfl ?_
                                      refine sd_getfi sD11_reads_303 sF11_151 sGM15_11 ?_
                                      rw [show m 5491 = (n : Int) from hS.2.1]
                                      refine sd_icmp_ge (tgt := 313) sD11_reads_306 (by decide) (fun zc306 => ?_) (fun zc306 => ?_)
                                      ·
                                        refine sd_vreturn sD11_reads_313 rfl (fun hm => hQ _ _ ⟨rfl, hK6, ?_⟩)
                                        exact Or.inr ⟨[(j45_1, j68_9, [t139_37, t139_66, t139_95])], by simp only [sd_txt, hcl]; rw [if_pos (by omega)], hS.2.2.2, Or.inr (Or.inr ⟨by omega, by rw [(sd_fcl_y hmt).1]; decide, by rw [hg, (sd_fcl_y hmt).1]; omega, by rw [hgb, (sd_fcl_y hmt).2]; exact sd_b1j (by omega)⟩)⟩
                                      ·
                                        refine sd_aload_n sD11_reads_309 rfl ?_
                                        refine sd_callV (as := []) (st := []) sD11_reads_310 sM11_167 rfl rfl sOM15 rfl (by decide) (Nat.le_of_ble_eq_true rfl) (cM_wrong1 fr n q139_95 _ m hx hS) (fun r m hq ho310 hm => ?_)
                                        obtain ⟨rfl, hk310_122, hS⟩ := hq
                                        replace hx := hk310_122.ns hx
                                        replace hK6 := hK6.k2 hk310_122
                                        replace hf : ∀ i, i < 4 → m (5504 + i) = f i := fun i hi => (hk310_122 _ (by omega) (by omega)).trans (hf i hi)
                                        replace hg := (hk310_122 5510 (by decide) (by decide)).trans hg
                                        replace hgb := (hk310_122 5511 (by decide) (by decide)).trans hgb
                                        rcases (⟨trivial⟩ : Nonempty True) with hy310_122
                                        ·
                                          show sd_Wp sd_SM 4 sY11_reads 313 [some (.inr 15), some (.inl pl), some (.inl mn), some (.inl w), some (.inl 0), some (.inl ((c : Int) + 1)), some (.inl (sd_b ((0 + (j45_1 : Int)) = 1))), some (.inl (2 + (j68_9 : Int))), some (.inl (sd_b (((sd_hl f t139_37) ∧ (sd_hl f t139_66)) ∧ (sd_hl f t139_95)))), some (.inl (6 + (j107_30 : Int))), some (.inl 0), some (.inl 3), some (.inl (sd_b (sd_hl f t139_95)))] [] m _
                                          refine sd_vreturn sD11_reads_313 rfl (fun hm => hQ _ _ ⟨rfl, hK6, ?_⟩)
                                          exact Or.inl ⟨q139_95, by simp only [sd_txt, hcl]; rw [if_neg (by omega)]; first | (rw [if_pos (by omega)]; done) | (rw [if_neg (by omega), if_neg (by assumption)]; done), hS.2.2.2⟩
                                    ·
                                      refine sd_iload sD11_reads_37 rfl ?_
                                      refine sd_if_eq (tgt := 298) sD11_reads_39 (by decide) (fun zc39 => ?_) (fun zc39 => (by exfalso; omega))
                                      refine sd_aload_n sD11_reads_298 rfl ?_
                                      refine sd_getfi sD11_reads_299 sF11_147 sGM15_12 ?_
                                      rw [show m 5492 = (q139_95 : Int) from hS.2.2.1]
                                      refine sd_aload_n sD11_reads_302 rfl ?_
                                      refine sd_getfi sD11_reads_303 sF11_151 sGM15_11 ?_
                                      rw [show m 5491 = (n : Int) from hS.2.1]
                                      refine sd_icmp_ge (tgt := 313) sD11_reads_306 (by decide) (fun zc306 => ?_) (fun zc306 => ?_)
                                      ·
                                        refine sd_vreturn sD11_reads_313 rfl (fun hm => hQ _ _ ⟨rfl, hK6, ?_⟩)
                                        exact Or.inr ⟨[(j45_1, j68_9, [t139_37, t139_66, t139_95])], by simp only [sd_txt, hcl]; rw [if_pos (by omega)], hS.2.2.2, Or.inr (Or.inr ⟨by omega, by rw [(sd_fcl_y hmt).1]; decide, by rw [hg, (sd_fcl_y hmt).1]; omega, by rw [hgb, (sd_fcl_y hmt).2]; exact sd_b1j (by omega)⟩)⟩
                                      ·
                                        refine sd_aload_n sD11_reads_309 rfl ?_
                                        refine sd_callV (as := []) (st := []) sD11_reads_310 sM11_167 rfl rfl sOM15 rfl (by decide) (Nat.le_of_ble_eq_true rfl) (cM_wrong1 fr n q139_95 _ m hx hS) (fun r m hq ho310 hm => ?_)
                                        obtain ⟨rfl, hk310_123, hS⟩ := hq
                                        replace hx := hk310_123.ns hx
                                        replace hK6 := hK6.k2 hk310_123
                                        replace hf : ∀ i, i < 4 → m (5504 + i) = f i := fun i hi => (hk310_123 _ (by omega) (by omega)).trans (hf i hi)
                                        replace hg := (hk310_123 5510 (by decide) (by decide)).trans hg
                                        replace hgb := (hk310_123 5511 (by decide) (by decide)).trans hgb
                                        rcases (⟨trivial⟩ : Nonempty True) with hy310_123
                                        ·
                                          show sd_Wp sd_SM 4 sY11_reads 313 [some (.inr 15), some (.inl pl), some (.inl mn), some (.inl w), some (.inl 0), some (.inl ((c : Int) + 1)), some (.inl (sd_b ((0 + (j45_1 : Int)) = 1))), some (.inl (2 + (j68_9 : Int))), some (.inl (sd_b (((sd_hl f t139_37) ∧ (sd_hl f t139_66)) ∧ (sd_hl f t139_95)))), some (.inl (6 + (j107_30 : Int))), some (.inl 0), some (.inl 3), some (.inl (sd_b (sd_hl f t139_95)))] [] m _
                                          refine sd_vreturn sD11_reads_313 rfl (fun hm => hQ _ _ ⟨rfl, hK6, ?_⟩)
                                          exact Or.inl ⟨q139_95, by simp only [sd_txt, hcl]; rw [if_neg (by omega)]; first | (rw [if_pos (by omega)]; done) | (rw [if_neg (by omega), if_neg (by assumption)]; done), hS.2.2.2⟩
                                  ·
                                    have hsm : B q139_95 = 59 := by assumption
                                    have hin3 := hB.in (p := q139_95) (by omega)
                                    have hn1 := hB.1
                                    refine sd_iconst sD11_reads_266 (by decide) ?_
                                    refine sd_goto (tgt := 271) sD11_reads_267 (by decide) ?_
                                    refine sd_istore (ls' := [some (.inr 15), some (.inl pl), some (.inl mn), some (.inl w), some (.inl 1), some (.inl (c : Int)), some (.inl (sd_b ((0 + (j45_1 : Int)) = 1))), some (.inl (2 + (j68_9 : Int))), some (.inl (sd_b (((sd_hl f t139_37) ∧ (sd_hl f t139_66)) ∧ (sd_hl f t139_95)))), some (.inl (6 + (j107_30 : Int))), some (.inl 0), some (.inl 3), some (.inl (sd_b (sd_hl f t139_95)))]) sD11_reads_271 (by decide) rfl ?_
                                    refine sd_aload_n sD11_reads_273 rfl ?_
                                    refine sd_dup sD11_reads_274 ?_
                                    refine sd_getfi sD11_reads_275 sF11_147 sGM15_12 ?_
                                    rw [show m 5492 = (q139_95 : Int) from hS.2.2.1]
                                    refine sd_iload sD11_reads_278 rfl ?_
                                    refine sd_if_eq (tgt := 287) sD11_reads_280 (by decide) (fun zc280 => (by exfalso; omega)) (fun zc280 => ?_)
                                    refine sd_iconst sD11_reads_283 (by decide) ?_
                                    refine sd_goto (tgt := 288) sD11_reads_284 (by decide) ?_
                                    refine sd_iadd (z := ((q139_95 : Int) + 1)) sD11_reads_288 (by omega) (by omega) ?_
                                    refine sd_putfc sd_sokM sd_oneM hx sD11_reads_289 sF11_147 sGM15_12 (by decide) (Or.inl rfl) (fun m hx em289 => ?_)
                                    have hk289x := sd_k2.up em289 (Or.inl rfl)
                                    replace hK6 := hK6.k2 hk289x
                                    replace hf : ∀ i, i < 4 → m (5504 + i) = f i := fun i hi => (hk289x _ (by omega) (by omega)).trans (hf i hi)
                                    replace hg := (hk289x 5510 (by decide) (by decide)).trans hg
                                    replace hgb := (hk289x 5511 (by decide) (by decide)).trans hgb
                                    replace hS : sd_RS m fr n (q139_95 + 1) (-1) := ⟨by rw [em289, sd_up_ne (by decide)]; exact hS.1, by rw [em289, sd_up_ne (by decide)]; exact hS.2.1, by rw [em289, sd_up_eq]; (try omega), by rw [em289, sd_up_ne (by decide)]; exact hS.2.2.2⟩
                                    refine sd_iinc (y := ((c : Int) + 1)) (ls' := [some (.inr 15), some (.inl pl), some (.inl mn), some (.inl w), some (.inl 1), some (.inl ((c : Int) + 1)), some (.inl (sd_b ((0 + (j45_1 : Int)) = 1))), some (.inl (2 + (j68_9 : Int))), some (.inl (sd_b (((sd_hl f t139_37) ∧ (sd_hl f t139_66)) ∧ (sd_hl f t139_95)))), some (.inl (6 + (j107_30 : Int))), some (.inl 0), some (.inl 3), some (.inl (sd_b (sd_hl f t139_95)))]) sD11_reads_292 rfl (by omega) (by omega) (by decide) rfl ?_
                                    refine sd_goto (tgt := 31) sD11_reads_295 (by decide) ?_
                                    refine sd_less (ls' := [some (.inr 15), some (.inl pl), some (.inl mn), some (.inl w), some (.inl 1), some (.inl ((c : Int) + 1)), none, none, none, none, none, none, none]) ?_ rfl (by intro zi zv zh; rcases zi with _ | _ | _ | _ | _ | _ | _ | _ | _ | _ | _ | _ | _ | zi <;> first | exact zh | cases zh)
                                    refine sd_eqw (ls' := [some (.inr 15), some (.inl pl), some (.inl mn), some (.inl w), some (.inl 1), some (.inl ((c + 1 : Nat) : Int)), none, none, none, none, none, none, none]) ?_ (sd_cg rfl (sd_cg rfl (sd_cg rfl (sd_cg rfl (sd_cg rfl (sd_cg (sd_ce (by omega)) rfl)))))) rfl
                                    replace hgb : m 5511 = (j45_1 : Int) := by rw [hgb]; exact sd_b1j (by have := hja; omega)
                                    exact ih (by omega) (c : Int) (j45_1 : Int) m (q139_95 + 1) hx hS (by omega) hK6 hf hg hgb (by omega) (fun r m2 hq => hQ r m2 (sd_rd_B hcl (by omega) (by omega) hsm (by omega) hmt hq))
              ·
                show sd_Wp sd_SM 4 sY11_reads 118 [some (.inr 15), some (.inl pl), some (.inl mn), some (.inl w), some (.inl 1), some (.inl (c : Int)), some (.inl (sd_b ((0 + (j45_1 : Int)) = 1))), some (.inl (2 + (j68_9 : Int))), some (.inl 1), some (.inl (6 + (j107_30 : Int))), none, none, none] [] m _
                have hff := sd_w5n1 (B := B) (p := q68_9 + 1) hz107_30 hb115_36
                refine sd_aload_n sD11_reads_118 rfl ?_
                refine sd_callVp (as := []) (st := []) (v := .inl 0) sD11_reads_119 sM11_160 sOM15 rfl rfl rfl (by decide) (Nat.le_of_ble_eq_true rfl) (cM_isGood0 fr n q107_30 q107_30 _ m hx hS) (fun ho119 => ?_)
                refine sd_istore (ls' := [some (.inr 15), some (.inl pl), some (.inl mn), some (.inl w), some (.inl 1), some (.inl (c : Int)), some (.inl (sd_b ((0 + (j45_1 : Int)) = 1))), some (.inl (2 + (j68_9 : Int))), some (.inl 1), some (.inl (6 + (j107_30 : Int))), some (.inl 0), none, none]) sD11_reads_122 (by decide) rfl ?_
                refine sd_iconst sD11_reads_124 (by decide) ?_
                refine sd_istore (ls' := [some (.inr 15), some (.inl pl), some (.inl mn), some (.inl w), some (.inl 1), some (.inl (c : Int)), some (.inl (sd_b ((0 + (j45_1 : Int)) = 1))), some (.inl (2 + (j68_9 : Int))), some (.inl 1), some (.inl (6 + (j107_30 : Int))), some (.inl 0), some (.inl 0), none]) sD11_reads_125 (by decide) rfl ?_
                refine sd_iload sD11_reads_127 rfl ?_
                refine sd_iconst sD11_reads_129 (by decide) ?_
                refine sd_icmp_ge (tgt := 205) sD11_reads_130 (by decide) (fun zc130 => (by exfalso; omega)) (fun zc130 => ?_)
                refine sd_iload sD11_reads_133 rfl ?_
                refine sd_if_eq (tgt := 205) sD11_reads_135 (by decide) (fun zc135 => ?_) (fun zc135 => (by exfalso; omega))
                refine sd_aload_n sD11_reads_205 rfl ?_
                refine sd_callVp (as := []) (st := []) (v := .inl 0) sD11_reads_206 sM11_160 sOM15 rfl rfl rfl (by decide) (Nat.le_of_ble_eq_true rfl) (cM_isGood0 fr n q107_30 q107_30 _ m hx hS) (fun ho206 => ?_)
                refine sd_if_eq (tgt := 244) sD11_reads_209 (by decide) (fun zc209 => ?_) (fun zc209 => (by exfalso; omega))
                refine sd_iload sD11_reads_244 rfl ?_
                refine sd_iconst sD11_reads_246 (by decide) ?_
                refine sd_icmp_ge (tgt := 270) sD11_reads_247 (by decide) (fun zc247 => ?_) (fun zc247 => ?_)
                ·
                  refine sd_iconst sD11_reads_270 (by decide) ?_
                  refine sd_istore (ls' := [some (.inr 15), some (.inl pl), some (.inl mn), some (.inl w), some (.inl 0), some (.inl (c : Int)), some (.inl (sd_b ((0 + (j45_1 : Int)) = 1))), some (.inl (2 + (j68_9 : Int))), some (.inl 1), some (.inl (6 + (j107_30 : Int))), some (.inl 0), some (.inl 0), none]) sD11_reads_271 (by decide) rfl ?_
                  refine sd_aload_n sD11_reads_273 rfl ?_
                  refine sd_dup sD11_reads_274 ?_
                  refine sd_getfi sD11_reads_275 sF11_147 sGM15_12 ?_
                  rw [show m 5492 = (q107_30 : Int) from hS.2.2.1]
                  refine sd_iload sD11_reads_278 rfl ?_
                  refine sd_if_eq (tgt := 287) sD11_reads_280 (by decide) (fun zc280 => ?_) (fun zc280 => (by exfalso; omega))
                  refine sd_iconst sD11_reads_287 (by decide) ?_
                  refine sd_iadd (z := (q107_30 : Int)) sD11_reads_288 (by omega) (by omega) ?_
                  refine sd_putfc sd_sokM sd_oneM hx sD11_reads_289 sF11_147 sGM15_12 (by decide) (Or.inl rfl) (fun m hx em289 => ?_)
                  have hk289x := sd_k2.up em289 (Or.inl rfl)
                  replace hK6 := hK6.k2 hk289x
                  replace hf : ∀ i, i < 4 → m (5504 + i) = f i := fun i hi => (hk289x _ (by omega) (by omega)).trans (hf i hi)
                  replace hg := (hk289x 5510 (by decide) (by decide)).trans hg
                  replace hgb := (hk289x 5511 (by decide) (by decide)).trans hgb
                  replace hS : sd_RS m fr n q107_30 (q107_30 : Int) := ⟨by rw [em289, sd_up_ne (by decide)]; exact hS.1, by rw [em289, sd_up_ne (by decide)]; exact hS.2.1, by rw [em289, sd_up_eq]; (try omega), by rw [em289, sd_up_ne (by decide)]; exact hS.2.2.2⟩
                  refine sd_iinc (y := ((c : Int) + 1)) (ls' := [some (.inr 15), some (.inl pl), some (.inl mn), some (.inl w), some (.inl 0), some (.inl ((c : Int) + 1)), some (.inl (sd_b ((0 + (j45_1 : Int)) = 1))), some (.inl (2 + (j68_9 : Int))), some (.inl 1), some (.inl (6 + (j107_30 : Int))), some (.inl 0), some (.inl 0), none]) sD11_reads_292 rfl (by omega) (by omega) (by decide) rfl ?_
                  refine sd_goto (tgt := 31) sD11_reads_295 (by decide) ?_
                  refine sd_iload sD11_reads_31 rfl ?_
                  refine sd_iconst sD11_reads_33 (by decide) ?_
                  refine sd_icmp_ge (tgt := 298) sD11_reads_34 (by decide) (fun zc34 => ?_) (fun zc34 => ?_)
                  ·
                    refine sd_aload_n sD11_reads_298 rfl ?_
                    refine sd_getfi sD11_reads_299 sF11_147 sGM15_12 ?_
                    rw [show m 5492 = (q107_30 : Int) from hS.2.2.1]
                    refine sd_aload_n sD11_reads_302 rfl ?_
                    refine sd_getfi sD11_reads_303 sF11_151 sGM15_11 ?_
                    rw [show m 5491 = (n : Int) from hS.2.1]
                    refine sd_icmp_ge (tgt := 313) sD11_reads_306 (by decide) (fun zc306 => ?_) (fun zc306 => ?_)
                    ·
                      refine sd_vreturn sD11_reads_313 rfl (fun hm => hQ _ _ ⟨rfl, hK6, ?_⟩)
                      have hwd : sd_wd B p = .inr ((j45_1, j68_9), q68_9) := by simp only [sd_wd, hz45_1]; rw [if_pos hb62_8, hz68_9]
                      exact Or.inl ⟨q107_30, by simp only [sd_txt, sd_cls, hwd]; rw [if_pos hsp2, if_neg hff.1, hff.2], hS.2.2.2⟩
                    ·
                      refine sd_aload_n sD11_reads_309 rfl ?_
                      refine sd_callV (as := []) (st := []) sD11_reads_310 sM11_167 rfl rfl sOM15 rfl (by decide) (Nat.le_of_ble_eq_true rfl) (cM_wrong0 fr n q107_30 q107_30 _ m hx hS) (fun r m hq ho310 hm => ?_)
                      obtain ⟨rfl, hk310_124, hS⟩ := hq
                      replace hx := hk310_124.ns hx
                      replace hK6 := hK6.k2 hk310_124
                      replace hf : ∀ i, i < 4 → m (5504 + i) = f i := fun i hi => (hk310_124 _ (by omega) (by omega)).trans (hf i hi)
                      replace hg := (hk310_124 5510 (by decide) (by decide)).trans hg
                      replace hgb := (hk310_124 5511 (by decide) (by decide)).trans hgb
                      rcases (⟨trivial⟩ : Nonempty True) with hy310_124
                      ·
                        show sd_Wp sd_SM 4 sY11_reads 313 [some (.inr 15), some (.inl pl), some (.inl mn), some (.inl w), some (.inl 0), some (.inl ((c : Int) + 1)), some (.inl (sd_b ((0 + (j45_1 : Int)) = 1))), some (.inl (2 + (j68_9 : Int))), some (.inl 1), some (.inl (6 + (j107_30 : Int))), some (.inl 0), some (.inl 0), none] [] m _
                        refine sd_vreturn sD11_reads_313 rfl (fun hm => hQ _ _ ⟨rfl, hK6, ?_⟩)
                        have hwd : sd_wd B p = .inr ((j45_1, j68_9), q68_9) := by simp only [sd_wd, hz45_1]; rw [if_pos hb62_8, hz68_9]
                        exact Or.inl ⟨q107_30, by simp only [sd_txt, sd_cls, hwd]; rw [if_pos hsp2, if_neg hff.1, hff.2], hS.2.2.2⟩
                  ·
                    refine sd_iload sD11_reads_37 rfl ?_
                    refine sd_if_eq (tgt := 298) sD11_reads_39 (by decide) (fun zc39 => ?_) (fun zc39 => (by exfalso; omega))
                    refine sd_aload_n sD11_reads_298 rfl ?_
                    refine sd_getfi sD11_reads_299 sF11_147 sGM15_12 ?_
                    rw [show m 5492 = (q107_30 : Int) from hS.2.2.1]
                    refine sd_aload_n sD11_reads_302 rfl ?_
                    refine sd_getfi sD11_reads_303 sF11_151 sGM15_11 ?_
                    rw [show m 5491 = (n : Int) from hS.2.1]
                    refine sd_icmp_ge (tgt := 313) sD11_reads_306 (by decide) (fun zc306 => ?_) (fun zc306 => ?_)
                    ·
                      refine sd_vreturn sD11_reads_313 rfl (fun hm => hQ _ _ ⟨rfl, hK6, ?_⟩)
                      have hwd : sd_wd B p = .inr ((j45_1, j68_9), q68_9) := by simp only [sd_wd, hz45_1]; rw [if_pos hb62_8, hz68_9]
                      exact Or.inl ⟨q107_30, by simp only [sd_txt, sd_cls, hwd]; rw [if_pos hsp2, if_neg hff.1, hff.2], hS.2.2.2⟩
                    ·
                      refine sd_aload_n sD11_reads_309 rfl ?_
                      refine sd_callV (as := []) (st := []) sD11_reads_310 sM11_167 rfl rfl sOM15 rfl (by decide) (Nat.le_of_ble_eq_true rfl) (cM_wrong0 fr n q107_30 q107_30 _ m hx hS) (fun r m hq ho310 hm => ?_)
                      obtain ⟨rfl, hk310_125, hS⟩ := hq
                      replace hx := hk310_125.ns hx
                      replace hK6 := hK6.k2 hk310_125
                      replace hf : ∀ i, i < 4 → m (5504 + i) = f i := fun i hi => (hk310_125 _ (by omega) (by omega)).trans (hf i hi)
                      replace hg := (hk310_125 5510 (by decide) (by decide)).trans hg
                      replace hgb := (hk310_125 5511 (by decide) (by decide)).trans hgb
                      rcases (⟨trivial⟩ : Nonempty True) with hy310_125
                      ·
                        show sd_Wp sd_SM 4 sY11_reads 313 [some (.inr 15), some (.inl pl), some (.inl mn), some (.inl w), some (.inl 0), some (.inl ((c : Int) + 1)), some (.inl (sd_b ((0 + (j45_1 : Int)) = 1))), some (.inl (2 + (j68_9 : Int))), some (.inl 1), some (.inl (6 + (j107_30 : Int))), some (.inl 0), some (.inl 0), none] [] m _
                        refine sd_vreturn sD11_reads_313 rfl (fun hm => hQ _ _ ⟨rfl, hK6, ?_⟩)
                        have hwd : sd_wd B p = .inr ((j45_1, j68_9), q68_9) := by simp only [sd_wd, hz45_1]; rw [if_pos hb62_8, hz68_9]
                        exact Or.inl ⟨q107_30, by simp only [sd_txt, sd_cls, hwd]; rw [if_pos hsp2, if_neg hff.1, hff.2], hS.2.2.2⟩
                ·
                  refine sd_aload_n sD11_reads_250 rfl ?_
                  refine sd_callVp (as := []) (st := []) (v := .inl 0) sD11_reads_251 sM11_160 sOM15 rfl rfl rfl (by decide) (Nat.le_of_ble_eq_true rfl) (cM_isGood0 fr n q107_30 q107_30 _ m hx hS) (fun ho251 => ?_)
                  refine sd_if_eq (tgt := 270) sD11_reads_254 (by decide) (fun zc254 => ?_) (fun zc254 => (by exfalso; omega))
                  refine sd_iconst sD11_reads_270 (by decide) ?_
                  refine sd_istore (ls' := [some (.inr 15), some (.inl pl), some (.inl mn), some (.inl w), some (.inl 0), some (.inl (c : Int)), some (.inl (sd_b ((0 + (j45_1 : Int)) = 1))), some (.inl (2 + (j68_9 : Int))), some (.inl 1), some (.inl (6 + (j107_30 : Int))), some (.inl 0), some (.inl 0), none]) sD11_reads_271 (by decide) rfl ?_
                  refine sd_aload_n sD11_reads_273 rfl ?_
                  refine sd_dup sD11_reads_274 ?_
                  refine sd_getfi sD11_reads_275 sF11_147 sGM15_12 ?_
                  rw [show m 5492 = (q107_30 : Int) from hS.2.2.1]
                  refine sd_iload sD11_reads_278 rfl ?_
                  refine sd_if_eq (tgt := 287) sD11_reads_280 (by decide) (fun zc280 => ?_) (fun zc280 => (by exfalso; omega))
                  refine sd_iconst sD11_reads_287 (by decide) ?_
                  refine sd_iadd (z := (q107_30 : Int)) sD11_reads_288 (by omega) (by omega) ?_
                  refine sd_putfc sd_sokM sd_oneM hx sD11_reads_289 sF11_147 sGM15_12 (by decide) (Or.inl rfl) (fun m hx em289 => ?_)
                  have hk289x := sd_k2.up em289 (Or.inl rfl)
                  replace hK6 := hK6.k2 hk289x
                  replace hf : ∀ i, i < 4 → m (5504 + i) = f i := fun i hi => (hk289x _ (by omega) (by omega)).trans (hf i hi)
                  replace hg := (hk289x 5510 (by decide) (by decide)).trans hg
                  replace hgb := (hk289x 5511 (by decide) (by decide)).trans hgb
                  replace hS : sd_RS m fr n q107_30 (q107_30 : Int) := ⟨by rw [em289, sd_up_ne (by decide)]; exact hS.1, by rw [em289, sd_up_ne (by decide)]; exact hS.2.1, by rw [em289, sd_up_eq]; (try omega), by rw [em289, sd_up_ne (by decide)]; exact hS.2.2.2⟩
                  refine sd_iinc (y := ((c : Int) + 1)) (ls' := [some (.inr 15), some (.inl pl), some (.inl mn), some (.inl w), some (.inl 0), some (.inl ((c : Int) + 1)), some (.inl (sd_b ((0 + (j45_1 : Int)) = 1))), some (.inl (2 + (j68_9 : Int))), some (.inl 1), some (.inl (6 + (j107_30 : Int))), some (.inl 0), some (.inl 0), none]) sD11_reads_292 rfl (by omega) (by omega) (by decide) rfl ?_
                  refine sd_goto (tgt := 31) sD11_reads_295 (by decide) ?_
                  refine sd_iload sD11_reads_31 rfl ?_
                  refine sd_iconst sD11_reads_33 (by decide) ?_
                  refine sd_icmp_ge (tgt := 298) sD11_reads_34 (by decide) (fun zc34 => ?_) (fun zc34 => ?_)
                  ·
                    refine sd_aload_n sD11_reads_298 rfl ?_
                    refine sd_getfi sD11_reads_299 sF11_147 sGM15_12 ?_
                    rw [show m 5492 = (q107_30 : Int) from hS.2.2.1]
                    refine sd_aload_n sD11_reads_302 rfl ?_
                    refine sd_getfi sD11_reads_303 sF11_151 sGM15_11 ?_
                    rw [show m 5491 = (n : Int) from hS.2.1]
                    refine sd_icmp_ge (tgt := 313) sD11_reads_306 (by decide) (fun zc306 => ?_) (fun zc306 => ?_)
                    ·
                      refine sd_vreturn sD11_reads_313 rfl (fun hm => hQ _ _ ⟨rfl, hK6, ?_⟩)
                      have hwd : sd_wd B p = .inr ((j45_1, j68_9), q68_9) := by simp only [sd_wd, hz45_1]; rw [if_pos hb62_8, hz68_9]
                      exact Or.inl ⟨q107_30, by simp only [sd_txt, sd_cls, hwd]; rw [if_pos hsp2, if_neg hff.1, hff.2], hS.2.2.2⟩
                    ·
                      refine sd_aload_n sD11_reads_309 rfl ?_
                      refine sd_callV (as := []) (st := []) sD11_reads_310 sM11_167 rfl rfl sOM15 rfl (by decide) (Nat.le_of_ble_eq_true rfl) (cM_wrong0 fr n q107_30 q107_30 _ m hx hS) (fun r m hq ho310 hm => ?_)
                      obtain ⟨rfl, hk310_126, hS⟩ := hq
                      replace hx := hk310_126.ns hx
                      replace hK6 := hK6.k2 hk310_126
                      replace hf : ∀ i, i < 4 → m (5504 + i) = f i := fun i hi => (hk310_126 _ (by omega) (by omega)).trans (hf i hi)
                      replace hg := (hk310_126 5510 (by decide) (by decide)).trans hg
                      replace hgb := (hk310_126 5511 (by decide) (by decide)).trans hgb
                      rcases (⟨trivial⟩ : Nonempty True) with hy310_126
                      ·
                        show sd_Wp sd_SM 4 sY11_reads 313 [some (.inr 15), some (.inl pl), some (.inl mn), some (.inl w), some (.inl 0), some (.inl ((c : Int) + 1)), some (.inl (sd_b ((0 + (j45_1 : Int)) = 1))), some (.inl (2 + (j68_9 : Int))), some (.inl 1), some (.inl (6 + (j107_30 : Int))), some (.inl 0), some (.inl 0), none] [] m _
                        refine sd_vreturn sD11_reads_313 rfl (fun hm => hQ _ _ ⟨rfl, hK6, ?_⟩)
                        have hwd : sd_wd B p = .inr ((j45_1, j68_9), q68_9) := by simp only [sd_wd, hz45_1]; rw [if_pos hb62_8, hz68_9]
                        exact Or.inl ⟨q107_30, by simp only [sd_txt, sd_cls, hwd]; rw [if_pos hsp2, if_neg hff.1, hff.2], hS.2.2.2⟩
                  ·
                    refine sd_iload sD11_reads_37 rfl ?_
                    refine sd_if_eq (tgt := 298) sD11_reads_39 (by decide) (fun zc39 => ?_) (fun zc39 => (by exfalso; omega))
                    refine sd_aload_n sD11_reads_298 rfl ?_
                    refine sd_getfi sD11_reads_299 sF11_147 sGM15_12 ?_
                    rw [show m 5492 = (q107_30 : Int) from hS.2.2.1]
                    refine sd_aload_n sD11_reads_302 rfl ?_
                    refine sd_getfi sD11_reads_303 sF11_151 sGM15_11 ?_
                    rw [show m 5491 = (n : Int) from hS.2.1]
                    refine sd_icmp_ge (tgt := 313) sD11_reads_306 (by decide) (fun zc306 => ?_) (fun zc306 => ?_)
                    ·
                      refine sd_vreturn sD11_reads_313 rfl (fun hm => hQ _ _ ⟨rfl, hK6, ?_⟩)
                      have hwd : sd_wd B p = .inr ((j45_1, j68_9), q68_9) := by simp only [sd_wd, hz45_1]; rw [if_pos hb62_8, hz68_9]
                      exact Or.inl ⟨q107_30, by simp only [sd_txt, sd_cls, hwd]; rw [if_pos hsp2, if_neg hff.1, hff.2], hS.2.2.2⟩
                    ·
                      refine sd_aload_n sD11_reads_309 rfl ?_
                      refine sd_callV (as := []) (st := []) sD11_reads_310 sM11_167 rfl rfl sOM15 rfl (by decide) (Nat.le_of_ble_eq_true rfl) (cM_wrong0 fr n q107_30 q107_30 _ m hx hS) (fun r m hq ho310 hm => ?_)
                      obtain ⟨rfl, hk310_127, hS⟩ := hq
                      replace hx := hk310_127.ns hx
                      replace hK6 := hK6.k2 hk310_127
                      replace hf : ∀ i, i < 4 → m (5504 + i) = f i := fun i hi => (hk310_127 _ (by omega) (by omega)).trans (hf i hi)
                      replace hg := (hk310_127 5510 (by decide) (by decide)).trans hg
                      replace hgb := (hk310_127 5511 (by decide) (by decide)).trans hgb
                      rcases (⟨trivial⟩ : Nonempty True) with hy310_127
                      ·
                        show sd_Wp sd_SM 4 sY11_reads 313 [some (.inr 15), some (.inl pl), some (.inl mn), some (.inl w), some (.inl 0), some (.inl ((c : Int) + 1)), some (.inl (sd_b ((0 + (j45_1 : Int)) = 1))), some (.inl (2 + (j68_9 : Int))), some (.inl 1), some (.inl (6 + (j107_30 : Int))), some (.inl 0), some (.inl 0), none] [] m _
                        refine sd_vreturn sD11_reads_313 rfl (fun hm => hQ _ _ ⟨rfl, hK6, ?_⟩)
                        have hwd : sd_wd B p = .inr ((j45_1, j68_9), q68_9) := by simp only [sd_wd, hz45_1]; rw [if_pos hb62_8, hz68_9]
                        exact Or.inl ⟨q107_30, by simp only [sd_txt, sd_cls, hwd]; rw [if_pos hsp2, if_neg hff.1, hff.2], hS.2.2.2⟩
      ·
        show sd_Wp sd_SM 4 sY11_reads 65 [some (.inr 15), some (.inl pl), some (.inl mn), some (.inl w), some (.inl 1), some (.inl (c : Int)), some (.inl (sd_b ((0 + (j45_1 : Int)) = 1))), none, none, none, none, none, none] [] m _
        refine sd_aload_n sD11_reads_65 rfl ?_
        refine sd_iconst sD11_reads_66 (by decide) ?_
        refine sd_iconst sD11_reads_67 (by decide) ?_
        refine sd_callV (as := [.inl 2, .inl 5]) (st := []) sD11_reads_68 sM11_173 rfl rfl sOM15 rfl (by decide) (Nat.le_of_ble_eq_true rfl) (cM_wordB0 fr B n q45_1 q45_1 _ m hx hB hS hL) (fun r m hq ho68 hm => ?_)
        obtain ⟨rfl, hk68_128, hS⟩ := hq
        replace hx := hk68_128.ns hx
        replace hK6 := hK6.k2 hk68_128
        replace hf : ∀ i, i < 4 → m (5504 + i) = f i := fun i hi => (hk68_128 _ (by omega) (by omega)).trans (hf i hi)
        replace hg := (hk68_128 5510 (by decide) (by decide)).trans hg
        replace hgb := (hk68_128 5511 (by decide) (by decide)).trans hgb
        rcases (⟨trivial⟩ : Nonempty True) with hy68_128
        ·
          show sd_Wp sd_SM 4 sY11_reads 71 [some (.inr 15), some (.inl pl), some (.inl mn), some (.inl w), some (.inl 1), some (.inl (c : Int)), some (.inl (sd_b ((0 + (j45_1 : Int)) = 1))), none, none, none, none, none, none] [.inl (-1)] m _
          refine sd_istore (ls' := [some (.inr 15), some (.inl pl), some (.inl mn), some (.inl w), some (.inl 1), some (.inl (c : Int)), some (.inl (sd_b ((0 + (j45_1 : Int)) = 1))), some (.inl (-1)), none, none, none, none, none]) sD11_reads_71 (by decide) rfl ?_
          refine sd_iconst sD11_reads_73 (by decide) ?_
          refine sd_istore (ls' := [some (.inr 15), some (.inl pl), some (.inl mn), some (.inl w), some (.inl 1), some (.inl (c : Int)), some (.inl (sd_b ((0 + (j45_1 : Int)) = 1))), some (.inl (-1)), some (.inl 1), none, none, none, none]) sD11_reads_74 (by decide) rfl ?_
          refine sd_aload_n sD11_reads_76 rfl ?_
          refine sd_callVp (as := []) (st := []) (v := .inl 0) sD11_reads_77 sM11_160 sOM15 rfl rfl rfl (by decide) (Nat.le_of_ble_eq_true rfl) (cM_isGood0 fr n q45_1 q45_1 _ m hx hS) (fun ho77 => ?_)
          refine sd_if_eq (tgt := 205) sD11_reads_80 (by decide) (fun zc80 => ?_) (fun zc80 => (by exfalso; omega))
          refine sd_aload_n sD11_reads_205 rfl ?_
          refine sd_callVp (as := []) (st := []) (v := .inl 0) sD11_reads_206 sM11_160 sOM15 rfl rfl rfl (by decide) (Nat.le_of_ble_eq_true rfl) (cM_isGood0 fr n q45_1 q45_1 _ m hx hS) (fun ho206 => ?_)
          refine sd_if_eq (tgt := 244) sD11_reads_209 (by decide) (fun zc209 => ?_) (fun zc209 => (by exfalso; omega))
          refine sd_iload sD11_reads_244 rfl ?_
          refine sd_iconst sD11_reads_246 (by decide) ?_
          refine sd_icmp_ge (tgt := 270) sD11_reads_247 (by decide) (fun zc247 => ?_) (fun zc247 => ?_)
          ·
            refine sd_iconst sD11_reads_270 (by decide) ?_
            refine sd_istore (ls' := [some (.inr 15), some (.inl pl), some (.inl mn), some (.inl w), some (.inl 0), some (.inl (c : Int)), some (.inl (sd_b ((0 + (j45_1 : Int)) = 1))), some (.inl (-1)), some (.inl 1), none, none, none, none]) sD11_reads_271 (by decide) rfl ?_
            refine sd_aload_n sD11_reads_273 rfl ?_
            refine sd_dup sD11_reads_274 ?_
            refine sd_getfi sD11_reads_275 sF11_147 sGM15_12 ?_
            rw [show m 5492 = (q45_1 : Int) from hS.2.2.1]
            refine sd_iload sD11_reads_278 rfl ?_
            refine sd_if_eq (tgt := 287) sD11_reads_280 (by decide) (fun zc280 => ?_) (fun zc280 => (by exfalso; omega))
            refine sd_iconst sD11_reads_287 (by decide) ?_
            refine sd_iadd (z := (q45_1 : Int)) sD11_reads_288 (by omega) (by omega) ?_
            refine sd_putfc sd_sokM sd_oneM hx sD11_reads_289 sF11_147 sGM15_12 (by decide) (Or.inl rfl) (fun m hx em289 => ?_)
            have hk289x := sd_k2.up em289 (Or.inl rfl)
            replace hK6 := hK6.k2 hk289x
            replace hf : ∀ i, i < 4 → m (5504 + i) = f i := fun i hi => (hk289x _ (by omega) (by omega)).trans (hf i hi)
            replace hg := (hk289x 5510 (by decide) (by decide)).trans hg
            replace hgb := (hk289x 5511 (by decide) (by decide)).trans hgb
            replace hS : sd_RS m fr n q45_1 (q45_1 : Int) := ⟨by rw [em289, sd_up_ne (by decide)]; exact hS.1, by rw [em289, sd_up_ne (by decide)]; exact hS.2.1, by rw [em289, sd_up_eq]; (try omega), by rw [em289, sd_up_ne (by decide)]; exact hS.2.2.2⟩
            refine sd_iinc (y := ((c : Int) + 1)) (ls' := [some (.inr 15), some (.inl pl), some (.inl mn), some (.inl w), some (.inl 0), some (.inl ((c : Int) + 1)), some (.inl (sd_b ((0 + (j45_1 : Int)) = 1))), some (.inl (-1)), some (.inl 1), none, none, none, none]) sD11_reads_292 rfl (by omega) (by omega) (by decide) rfl ?_
            refine sd_goto (tgt := 31) sD11_reads_295 (by decide) ?_
            refine sd_iload sD11_reads_31 rfl ?_
            refine sd_iconst sD11_reads_33 (by decide) ?_
            refine sd_icmp_ge (tgt := 298) sD11_reads_34 (by decide) (fun zc34 => ?_) (fun zc34 => ?_)
            ·
              refine sd_aload_n sD11_reads_298 rfl ?_
              refine sd_getfi sD11_reads_299 sF11_147 sGM15_12 ?_
              rw [show m 5492 = (q45_1 : Int) from hS.2.2.1]
              refine sd_aload_n sD11_reads_302 rfl ?_
              refine sd_getfi sD11_reads_303 sF11_151 sGM15_11 ?_
              rw [show m 5491 = (n : Int) from hS.2.1]
              refine sd_icmp_ge (tgt := 313) sD11_reads_306 (by decide) (fun zc306 => ?_) (fun zc306 => ?_)
              ·
                refine sd_vreturn sD11_reads_313 rfl (fun hm => hQ _ _ ⟨rfl, hK6, ?_⟩)
                exact Or.inl ⟨q45_1, by simp only [sd_txt, sd_cls, sd_wd, hz45_1]; rw [if_neg hb62_8], hS.2.2.2⟩
              ·
                refine sd_aload_n sD11_reads_309 rfl ?_
                refine sd_callV (as := []) (st := []) sD11_reads_310 sM11_167 rfl rfl sOM15 rfl (by decide) (Nat.le_of_ble_eq_true rfl) (cM_wrong0 fr n q45_1 q45_1 _ m hx hS) (fun r m hq ho310 hm => ?_)
                obtain ⟨rfl, hk310_129, hS⟩ := hq
                replace hx := hk310_129.ns hx
                replace hK6 := hK6.k2 hk310_129
                replace hf : ∀ i, i < 4 → m (5504 + i) = f i := fun i hi => (hk310_129 _ (by omega) (by omega)).trans (hf i hi)
                replace hg := (hk310_129 5510 (by decide) (by decide)).trans hg
                replace hgb := (hk310_129 5511 (by decide) (by decide)).trans hgb
                rcases (⟨trivial⟩ : Nonempty True) with hy310_129
                ·
                  show sd_Wp sd_SM 4 sY11_reads 313 [some (.inr 15), some (.inl pl), some (.inl mn), some (.inl w), some (.inl 0), some (.inl ((c : Int) + 1)), some (.inl (sd_b ((0 + (j45_1 : Int)) = 1))), some (.inl (-1)), some (.inl 1), none, none, none, none] [] m _
                  refine sd_vreturn sD11_reads_313 rfl (fun hm => hQ _ _ ⟨rfl, hK6, ?_⟩)
                  exact Or.inl ⟨q45_1, by simp only [sd_txt, sd_cls, sd_wd, hz45_1]; rw [if_neg hb62_8], hS.2.2.2⟩
            ·
              refine sd_iload sD11_reads_37 rfl ?_
              refine sd_if_eq (tgt := 298) sD11_reads_39 (by decide) (fun zc39 => ?_) (fun zc39 => (by exfalso; omega))
              refine sd_aload_n sD11_reads_298 rfl ?_
              refine sd_getfi sD11_reads_299 sF11_147 sGM15_12 ?_
              rw [show m 5492 = (q45_1 : Int) from hS.2.2.1]
              refine sd_aload_n sD11_reads_302 rfl ?_
              refine sd_getfi sD11_reads_303 sF11_151 sGM15_11 ?_
              rw [show m 5491 = (n : Int) from hS.2.1]
              refine sd_icmp_ge (tgt := 313) sD11_reads_306 (by decide) (fun zc306 => ?_) (fun zc306 => ?_)
              ·
                refine sd_vreturn sD11_reads_313 rfl (fun hm => hQ _ _ ⟨rfl, hK6, ?_⟩)
                exact Or.inl ⟨q45_1, by simp only [sd_txt, sd_cls, sd_wd, hz45_1]; rw [if_neg hb62_8], hS.2.2.2⟩
              ·
                refine sd_aload_n sD11_reads_309 rfl ?_
                refine sd_callV (as := []) (st := []) sD11_reads_310 sM11_167 rfl rfl sOM15 rfl (by decide) (Nat.le_of_ble_eq_true rfl) (cM_wrong0 fr n q45_1 q45_1 _ m hx hS) (fun r m hq ho310 hm => ?_)
                obtain ⟨rfl, hk310_130, hS⟩ := hq
                replace hx := hk310_130.ns hx
                replace hK6 := hK6.k2 hk310_130
                replace hf : ∀ i, i < 4 → m (5504 + i) = f i := fun i hi => (hk310_130 _ (by omega) (by omega)).trans (hf i hi)
                replace hg := (hk310_130 5510 (by decide) (by decide)).trans hg
                replace hgb := (hk310_130 5511 (by decide) (by decide)).trans hgb
                rcases (⟨trivial⟩ : Nonempty True) with hy310_130
                ·
                  show sd_Wp sd_SM 4 sY11_reads 313 [some (.inr 15), some (.inl pl), some (.inl mn), some (.inl w), some (.inl 0), some (.inl ((c : Int) + 1)), some (.inl (sd_b ((0 + (j45_1 : Int)) = 1))), some (.inl (-1)), some (.inl 1), none, none, none, none] [] m _
                  refine sd_vreturn sD11_reads_313 rfl (fun hm => hQ _ _ ⟨rfl, hK6, ?_⟩)
                  exact Or.inl ⟨q45_1, by simp only [sd_txt, sd_cls, sd_wd, hz45_1]; rw [if_neg hb62_8], hS.2.2.2⟩
          ·
            refine sd_aload_n sD11_reads_250 rfl ?_
            refine sd_callVp (as := []) (st := []) (v := .inl 0) sD11_reads_251 sM11_160 sOM15 rfl rfl rfl (by decide) (Nat.le_of_ble_eq_true rfl) (cM_isGood0 fr n q45_1 q45_1 _ m hx hS) (fun ho251 => ?_)
            refine sd_if_eq (tgt := 270) sD11_reads_254 (by decide) (fun zc254 => ?_) (fun zc254 => (by exfalso; omega))
            refine sd_iconst sD11_reads_270 (by decide) ?_
            refine sd_istore (ls' := [some (.inr 15), some (.inl pl), some (.inl mn), some (.inl w), some (.inl 0), some (.inl (c : Int)), some (.inl (sd_b ((0 + (j45_1 : Int)) = 1))), some (.inl (-1)), some (.inl 1), none, none, none, none]) sD11_reads_271 (by decide) rfl ?_
            refine sd_aload_n sD11_reads_273 rfl ?_
            refine sd_dup sD11_reads_274 ?_
            refine sd_getfi sD11_reads_275 sF11_147 sGM15_12 ?_
            rw [show m 5492 = (q45_1 : Int) from hS.2.2.1]
            refine sd_iload sD11_reads_278 rfl ?_
            refine sd_if_eq (tgt := 287) sD11_reads_280 (by decide) (fun zc280 => ?_) (fun zc280 => (by exfalso; omega))
            refine sd_iconst sD11_reads_287 (by decide) ?_
            refine sd_iadd (z := (q45_1 : Int)) sD11_reads_288 (by omega) (by omega) ?_
            refine sd_putfc sd_sokM sd_oneM hx sD11_reads_289 sF11_147 sGM15_12 (by decide) (Or.inl rfl) (fun m hx em289 => ?_)
            have hk289x := sd_k2.up em289 (Or.inl rfl)
            replace hK6 := hK6.k2 hk289x
            replace hf : ∀ i, i < 4 → m (5504 + i) = f i := fun i hi => (hk289x _ (by omega) (by omega)).trans (hf i hi)
            replace hg := (hk289x 5510 (by decide) (by decide)).trans hg
            replace hgb := (hk289x 5511 (by decide) (by decide)).trans hgb
            replace hS : sd_RS m fr n q45_1 (q45_1 : Int) := ⟨by rw [em289, sd_up_ne (by decide)]; exact hS.1, by rw [em289, sd_up_ne (by decide)]; exact hS.2.1, by rw [em289, sd_up_eq]; (try omega), by rw [em289, sd_up_ne (by decide)]; exact hS.2.2.2⟩
            refine sd_iinc (y := ((c : Int) + 1)) (ls' := [some (.inr 15), some (.inl pl), some (.inl mn), some (.inl w), some (.inl 0), some (.inl ((c : Int) + 1)), some (.inl (sd_b ((0 + (j45_1 : Int)) = 1))), some (.inl (-1)), some (.inl 1), none, none, none, none]) sD11_reads_292 rfl (by omega) (by omega) (by decide) rfl ?_
            refine sd_goto (tgt := 31) sD11_reads_295 (by decide) ?_
            refine sd_iload sD11_reads_31 rfl ?_
            refine sd_iconst sD11_reads_33 (by decide) ?_
            refine sd_icmp_ge (tgt := 298) sD11_reads_34 (by decide) (fun zc34 => ?_) (fun zc34 => ?_)
            ·
              refine sd_aload_n sD11_reads_298 rfl ?_
              refine sd_getfi sD11_reads_299 sF11_147 sGM15_12 ?_
              rw [show m 5492 = (q45_1 : Int) from hS.2.2.1]
              refine sd_aload_n sD11_reads_302 rfl ?_
              refine sd_getfi sD11_reads_303 sF11_151 sGM15_11 ?_
              rw [show m 5491 = (n : Int) from hS.2.1]
              refine sd_icmp_ge (tgt := 313) sD11_reads_306 (by decide) (fun zc306 => ?_) (fun zc306 => ?_)
              ·
                refine sd_vreturn sD11_reads_313 rfl (fun hm => hQ _ _ ⟨rfl, hK6, ?_⟩)
                exact Or.inl ⟨q45_1, by simp only [sd_txt, sd_cls, sd_wd, hz45_1]; rw [if_neg hb62_8], hS.2.2.2⟩
              ·
                refine sd_aload_n sD11_reads_309 rfl ?_
                refine sd_callV (as := []) (st := []) sD11_reads_310 sM11_167 rfl rfl sOM15 rfl (by decide) (Nat.le_of_ble_eq_true rfl) (cM_wrong0 fr n q45_1 q45_1 _ m hx hS) (fun r m hq ho310 hm => ?_)
                obtain ⟨rfl, hk310_131, hS⟩ := hq
                replace hx := hk310_131.ns hx
                replace hK6 := hK6.k2 hk310_131
                replace hf : ∀ i, i < 4 → m (5504 + i) = f i := fun i hi => (hk310_131 _ (by omega) (by omega)).trans (hf i hi)
                replace hg := (hk310_131 5510 (by decide) (by decide)).trans hg
                replace hgb := (hk310_131 5511 (by decide) (by decide)).trans hgb
                rcases (⟨trivial⟩ : Nonempty True) with hy310_131
                ·
                  show sd_Wp sd_SM 4 sY11_reads 313 [some (.inr 15), some (.inl pl), some (.inl mn), some (.inl w), some (.inl 0), some (.inl ((c : Int) + 1)), some (.inl (sd_b ((0 + (j45_1 : Int)) = 1))), some (.inl (-1)), some (.inl 1), none, none, none, none] [] m _
                  refine sd_vreturn sD11_reads_313 rfl (fun hm => hQ _ _ ⟨rfl, hK6, ?_⟩)
                  exact Or.inl ⟨q45_1, by simp only [sd_txt, sd_cls, sd_wd, hz45_1]; rw [if_neg hb62_8], hS.2.2.2⟩
            ·
              refine sd_iload sD11_reads_37 rfl ?_
              refine sd_if_eq (tgt := 298) sD11_reads_39 (by decide) (fun zc39 => ?_) (fun zc39 => (by exfalso; omega))
              refine sd_aload_n sD11_reads_298 rfl ?_
              refine sd_getfi sD11_reads_299 sF11_147 sGM15_12 ?_
              rw [show m 5492 = (q45_1 : Int) from hS.2.2.1]
              refine sd_aload_n sD11_reads_302 rfl ?_
              refine sd_getfi sD11_reads_303 sF11_151 sGM15_11 ?_
              rw [show m 5491 = (n : Int) from hS.2.1]
              refine sd_icmp_ge (tgt := 313) sD11_reads_306 (by decide) (fun zc306 => ?_) (fun zc306 => ?_)
              ·
                refine sd_vreturn sD11_reads_313 rfl (fun hm => hQ _ _ ⟨rfl, hK6, ?_⟩)
                exact Or.inl ⟨q45_1, by simp only [sd_txt, sd_cls, sd_wd, hz45_1]; rw [if_neg hb62_8], hS.2.2.2⟩
              ·
                refine sd_aload_n sD11_reads_309 rfl ?_
                refine sd_callV (as := []) (st := []) sD11_reads_310 sM11_167 rfl rfl sOM15 rfl (by decide) (Nat.le_of_ble_eq_true rfl) (cM_wrong0 fr n q45_1 q45_1 _ m hx hS) (fun r m hq ho310 hm => ?_)
                obtain ⟨rfl, hk310_132, hS⟩ := hq
                replace hx := hk310_132.ns hx
                replace hK6 := hK6.k2 hk310_132
                replace hf : ∀ i, i < 4 → m (5504 + i) = f i := fun i hi => (hk310_132 _ (by omega) (by omega)).trans (hf i hi)
                replace hg := (hk310_132 5510 (by decide) (by decide)).trans hg
                replace hgb := (hk310_132 5511 (by decide) (by decide)).trans hgb
                rcases (⟨trivial⟩ : Nonempty True) with hy310_132
                ·
                  show sd_Wp sd_SM 4 sY11_reads 313 [some (.inr 15), some (.inl pl), some (.inl mn), some (.inl w), some (.inl 0), some (.inl ((c : Int) + 1)), some (.inl (sd_b ((0 + (j45_1 : Int)) = 1))), some (.inl (-1)), some (.inl 1), none, none, none, none] [] m _
                  refine sd_vreturn sD11_reads_313 rfl (fun hm => hQ _ _ ⟨rfl, hK6, ?_⟩)
                  exact Or.inl ⟨q45_1, by simp only [sd_txt, sd_cls, sd_wd, hz45_1]; rw [if_neg hb62_8], hS.2.2.2⟩
    ·
      refine sd_icmp_ne (tgt := 56) sD11_reads_49 (by decide) (fun zc49 => ?_) (fun zc49 => ?_)
      ·
        refine sd_iconst sD11_reads_56 (by decide) ?_
        exact K49 _ (by exact (sd_b0 (by omega)).symm)
      ·
        refine sd_iconst sD11_reads_52 (by decide) ?_
        refine sd_goto (tgt := 57) sD11_reads_53 (by decide) ?_
        exact K49 _ (by exact (sd_b1 (by omega)).symm)
