theorem sd_callVx {S : List sd_C} {n : Nat} {Y : sd_Y} {pc pc' : Nat} {ls : List (Option sd_V)} {st : List sd_V} {m : sd_M} {Q : Option sd_V → sd_M → Prop} {idx na k ci nc : Nat} {Yc : sd_Y} {as stk : List sd_V} {fs : List (Nat ⊕ Nat)} {R : Int → Prop} (hd : sd_dc Y pc (.invokevirtual idx) 3 pc') (hm : sd_mv Y.1.cls idx Yc na) (hg : S[k]? = some (.inr (.inl (ci, fs)))) (hc : (sd_cl[ci]?).map (fun q => q.1) = some Yc.1.cls) (hstk : stk = as.reverse ++ .inr k :: st) (hn : as.length = na) (hdep : nc + 1 ≤ n) (hst : st.length ≤ 8)
    (hC : sd_Ct S nc Yc (.inr k :: as) m (fun r m' => m' = m ∧ ∃ z, r = some (.inl z) ∧ R z)) (kk : ∀ z, R z → sd_Wp S n Y pc' ls (.inl z :: st) m Q) : sd_Wp S n Y pc ls stk m Q :=
  sd_callV hd hm hstk hn hg hc hdep hst hC (fun r m' h h2 _ => by obtain ⟨rfl, z, rfl, hz⟩ := h; exact kk z hz)
/-- what a search between lo and hi may answer for v -/
abbrev sd_Cl (lo hi v z : Int) : Prop := (-1 ≤ z ∧ z ≤ 1) ∧ max lo (min hi z) = max lo (min hi v)
def sd_pC (g : Int → Int → Int) (w o : Int) : Int := if w ≤ 0 then -1 else if o ≤ 0 then 1 else g w o
def sd_pM (x : sd_M) (g : Int → Int → Int) (w o : Int) : Int := if w ≤ 0 then -1 else if o ≤ 0 then 1 else min (sd_pC g (w + x 6523) (o + x 6529)) (min (sd_pC g (w + x 6524) (o + x 6530)) (sd_pC g (w + x 6525) (o + x 6531)))
def sd_pA (x : sd_M) (g : Int → Int → Int) (c : Int) (k : Nat) (w o : Int) : Int := if c = -1 ∨ c = k then sd_pM x g (w + x (6520 + k)) (o + x (6526 + k)) else -1
def sd_pS (x : sd_M) (g : Int → Int → Int) (c : Int) (w o : Int) : Int := max (sd_pA x g c 0 w o) (max (sd_pA x g c 1 w o) (sd_pA x g c 2 w o))
def sd_pv (x : sd_M) (pl : Nat → Int) (n : Nat) : Nat → Int → Int → Int
  | 0 => fun _ _ => 0
  | r + 1 => sd_pS x (sd_pv x pl n r) (pl (n - (r + 1)))
theorem sd_pC_rng {g : Int → Int → Int} (h : ∀ w o, -1 ≤ g w o ∧ g w o ≤ 1) (w o : Int) : -1 ≤ sd_pC g w o ∧ sd_pC g w o ≤ 1 := by
  unfold sd_pC
  split
  · omega
  · split
    · omega
    · exact h _ _
theorem sd_pM_rng {x : sd_M} {g : Int → Int → Int} (h : ∀ w o, -1 ≤ g w o ∧ g w o ≤ 1) (w o : Int) : -1 ≤ sd_pM x g w o ∧ sd_pM x g w o ≤ 1 := by
  have a := sd_pC_rng h (w + x 6523) (o + x 6529)
  have b := sd_pC_rng h (w + x 6524) (o + x 6530)
  have c := sd_pC_rng h (w + x 6525) (o + x 6531)
  unfold sd_pM
  split
  · omega
  · split <;> omega
theorem sd_pA_rng {x : sd_M} {g : Int → Int → Int} (h : ∀ w o, -1 ≤ g w o ∧ g w o ≤ 1) (c : Int) (k : Nat) (w o : Int) : -1 ≤ sd_pA x g c k w o ∧ sd_pA x g c k w o ≤ 1 := by
  unfold sd_pA
  split
  · exact sd_pM_rng h _ _
  · omega
theorem sd_pv_rng (x : sd_M) (pl : Nat → Int) (n r : Nat) : ∀ w o, -1 ≤ sd_pv x pl n r w o ∧ sd_pv x pl n r w o ≤ 1 := by
  induction r with
  | zero => intro w o; simp only [sd_pv]; omega
  | succ r ih =>
    intro w o
    have a := sd_pA_rng (x := x) ih (pl (n - (r + 1))) 0 w o
    have b := sd_pA_rng (x := x) ih (pl (n - (r + 1))) 1 w o
    have c := sd_pA_rng (x := x) ih (pl (n - (r + 1))) 2 w o
    simp only [sd_pv, sd_pS]
    omega
