/-! A copy of a row; loops; calls that only answer. -/
def sd_cpm (m : sd_M) (sa da cnt : Nat) : sd_M := fun j => if da ≤ j ∧ j < da + cnt then m (sa + (j - da)) else m j
theorem sd_cpmR {m : sd_M} {sa da cnt : Nat} (h : ∀ j, sd_R (m j)) : ∀ j, sd_R (sd_cpm m sa da cnt j) := by
  intro j
  unfold sd_cpm
  split
  · exact h _
  · exact h _
theorem sd_cell_cpm {g : sd_G} {m : sd_M} {c : sd_C} {sa da cnt : Nat} (h : ∀ a, da ≤ a → a < da + cnt → ¬ sd_has c a) : sd_cell g (sd_cpm m sa da cnt) c = sd_cell g m c := by
  rcases c with ⟨b, n⟩ | ⟨ci, fs⟩ | ks
  · simp only [sd_cell]
    congr 4
    funext i
    by_cases hi : i < n
    · rw [if_pos hi, if_pos hi]
      simp only [sd_cpm]
      rw [if_neg]
      intro e
      exact h _ e.1 e.2 ⟨by omega, by omega⟩
    · rw [if_neg hi, if_neg hi]
  · simp only [sd_cell]
    congr 2
    apply List.map_congr_left
    intro f hf
    rcases f with b | k
    · simp only [sd_fld, sd_cpm]
      rw [if_neg]
      intro e
      exact h b e.1 e.2 hf
    · rfl
  · rfl
theorem sd_ws_cpm {S : List sd_C} (hS : sd_sok S) {g : sd_G} {m : sd_M} {k k0 b n b0 n0 sp dp cnt : Nat} (hk0 : S[k0]? = some (.inl (b0, n0))) (hk : S[k]? = some (.inl (b, n))) (h0 : sp + cnt ≤ n0) (h1 : dp + cnt ≤ n) :
    (sd_ws S g m).set k (g.1 k, .inl (g.2.2.1, n, .inl (va_cpy (fun i => if i < n0 then Int32.ofInt (m (b0 + i)) else 0) (fun i => if i < n then Int32.ofInt (m (b + i)) else 0) sp dp cnt))) = sd_ws S g (sd_cpm m (b0 + sp) (b + dp) cnt) := by
  apply List.ext_getElem?
  intro j
  rw [List.getElem?_set]
  by_cases hj : k = j
  · subst hj
    have hl : k < (sd_ws S g m).length := by simp only [sd_ws, List.length_mapIdx]; exact (List.getElem?_eq_some_iff.mp hk).1
    rw [if_pos rfl, if_pos hl, sd_wsget hk]
    simp only [sd_cell]
    congr 5
    congr 1
    funext q
    simp only [va_cpy, sd_cpm]
    by_cases hq : dp ≤ q ∧ q < dp + cnt
    · rw [if_pos hq, if_pos (by omega), if_pos (by omega), if_pos (by omega)]
      congr 2
      omega
    · rw [if_neg hq]
      by_cases hn : q < n
      · rw [if_pos hn, if_pos hn, if_neg (by omega)]
      · rw [if_neg hn, if_neg hn]
  · rw [if_neg hj]
    cases hc : S[j]? with
    | none => simp [sd_ws, List.getElem?_mapIdx, hc]
    | some c =>
      rw [sd_wsget hc, sd_wsget hc, sd_cell_cpm]
      intro a ha1 ha2 hh
      exact hj (hS k j _ c a hk hc ⟨by omega, by omega⟩ hh)
section More
variable {S : List sd_C} {n : Nat} {Y : sd_Y} {pc pc' : Nat} {ls : List (Option sd_V)} {st : List sd_V} {m : sd_M} {Q : Option sd_V → sd_M → Prop}
theorem sd_acw1 : Cond.native arraycopyName ∈ sd_tb := sd_in (i := 679) (by decide +kernel) rfl
theorem sd_acw2 : Cond.static arraycopyName ∈ sd_tb := sd_in (i := 678) (by decide +kernel) rfl
theorem sd_acw3 : Cond.initialized "java/lang/System" ∈ sd_tb := sd_in (i := 14) (by decide +kernel) rfl
theorem sd_acopy (hs : sd_sok S) {idx k k0 b nn b0 n0 sa da cnt : Nat} {sp dp c0 : Int} (hd : sd_dc Y pc (.invokestatic idx) 3 pc') (hw : Cond.methodLink Y.1.cls idx arraycopyName ∈ sd_tb) (hg0 : sd_ga S k0 b0 n0) (hg : sd_ga S k b nn) (hn : 1 ≤ n) (hst : st.length ≤ 8)
    (ha : (sa : Int) = b0 + sp ∧ (da : Int) = b + dp ∧ (cnt : Int) = c0 ∧ b0 ≤ sa ∧ b ≤ da ∧ sa + cnt ≤ b0 + n0 ∧ da + cnt ≤ b + nn) (kk : sd_Wp S n Y pc' ls st (sd_cpm m sa da cnt) Q) : sd_Wp S n Y pc ls (.inl c0 :: .inl dp :: .inr k :: .inl sp :: .inr k0 :: st) m Q := by
  intro d g p l e s mi args below meth c H locs lc h1 F h2 h3 h4 h5 h6
  obtain ⟨hx, hb, hml, hown, hts, hr, hlk, hi, hK, hRO⟩ := id F
  obtain ⟨hdg, rfl⟩ := hd
  have r1 : sd_R c0 := sd_hd h6
  have r2 : sd_R dp := sd_hd (sd_tl h6)
  have r3 : sd_R sp := sd_hd (sd_tl (sd_tl (sd_tl h6)))
  have z : ∀ {x : Int}, sd_R x → 0 ≤ x → ¬ Int32.ofInt x < 0 := fun hx h0 q => by
    rw [← sd_of0, sd_lt hx sd_r0] at q
    omega
  refine va_copyi hx hb (hml.trans h5.1.1.symm) hown (hts _ hw) (hts _ sd_acw1) (hts _ sd_acw2) (hts _ sd_acw3) hK h2 (sd_D hi m) h4 k0 k 0 0 (sd_wsget hg0) (sd_wsget hg) rfl rfl rfl (sp := Int32.ofInt sp) (dp := Int32.ofInt dp) (n := Int32.ofInt c0) (z r3 (by omega)) (z r2 (by omega)) (z r1 (by omega))
    (by rw [sd_clamp r3, sd_clamp r1]; omega) (by rw [sd_clamp r2, sd_clamp r1]; omega) (fun _ _ => rfl) (show 1 ≤ d by omega) ?_ hdg (fun H1 locs1 q1 q2 q3 => ?_)
  · have : ((st.map (sd_cv g)).map fun v => v.category).sum ≤ 8 := by rw [sd_catsum]; exact hst
    have e9 : nativeFrameWords "java/lang/System" "arraycopy" 5 = 7 := by decide
    rw [e9]
    show ((st.map (sd_cv g)).map fun v => v.category).sum + (7 + 11) ≤ 64 * d
    omega
  · rw [sd_clamp r3, sd_clamp r2, sd_clamp r1, sd_ws_cpm hs hg0 hg (by omega) (by omega), show b0 + sp.toNat = sa by omega, show b + dp.toNat = da by omega, show c0.toNat = cnt by omega] at q1
    exact kk d g p l e s mi args below meth c H1 locs1 lc h1 F q1 (sd_cpmR h3) q3 h5 (sd_tl (sd_tl (sd_tl (sd_tl (sd_tl h6)))))
/-- a loop: its state at the i-th coming to its head -/
theorem sd_for (N : Nat) (L : Nat → List (Option sd_V)) (M : Nat → sd_M) (step : ∀ i, i < N → sd_Wp S n Y pc (L (i + 1)) st (M (i + 1)) Q → sd_Wp S n Y pc (L i) st (M i) Q) (last : sd_Wp S n Y pc (L N) st (M N) Q) : sd_Wp S n Y pc (L 0) st (M 0) Q := by
  have h : ∀ k, k ≤ N → sd_Wp S n Y pc (L (N - k)) st (M (N - k)) Q := by
    intro k
    induction k with
    | zero => intro _; exact last
    | succ k ih =>
      intro hk
      have h1 := step (N - (k + 1)) (by omega)
      rw [show N - (k + 1) + 1 = N - k by omega] at h1
      exact h1 (ih (by omega))
  have := h N (Nat.le_refl N)
  rwa [Nat.sub_self] at this
/-- a loop by an invariant -/
theorem sd_forI (N : Nat) (I : Nat → List (Option sd_V) → sd_M → Prop) (step : ∀ i, i < N → ∀ ls m, I i ls m → (∀ ls' m', I (i + 1) ls' m' → sd_Wp S n Y pc ls' st m' Q) → sd_Wp S n Y pc ls st m Q) (last : ∀ ls m, I N ls m → sd_Wp S n Y pc ls st m Q) (h0 : I 0 ls m) : sd_Wp S n Y pc ls st m Q := by
  have h : ∀ k, k ≤ N → ∀ ls m, I (N - k) ls m → sd_Wp S n Y pc ls st m Q := by
    intro k
    induction k with
    | zero => intro _ ls m h; exact last ls m h
    | succ k ih =>
      intro hk ls m h
      refine step (N - (k + 1)) (by omega) ls m h (fun ls' m' h' => ih (by omega) ls' m' ?_)
      rwa [show N - (k + 1) + 1 = N - k by omega] at h'
  exact h N (Nat.le_refl N) ls m (by rwa [Nat.sub_self])
/-- a contract of a method that answers v and changes nothing -/
def sd_Cp (S : List sd_C) (n : Nat) (Y : sd_Y) (as : List sd_V) (m : sd_M) (v : sd_V) : Prop := sd_Ct S n Y as m (fun r m' => r = some v ∧ m' = m)
theorem sd_ctmono {n' : Nat} {as : List sd_V} (h : n' ≤ n) (k : sd_Ct S n' Y as m Q) : sd_Ct S n Y as m Q := fun d hd => k d (Nat.le_trans h hd)
theorem sd_ctQ {as : List sd_V} {Q' : Option sd_V → sd_M → Prop} (k : sd_Ct S n Y as m Q') (h : ∀ r m', Q' r m' → Q r m') : sd_Ct S n Y as m Q := by
  intro d hd l g
  have hM := k d hd l g
  intro p e ha hc hk s mi args below hf hap hP hT
  obtain ⟨t, o, a1, a2, a3, ⟨⟨⟨r, m', b1, b2, b3⟩, b4⟩, a5⟩⟩ := hM p e ha hc hk s mi args below hf hap hP hT
  exact ⟨t, o, a1, a2, a3, ⟨⟨⟨r, m', b1, h r m' b2, b3⟩, b4⟩, a5⟩⟩
theorem sd_callVp {idx na k ci nc : Nat} {Yc : sd_Y} {as stk : List sd_V} {fs : List (Nat ⊕ Nat)} {v : sd_V} (hd : sd_dc Y pc (.invokevirtual idx) 3 pc') (hm : sd_mv Y.1.cls idx Yc na) (hg : S[k]? = some (.inr (.inl (ci, fs)))) (hc : (sd_cl[ci]?).map (fun q => q.1) = some Yc.1.cls) (hstk : stk = as.reverse ++ .inr k :: st) (hn : as.length = na) (hdep : nc + 1 ≤ n) (hst : st.length ≤ 8)
    (hC : sd_Cp S nc Yc (.inr k :: as) m v) (kk : sd_ok v → sd_Wp S n Y pc' ls (v :: st) m Q) : sd_Wp S n Y pc ls stk m Q :=
  sd_callV hd hm hstk hn hg hc hdep hst hC (fun r m' h h2 _ => by obtain ⟨rfl, rfl⟩ := h; exact kk (h2 v rfl))
theorem sd_callSp {idx na nc : Nat} {Yc : sd_Y} {as stk : List sd_V} {v : sd_V} (hd : sd_dc Y pc (.invokestatic idx) 3 pc') (hm : sd_ms Y.1.cls idx Yc na) (hstk : stk = as.reverse ++ st) (hn : as.length = na) (hdep : nc + 1 ≤ n) (hst : st.length ≤ 8)
    (hC : sd_Cp S nc Yc as m v) (kk : sd_ok v → sd_Wp S n Y pc' ls (v :: st) m Q) : sd_Wp S n Y pc ls stk m Q :=
  sd_callS hd hm hstk hn hdep hst hC (fun r m' h h2 _ => by obtain ⟨rfl, rfl⟩ := h; exact kk (h2 v rfl))
theorem sd_callNp {idx na nc : Nat} {host : String} {Yc : sd_Y} {as stk : List sd_V} {v : sd_V} (hd : sd_dc Y pc (.invokestatic idx) 3 pc') (hm : sd_mn Y.1.cls idx host Yc na) (hstk : stk = as.reverse ++ st) (hn : as.length = na) (hdep : nc + 1 ≤ n) (hst : st.length ≤ 8)
    (hC : sd_Cp S nc Yc as m v) (kk : sd_ok v → sd_Wp S n Y pc' ls (v :: st) m Q) : sd_Wp S n Y pc ls stk m Q :=
  sd_callN hd hm hstk hn hdep hst hC (fun r m' h h2 _ => by obtain ⟨rfl, rfl⟩ := h; exact kk (h2 v rfl))
end More
