theorem cC_gAll (x m : sd_M) (hx : sd_ns x m) (h9 : sd_L9 x) (n : Nat) (hn5 : n ≤ 5) (pl : Nat → Int) (hst : m 5110 = (n : Int)) (hpl : ∀ q, q < n → m (5100 + q) = pl q ∧ (pl q = -1 ∨ pl q = 0 ∨ pl q = 1 ∨ pl q = 2)) : ∀ r : Nat, r ≤ n → ∀ (w o lo hi b : Int), (0 ≤ b ∧ b + 18 * (r : Int) ≤ 900) → (-b ≤ w ∧ w ≤ b) → (-b ≤ o ∧ o ≤ b) → (-1 ≤ lo ∧ lo < hi ∧ hi ≤ 1) →
    sd_Ct sd_SC (3 * r) sY0_behindSteps [.inr 49, .inl ((n - r : Nat) : Int), .inl w, .inl o, .inl lo, .inl hi] m (fun ra m' => m' = m ∧ ∃ z, ra = some (.inl z) ∧ sd_Cl lo hi (sd_pv x pl n r w o) z) := by
  intro r
  induction r with
  | zero =>
    intro hr w o lo hi b hb hw ho hl
    exact cC_gBase (n - 0) n (Nat.sub_zero n) hn5 w o lo hi x m hx hst
  | succ r ih =>
    intro hr w o lo hi b hb hw ho hl
    have hcm : ∀ w o lo hi : Int, (-(b + 9 + 9) ≤ w ∧ w ≤ b + 9 + 9) → (-(b + 9 + 9) ≤ o ∧ o ≤ b + 9 + 9) → (-1 ≤ lo ∧ lo < hi ∧ hi ≤ 1) → sd_Ct sd_SC (3 * r + 1) sY0_behindCompany [.inr 49, .inl ((n - (r + 1) : Nat) : Int), .inl w, .inl o, .inl lo, .inl hi] m (fun ra m' => m' = m ∧ ∃ z, ra = some (.inl z) ∧ sd_Cl lo hi (sd_pC (sd_pv x pl n r) w o) z) := by
      intro w o lo hi hw ho hl
      refine cC_gCompany (3 * r) (n - (r + 1)) (by omega) (sd_pv x pl n r) w o lo hi m (by omega) (by omega) hl (fun _ _ => ?_)
      rw [show n - (r + 1) + 1 = n - r from by omega]
      exact ih (by omega) w o lo hi (b + 9 + 9) (by omega) hw ho hl
    have hmn : ∀ w o lo hi : Int, (-(b + 9) ≤ w ∧ w ≤ b + 9) → (-(b + 9) ≤ o ∧ o ≤ b + 9) → (-1 ≤ lo ∧ lo < hi ∧ hi ≤ 1) → sd_Ct sd_SC (3 * r + 1 + 1) sY0_behindMen [.inr 49, .inl ((n - (r + 1) : Nat) : Int), .inl w, .inl o, .inl lo, .inl hi] m (fun ra m' => m' = m ∧ ∃ z, ra = some (.inl z) ∧ sd_Cl lo hi (sd_pM x (sd_pv x pl n r) w o) z) := by
      intro w o lo hi hw ho hl
      exact cC_gMen (3 * r + 1) (n - (r + 1)) (by omega) (by omega) (sd_pv x pl n r) (sd_pv_rng x pl n r) w o lo hi x m hx h9 (b + 9) (by omega) hw ho hl hcm
    obtain ⟨hp1, hp2⟩ := hpl (n - (r + 1)) (by omega)
    show sd_Ct sd_SC (3 * r + 1 + 1 + 1) sY0_behindSteps [.inr 49, .inl ((n - (r + 1) : Nat) : Int), .inl w, .inl o, .inl lo, .inl hi] m (fun ra m' => m' = m ∧ ∃ z, ra = some (.inl z) ∧ sd_Cl lo hi (sd_pS x (sd_pv x pl n r) (pl (n - (r + 1))) w o) z)
    rcases hp2 with e | e | e | e
    · rw [e] at hp1 ⊢
      exact cC_gStepsA (3 * r + 1 + 1) (n - (r + 1)) n (by omega) (by omega) hn5 (sd_pv x pl n r) (sd_pv_rng x pl n r) w o lo hi x m hx h9 hst hp1 b (by omega) hw ho hl hmn
    · rw [e] at hp1 ⊢
      exact cC_gSteps0 (3 * r + 1 + 1) (n - (r + 1)) n (by omega) (by omega) hn5 (sd_pv x pl n r) (sd_pv_rng x pl n r) w o lo hi x m hx h9 hst hp1 b (by omega) hw ho hl hmn
    · rw [e] at hp1 ⊢
      exact cC_gSteps1 (3 * r + 1 + 1) (n - (r + 1)) n (by omega) (by omega) hn5 (sd_pv x pl n r) (sd_pv_rng x pl n r) w o lo hi x m hx h9 hst hp1 b (by omega) hw ho hl hmn
    · rw [e] at hp1 ⊢
      exact cC_gSteps2 (3 * r + 1 + 1) (n - (r + 1)) n (by omega) (by omega) hn5 (sd_pv x pl n r) (sd_pv_rng x pl n r) w o lo hi x m hx h9 hst hp1 b (by omega) hw ho hl hmn
theorem cC_gTop (x m : sd_M) (hx : sd_ns x m) (h9 : sd_L9 x) (n : Nat) (hn5 : n ≤ 5) (pl : Nat → Int) (hst : m 5110 = (n : Int)) (hpl : ∀ q, q < n → m (5100 + q) = pl q ∧ (pl q = -1 ∨ pl q = 0 ∨ pl q = 1 ∨ pl q = 2)) (w o : Int) (hw : 1 ≤ w ∧ w ≤ 99) (ho : 1 ≤ o ∧ o ≤ 99) :
    sd_Cp sd_SC 15 sY0_behindSteps [.inr 49, .inl 0, .inl w, .inl o, .inl (-1), .inl 1] m (.inl (sd_pv x pl n n w o)) := by
  have h := cC_gAll x m hx h9 n hn5 pl hst hpl n (Nat.le_refl n) w o (-1) 1 99 (by omega) (by omega) (by omega) (by omega)
  rw [Nat.sub_self] at h
  refine sd_ctQ (sd_ctmono (n' := 3 * n) (by omega) h) (fun r m' q => ?_)
  obtain ⟨e1, z, e2, e3, e4⟩ := q
  have hr := sd_pv_rng x pl n n w o
  have ez : z = sd_pv x pl n n w o := by omega
  rw [ez] at e2
  exact ⟨e2, e1⟩
theorem sd_bh_pC (x : sd_M) (g : Int → Int → Int) (i : Nat) (w o : Int) : sd_bh x g i w o = sd_pC g (w + x (6520 + i)) (o + x (6526 + i)) := by
  unfold sd_bh sd_pC sd_std
  by_cases h1 : w + x (6520 + i) ≤ 0
  · simp only [h1, if_true]; rfl
  · by_cases h2 : o + x (6526 + i) ≤ 0
    · simp only [h1, h2, if_true, if_false]; rfl
    · simp only [h1, h2, if_false]; rfl
theorem sd_pC_std (g : Int → Int → Int) (w o : Int) : sd_pC g w o = if sd_std w o = 0 then g w o else sd_std w o := by
  unfold sd_pC sd_std
  by_cases h1 : w ≤ 0
  · simp only [h1, if_true]; rfl
  · by_cases h2 : o ≤ 0
    · simp only [h1, h2, if_true, if_false]; rfl
    · simp only [h1, h2, if_false]; rfl
theorem sd_pM_gv (x : sd_M) (l : Nat) (w o : Int) : sd_pM x (sd_gv x l false) w o = sd_pC (sd_gv x (l + 1) true) w o := by
  unfold sd_pM
  rw [show sd_pC (sd_gv x (l + 1) true) w o = (if w ≤ 0 then -1 else if o ≤ 0 then 1 else sd_gv x (l + 1) true w o) from rfl]
  by_cases h1 : w ≤ 0
  · rw [if_pos h1, if_pos h1]
  · by_cases h2 : o ≤ 0
    · rw [if_neg h1, if_neg h1, if_pos h2, if_pos h2]
    · rw [if_neg h1, if_neg h1, if_neg h2, if_neg h2]
      simp only [sd_gv, if_true]
      rw [sd_bh_pC, sd_bh_pC, sd_bh_pC]
theorem sd_pS_free (x : sd_M) (l : Nat) (w o : Int) : sd_pS x (sd_gv x l false) (-1) w o = sd_gv x (l + 2) false w o := by
  unfold sd_pS sd_pA
  rw [if_pos (Or.inl rfl), if_pos (Or.inl rfl), if_pos (Or.inl rfl), sd_pM_gv, sd_pM_gv, sd_pM_gv]
  show _ = sd_gv x (l + 1 + 1) false w o
  rw [sd_gv_max, sd_bh_pC, sd_bh_pC, sd_bh_pC]
theorem sd_pv_free (x : sd_M) (n r : Nat) : sd_pv x (fun _ => -1) n r = sd_gv x (2 * r) false := by
  induction r with
  | zero => funext w o; rfl
  | succ r ih =>
    funext w o
    simp only [sd_pv]
    rw [ih, sd_pS_free]
    rfl
theorem sd_pv_cong {x : sd_M} {pl pl' : Nat → Int} {n : Nat} (r : Nat) (hr : r ≤ n) (h : ∀ q, n - r ≤ q → q < n → pl q = pl' q) : sd_pv x pl n r = sd_pv x pl' n r := by
  induction r with
  | zero => rfl
  | succ r ih =>
    simp only [sd_pv]
    rw [ih (by omega) (fun q a b => h q (by omega) b), h (n - (r + 1)) (Nat.le_refl _) (by omega)]
theorem sd_pS_one {x : sd_M} {g : Int → Int → Int} (hg : ∀ w o, -1 ≤ g w o ∧ g w o ≤ 1) {k : Nat} (hk : k < 3) (w o : Int) : sd_pS x g (k : Int) w o = sd_pM x g (w + x (6520 + k)) (o + x (6526 + k)) := by
  have a := sd_pM_rng (x := x) hg (w + x (6520 + k)) (o + x (6526 + k))
  unfold sd_pS sd_pA
  rcases (show k = 0 ∨ k = 1 ∨ k = 2 by omega) with rfl | rfl | rfl
  · rw [if_pos (by omega), if_neg (by omega), if_neg (by omega)]; omega
  · rw [if_neg (by omega), if_pos (by omega), if_neg (by omega)]; omega
  · rw [if_neg (by omega), if_neg (by omega), if_pos (by omega)]; omega
def sd_pln (k : Int) (q : Nat) : Int := if q = 0 then k else -1
theorem sd_pv_pln (x : sd_M) {n k : Nat} (hk : k < 3) (w o : Int) : sd_pv x (sd_pln k) (n + 1) (n + 1) w o = sd_bh x (sd_gv x (2 * n + 1) true) k w o := by
  have e := sd_pv_cong (x := x) (pl := sd_pln k) (pl' := fun _ => -1) (n := n + 1) n (by omega) (fun q a b => by unfold sd_pln; rw [if_neg (by omega)])
  have h1 : sd_pln (k : Int) (n + 1 - (n + 1)) = (k : Int) := by unfold sd_pln; rw [if_pos (by omega)]
  simp only [sd_pv]
  rw [h1, sd_pS_one (sd_pv_rng x (sd_pln k) (n + 1) n) hk, e, sd_pv_free, sd_pM_gv, sd_bh_pC]
