theorem cM_rdAll (fr : Int) (B : Nat → Int) (n : Nat) (x : sd_M) (hB : sd_RB x fr B n) (hL : sd_LT x) (f : Nat → Int) (w pl mn : Int) (m0 : sd_M) (Q : Option sd_V → sd_M → Prop) : ∀ (k c : Nat), c + 1 + k = 5 → ∀ (g b : Int) (m : sd_M) (p : Nat), sd_ns x m → sd_RS m fr n p (-1) → p ≤ n → sd_k6 m0 m → (∀ i, i < 4 → m (5504 + i) = f i) → m 5510 = g → m 5511 = b → -1 ≤ g → (∀ r m', sd_rdP f w B n (k + 1) c p g b m0 r m' → Q r m') → sd_Wp sd_SM 4 sY11_reads 31 [some (.inr 15), some (.inl pl), some (.inl mn), some (.inl w), some (.inl 1), some (.inl (c : Int)), none, none, none, none, none, none, none] [] m Q := by
  intro k
  induction k with
  | zero =>
    intro c hc g b m p a1 a2 a3 a4 a5 a6 a7 a8 a9
    exact cM_rdStep fr B n x hB hL f w pl mn m0 Q 0 c hc (fun h => by omega) g b m p a1 a2 a3 a4 a5 a6 a7 a8 a9
  | succ k ih =>
    intro c hc g b m p a1 a2 a3 a4 a5 a6 a7 a8 a9
    exact cM_rdStep fr B n x hB hL f w pl mn m0 Q (k + 1) c hc (fun _ => ih (c + 1) (by omega)) g b m p a1 a2 a3 a4 a5 a6 a7 a8 a9
