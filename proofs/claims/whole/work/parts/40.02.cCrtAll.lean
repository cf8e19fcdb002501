theorem cC_rtAll (B : Nat → Int) (n t : Nat) (ht : t < 8) (Q : Option sd_V → sd_M → Prop) : ∀ (k c : Nat), c + 1 + k = 5 → ∀ (x m : sd_M) (p : Nat), sd_ns x m → sd_TB x B n → m 5390 = (p : Int) → p ≤ n → x 5 = (t : Int) → (∀ r m', sd_Qt B n t c (k + 1) p x r m' → Q r m') → sd_Wp sd_SC 8 sY7_readText 34 [some (.inr 118), some (.inr 36), some (.inl (c : Int)), some (.inl ((5 * t + c : Nat) : Int))] [] m Q := by
  intro k
  induction k with
  | zero =>
    intro c hc x m p a b d e f g
    exact cC_rtStep B n t c 0 ht hc Q x m p a b d e f g (fun h => by omega)
  | succ k ih =>
    intro c hc x m p a b d e f g
    exact cC_rtStep B n t c (k + 1) ht hc Q x m p a b d e f g (fun _ => ih (c + 1) (by omega))
