theorem sd_best1 (x m : sd_M) (hx : sd_ns x m) (h9 : sd_L9 x) (n : Nat) (hn : n + 1 ≤ 5) (k : Nat) (hk : k < 3) (h1 : m 5110 = ((n + 1 : Nat) : Int)) (h2 : ∀ q, q < 5 → 0 < q → m (5100 + q) = -1) (h3 : m 5100 = (k : Int)) (w v : Int) (hw : 1 ≤ w ∧ w ≤ 99) (hv : 1 ≤ v ∧ v ≤ 99) : sd_Cp sd_SC 15 sY0_behindSteps [.inr 49, .inl 0, .inl w, .inl v, .inl (-1), .inl 1] m (.inl (sd_bh x (sd_gv x (2 * n + 1) true) k w v)) := by
  rw [← sd_pv_pln x (n := n) (k := k) hk]
  refine cC_gTop x m hx h9 (n + 1) hn (sd_pln k) h1 (fun q hq => ?_) w v hw hv
  unfold sd_pln
  by_cases h0 : q = 0
  · subst h0
    rw [if_pos rfl]
    exact ⟨h3, by omega⟩
  · rw [if_neg h0]
    exact ⟨h2 q (by omega) (by omega), Or.inl rfl⟩
