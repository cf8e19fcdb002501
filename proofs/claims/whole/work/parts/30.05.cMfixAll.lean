theorem cM_fixAll (s n : Nat) (hs : s < 4) (hn5 : n ≤ 5) (x m : sd_M) (hx : sd_ns x m) (h9 : sd_L9 x) (hz : x (4254 + s) = (n : Int)) (hk : ∀ q, q < n → 0 ≤ x (4200 + ((12 * s) + q)) ∧ x (4200 + ((12 * s) + q)) ≤ 2) : ∀ r i : Nat, n = i + 1 + r → ∀ w o : Int, (-900 + 18 * (r : Int) + 18 ≤ w ∧ w ≤ 900 - 18 * (r : Int) - 18) → (-900 + 18 * (r : Int) + 18 ≤ o ∧ o ≤ 900 - 18 * (r : Int) - 18) →
    sd_Cp sd_SM (r + 1) sY11_fixed [.inr 15, .inl (s : Int), .inl (i : Int), .inl w, .inl o] m (.inl (sd_pv x (sd_pl4 x s) n (r + 1) w o)) := by
  intro r
  induction r with
  | zero =>
    intro i hn w o hw ho
    exact cM_fix s i 0 n hs hn hn5 w o x m hx h9 hz (hk i (by omega)) hw ho (fun h => by omega)
  | succ r ih =>
    intro i hn w o hw ho
    refine cM_fix s i (r + 1) n hs hn hn5 w o x m hx h9 hz (hk i (by omega)) hw ho (fun _ w o hw ho => ?_)
    exact ih (i + 1) (by omega) w o (by omega) (by omega)
theorem cM_fixTop (s : Int) (n : Nat) (hs : 0 ≤ s ∧ s ≤ 3) (hn : 1 ≤ n ∧ n ≤ 5) (x m : sd_M) (hx : sd_ns x m) (h9 : sd_L9 x) (hz : x (4254 + s.toNat) = (n : Int)) (hi : ∀ q, q < 12 → x (4200 + ((12 * s.toNat) + q)) = x (8200 + 12 * s.toNat + q)) (hk : ∀ q, q < n → 0 ≤ sd_pl8 x s.toNat q ∧ sd_pl8 x s.toNat q ≤ 2) (w o : Int) (hw : 1 ≤ w ∧ w ≤ 99) (ho : 1 ≤ o ∧ o ≤ 99) :
    sd_Cp sd_SM 5 sY11_fixed [.inr 15, .inl s, .inl 0, .inl w, .inl o] m (.inl (sd_pv x (sd_pl8 x s.toNat) n n w o)) := by
  obtain ⟨i, rfl⟩ := Int.eq_ofNat_of_zero_le hs.1
  obtain ⟨r, rfl⟩ : ∃ r, n = r + 1 := ⟨n - 1, by omega⟩
  simp only [Int.toNat_natCast] at hz hi hk ⊢
  rw [← sd_pv_cong (x := x) (pl := sd_pl4 x i) (pl' := sd_pl8 x i) (n := r + 1) (r + 1) (Nat.le_refl _) (fun q _ hq => hi q (by omega))]
  exact sd_ctmono (n' := r + 1) (by omega) (cM_fixAll i (r + 1) (by omega) (by omega) x m hx h9 hz (fun q hq => by rw [hi q (by omega)]; exact hk q hq) r 0 (by omega) w o (by omega) (by omega))
