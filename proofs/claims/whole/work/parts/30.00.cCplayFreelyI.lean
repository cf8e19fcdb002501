theorem cC_playFreelyI (w v n : Int) (x m : sd_M) (hx : sd_ns x m) (h9 : sd_L9 x) (hw : 1 ≤ w ∧ w ≤ 99) (hv : 1 ≤ v ∧ v ≤ 99) (hn : 1 ≤ n ∧ n ≤ 5) : sd_Ct sd_SC 16 sY0_playFreely [.inr 49, .inl w, .inl v, .inl n] m (fun r m' => r = some (.inl (sd_gv x (2 * n.toNat) false w v)) ∧ sd_ns x m') := by
  obtain ⟨i, rfl⟩ := Int.eq_ofNat_of_zero_le (show 0 ≤ n by omega)
  exact sd_ctQ (cC_playFreely w v i x m hx h9 hw hv (by omega)) (fun r m' q => ⟨q.1, q.2.1⟩)
theorem cC_bestFirstI (w v n : Int) (x m : sd_M) (hx : sd_ns x m) (h9 : sd_L9 x) (hw : 1 ≤ w ∧ w ≤ 99) (hv : 1 ≤ v ∧ v ≤ 99) (hn : 1 ≤ n ∧ n ≤ 5) : sd_Ct sd_SC 17 sY0_bestFirstMove [.inr 49, .inl w, .inl v, .inl n] m (fun r m' => r = some (.inl (sd_bst x (2 * n.toNat - 1) w v)) ∧ sd_ns x m') := by
  obtain ⟨i, rfl⟩ := Int.eq_ofNat_of_zero_le (show 0 ≤ n by omega)
  obtain ⟨j, rfl⟩ : ∃ j, i = j + 1 := ⟨i - 1, by omega⟩
  have h := cC_bestFirst w v j x m hx h9 hw hv (by omega)
  rw [show 2 * (((j + 1 : Nat) : Int)).toNat - 1 = 2 * j + 1 from by omega]
  exact h
def sd_pl4 (x : sd_M) (s q : Nat) : Int := x (4200 + ((12 * s) + q))
def sd_pl8 (x : sd_M) (s q : Nat) : Int := x (8200 + 12 * s + q)
theorem sd_fix1 (x : sd_M) (s i r n : Nat) (hn : n = i + 1 + r) (h9 : sd_L9 x) {k : Nat} (hk : k < 3) (e : x (4200 + ((12 * s) + i)) = (k : Int)) (w o : Int) : sd_pv x (sd_pl4 x s) n (r + 1) w o = sd_pM x (sd_pv x (sd_pl4 x s) n r) (w + x (1302 + 2 * k)) (o + x (1302 + 2 * k + 1)) := by
  have h := h9 k (by omega)
  simp only [sd_pv]
  rw [show n - (r + 1) = i from by omega, show sd_pl4 x s i = (k : Int) from e, sd_pS_one (sd_pv_rng x (sd_pl4 x s) n r) hk, h.2.2.1, h.2.2.2]
abbrev sd_bdp (x : sd_M) (s n : Nat) : Prop := ∃ q, q < n ∧ ¬ (0 ≤ sd_pl8 x s q ∧ sd_pl8 x s q ≤ 2)
def sp_judge (x : sd_M) (s w v : Int) : Int × sd_M := if ¬ (0 ≤ s ∧ s ≤ 3) ∨ ¬ ((1 ≤ w ∧ w ≤ 99) ∧ 1 ≤ v ∧ v ≤ 99) then sd_Fd x 0 else if x (4250 + s.toNat) = 0 then sd_Fd x 5 else if ¬ (1 ≤ x (8100 + s.toNat) ∧ x (8100 + s.toNat) ≤ 5) then sd_Fd x 6 else if sd_bdp x s.toNat (x (8100 + s.toNat)).toNat then sd_Fd x 0 else (sd_pv x (sd_pl8 x s.toNat) (x (8100 + s.toNat)).toNat (x (8100 + s.toNat)).toNat w v, x)
