def sd_L8 (x : sd_M) : Prop := ∀ i : Nat, i < 6 → (0 ≤ x (6500 + i) ∧ x (6500 + i) ≤ 999) ∧ (0 ≤ x (6506 + i) ∧ x (6506 + i) ≤ x (6500 + i)) ∧ x (1290 + 2 * i) = x (6500 + i) ∧ x (1290 + 2 * i + 1) = x (6506 + i)
def sd_mx (x : sd_M) : Nat → Int
  | 0 => 0
  | n + 1 => max (sd_mx x n) (x (6500 + n) - x (6506 + n))
theorem sd_mx_rng {x : sd_M} (h : sd_L8 x) {n : Nat} (hn : n ≤ 6) : 0 ≤ sd_mx x n ∧ sd_mx x n ≤ 999 := by
  induction n with
  | zero => simp [sd_mx]
  | succ n ih =>
    have a := ih (by omega)
    have b := h n (by omega)
    simp only [sd_mx]
    omega
def sp_want (x : sd_M) (w : Int) : Int × sd_M := if ¬ (0 ≤ w ∧ w ≤ 1) then sd_Fd x 0 else if w = 0 then (sd_mx x 6, x) else (min 4000 (sd_sum (fun i => x (6500 + i)) 6), x)
def sp_work (x : sd_M) (n : Int) : Int × sd_M := if ¬ (0 ≤ n ∧ n ≤ 999999) then sd_Fd x 0 else if 6 ≤ x 4 then sd_Fd x 1 else (x 4, sd_up (sd_up (sd_up (sd_up (sd_up (sd_up (sd_up x 4 (x 4 + 1)) (392 + ((x 4).toNat * 6 + 5)) (n % 10)) (392 + ((x 4).toNat * 6 + 4)) (n / 10 % 10)) (392 + ((x 4).toNat * 6 + 3)) (n / 10 / 10 % 10)) (392 + ((x 4).toNat * 6 + 2)) (n / 10 / 10 / 10 % 10)) (392 + ((x 4).toNat * 6 + 1)) (n / 10 / 10 / 10 / 10 % 10)) (392 + (x 4).toNat * 6) (n / 10 / 10 / 10 / 10 / 10 % 10))
def sd_fdm (x : sd_M) (v n : Int) : sd_M := fun j => if 4000 + (x 4100).toNat ≤ j ∧ j < 4000 + (x 4100).toNat + n.toNat then sd_and (sd_shr v (8 * (n - 1 - ((j : Int) - 4000 - x 4100)))) 255 else if j = 4100 then x 4100 + n else x j
def sp_feed (x : sd_M) (v n : Int) : Int × sd_M := if ¬ (1 ≤ n ∧ n ≤ 4) then sd_Fd x 0 else if 100 < x 4100 + n then sd_Fd x 1 else (x 4100 + n, sd_fdm x v n)
def sd_fil (x : sd_M) (b n : Nat) (v : Int) : sd_M := fun j => if b ≤ j ∧ j < b + n then v else x j
theorem sd_fil_0 (x : sd_M) (b : Nat) (v : Int) : sd_fil x b 0 v = x := by
  funext j
  unfold sd_fil
  rw [if_neg (by omega)]
theorem sd_fil_s (x : sd_M) (b n : Nat) (v : Int) : sd_up (sd_fil x b n v) (b + n) v = sd_fil x b (n + 1) v := by
  funext j
  unfold sd_up sd_fil
  by_cases h : j = b + n
  · rw [if_pos h, if_pos (by omega)]
  · rw [if_neg h]
    by_cases h2 : b ≤ j ∧ j < b + n
    · rw [if_pos h2, if_pos (by omega)]
    · rw [if_neg h2, if_neg (by omega)]
set_option maxRecDepth 100000 in
set_option maxHeartbeats 4000000 in
theorem cC_fill {k b nn : Nat} (hg : sd_ga sd_SC k b nn) (hn : nn ≤ 2000) (v : Int) (m : sd_M) : sd_Ct sd_SC 0 sY10_fill [.inr k, .inl v] m (fun r m' => r = none ∧ m' = sd_fil m b nn v) := by
  refine sd_ct rfl (Nat.le_of_ble_eq_true rfl) (fun hok hm => ?_)
  show sd_Wp sd_SC 0 sY10_fill 0 [some (.inr k), some (.inl v), none] [] m _
  refine sd_iconst sD10_fill_0 (by decide) ?_
  refine sd_istore_n (ls' := [some (.inr k), some (.inl v), some (.inl 0)]) sD10_fill_1 (by decide) rfl ?_
  refine sd_eqw (m' := sd_fil m b 0 v) (ls' := [some (.inr k), some (.inl v), some (.inl ((0 : Nat) : Int))]) ?_ rfl (sd_fil_0 m b v).symm
  refine sd_for nn (fun i => [some (.inr k), some (.inl v), some (.inl (i : Int))]) (fun i => sd_fil m b i v) (fun i hi ih => ?_) ?_
  · refine sd_iload_n sD10_fill_2 rfl ?_
    refine sd_aload_n sD10_fill_3 rfl ?_
    refine sd_alen sD10_fill_4 hg (by omega) ?_
    refine sd_icmp_ge (tgt := 18) sD10_fill_5 (by decide) (fun zc5 => (by exfalso; omega)) (fun zc5 => ?_)
    refine sd_aload_n sD10_fill_8 rfl ?_
    refine sd_iload_n sD10_fill_9 rfl ?_
    refine sd_iload_n sD10_fill_10 rfl ?_
    refine sd_iast (a := b + i) sd_sokC sD10_fill_11 hg (by omega) ?_
    refine sd_iinc (y := ((i + 1 : Nat) : Int)) (ls' := [some (.inr k), some (.inl v), some (.inl ((i + 1 : Nat) : Int))]) sD10_fill_12 rfl (by omega) (by omega) (by decide) rfl ?_
    refine sd_goto (tgt := 2) sD10_fill_15 (by decide) ?_
    rw [sd_fil_s]
    exact ih
  · refine sd_iload_n sD10_fill_2 rfl ?_
    refine sd_aload_n sD10_fill_3 rfl ?_
    refine sd_alen sD10_fill_4 hg (by omega) ?_
    refine sd_icmp_ge (tgt := 18) sD10_fill_5 (by decide) (fun zc5 => ?_) (fun zc5 => (by exfalso; omega))
    refine sd_vreturn sD10_fill_18 rfl (fun hm => ?_)
    exact ⟨rfl, rfl⟩
theorem sd_ns.fil {x m : sd_M} (h : sd_ns x m) (b n : Nat) (v : Int) : sd_ns (sd_fil x b n v) (sd_fil m b n v) := by
  intro j hj
  unfold sd_fil
  split
  · rfl
  · exact h j hj
theorem sd_ns.filc {x m : sd_M} (h : sd_ns x m) {b n : Nat} (hb : 5000 ≤ b ∧ b + n ≤ 6000) (v : Int) : sd_ns x (sd_fil m b n v) := by
  intro j hj
  unfold sd_fil
  rw [if_neg (by omega)]
  exact h j hj
