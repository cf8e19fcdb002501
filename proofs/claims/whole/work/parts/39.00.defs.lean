def sd_roP (n : Nat) (z : Nat ⊕ (Nat × Nat)) (r : Option sd_V) (m' : sd_M) : Prop := (∃ q, z = .inl q ∧ r = some (.inl (-1)) ∧ m' 5390 = (q : Int) ∧ q ≤ n) ∨ (∃ j q, z = .inr (j, q) ∧ r = some (.inl (j : Int)) ∧ m' 5390 = (q : Int) ∧ q ≤ n ∧ j < 4)
theorem sd_dn_at {B : Nat → Int} {p k : Nat} (h : ∀ j, j < k → sd_dg (B (p + j))) (hk : k = 3 ∨ (k < 3 ∧ ¬ sd_dg (B (p + k)))) : sd_dn B p = k := by
  unfold sd_dn
  rcases (show k = 0 ∨ k = 1 ∨ k = 2 ∨ k = 3 by omega) with rfl | rfl | rfl | rfl
  · rw [if_pos (by rcases hk with q | q; omega; exact q.2)]
  · rw [if_neg (fun q => q (h 0 (by omega))), if_pos (by rcases hk with q | q; omega; exact q.2)]
  · rw [if_neg (fun q => q (h 0 (by omega))), if_neg (fun q => q (h 1 (by omega))), if_pos (by rcases hk with q | q; omega; exact q.2)]
  · rw [if_neg (fun q => q (h 0 (by omega))), if_neg (fun q => q (h 1 (by omega))), if_neg (fun q => q (h 2 (by omega)))]
theorem sd_nv_rng {B : Nat → Int} {p k : Nat} (h : ∀ j, j < k → sd_dg (B (p + j))) (hk : k ≤ 3) : (k = 0 ∧ sd_nv B p k = -1) ∨ (0 < k ∧ 0 ≤ sd_nv B p k ∧ sd_nv B p k ≤ 999 ∧ (k ≤ 1 → sd_nv B p k ≤ 9) ∧ (k ≤ 2 → sd_nv B p k ≤ 99)) := by
  rcases (show k = 0 ∨ k = 1 ∨ k = 2 ∨ k = 3 by omega) with rfl | rfl | rfl | rfl
  · left; exact ⟨rfl, rfl⟩
  · right
    have a := h 0 (by omega)
    simp only [sd_nv]
    omega
  · right
    have a := h 0 (by omega)
    have b := h 1 (by omega)
    simp only [sd_nv]
    omega
  · right
    have a := h 0 (by omega)
    have b := h 1 (by omega)
    have c := h 2 (by omega)
    simp only [sd_nv]
    omega
abbrev sd_o3 (x X : sd_M) (i : Nat) : Prop := ∀ j, ¬ j = 6140 + i → ¬ j = 6260 + i → ¬ j = 6380 + i → X j = x j
theorem sd_up_ne {x : sd_M} {a j : Nat} {v : Int} (h : ¬ j = a) : sd_up x a v j = x j := by
  unfold sd_up
  rw [if_neg h]
theorem sd_up_eq {x : sd_M} {a : Nat} {v : Int} : sd_up x a v a = v := by
  unfold sd_up
  rw [if_pos rfl]
theorem sd_rT_keep {X X' : sd_M} {i i' : Nat} {t : Nat × Nat × Int} (h : sd_rT X i t) (ho : sd_o3 X X' i') (hne : ¬ i = i') (hi : i < 120 ∧ i' < 120) : sd_rT X' i t := by
  obtain ⟨a, b, c⟩ := h
  exact ⟨by rw [ho _ (by omega) (by omega) (by omega)]; exact a, by rw [ho _ (by omega) (by omega) (by omega)]; exact b, by rw [ho _ (by omega) (by omega) (by omega)]; exact c⟩
theorem sd_rT_up {X : sd_M} {i a : Nat} {v : Int} {t : Nat × Nat × Int} (h : sd_rT X i t) (ha : a < 6140 ∨ 6500 ≤ a) (hi : i < 120) : sd_rT (sd_up X a v) i t := by
  obtain ⟨q, b, c⟩ := h
  exact ⟨by rw [sd_up_ne (by omega)]; exact q, by rw [sd_up_ne (by omega)]; exact b, by rw [sd_up_ne (by omega)]; exact c⟩
def sd_tsP (B : Nat → Int) (n p i : Nat) (x : sd_M) (r : Option sd_V) (m' : sd_M) : Prop := ∃ X, sd_ns X m' ∧ sd_o3 x X i ∧ ((∃ q, sd_ts B p = .inl q ∧ r = some (.inl 0) ∧ m' 5390 = (q : Int) ∧ q ≤ n) ∨ (∃ t q, sd_ts B p = .inr (t, q) ∧ r = some (.inl 1) ∧ m' 5390 = (q : Int) ∧ q ≤ n ∧ sd_rT X i t))
def sd_ttP (B : Nat → Int) (n p c : Nat) (x : sd_M) (r : Option sd_V) (m' : sd_M) : Prop := ∃ X, sd_ns X m' ∧ (∀ j, ¬ j = 6100 + c → ¬ (6140 + 3 * c ≤ j ∧ j < 6143 + 3 * c) → ¬ (6260 + 3 * c ≤ j ∧ j < 6263 + 3 * c) → ¬ (6380 + 3 * c ≤ j ∧ j < 6383 + 3 * c) → X j = x j) ∧ ((∃ q, sd_tt B 3 p = .inl q ∧ r = some (.inl 0) ∧ m' 5390 = (q : Int) ∧ q ≤ n) ∨ (∃ ts q, sd_tt B 3 p = .inr (ts, q) ∧ r = some (.inl 1) ∧ m' 5390 = (q : Int) ∧ q ≤ n ∧ X (6100 + c) = (ts.length : Int) ∧ ∀ (k : Nat) (t : Nat × Nat × Int), ts[k]? = some t → sd_rT X (3 * c + k) t))
def sd_wdP (B : Nat → Int) (n p c : Nat) (x : sd_M) (r : Option sd_V) (m' : sd_M) : Prop := ∃ X, sd_ns X m' ∧ (∀ j, ¬ j = 6020 + c → ¬ j = 6060 + c → ¬ j = 6100 + c → X j = x j) ∧ ((∃ q, sd_wd B p = .inl q ∧ r = some (.inl 0) ∧ m' 5390 = (q : Int) ∧ q ≤ n) ∨ (∃ sw q, sd_wd B p = .inr (sw, q) ∧ r = some (.inl 1) ∧ m' 5390 = (q : Int) ∧ q ≤ n ∧ X (6020 + c) = (sw.1 : Int) ∧ X (6060 + c) = (sw.2 : Int) ∧ X (6100 + c) = 0))
