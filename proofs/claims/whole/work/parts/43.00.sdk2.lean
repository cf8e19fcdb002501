/-! The reading of the reference. -/
def sd_RS (m : sd_M) (fr : Int) (n p : Nat) (ft : Int) : Prop := m 5490 = fr ∧ m 5491 = (n : Int) ∧ m 5492 = (p : Int) ∧ m 5493 = ft
def sd_RB (x : sd_M) (fr : Int) (B : Nat → Int) (n : Nat) : Prop := n ≤ 100 ∧ (∀ q, n ≤ q → B q = -1) ∧ ((fr = -1 ∧ ∀ q, q < n → x (4000 + q) = B q) ∨ ∃ f : Nat, fr = (f : Int) ∧ f + 100 ≤ 1554 ∧ ∀ q, q < n → x (f + q) = B q)
def sd_k2 (m m' : sd_M) : Prop := ∀ j, ¬ j = 5492 → ¬ j = 5493 → m' j = m j
theorem sd_k2.rf {m : sd_M} : sd_k2 m m := fun _ _ _ => rfl
theorem sd_k2.tr {m m1 m2 : sd_M} (h : sd_k2 m m1) (h' : sd_k2 m1 m2) : sd_k2 m m2 := fun j a b => (h' j a b).trans (h j a b)
theorem sd_k2.up {m m' : sd_M} {a : Nat} {v : Int} (e : m' = sd_up m a v) (h : a = 5492 ∨ a = 5493) : sd_k2 m m' := fun j a1 b1 => by rw [e, sd_up_ne (by omega)]
theorem sd_k2.ns {x m m' : sd_M} (h : sd_k2 m m') (hx : sd_ns x m) : sd_ns x m' := fun j hj => (h j (by omega) (by omega)).trans (hx j hj)
theorem sd_RB.in {x : sd_M} {fr : Int} {B : Nat → Int} {n : Nat} (h : sd_RB x fr B n) {p : Nat} (hb : ¬ B p = -1) : p < n := by
  rcases Nat.lt_or_ge p n with q | q
  · exact q
  · exact absurd (h.2.1 p q) hb
def sd_lts : List Int := [109, 97, 121, 0, 98, 97, 114, 0, 108, 101, 97, 118, 101, 0, 112, 97, 115, 115, 0, 116, 97, 107, 101, 0, 109, 97, 107, 101, 0, 119, 104, 101, 110, 0, 100, 97, 121, 0, 104, 111, 117, 114, 0, 109, 101, 110, 0, 119, 97, 114, 109, 0]
def sd_LT (x : sd_M) : Prop := ∀ k : Nat, k < 52 → x (8000 + k) = sd_lts.getD k 0
def sd_lw (k : Nat) : Int := ((sd_lts.take k).count 0 : Nat)
abbrev sd_bgn (k : Nat) : Prop := k = 0 ∨ sd_lts.getD (k - 1) 0 = 0
def sd_wis (b lo hi : Int) : Nat → Int × Int
  | 0 => (-1, -1)
  | k + 1 => if sd_bgn k ∧ (lo ≤ sd_lw k ∧ sd_lw k ≤ hi) ∧ sd_lts.getD k 0 = b then (sd_lw k, (k : Int)) else sd_wis b lo hi k
theorem sd_lw_f : ∀ k : Fin 52, sd_lw (k.val + 1) = sd_lw k.val + sd_b (sd_lts.getD k.val 0 = 0) ∧ 0 ≤ sd_lw k.val ∧ sd_lw k.val ≤ 11 := by decide +kernel
theorem sd_wis_none {b lo hi : Int} (h : ∀ k : Nat, k < 52 → sd_bgn k → (lo ≤ sd_lw k ∧ sd_lw k ≤ hi) → ¬ sd_lts.getD k 0 = b) : ∀ n : Nat, n ≤ 52 → sd_wis b lo hi n = (-1, -1) := by
  intro n
  induction n with
  | zero => intro _; rfl
  | succ n ih =>
    intro hn
    simp only [sd_wis]
    rw [if_neg (fun q => h n (by omega) q.1 q.2.1 q.2.2), ih (by omega)]
