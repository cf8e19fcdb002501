theorem sd_sc_step {m m' : sd_M} {b i : Nat} {v : Int} {f : Nat → Int} (hp : ∀ q, q < i → m (b + q) = f q) (em : m' = sd_up m (b + i) v) (hv : v = f i) : ∀ q, q < i + 1 → m' (b + q) = f q := by
  intro q hq
  rw [em]
  unfold sd_up
  by_cases he : q = i
  · subst he; rw [if_pos rfl, hv]
  · rw [if_neg (by omega)]; exact hp q (by omega)
def sp_cpy (mo : Bool) (x : sd_M) (s f t g n : Int) : Int × sd_M := if ¬ (0 ≤ s ∧ s ≤ 3) ∨ ¬ (0 ≤ t ∧ t ≤ 3) then sd_Fd x 0 else if x (4250 + s.toNat) = 0 ∨ x (4250 + t.toNat) = 0 then sd_Fd x 5 else if ¬ x (4250 + s.toNat) = x (4250 + t.toNat) then sd_Fd x 2 else if ¬ (0 ≤ f ∧ 0 ≤ n ∧ f ≤ x (8100 + s.toNat) ∧ n ≤ x (8100 + s.toNat) - f) ∨ ¬ (0 ≤ g ∧ 0 ≤ n ∧ g ≤ x (8100 + t.toNat) ∧ n ≤ x (8100 + t.toNat) - g) then sd_Fd x 0 else (n, if mo then sd_cpm x (4200 + (12 * s.toNat + f.toNat)) (4200 + (12 * t.toNat + g.toNat)) n.toNat else sd_cpm x (8200 + 12 * s.toNat + f.toNat) (8200 + 12 * t.toNat + g.toNat) n.toNat)
def spC_copy (x : sd_M) (s f t g n : Int) : Int × sd_M := sp_cpy false x s f t g n
def spM_copy (x : sd_M) (s f t g n : Int) : Int × sd_M := sp_cpy true x s f t g n
abbrev sd_Pq (x : sd_M) (s d : Nat) (i : Nat) : Prop := ¬ x (8200 + 12 * s + i) = x (1314 + (6 * d + i))
def sd_fck (x : sd_M) (s d : Nat) : Int := if sd_fst (sd_Pq x s d) 6 = -1 then 6 else sd_fst (sd_Pq x s d) 6
def sp_check (x : sd_M) (d s : Int) : Int × sd_M := if ¬ (0 ≤ d ∧ d ≤ 39) ∨ ¬ (0 ≤ s ∧ s ≤ 3) then sd_Fd x 0 else if ¬ d < x 0 / 24 then sd_Fd x 3 else if x (4250 + s.toNat) = 0 then sd_Fd x 5 else if ¬ x (8100 + s.toNat) = 6 then sd_Fd x 6 else (sd_fck x s.toNat d.toNat, x)
theorem sd_fck_at {x : sd_M} {s d k : Nat} (h : ∀ j, j < k → ¬ sd_Pq x s d j) (hp : sd_Pq x s d k) (hk : k < 6) : sd_fck x s d = (k : Int) := by
  unfold sd_fck
  rw [sd_fst_at (P := sd_Pq x s d) h hp hk, if_neg (by omega)]
theorem sd_fck_none {x : sd_M} {s d : Nat} (h : ∀ j, j < 6 → ¬ sd_Pq x s d j) : sd_fck x s d = 6 := by
  unfold sd_fck
  rw [sd_fst_none (P := sd_Pq x s d) h]
  rfl
