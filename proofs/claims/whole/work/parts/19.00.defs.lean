def sp_tear (x : sd_M) : Int × sd_M := (x 4260, sd_up x 4260 0)
def sp_status (x : sd_M) (w : Int) : Int × sd_M := if 0 ≤ w ∧ w ≤ 6 then (x (4101 + w.toNat), x) else if w = -1 then (sd_sum (fun i => x (4101 + i)) 7, x) else (-1000001, x)
def sp_book (x : sd_M) (d w : Int) : Int × sd_M := if ¬ (0 ≤ w ∧ w ≤ 5) ∨ ¬ (0 ≤ d ∧ d ≤ 39) then sd_Fd x 0 else if d < x 0 / 24 then (x (1314 + (6 * d.toNat + w.toNat)), x) else sd_Fd x 3
def sp_go (x : sd_M) (i h : Int) : Int × sd_M := if ¬ sd_isM x i ∨ ¬ sd_isH x h then sd_Fd x 0 else if ¬ sd_isA x h 1 then sd_Fd x 2 else if x (322 + i.toNat) = -1 then sd_Fd x 4 else if ¬ sd_bit (sd_rch x (sd_shl 1 (x (322 + i.toNat))) 8) h then sd_Fd x 3 else (sd_b (¬ x (322 + i.toNat) = h), sd_up x (322 + i.toNat) h)
def sd_wit (x : sd_M) (s : Int) : Nat → Int
  | 0 => x (82 + s.toNat)
  | k + 1 => sd_wth x s (sd_wit x s k)
abbrev sd_Pc_ (x : sd_M) (s v : Int) (k : Nat) : Prop := sd_wit x s (k + 1) ≤ v
def sd_fc (x : sd_M) (s v : Int) : Int := if sd_fst (sd_Pc_ x s v) 100 = -1 then -1 else x 0 + sd_fst (sd_Pc_ x s v) 100
def sp_cold (x : sd_M) (h v : Int) : Int × sd_M := if ¬ (0 ≤ v ∧ v ≤ 20) ∨ ¬ sd_isH x h then sd_Fd x 0 else if ¬ sd_isA x h 1 then sd_Fd x 2 else if sd_fc x h v = -1 then sd_Fd x 3 else (sd_fc x h v, x)
theorem sd_wth_rng {x : sd_M} (h1 : sd_I1 x) (s : Int) {w : Int} (hw : 0 ≤ w ∧ w ≤ 20) : 0 ≤ sd_wth x s w ∧ sd_wth x s w ≤ 20 := by
  have b := h1.2.1
  unfold sd_wth
  split
  · omega
  · split
    · omega
    · split <;> omega
theorem sd_wit_rng {x : sd_M} (h1 : sd_I1 x) (h2 : sd_I2 x) {s : Int} (hs : 0 ≤ s ∧ s < 24) (k : Nat) : 0 ≤ sd_wit x s k ∧ sd_wit x s k ≤ 20 := by
  induction k with
  | zero =>
    have := (h2 s.toNat (by omega)).2.2.2.1
    exact this
  | succ k ih => exact sd_wth_rng h1 s ih
def sd_los (x : sd_M) (s hg ow tm : Int) : Int := sd_b (12 ≤ hg) + sd_b (x (82 + s.toNat) < 5) + 2 * x (106 + s.toNat) + sd_b (tm = 0 ∧ 50 ≤ ow)
def sd_hg (x : sd_M) (i : Nat) : Nat → Int
  | 0 => x (370 + i)
  | k + 1 => min 99 (sd_hg x i k + 1)
def sd_wl (x : sd_M) (i : Nat) : Nat → Int
  | 0 => x (338 + i)
  | k + 1 => max 0 (sd_wl x i k - sd_los x (x (322 + i)) (sd_hg x i (k + 1)) (x (354 + i)) ((x 0 + k) % 24))
abbrev sd_Pl (x : sd_M) (i : Nat) (k : Nat) : Prop := sd_wl x i (k + 1) < x (354 + i) / 10
def sd_fv (x : sd_M) (i : Nat) : Int := if sd_fst (sd_Pl x i) 100 = -1 then -1 else x 0 + sd_fst (sd_Pl x i) 100
def sp_stay (x : sd_M) (i : Int) : Int × sd_M := if ¬ sd_isM x i then sd_Fd x 0 else if x (322 + i.toNat) = -1 then sd_Fd x 4 else if sd_fv x i.toNat = -1 then sd_Fd x 3 else (sd_fv x i.toNat, x)
theorem sd_los_rng {x : sd_M} (h2 : sd_I2 x) {s hg ow tm : Int} (hs : 0 ≤ s ∧ s < 24) : 0 ≤ sd_los x s hg ow tm ∧ sd_los x s hg ow tm ≤ 5 := by
  have e := (h2 s.toNat (by omega)).2.2.2.2.1
  have a1 := sd_b01 (12 ≤ hg)
  have a2 := sd_b01 (x (82 + s.toNat) < 5)
  have a3 := sd_b01 (tm = 0 ∧ 50 ≤ ow)
  unfold sd_los
  omega
theorem sd_hg_rng {x : sd_M} (h4 : sd_I4 x) {i : Nat} (hi : i < 16) (k : Nat) : 0 ≤ sd_hg x i k ∧ sd_hg x i k ≤ 99 := by
  induction k with
  | zero => exact (h4 i hi).2.2.2.1
  | succ k ih => simp only [sd_hg]; omega
theorem sd_wl_rng {x : sd_M} (h2 : sd_I2 x) (h4 : sd_I4 x) {i : Nat} (hi : i < 16) (hs : 0 ≤ x (322 + i)) (k : Nat) : 0 ≤ sd_wl x i k ∧ sd_wl x i k ≤ 99 := by
  induction k with
  | zero => exact (h4 i hi).2.1
  | succ k ih =>
    have a := sd_los_rng h2 (s := x (322 + i)) (hg := sd_hg x i (k + 1)) (ow := x (354 + i)) (tm := (x 0 + k) % 24) (by have := (h4 i hi).1; omega)
    simp only [sd_wl]; omega
theorem sd_and1 (a : Int) : sd_and a 1 = 0 ∨ sd_and a 1 = 1 := by
  by_cases h : sd_tb_ a 0 = true
  · right
    refine sd_ext (sd_R_and _ _) ⟨by omega, by omega⟩ (fun j hj => ?_)
    rw [sd_tb_and, sd_tb_one]
    by_cases hj0 : j = 0
    · subst hj0; rw [h]; rfl
    · simp [hj0]
  · left
    refine sd_ext (sd_R_and _ _) sd_r0 (fun j hj => ?_)
    rw [sd_tb_and, sd_tb_one, sd_tb_zero]
    by_cases hj0 : j = 0
    · subst hj0; simp at h; rw [h]; rfl
    · simp [hj0]
abbrev sd_Pu (x : sd_M) (i : Nat) : Prop := x (10 + i) = 6 ∧ ((¬ x (274 + i) = x (34 + i)) ∨ ¬ x (298 + i) = x (58 + i))
def sd_set (P : Nat → Prop) [DecidablePred P] : Nat → Int
  | 0 => 0
  | n + 1 => if P n then sd_or (sd_set P n) (sd_shl 1 n) else sd_set P n
theorem sd_setR (P : Nat → Prop) [DecidablePred P] (n : Nat) : sd_R (sd_set P n) := by
  induction n with
  | zero => exact sd_r0
  | succ n ih =>
    simp only [sd_set]
    split
    · exact sd_R_or _ _
    · exact ih
def sp_unlike (x : sd_M) : Int × sd_M := (sd_set (sd_Pu x) (x 2).toNat, x)
