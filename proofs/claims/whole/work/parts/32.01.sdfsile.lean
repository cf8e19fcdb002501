/-! Terms to sign. -/
def sd_fsi (x : sd_M) (t : Int) (b i : Nat) : Int := if sd_bit t i then x (b + i) else 0
def sd_smi (x : sd_M) (t : Int) (b : Nat) : Int := sd_sum (sd_fsi x t b) (x 2).toNat
abbrev sd_Pt (x : sd_M) (i : Nat) : Prop := x (10 + i) = 6
def sd_trm (x : sd_M) : Int := sd_set (sd_Pt x) (x 2).toNat
abbrev sd_sgd (x : sd_M) (t ask lim : Int) : Prop := ask ≤ sd_smi x t 58 ∧ ask ≤ sd_smi x t 298 ∧ sd_smi x t 34 ≤ lim ∧ sd_smi x t 274 ≤ lim
abbrev sd_der (x : sd_M) (b t : Int) : Prop := 0 < sd_smi x b 34 - sd_smi x t 34 ∨ (sd_smi x b 34 - sd_smi x t 34 = 0 ∧ sd_ones t < sd_ones b)
def sd_sbs (x : sd_M) (S ask lim : Int) : Nat → Int
  | 0 => -1
  | i + 1 => if sd_sgd x (sd_sq S i) ask lim ∧ (sd_sbs x S ask lim i = -1 ∨ sd_der x (sd_sbs x S ask lim i) (sd_sq S i)) then sd_sq S i else sd_sbs x S ask lim i
def sd_sgb (x : sd_M) (S ask lim : Int) : Int := sd_sbs x S ask lim (sd_sqN S)
def sp_sign (x : sd_M) (t ask lim : Int) : Int × sd_M := if ¬ sd_and t (sd_xor (sd_trm x) (-1)) = 0 ∨ ¬ (0 ≤ ask ∧ ask ≤ 999) ∨ ¬ (0 ≤ lim ∧ lim ≤ 999) then sd_Fd x 0 else if 9 < sd_ones t then sd_Fd x 6 else if sd_sgb x t ask lim = -1 then sd_Fd x 3 else (sd_sgb x t ask lim, x)
theorem sd_fsi_le {x : sd_M} (h2 : sd_I2 x) (t : Int) {b : Nat} (hb : b = 34 ∨ b = 58 ∨ b = 274 ∨ b = 298) : ∀ i, i < 24 → 0 ≤ sd_fsi x t b i ∧ sd_fsi x t b i ≤ 99 := by
  intro i hi
  have := h2 i hi
  unfold sd_fsi
  rcases hb with rfl | rfl | rfl | rfl <;> split <;> omega
theorem sd_smi_le {x : sd_M} (h1 : sd_I1 x) (h2 : sd_I2 x) (t : Int) {b : Nat} (hb : b = 34 ∨ b = 58 ∨ b = 274 ∨ b = 298) : 0 ≤ sd_smi x t b ∧ sd_smi x t b ≤ 2376 := by
  have q := h1.2.2.1
  have a := sd_sum_le (f := sd_fsi x t b) (n := (x 2).toNat) (B := 99) (fun i hi => sd_fsi_le h2 t hb i (by omega))
  unfold sd_smi
  omega
theorem sd_sbs_rng {x : sd_M} {S : Int} (h : 0 ≤ S ∧ S < 1073741824) (ask lim : Int) (i : Nat) : -1 ≤ sd_sbs x S ask lim i ∧ sd_sbs x S ask lim i ≤ S := by
  induction i with
  | zero => simp only [sd_sbs]; omega
  | succ i ih =>
    have := sd_sq_rng h i
    simp only [sd_sbs]
    split <;> omega
