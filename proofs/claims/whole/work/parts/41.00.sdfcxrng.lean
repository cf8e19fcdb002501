/-! Which clause says it, by the class's rows. -/
def sd_IR (x : sd_M) : Prop := ∀ t : Nat, (t : Int) < x 5 → (0 ≤ x (6010 + t) ∧ x (6010 + t) ≤ 5) ∧ ∀ c : Nat, (c : Int) < x (6010 + t) → (0 ≤ x (6100 + (5 * t + c)) ∧ x (6100 + (5 * t + c)) ≤ 3) ∧ (x (6020 + (5 * t + c)) = 0 ∨ x (6020 + (5 * t + c)) = 1) ∧ ∀ k : Nat, (k : Int) < x (6100 + (5 * t + c)) → (0 ≤ x (6140 + (3 * (5 * t + c) + k)) ∧ x (6140 + (3 * (5 * t + c) + k)) ≤ 3) ∧ (-1 ≤ x (6260 + (3 * (5 * t + c) + k)) ∧ x (6260 + (3 * (5 * t + c) + k)) ≤ 2) ∧ (0 ≤ x (6380 + (3 * (5 * t + c) + k)) ∧ x (6380 + (3 * (5 * t + c) + k)) ≤ 999)
def sd_sg (d : Int) : Int := if d = 0 then 0 else if d < 0 then -1 else 1
abbrev sd_Pso (x : sd_M) (f : Nat → Int) (c k : Nat) : Prop := sd_sg (f (x (6140 + (3 * c + k))).toNat - x (6380 + (3 * c + k))) = x (6260 + (3 * c + k))
abbrev sd_so (x : sd_M) (f : Nat → Int) (c : Nat) : Prop := ∀ k, k < (x (6100 + c)).toNat → sd_Pso x f c k
abbrev sd_Pcl (x : sd_M) (f : Nat → Int) (w : Int) (t c : Nat) : Prop := x (6060 + (5 * t + c)) = w ∧ sd_so x f (5 * t + c)
def sd_fcx (x : sd_M) (f : Nat → Int) (w : Int) (t : Nat) : Int := sd_fst (sd_Pcl x f w t) (x (6010 + t)).toNat
def sd_clf (x : sd_M) (f : Nat → Int) (w : Int) : Nat → Int
  | 0 => -1
  | t + 1 => if sd_inF x t (x 0) ∧ ¬ sd_fcx x f w t = -1 then 5 * (t : Int) + sd_fcx x f w t else sd_clf x f w t
def sd_fct (x : sd_M) (h : Int) (i : Nat) : Int := if i = 0 then x 0 / 24 else if i = 1 then x 0 % 24 else if i = 2 then sd_inS x (sd_shl 1 h) else x (82 + h.toNat)
def sd_clx (x : sd_M) (w h : Int) : Int := sd_clf x (sd_fct x h) w (x 5).toNat
abbrev sd_brs (x : sd_M) (c : Int) : Prop := ¬ c = -1 ∧ x (6020 + c.toNat) = 1
abbrev sd_mk (x : sd_M) (h : Int) : Prop := x (10 + h.toNat) = 1 ∧ x (130 + h.toNat) = 1 ∧ x (106 + h.toNat) = 0 ∧ sd_inS x (sd_shl 1 h) = 0 ∧ ¬ sd_brs x (sd_clx x 3 h)
def sd_aft (x : sd_M) (t : Nat) : Int := if sd_inF x t (x 0) then x (6010 + t) else 0
theorem sd_fcx_rng (x : sd_M) (f : Nat → Int) (w : Int) (t : Nat) : sd_fcx x f w t = -1 ∨ (0 ≤ sd_fcx x f w t ∧ sd_fcx x f w t < ((x (6010 + t)).toNat : Int)) := by
  rcases sd_fst_rng (sd_Pcl x f w t) (x (6010 + t)).toNat with h | h
  · exact Or.inl h
  · exact Or.inr ⟨h.1, h.2.1⟩
theorem sd_clf_rng {x : sd_M} (hR : sd_IR x) (f : Nat → Int) (w : Int) : ∀ n : Nat, (n : Int) ≤ x 5 → -1 ≤ sd_clf x f w n ∧ sd_clf x f w n < 5 * (n : Int) := by
  intro n
  induction n with
  | zero => intro _; simp only [sd_clf]; omega
  | succ n ih =>
    intro hn
    have i := ih (by omega)
    have r := (hR n (by omega)).1
    have q := sd_fcx_rng x f w n
    simp only [sd_clf]
    split
    · rename_i hc
      have := hc.2
      omega
    · omega
theorem sd_clx_rng {x : sd_M} (h1 : sd_I1 x) (hR : sd_IR x) (w h : Int) : -1 ≤ sd_clx x w h ∧ sd_clx x w h < 40 := by
  have i := h1.2.2.2.2.2.1
  have := sd_clf_rng hR (sd_fct x h) w (x 5).toNat (by omega)
  unfold sd_clx
  omega
theorem sd_fct_rng {x : sd_M} (h1 : sd_I1 x) (h2 : sd_I2 x) {h : Int} (hh : 0 ≤ h ∧ h < 24) (i : Nat) : 0 ≤ sd_fct x h i ∧ sd_fct x h i ≤ 40 := by
  have a := h1.1
  have b := sd_inS_le h1 (sd_shl 1 h)
  have c := (h2 h.toNat (by omega)).2.2.2.1
  unfold sd_fct
  split
  · omega
  · split
    · omega
    · split <;> omega
