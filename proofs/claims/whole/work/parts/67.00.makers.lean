def sd_fk (k : Nat) (f : Nat → Int) : Nat → Int := fun i => if i < k then f i else 0
theorem sd_fk0 (f : Nat → Int) (i : Nat) : sd_fk 0 f i = 0 := by unfold sd_fk; rw [if_neg (by omega)]
theorem sd_fk2 (f : Nat → Int) {j k : Nat} (h : j ≠ k) : sd_fk (k + 1) f j = sd_fk k f j := by
  unfold sd_fk
  by_cases hj : j < k
  · rw [if_pos hj, if_pos (by omega)]
  · rw [if_neg hj, if_neg (by omega)]
theorem sd_iak (g : sd_G) (n : Nat) (f : Nat → Int) : sd_ia g n (sd_fk n f) = sd_ia g n f := by
  unfold sd_ia sd_fk
  congr 4
  funext i
  by_cases hi : i < n
  · rw [if_pos hi, if_pos hi, if_pos hi]
  · rw [if_neg hi, if_neg hi]
theorem sd_frB {g : sd_G} {q n : Nat} {f : Nat → Int} {rest : va_W} : ((q, sd_ia g n (sd_fk n f)) :: rest).Perm (rest ++ [(q, sd_ia g n f)]) := by
  rw [sd_iak]
  exact (List.perm_append_singleton _ _).symm
def sd_yPo (T : List sd_C) (g : sd_G) (h0 : Nat) (w1 : va_W) : Prop := ∃ a : Nat → Nat, a (T.length - 1) = h0 ∧ w1.Perm (sd_wsr 0 T (a, g.2) sd_x0)
