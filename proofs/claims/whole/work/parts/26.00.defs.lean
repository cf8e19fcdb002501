def sd_L9 (x : sd_M) : Prop := ∀ i : Nat, i < 6 → (-9 ≤ x (6520 + i) ∧ x (6520 + i) ≤ 9) ∧ (-9 ≤ x (6526 + i) ∧ x (6526 + i) ≤ 9) ∧ x (1302 + 2 * i) = x (6520 + i) ∧ x (1302 + 2 * i + 1) = x (6526 + i)
def sd_std (w o : Int) : Int := if w ≤ 0 then -1 else if o ≤ 0 then 1 else 0
def sd_bh (x : sd_M) (g : Int → Int → Int) (i : Nat) (w o : Int) : Int := if sd_std (w + x (6520 + i)) (o + x (6526 + i)) = 0 then g (w + x (6520 + i)) (o + x (6526 + i)) else sd_std (w + x (6520 + i)) (o + x (6526 + i))
def sd_gv (x : sd_M) : Nat → Bool → Int → Int → Int
  | 0 => fun _ _ _ => 0
  | l + 1 => fun b w o => if b then min (sd_bh x (sd_gv x l false) 3 w o) (min (sd_bh x (sd_gv x l false) 4 w o) (sd_bh x (sd_gv x l false) 5 w o)) else max (sd_bh x (sd_gv x l true) 0 w o) (max (sd_bh x (sd_gv x l true) 1 w o) (sd_bh x (sd_gv x l true) 2 w o))
theorem sd_std_rng (w o : Int) : -1 ≤ sd_std w o ∧ sd_std w o ≤ 1 := by
  unfold sd_std
  split
  · omega
  · split <;> omega
theorem sd_bh_rng {x : sd_M} {g : Int → Int → Int} (h : ∀ w o, -1 ≤ g w o ∧ g w o ≤ 1) (i : Nat) (w o : Int) : -1 ≤ sd_bh x g i w o ∧ sd_bh x g i w o ≤ 1 := by
  unfold sd_bh
  split
  · exact h _ _
  · exact sd_std_rng _ _
theorem sd_gv_rng (x : sd_M) (l : Nat) : ∀ (b : Bool) (w o : Int), -1 ≤ sd_gv x l b w o ∧ sd_gv x l b w o ≤ 1 := by
  induction l with
  | zero => intro b w o; simp only [sd_gv]; omega
  | succ l ih =>
    intro b w o
    have a0 := sd_bh_rng (x := x) (ih true) 0 w o
    have a1 := sd_bh_rng (x := x) (ih true) 1 w o
    have a2 := sd_bh_rng (x := x) (ih true) 2 w o
    have a3 := sd_bh_rng (x := x) (ih false) 3 w o
    have a4 := sd_bh_rng (x := x) (ih false) 4 w o
    have a5 := sd_bh_rng (x := x) (ih false) 5 w o
    simp only [sd_gv]
    split <;> omega
