/-! The page of a day, the end of an hour. -/
def sd_fwl (x : sd_M) (i : Nat) : Int := if x (322 + i) = -1 then 0 else x (338 + i)
def sd_wls (x : sd_M) : Int := sd_sum (sd_fwl x) (x 3).toNat
def sd_pag (x : sd_M) (d : Nat) (c : Int) : sd_M := sd_up (sd_up (sd_up (sd_up (sd_up (sd_up x (1314 + (d * 6)) (sd_inS x (-1))) (1314 + ((d * 6) + 1)) (sd_wls x)) (1314 + ((d * 6) + 2)) (sd_mls x (-1))) (1314 + ((d * 6) + 3)) (x 8)) (1314 + ((d * 6) + 4)) c) (1314 + ((d * 6) + 5)) (sd_hgt x)
def sd_bl (x y : sd_M) : Prop := ∀ j, j < 1314 → y j = x j
theorem sd_bl.up {x y : sd_M} (h : sd_bl x y) {k : Nat} {v : Int} : sd_bl x (sd_up y (1314 + k) v) := fun j hj => by rw [sd_up_ne (by omega)]; exact h j hj
theorem sd_bl.rf {x : sd_M} : sd_bl x x := fun _ _ => rfl
theorem sd_bl.wls {x y : sd_M} (h : sd_bl x y) (h1 : sd_I1 x) : sd_wls y = sd_wls x := by
  have i3 := h1.2.2.2.1
  unfold sd_wls
  rw [h 3 (by omega)]
  apply sd_sum_congr
  intro i hi
  unfold sd_fwl
  rw [h (322 + i) (by omega), h (338 + i) (by omega)]
theorem sd_bl.mls {x y : sd_M} (h : sd_bl x y) (h1 : sd_I1 x) (s : Int) : sd_mls y s = sd_mls x s := by
  have i2 := h1.2.2.1
  unfold sd_mls
  rw [h 2 (by omega)]
  apply sd_sum_congr
  intro i hi
  unfold sd_fml
  rw [h (10 + i) (by omega), h (154 + i) (by omega)]
theorem sd_bl.hgt {x y : sd_M} (h : sd_bl x y) (h1 : sd_I1 x) : sd_hgt y = sd_hgt x := by
  have i2 := h1.2.2.1
  unfold sd_hgt
  rw [h 2 (by omega)]
  apply sd_sum_congr
  intro i hi
  show y (202 + i) = x (202 + i)
  rw [h (202 + i) (by omega)]
theorem sd_fwl_le {x : sd_M} (h4 : sd_I4 x) : ∀ i, i < 16 → 0 ≤ sd_fwl x i ∧ sd_fwl x i ≤ 99 := by
  intro i hi
  have := h4 i hi
  unfold sd_fwl
  split <;> omega
