theorem sd_up_self (x : sd_M) (a : Nat) : ∀ j, sd_up x a (x a) j = x j := by
  intro j
  unfold sd_up
  split
  · rename_i h; rw [h]
  · rfl
theorem sd_up_self2 {x : sd_M} {a : Nat} {v : Int} (h : v = x a) : ∀ j, sd_up x a v j = x j := by
  rw [h]
  exact sd_up_self x a
def sd_kit (x : sd_M) (i : Nat) : Int := sd_fst (sd_Pm x (sd_rch x (sd_shl 1 (x (322 + i))) 8)) (x 2).toNat
def sd_eaK (x : sd_M) (i : Nat) (P : Prop) [Decidable P] : Int := if P then sd_kit x i else -1
def sd_eaS (x : sd_M) (i : Nat) (P : Prop) [Decidable P] : sd_M := if sd_eaK x i P = -1 then sd_up x (370 + i) (min 99 (x (370 + i) + 1)) else sd_up (sd_up (sd_up x (154 + (sd_eaK x i P).toNat) (x (154 + (sd_eaK x i P).toNat) - 1)) (370 + i) 0) (338 + i) (min 99 (x (338 + i) + 3))
theorem sd_eaK_rng {x : sd_M} (h1 : sd_I1 x) (i : Nat) (P : Prop) [Decidable P] : sd_eaK x i P = -1 ∨ (0 ≤ sd_eaK x i P ∧ sd_eaK x i P < 24 ∧ 0 < x (154 + (sd_eaK x i P).toNat)) := by
  have i2 := h1.2.2.1
  unfold sd_eaK
  split
  · rcases sd_fst_rng (sd_Pm x (sd_rch x (sd_shl 1 (x (322 + i))) 8)) (x 2).toNat with h | h
    · exact Or.inl h
    · exact Or.inr ⟨h.1, by show sd_fst _ _ < 24; omega, h.2.2.2.2⟩
  · exact Or.inl rfl
theorem sd_eaS_J {x : sd_M} (hJ : sd_J x) {i : Nat} (hi : i < 16) (P : Prop) [Decidable P] : sd_J (sd_eaS x i P) := by
  have r := sd_eaK_rng hJ.1 i P
  have m := hJ.2.2.2.1 i hi
  unfold sd_eaS
  split
  · exact hJ.hunger hi ⟨by omega, by omega⟩
  · rename_i hk
    have e := (hJ.2.1 (sd_eaK x i P).toNat (by omega)).2.2.2.2.2.2.1
    exact ((hJ.meals (k := (sd_eaK x i P).toNat) (by omega) (v := x (154 + (sd_eaK x i P).toNat) - 1) ⟨by omega, by omega⟩).hunger hi (v := 0) ⟨by omega, by omega⟩).will hi ⟨by omega, by omega⟩
def sd_tiW (x : sd_M) (i : Nat) (t : Int) : Int := max 0 (x (338 + i) - sd_los x (x (322 + i)) (x (370 + i)) (x (354 + i)) t)
def sd_tiY (x : sd_M) (i : Nat) (t : Int) : sd_M := sd_up x (338 + i) (sd_tiW x i t)
def sd_tiS (x : sd_M) (i : Nat) (t : Int) : sd_M := if sd_tiW x i t < x (354 + i) / 10 ∧ ¬ sd_brs (sd_tiY x i t) (sd_clx (sd_tiY x i t) 0 (x (322 + i))) then sd_up (sd_tiY x i t) (322 + i) (-1) else sd_tiY x i t
theorem sd_tiY_J {x : sd_M} (hJ : sd_J x) {i : Nat} (hi : i < 16) (hs : 0 ≤ x (322 + i)) (t : Int) : sd_J (sd_tiY x i t) ∧ 0 ≤ sd_tiW x i t ∧ sd_tiW x i t ≤ 99 := by
  have m := hJ.2.2.2.1 i hi
  have l := sd_los_rng hJ.2.1 (s := x (322 + i)) (hg := x (370 + i)) (ow := x (354 + i)) (tm := t) (by omega)
  have w : 0 ≤ sd_tiW x i t ∧ sd_tiW x i t ≤ 99 := by unfold sd_tiW; omega
  exact ⟨hJ.will hi w, w⟩
theorem sd_tiS_J {x : sd_M} (hJ : sd_J x) {i : Nat} (hi : i < 16) (hs : 0 ≤ x (322 + i)) (t : Int) : sd_J (sd_tiS x i t) := by
  have y := (sd_tiY_J hJ hi hs t).1
  unfold sd_tiS
  split
  · exact y.gone hi rfl
  · exact y
def sd_eaL (x : sd_M) (P : Prop) [Decidable P] : Nat → sd_M
  | 0 => x
  | i + 1 => if sd_eaL x P i (322 + i) = -1 then sd_eaL x P i else sd_eaS (sd_eaL x P i) i P
def sd_tiL (x : sd_M) (t : Int) : Nat → sd_M
  | 0 => x
  | i + 1 => if sd_tiL x t i (322 + i) = -1 then sd_tiL x t i else sd_tiS (sd_tiL x t i) i t
theorem sd_eaS_o {x : sd_M} (h1 : sd_I1 x) {i : Nat} (hi : i < 16) (P : Prop) [Decidable P] {j : Nat} (hj : j < 154) : sd_eaS x i P j = x j := by
  have r := sd_eaK_rng h1 i P
  unfold sd_eaS
  split
  · rw [sd_up_ne (by omega)]
  · rw [sd_up_ne (by omega), sd_up_ne (by omega), sd_up_ne (by omega)]
theorem sd_tiS_o {x : sd_M} {i : Nat} (t : Int) {j : Nat} (hj : j < 322) : sd_tiS x i t j = x j := by
  unfold sd_tiS sd_tiY
  split
  · rw [sd_up_ne (by omega), sd_up_ne (by omega)]
  · rw [sd_up_ne (by omega)]
theorem sd_eaL_J {x : sd_M} (hJ : sd_J x) (P : Prop) [Decidable P] (n : Nat) (hn : n ≤ 16) : sd_J (sd_eaL x P n) ∧ ∀ j, j < 154 → sd_eaL x P n j = x j := by
  induction n with
  | zero => exact ⟨hJ, fun _ _ => rfl⟩
  | succ n ih =>
    obtain ⟨a, b⟩ := ih (by omega)
    simp only [sd_eaL]
    split
    · exact ⟨a, b⟩
    · exact ⟨sd_eaS_J a (by omega) P, fun j hj => (sd_eaS_o a.1 (by omega) P hj).trans (b j hj)⟩
theorem sd_tiL_J {x : sd_M} (hJ : sd_J x) (t : Int) (n : Nat) (hn : n ≤ 16) : sd_J (sd_tiL x t n) ∧ ∀ j, j < 322 → sd_tiL x t n j = x j := by
  induction n with
  | zero => exact ⟨hJ, fun _ _ => rfl⟩
  | succ n ih =>
    obtain ⟨a, b⟩ := ih (by omega)
    simp only [sd_tiL]
    split
    · exact ⟨a, b⟩
    · rename_i h
      have m := (a.2.2.2.1 n (by omega)).1
      exact ⟨sd_tiS_J a (by omega) (by omega) t, fun j hj => (sd_tiS_o t hj).trans (b j hj)⟩
