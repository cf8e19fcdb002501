abbrev sd_isM (x : sd_M) (i : Int) : Prop := 0 ≤ i ∧ i ≤ x 3 - 1
def sp_man (x : sd_M) (h s : Int) : Int × sd_M := if ¬ (0 ≤ s ∧ s ≤ 9999) ∨ ¬ sd_isH x h then sd_Fd x 0 else if ¬ sd_isA x h 1 then sd_Fd x 2 else if 16 ≤ x 3 then sd_Fd x 1 else (x 3, sd_up (sd_up (sd_up (sd_up (sd_up x 3 (x 3 + 1)) (322 + (x 3).toNat) h) (338 + (x 3).toNat) (s / 100)) (354 + (x 3).toNat) (s % 100)) (370 + (x 3).toNat) 0)
def sp_where (x : sd_M) (i w : Int) : Int × sd_M := if ¬ sd_isM x i ∨ ¬ (0 ≤ w ∧ w ≤ 3) then sd_Fd x 0 else (if w = 0 then x (322 + i.toNat) else if w = 1 then x (338 + i.toNat) else if w = 2 then x (354 + i.toNat) else x (370 + i.toNat), x)
def sp_hear (x : sd_M) (i v : Int) : Int × sd_M := if ¬ sd_isM x i ∨ ¬ (-20 ≤ v ∧ v ≤ 20) then sd_Fd x 0 else if x (322 + i.toNat) = -1 then sd_Fd x 4 else (max 0 (min 99 (x (338 + i.toNat) + v)), sd_up x (338 + i.toNat) (max 0 (min 99 (x (338 + i.toNat) + v))))
def sp_run (x : sd_M) (h : Int) (P : Prop) [Decidable P] : Int × sd_M := if ¬ sd_isH x h then sd_Fd x 0 else if ¬ sd_isA x h 1 then sd_Fd x 2 else (sd_b (¬ x (130 + h.toNat) = sd_b P), sd_up x (130 + h.toNat) (sd_b P))
def sp_shut (x : sd_M) (h : Int) (P : Prop) [Decidable P] : Int × sd_M := if ¬ sd_isH x h then sd_Fd x 0 else if ¬ sd_isA x h 4 then sd_Fd x 2 else (sd_b (¬ x (250 + h.toNat) = sd_b P), sd_up x (250 + h.toNat) (sd_b P))
def sp_out (x : sd_M) (h : Int) (P : Prop) [Decidable P] : Int × sd_M := if ¬ (0 ≤ h ∧ h ≤ x 6 - 1) then sd_Fd x 0 else (sd_b (¬ x (1284 + h.toNat) = sd_b P), sd_up x (1284 + h.toNat) (sd_b P))
def sp_guard (x : sd_M) (g n : Int) : Int × sd_M := if ¬ (0 ≤ n ∧ n ≤ 99) ∨ ¬ sd_isH x g then sd_Fd x 0 else if ¬ sd_isA x g 3 then sd_Fd x 2 else if x (202 + g.toNat) = 1 ∧ n ≤ sd_frc x g.toNat then (0, x) else (1, sd_up (sd_up x (202 + g.toNat) 0) (226 + g.toNat) n)
def sp_rumour (x : sd_M) (g c : Int) : Int × sd_M := if ¬ (1 ≤ c ∧ c ≤ 9) ∨ ¬ sd_isH x g then sd_Fd x 0 else if ¬ sd_isA x g 3 then sd_Fd x 2 else if 6 ≤ x 6 then sd_Fd x 1 else (x 6, sd_up (sd_up (sd_up (sd_up x 6 (x 6 + 1)) (1272 + (x 6).toNat) g) (1278 + (x 6).toNat) c) (1284 + (x 6).toNat) 0)
def sp_copyTerm (x : sd_M) (h c v : Int) : Int × sd_M := if ¬ (0 ≤ c ∧ c ≤ 99) ∨ ¬ (0 ≤ v ∧ v ≤ 99) ∨ ¬ sd_isH x h then sd_Fd x 0 else if ¬ sd_isA x h 6 then sd_Fd x 2 else (sd_b (¬ c = x (34 + h.toNat) ∨ ¬ v = x (58 + h.toNat)), sd_up (sd_up x (274 + h.toNat) c) (298 + h.toNat) v)
theorem sd_done2 {p : Int × sd_M} {v : Int} {X Y m : sd_M} (e : p = (v, Y)) (h : ∀ j, X j = Y j) (hx : sd_ns X m) : sd_Qp p (some (.inl v)) m := by
  have : X = Y := funext h
  subst this
  subst e
  exact ⟨rfl, hx⟩
