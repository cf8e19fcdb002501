theorem sK_sheet {N : Nat} {x : sd_M} (hI : sd_Inv N x) (s b n : Int) : sd_Dn N x (spC_sheet x s b n) (spM_sheet x s b n) := by
  have hB := hI.2.2.1
  unfold spC_sheet spM_sheet
  refine sd_Dn.ifs (fun _ => .fd hI (by decide)) (fun c1 => sd_Dn.ifs (fun _ => .fd hI (by decide)) (fun c2 => sd_Dn.ifs (fun _ => .fd hI (by decide)) (fun c3 => ?_)))
  by_cases hb : b = 0
  · subst hb
    simp only [if_true]
    refine sd_Dn.mg rfl ?_ (fun j hj h6 => ?_) (fun j a b => ?_)
    · dsimp only
      refine hI.sheets (fun j q1 q2 => ?_) (fun u hu => ?_)
      · unfold sd_mg sd_fil
        split
        · rw [sd_up_ne (by omega)]
        · rw [if_neg (by omega), sd_up_ne (by omega), sd_up_ne (by omega)]
      · obtain ⟨d1, d2, d3, d4⟩ := hB u hu
        unfold sd_mg sd_fil
        rw [if_pos (show 4250 + u < 6000 by omega), if_pos (show 4254 + u < 6000 by omega), if_neg (show ¬ 8100 + u < 6000 by omega), if_neg (show ¬ (8200 + 12 * s.toNat ≤ 8100 + u ∧ 8100 + u < 8200 + 12 * s.toNat + 12) by omega), sd_up_at, sd_up_at, sd_up_ne (show ¬ 4254 + u = 4250 + s.toNat by omega), sd_up_ne (show ¬ 8100 + u = 4250 + s.toNat by omega)]
        by_cases e : u = s.toNat
        · rw [if_pos e, if_pos e]
          exact ⟨Or.inl rfl, by omega, d3, fun q => absurd rfl q⟩
        · rw [if_neg e, if_neg e]
          refine ⟨d1, d2, d3, fun q => ⟨(d4 q).1, fun k hk => ?_⟩⟩
          rw [if_pos (show 4200 + (12 * u + k) < 6000 by omega), if_neg (show ¬ 8200 + 12 * u + k < 6000 by omega), if_neg (by omega), sd_up_ne (by omega), sd_up_ne (by omega), sd_up_ne (by omega)]
          exact (d4 q).2 k hk
    · have d := sd_oC_w hj
      dsimp only
      unfold sd_fil
      rw [if_neg (by omega), sd_up_ne (show ¬ j = 8100 + s.toNat by omega)]
    · dsimp only
      unfold sd_fil
      rw [if_neg (by omega), sd_up_ne (by omega), sd_up_ne (by omega), sd_up_ne (by omega)]
  · rw [if_neg hb, if_neg hb]
    refine sd_Dn.mg rfl ?_ (fun j hj h6 => ?_) (fun j a b => ?_)
    · dsimp only
      refine hI.sheets (fun j q1 q2 => ?_) (fun u hu => ?_)
      · unfold sd_mg sd_fil
        split
        · rw [if_neg (by omega), sd_up_ne (by omega), sd_up_ne (by omega)]
        · rw [if_neg (by omega), sd_up_ne (by omega), sd_up_ne (by omega)]
      · obtain ⟨d1, d2, d3, d4⟩ := hB u hu
        unfold sd_mg sd_fil
        rw [if_pos (show 4250 + u < 6000 by omega), if_pos (show 4254 + u < 6000 by omega), if_neg (show ¬ 8100 + u < 6000 by omega), if_neg (show ¬ (8200 + 12 * s.toNat ≤ 8100 + u ∧ 8100 + u < 8200 + 12 * s.toNat + 12) by omega), if_neg (show ¬ (4200 + 12 * s.toNat ≤ 4250 + u ∧ 4250 + u < 4200 + 12 * s.toNat + 12) by omega), if_neg (show ¬ (4200 + 12 * s.toNat ≤ 4254 + u ∧ 4254 + u < 4200 + 12 * s.toNat + 12) by omega), sd_up_ne (show ¬ 4250 + u = 4254 + s.toNat by omega), sd_up_at, sd_up_at, sd_up_at, sd_up_ne (show ¬ 4254 + u = 4250 + s.toNat by omega), sd_up_ne (show ¬ 8100 + u = 4250 + s.toNat by omega)]
        by_cases e : u = s.toNat
        · rw [if_pos e, if_pos e, if_pos e]
          refine ⟨by omega, by omega, by omega, fun q => ⟨rfl, fun k hk => ?_⟩⟩
          rw [if_pos (show 4200 + (12 * u + k) < 6000 by omega), if_neg (show ¬ 8200 + 12 * u + k < 6000 by omega), if_pos (by omega), if_pos (by omega)]
        · rw [if_neg e, if_neg e, if_neg e]
          refine ⟨d1, d2, d3, fun q => ⟨(d4 q).1, fun k hk => ?_⟩⟩
          rw [if_pos (show 4200 + (12 * u + k) < 6000 by omega), if_neg (show ¬ 8200 + 12 * u + k < 6000 by omega), if_neg (by omega), if_neg (by omega), sd_up_ne (by omega), sd_up_ne (by omega), sd_up_ne (by omega), sd_up_ne (by omega)]
          exact (d4 q).2 k hk
    · have d := sd_oC_w hj
      dsimp only
      unfold sd_fil
      rw [if_neg (by omega), if_neg (by omega), sd_up_ne (show ¬ j = 8100 + s.toNat by omega), sd_up_ne (show ¬ j = 4254 + s.toNat by omega)]
    · dsimp only
      unfold sd_fil
      rw [if_neg (by omega), if_neg (by omega), sd_up_ne (by omega), sd_up_ne (by omega), sd_up_ne (by omega), sd_up_ne (by omega)]
def sd_src (L : List (Nat × Nat × Nat)) (j : Nat) : Nat := match L with
  | [] => j
  | q :: L => if q.2.1.ble j && j.blt (q.2.1 + q.2.2) then q.1 + (j - q.2.1) else sd_src L j
theorem sd_mov_src_eq (x : sd_M) (j : Nat) : ∀ L : List (Nat × Nat × Nat), sd_mov x L j = x (sd_src L j) := by
  intro L
  induction L with
  | nil => rfl
  | cons q L ih =>
    simp only [sd_mov, sd_src, Bool.and_eq_true, Nat.ble_eq, Nat.blt_eq]
    by_cases h : q.2.1 ≤ j ∧ j < q.2.1 + q.2.2
    · rw [if_pos h, if_pos h]
    · rw [if_neg h, if_neg h]
      exact ih
def sd_tgK (j : Nat) : Nat := if (2000).ble j && j.blt 3554 then j - 2000 else if (7000).ble j && j.blt 7540 then j - 1000 else if (7540).ble j && j.blt 7544 then j - 6272 else j
def sd_tgS (j : Nat) : Nat := if (1268).ble j && j.blt 1272 then j + 6272 else if j.blt 1554 then 2000 + j else if (6000).ble j && j.blt 6540 then 1000 + j else j
def sd_ckL (L : List (Nat × Nat × Nat)) (tg : Nat → Nat) : Nat → Bool
  | 0 => true
  | n + 1 => (!(sd_inL sd_LC n) || (sd_src L n).beq (tg n)) && sd_ckL L tg n
theorem sd_ckL_of {L : List (Nat × Nat × Nat)} {tg : Nat → Nat} : ∀ {n : Nat}, sd_ckL L tg n = true → ∀ j, j < n → sd_oC j → sd_src L j = tg j := by
  intro n
  induction n with
  | zero => intro _ j hj; omega
  | succ n ih =>
    intro h j hj ho
    simp only [sd_ckL, Bool.and_eq_true] at h
    by_cases e : j = n
    · subst e
      unfold sd_oC at ho
      have h1 := h.1
      rw [ho] at h1
      exact Nat.eq_of_beq_eq_true (by simpa using h1)
    · exact ih h.2 j (by omega) ho
theorem sd_ckK : sd_ckL sd_LK sd_tgK 8300 = true := by decide +kernel
theorem sd_ckS : sd_ckL sd_LS sd_tgS 8300 = true := by decide +kernel
def sd_im (x : sd_M) : sd_M := fun j => if 2000 ≤ j ∧ j < 3554 then x (j - 2000) else if 7000 ≤ j ∧ j < 7540 then x (j - 1000) else if 7540 ≤ j ∧ j < 7544 then x (j - 6272) else if j = 4260 then 1 else x j
