/-! The least rumours for a gate. -/
def sd_oth (x : sd_M) : Int := sd_and (sd_shl 1 (x 6) - 1) (sd_xor (sd_tho x) (-1))
def sd_lst (x : sd_M) (g : Nat) (tk b s : Int) : Int := if (0 < tk ∧ (b = -1 ∨ sd_ones s < sd_ones b)) ∧ 9 * sd_sqd x (sd_or (sd_tho x) s) g ≤ tk then s else b
def sd_lf (x : sd_M) (g : Nat) (tk : Int) : Nat → Int
  | 0 => -1
  | i + 1 => sd_lst x g tk (sd_lf x g tk i) (sd_sq (sd_oth x) i)
abbrev sd_hid (x : sd_M) (M : Int) : Prop := ∀ r, r < (x 6).toNat → (sd_and (sd_shr M r) 1 = 0 ∨ x (1284 + r) = 0)
def sd_lfm (x : sd_M) (g : Nat) (tk : Int) : Nat → Int
  | 0 => -1
  | i + 1 => if sd_hid x (i : Int) then sd_lst x g tk (sd_lfm x g tk i) (i : Int) else sd_lfm x g tk i
theorem sd_lf_list (x : sd_M) (g : Nat) (tk : Int) (n : Nat) : sd_lf x g tk n = ((List.range n).map (sd_sq (sd_oth x))).foldl (sd_lst x g tk) (-1) := by
  induction n with
  | zero => rfl
  | succ n ih => simp only [sd_lf]; rw [List.range_succ, List.map_append, List.foldl_append, ← ih]; rfl
theorem sd_lfm_list (x : sd_M) (g : Nat) (tk : Int) (n : Nat) : sd_lfm x g tk n = (((List.range n).filter (fun i => decide (sd_hid x ((i : Nat) : Int)))).map (fun i => ((i : Nat) : Int))).foldl (sd_lst x g tk) (-1) := by
  induction n with
  | zero => rfl
  | succ n ih =>
    simp only [sd_lfm]
    rw [List.range_succ, List.filter_append, List.map_append, List.foldl_append, ← ih]
    by_cases h : sd_hid x ((n : Nat) : Int)
    · rw [if_pos h, List.filter_cons_of_pos (by simpa using h)]; rfl
    · rw [if_neg h, List.filter_cons_of_neg (by simpa using h)]; rfl
set_option maxRecDepth 100000 in
theorem sd_subs : ∀ k : Fin 7, ∀ S : Fin 64, S.val < 2 ^ k.val → (List.range (2 ^ sd_pcn 30 S.val)).map (sd_itn S.val) = (List.range (2 ^ k.val)).filter (fun i => decide (i &&& S.val = i)) := by decide +kernel
theorem sd_subsN {k S : Nat} (hk : k < 7) (hS : S < 64) (h : S < 2 ^ k) : (List.range (2 ^ sd_pcn 30 S)).map (sd_itn S) = (List.range (2 ^ k)).filter (fun i => decide (i &&& S = i)) := sd_subs ⟨k, hk⟩ ⟨S, hS⟩ h
theorem sd_oth_tb {x : sd_M} (h1 : sd_I1 x) {i : Nat} (hi : i < 32) : sd_tb_ (sd_oth x) i = decide (i < (x 6).toNat ∧ ¬ x (1284 + i) = 1) := by
  have i6 := h1.2.2.2.2.2.2.1
  obtain ⟨k, hk⟩ := Int.eq_ofNat_of_zero_le i6.1
  have hk6 : k ≤ 6 := by omega
  have e1 : sd_shl 1 (x 6) - 1 = ((2 ^ k - 1 : Nat) : Int) := by
    have e := sd_shl1_pow ⟨k, by omega⟩
    simp only at e
    rw [hk, e]
    have := Nat.two_pow_pos k
    omega
  unfold sd_oth
  rw [sd_tb_and, sd_tb_xor, sd_tb_neg1 hi, show sd_tb_ (sd_tho x) i = _ from sd_set_tb (sd_Po x) (x 6).toNat (by omega) hi, e1, sd_tb_nat hi, Nat.testBit_two_pow_sub_one]
  have e2 : (x 6).toNat = k := by omega
  rw [e2]
  by_cases h : i < k
  · simp [h]
  · simp [h]
theorem sd_oth_rng {x : sd_M} (h1 : sd_I1 x) : 0 ≤ sd_oth x ∧ sd_oth x < ((2 ^ (x 6).toNat : Nat) : Int) := by
  have i6 := h1.2.2.2.2.2.2.1
  refine sd_nn (show sd_R (sd_oth x) from sd_R_and _ _) (by omega) (fun i a b => ?_)
  rw [sd_oth_tb h1 b]
  simp
  omega
theorem sd_p6 {x : sd_M} (h1 : sd_I1 x) : 2 ^ (x 6).toNat ≤ 64 ∧ sd_shl 1 (x 6) = ((2 ^ (x 6).toNat : Nat) : Int) := by
  have i6 := h1.2.2.2.2.2.2.1
  obtain ⟨k, hk⟩ := Int.eq_ofNat_of_zero_le i6.1
  constructor
  · exact Nat.pow_le_pow_right (n := 2) (by omega) (show (x 6).toNat ≤ 6 by omega)
  · rw [hk, sd_shl1_pow ⟨k, by omega⟩]; rfl
theorem sd_hid_iff {x : sd_M} (h1 : sd_I1 x) (h7 : sd_I7 x) {S i : Nat} (hS : sd_oth x = (S : Int)) (hi : i < 2 ^ (x 6).toNat) : sd_hid x (i : Int) ↔ i &&& S = i := by
  have i6 := h1.2.2.2.2.2.2.1
  have hp := (sd_p6 h1).1
  have key : ∀ r, r < 32 → (S.testBit r = decide (r < (x 6).toNat ∧ ¬ x (1284 + r) = 1)) := fun r hr => by rw [← sd_tb_nat hr, ← hS, sd_oth_tb h1 hr]
  constructor
  · intro h
    apply Nat.eq_of_testBit_eq
    intro r
    rw [Nat.testBit_and]
    by_cases hr : i.testBit r = true
    · have hr6 : r < (x 6).toNat := by
        rcases Nat.lt_or_ge r (x 6).toNat with q | q
        · exact q
        · rw [Nat.testBit_lt_two_pow (Nat.lt_of_lt_of_le hi (Nat.pow_le_pow_right (by omega) q))] at hr; cases hr
      rw [key r (by omega), hr]
      rcases h r hr6 with q | q
      · have : sd_bit (i : Int) (r : Int) := (sd_bit_iff _ (by omega)).mpr (by rw [sd_tb_nat (by omega)]; exact hr)
        have q2 : sd_and (sd_shr (i : Int) (r : Int)) 1 = 1 := this
        omega
      · have : ¬ x (1284 + r) = 1 := by omega
        simp [hr6, this]
    · have : i.testBit r = false := by simpa using hr
      rw [this]; rfl
  · intro h r hr
    by_cases hb : i.testBit r = true
    · right
      rw [← h, Nat.testBit_and, key r (by omega)] at hb
      simp at hb
      have := (h7 r (by omega)).2.2.1
      have := hb.2.2
      omega
    · left
      rcases sd_and1 (sd_shr (i : Int) (r : Int)) with q | q
      · exact q
      · exact absurd (by rw [← sd_tb_nat (show r < 32 by omega)]; exact (sd_bit_iff _ (by omega)).mp q) hb
theorem sd_lf_eq {x : sd_M} (h1 : sd_I1 x) (h7 : sd_I7 x) (g : Nat) (tk : Int) : sd_lf x g tk (sd_sqN (sd_oth x)) = sd_lfm x g tk (2 ^ (x 6).toNat) := by
  have i6 := h1.2.2.2.2.2.2.1
  have hr := sd_oth_rng h1
  have hp := (sd_p6 h1).1
  obtain ⟨S, hS⟩ := Int.eq_ofNat_of_zero_le hr.1
  have hS6 : S < 2 ^ (x 6).toNat := by omega
  have e1 : (List.range (2 ^ sd_pcn 30 S)).map (sd_sq (S : Int)) = ((List.range (2 ^ sd_pcn 30 S)).map (sd_itn S)).map (fun i => ((i : Nat) : Int)) := by
    rw [List.map_map]
    apply List.map_congr_left
    intro i _
    exact sd_sq_nat (by omega) i
  have e2 := sd_subsN (k := (x 6).toNat) (S := S) (by omega) (by omega) hS6
  have e3 : (List.range (2 ^ (x 6).toNat)).filter (fun i => decide (i &&& S = i)) = (List.range (2 ^ (x 6).toNat)).filter (fun i => decide (sd_hid x ((i : Nat) : Int))) := by
    apply List.filter_congr
    intro i hi
    have hi2 := List.mem_range.mp hi
    have := sd_hid_iff h1 h7 hS hi2
    by_cases q : sd_hid x (i : Int)
    · rw [decide_eq_true q, decide_eq_true (this.mp q)]
    · rw [decide_eq_false q, decide_eq_false (fun z => q (this.mpr z))]
  rw [sd_lf_list, sd_lfm_list, hS, sd_sqN_nat, e1, e2, e3]
theorem sd_lst_rng {x : sd_M} {g : Nat} {tk b s : Int} (hb : -1 ≤ b ∧ b < 64) (hs : 0 ≤ s ∧ s < 64) : -1 ≤ sd_lst x g tk b s ∧ sd_lst x g tk b s < 64 := by
  unfold sd_lst
  split <;> omega
theorem sd_lf_rng {x : sd_M} (h1 : sd_I1 x) (g : Nat) (tk : Int) (i : Nat) : -1 ≤ sd_lf x g tk i ∧ sd_lf x g tk i < 64 := by
  have hr := sd_oth_rng h1
  have hp := (sd_p6 h1).1
  induction i with
  | zero => simp only [sd_lf]; omega
  | succ i ih =>
    have := sd_sq_rng (S := sd_oth x) (by omega) i
    simp only [sd_lf]
    exact sd_lst_rng ih (by omega)
theorem sd_lf_neg {x : sd_M} {g : Nat} {tk : Int} (h : tk ≤ 0) (i : Nat) : sd_lf x g tk i = -1 := by
  induction i with
  | zero => rfl
  | succ i ih =>
    simp only [sd_lf]
    rw [ih]
    unfold sd_lst
    rw [if_neg (fun q => by have := q.1.1; omega)]
theorem sd_lfm_rng {x : sd_M} (g : Nat) (tk : Int) (i : Nat) (hi : i ≤ 64) : -1 ≤ sd_lfm x g tk i ∧ sd_lfm x g tk i < 64 := by
  induction i with
  | zero => simp only [sd_lfm]; omega
  | succ i ih =>
    simp only [sd_lfm]
    split
    · exact sd_lst_rng (ih (by omega)) (by omega)
    · exact ih (by omega)
def sd_lfv (x : sd_M) (g : Nat) : Int := sd_lf x g (sd_frc x g) (sd_sqN (sd_oth x))
def sp_feint (x : sd_M) (g : Int) : Int × sd_M := if ¬ sd_isH x g then sd_Fd x 0 else if ¬ sd_isA x g 3 then sd_Fd x 2 else if x (202 + g.toNat) = 1 then sd_Fd x 4 else if sd_lfv x g.toNat = -1 then sd_Fd x 3 else (sd_lfv x g.toNat, x)
