theorem sd_done3 {p : Int × sd_M} {v : Int} {X m : sd_M} (e : p.1 = v) (h : ∀ j, X j = p.2 j) (hx : sd_ns X m) : sd_Qp p (some (.inl v)) m := by
  have : X = p.2 := funext h
  subst this
  subst e
  exact ⟨rfl, hx⟩
theorem sd_nseq {X Y m : sd_M} (h : ∀ j, X j = Y j) (hx : sd_ns X m) : sd_ns Y m := fun j hj => (hx j hj).trans (h j)
theorem sd_fc_at {x : sd_M} (h1 : sd_I1 x) {s v : Int} {k : Nat} (h : ∀ j, j < k → ¬ sd_Pc_ x s v j) (hp : sd_Pc_ x s v k) (hk : k < 100) : sd_fc x s v = x 0 + (k : Int) := by
  unfold sd_fc
  rw [sd_fst_at (P := sd_Pc_ x s v) h hp hk, if_neg (by omega)]
theorem sd_fc_none {x : sd_M} {s v : Int} (h : ∀ j, j < 100 → ¬ sd_Pc_ x s v j) : sd_fc x s v = -1 := by
  unfold sd_fc
  rw [sd_fst_none (P := sd_Pc_ x s v) h]
  rfl
theorem sd_fv_at {x : sd_M} {i k : Nat} (h : ∀ j, j < k → ¬ sd_Pl x i j) (hp : sd_Pl x i k) (hk : k < 100) : sd_fv x i = x 0 + (k : Int) := by
  unfold sd_fv
  rw [sd_fst_at (P := sd_Pl x i) h hp hk, if_neg (by omega)]
theorem sd_fv_none {x : sd_M} {i : Nat} (h : ∀ j, j < 100 → ¬ sd_Pl x i j) : sd_fv x i = -1 := by
  unfold sd_fv
  rw [sd_fst_none (P := sd_Pl x i) h]
  rfl
def sd_gs (x : sd_M) (w : Int) (k : Nat) : Int := if w < 0 ∨ w = k then x (4101 + k) else 0
theorem sd_gs_le {x : sd_M} (hF : ∀ k : Nat, k < 7 → 0 ≤ x (4101 + k) ∧ x (4101 + k) ≤ 1000000) (w : Int) : ∀ i, i < 7 → 0 ≤ sd_gs x w i ∧ sd_gs x w i ≤ 1000000 := by
  intro i hi
  have := hF i hi
  unfold sd_gs
  split <;> omega
theorem sd_gs_one (x : sd_M) {w : Int} (h : 0 ≤ w ∧ w ≤ 6) : sd_sum (sd_gs x w) 7 = x (4101 + w.toNat) := by
  rcases (show w = 0 ∨ w = 1 ∨ w = 2 ∨ w = 3 ∨ w = 4 ∨ w = 5 ∨ w = 6 by omega) with rfl | rfl | rfl | rfl | rfl | rfl | rfl <;> simp [sd_sum, sd_gs]
theorem sd_gs_all (x : sd_M) {w : Int} (h : w < 0) : sd_sum (sd_gs x w) 7 = sd_sum (fun i => x (4101 + i)) 7 := sd_sum_congr (fun i _ => by unfold sd_gs; rw [if_pos (Or.inl h)])
abbrev sd_lbad (k n f : Int) : Prop := ¬ (0 ≤ k ∧ k ≤ 5) ∨ ¬ (0 ≤ n ∧ n ≤ 999) ∨ ¬ (0 ≤ f ∧ f ≤ n)
def spC_list (x : sd_M) (k n f : Int) : Int × sd_M := if sd_lbad k n f then sd_Fd x 0 else (1, sd_up (sd_up x (6500 + k.toNat) n) (6506 + k.toNat) f)
def spM_list (x : sd_M) (k n f : Int) : Int × sd_M := if sd_lbad k n f then sd_Fd x 0 else (1, sd_up (sd_up x (1290 + 2 * k.toNat) n) (1291 + 2 * k.toNat) f)
abbrev sd_mbad (s k w v : Int) : Prop := ¬ (0 ≤ s ∧ s ≤ 1) ∨ ¬ (0 ≤ k ∧ k ≤ 2) ∨ ¬ (-9 ≤ w ∧ w ≤ 9) ∨ ¬ (-9 ≤ v ∧ v ≤ 9)
def spC_move (x : sd_M) (s k w v : Int) : Int × sd_M := if sd_mbad s k w v then sd_Fd x 0 else (1, sd_up (sd_up x (6520 + (3 * s.toNat + k.toNat)) w) (6526 + (3 * s.toNat + k.toNat)) v)
def spM_move (x : sd_M) (s k w v : Int) : Int × sd_M := if sd_mbad s k w v then sd_Fd x 0 else (1, sd_up (sd_up x (1302 + 2 * (3 * s.toNat + k.toNat)) w) (1303 + 2 * (3 * s.toNat + k.toNat)) v)
abbrev sd_inF (x : sd_M) (t : Nat) (h : Int) : Prop := (x (436 + t) ≤ h ∧ h ≤ x (444 + t)) ∧ (x (1268 + (x (428 + t)).toNat) < 0 ∨ h < x (1268 + (x (428 + t)).toNat))
abbrev sd_Pf (x : sd_M) (t : Nat) : Prop := sd_inF x t (x 0)
def sd_cF (x : sd_M) : Int := sd_cnt (sd_Pf x) (x 5).toNat
def sp_shares (x : sd_M) (j : Int) : Int × sd_M := if ¬ (0 ≤ j ∧ j ≤ 3) then sd_Fd x 0 else if ¬ x (1268 + j.toNat) = -1 then sd_Fd x 4 else (sd_cF x - sd_cF (sd_up x (1268 + j.toNat) (x 0)), sd_up x (1268 + j.toNat) (x 0))
theorem sd_I1_up {x : sd_M} (h : sd_I1 x) {a : Nat} (ha : 9 ≤ a) (v : Int) : sd_I1 (sd_up x a v) := by
  have e : ∀ j, j < 9 → sd_up x a v j = x j := fun j hj => by unfold sd_up; rw [if_neg (by omega)]
  unfold sd_I1
  rw [e 0 (by omega), e 1 (by omega), e 2 (by omega), e 3 (by omega), e 4 (by omega), e 5 (by omega), e 6 (by omega), e 7 (by omega), e 8 (by omega)]
  exact h
theorem sd_I6_sh {x : sd_M} (h1 : sd_I1 x) (h : sd_I6 x) {j : Nat} (hj : j < 4) {v : Int} (hv : -1 ≤ v ∧ v ≤ x 0) : sd_I6 (sd_up x (1268 + j) v) := by
  have e : ∀ q, q < 1268 → sd_up x (1268 + j) v q = x q := fun q hq => by unfold sd_up; rw [if_neg (by omega)]
  refine ⟨fun i hi => ?_, fun i hi => ?_⟩
  · rw [e (428 + i) (by omega), e (436 + i) (by omega), e (444 + i) (by omega), e (452 + i) (by omega), e 5 (by omega), e 0 (by omega)]
    exact h.1 i hi
  · rw [e 0 (by omega)]
    unfold sd_up
    split
    · exact hv
    · exact h.2 i hi
theorem sd_cF_le {x : sd_M} (h1 : sd_I1 x) : 0 ≤ sd_cF x ∧ sd_cF x ≤ 8 := by
  have a := sd_cnt_le (sd_Pf x) (x 5).toNat
  have b := h1.2.2.2.2.2.1
  unfold sd_cF
  omega
abbrev sd_Pb (x : sd_M) (t : Nat) (k : Nat) : Prop := sd_inF x t (x (452 + t) + k)
def sd_btw (x : sd_M) (t : Nat) : Int := sd_cnt (sd_Pb x t) (x 0 - x (452 + t)).toNat
def sp_between (x : sd_M) (t : Int) : Int × sd_M := if ¬ (0 ≤ t ∧ t ≤ x 5 - 1) then sd_Fd x 0 else (sd_btw x t.toNat, x)
theorem sd_cnt_iv (lo hi a : Int) (n : Nat) : sd_cnt (fun k => lo ≤ a + (k : Int) ∧ a + (k : Int) < hi) n = max 0 (min hi (a + n) - max lo a) := by
  induction n with
  | zero => simp only [sd_cnt]; omega
  | succ n ih =>
    simp only [sd_cnt]
    rw [ih]
    split <;> omega
theorem sd_btw_eq {x : sd_M} (h6 : sd_I6 x) {t : Nat} (ht : t < 8) (ho : x (452 + t) ≤ x 0) : sd_btw x t = max 0 ((if x (1268 + (x (428 + t)).toNat) = -1 then min (x (444 + t) + 1) (x 0) else min (min (x (444 + t) + 1) (x 0)) (x (1268 + (x (428 + t)).toNat))) - max (x (436 + t)) (x (452 + t))) := by
  have hj := (h6.1 t ht).1
  have hs := h6.2 (x (428 + t)).toNat (by omega)
  unfold sd_btw
  by_cases hc : x (1268 + (x (428 + t)).toNat) = -1
  · rw [if_pos hc, sd_cnt_congr (P' := fun k => x (436 + t) ≤ x (452 + t) + (k : Int) ∧ x (452 + t) + (k : Int) < x (444 + t) + 1) (fun i _ => by omega), sd_cnt_iv]
    omega
  · rw [if_neg hc, sd_cnt_congr (P' := fun k => x (436 + t) ≤ x (452 + t) + (k : Int) ∧ x (452 + t) + (k : Int) < min (x (444 + t) + 1) (x (1268 + (x (428 + t)).toNat))) (fun i _ => by omega), sd_cnt_iv]
    omega
