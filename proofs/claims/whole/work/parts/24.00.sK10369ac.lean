theorem sK10_369_ac : Cond.methodLink "SitDown" 369 arraycopyName ∈ sd_tb := sd_in3_ (i := 197) rfl rfl
theorem sd_ns.cpm {x m : sd_M} (h : sd_ns x m) {sa : Nat} (da : Nat) {n : Nat} (hs : sa + n ≤ 5000 ∨ 6000 ≤ sa) : sd_ns (sd_cpm x sa da n) (sd_cpm m sa da n) := by
  intro j hj
  unfold sd_cpm
  split
  · exact h _ (by omega)
  · exact h j hj
def sd_mov (x : sd_M) (L : List (Nat × Nat × Nat)) : sd_M := fun j => match L with
  | [] => x j
  | q :: L => if q.2.1 ≤ j ∧ j < q.2.1 + q.2.2 then x (q.1 + (j - q.2.1)) else sd_mov x L j
def sd_apt (s n : Nat) (L : List (Nat × Nat × Nat)) : Bool := L.all (fun q => (s + n).ble q.2.1 || (q.2.1 + q.2.2).ble s)
theorem sd_mov_src {x : sd_M} {s n : Nat} {L : List (Nat × Nat × Nat)} (h : sd_apt s n L = true) : ∀ j, s ≤ j → j < s + n → sd_mov x L j = x j := by
  induction L with
  | nil => intro j _ _; rfl
  | cons q L ih =>
    intro j h1 h2
    simp only [sd_apt, List.all_cons, Bool.and_eq_true, Bool.or_eq_true] at h
    have ih' := ih (by simpa [sd_apt] using h.2) j h1 h2
    simp only [sd_mov]
    rw [if_neg, ih']
    intro hc
    rcases h.1 with q1 | q1
    · have := Nat.le_of_ble_eq_true q1; omega
    · have := Nat.le_of_ble_eq_true q1; omega
theorem sd_mov_cons {x : sd_M} {s d n : Nat} {L : List (Nat × Nat × Nat)} (h : sd_apt s n L = true) : sd_cpm (sd_mov x L) s d n = sd_mov x ((s, d, n) :: L) := by
  funext j
  simp only [sd_cpm, sd_mov]
  split
  · exact sd_mov_src h _ (by omega) (by omega)
  · rfl
theorem sd_mov_up {x : sd_M} {s d : Nat} {L : List (Nat × Nat × Nat)} : sd_up (sd_mov x L) d (x s) = sd_mov x ((s, d, 1) :: L) := by
  funext j
  simp only [sd_up, sd_mov]
  by_cases hj : j = d
  · subst hj
    rw [if_pos rfl, if_pos (by omega), Nat.sub_self, Nat.add_zero]
  · rw [if_neg hj, if_neg (by omega)]
theorem sd_mov_app {x : sd_M} {L L' : List (Nat × Nat × Nat)} (h : (L'.all (fun q => sd_apt q.1 q.2.2 L)) = true) : sd_mov (sd_mov x L) L' = sd_mov x (L' ++ L) := by
  induction L' with
  | nil => rfl
  | cons q L' ih =>
    funext j
    simp only [List.all_cons, Bool.and_eq_true] at h
    simp only [List.cons_append]
    show (if q.2.1 ≤ j ∧ j < q.2.1 + q.2.2 then sd_mov x L (q.1 + (j - q.2.1)) else sd_mov (sd_mov x L) L' j) = (if q.2.1 ≤ j ∧ j < q.2.1 + q.2.2 then x (q.1 + (j - q.2.1)) else sd_mov x (L' ++ L) j)
    split
    · exact sd_mov_src h.1 _ (by omega) (by omega)
    · exact congrFun (ih h.2) j
set_option maxRecDepth 100000 in
set_option maxHeartbeats 4000000 in
theorem cC_copyRow {k0 k b0 b nn : Nat} (hg0 : sd_ga sd_SC k0 b0 nn) (hg : sd_ga sd_SC k b nn) (hn : nn ≤ 2000) (m : sd_M) : sd_Ct sd_SC 1 sY10_copyRow [.inr k0, .inr k] m (fun r m' => r = none ∧ m' = sd_cpm m b0 b nn) := by
  refine sd_ct rfl (Nat.le_of_ble_eq_true rfl) (fun hok hm => ?_)
  show sd_Wp sd_SC 1 sY10_copyRow 0 [some (.inr k0), some (.inr k)] [] m _
  refine sd_aload_n sD10_copyRow_0 rfl ?_
  refine sd_iconst sD10_copyRow_1 (by decide) ?_
  refine sd_aload_n sD10_copyRow_2 rfl ?_
  refine sd_iconst sD10_copyRow_3 (by decide) ?_
  refine sd_aload_n sD10_copyRow_4 rfl ?_
  refine sd_alen sD10_copyRow_5 hg0 (by omega) ?_
  refine sd_aload_n sD10_copyRow_6 rfl ?_
  refine sd_alen sD10_copyRow_7 hg (by omega) ?_
  refine sd_mmin sD10_copyRow_8 sM10_134 (by decide) (Nat.le_of_ble_eq_true rfl) ?_
  refine sd_acopy (sa := b0) (da := b) (cnt := nn) sd_sokC sD10_copyRow_11 sK10_369_ac hg0 hg (by decide) (Nat.le_of_ble_eq_true rfl) (by omega) ?_
  refine sd_vreturn sD10_copyRow_14 rfl (fun hm => ?_)
  exact ⟨rfl, rfl⟩
