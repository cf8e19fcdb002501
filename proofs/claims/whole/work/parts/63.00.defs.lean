def sd_gT (t : Nat × Nat × Int) : Prop := t.1 < 4 ∧ t.2.1 < 4 ∧ 0 ≤ t.2.2 ∧ t.2.2 ≤ 999
def sd_gC (c : sd_Cl_) : Prop := c.1 < 2 ∧ c.2.2.length ≤ 3 ∧ ∀ t ∈ c.2.2, sd_gT t
theorem sd_roA_lt {B : Nat → Int} {p : Nat} : ∀ (ws : List Nat) (j i q : Nat), sd_roA B p ws j = .inr (i, q) → i < j + ws.length := by
  intro ws
  induction ws with
  | nil => intro j i q h; simp only [sd_roA] at h; cases h
  | cons w ws ih =>
    intro j i q h
    simp only [sd_roA] at h
    split at h
    · split at h
      · cases h; simp only [List.length_cons]; omega
      · cases h
    · have := ih _ _ _ h
      simp only [List.length_cons]; omega
theorem sd_ts_g {B : Nat → Int} {p q : Nat} {t : Nat × Nat × Int} (h : sd_ts B p = .inr (t, q)) : sd_gT t := by
  unfold sd_ts at h
  cases e1 : sd_roA B p [8, 9, 10, 11] 0 with
  | inl a => rw [e1] at h; cases h
  | inr a =>
    obtain ⟨f, q1⟩ := a
    rw [e1] at h
    dsimp only at h
    cases e2 : sd_roA B q1 [12, 13, 14, 2] 0 with
    | inl a => rw [e2] at h; cases h
    | inr a =>
      obtain ⟨o, q2⟩ := a
      rw [e2] at h
      dsimp only at h
      have z1 := sd_roA_lt _ _ _ _ e1
      have z2 := sd_roA_lt _ _ _ _ e2
      simp only [List.length_cons, List.length_nil] at z1 z2
      have z3 := sd_nv_dn B q2
      split at h
      · cases h
      · cases h
        have z4 : 0 ≤ sd_nv B q2 (sd_dn B q2) ∧ sd_nv B q2 (sd_dn B q2) ≤ 999 := by omega
        exact ⟨by dsimp only; omega, by dsimp only; omega, z4.1, z4.2⟩
theorem sd_tt_g {B : Nat → Int} : ∀ (k p : Nat) (ts : List (Nat × Nat × Int)) (q : Nat), sd_tt B k p = .inr (ts, q) → ∀ t ∈ ts, sd_gT t := by
  intro k
  induction k with
  | zero => intro p ts q h; simp only [sd_tt] at h; cases h
  | succ k ih =>
    intro p ts q h t ht
    simp only [sd_tt] at h
    cases e1 : sd_ts B p with
    | inl a => rw [e1] at h; cases h
    | inr a =>
      obtain ⟨t0, q1⟩ := a
      rw [e1] at h
      dsimp only at h
      have g := sd_ts_g e1
      split at h
      · cases h
        rw [List.mem_singleton] at ht
        subst ht; exact g
      · split at h
        · cases e2 : sd_tt B k (q1 + 1) with
          | inl a => rw [e2] at h; cases h
          | inr a =>
            obtain ⟨ts2, e⟩ := a
            rw [e2] at h
            cases h
            rcases List.mem_cons.mp ht with w | w
            · subst w; exact g
            · exact ih _ _ _ e2 t w
        · cases h
          rw [List.mem_singleton] at ht
          subst ht; exact g
theorem sd_wd_g {B : Nat → Int} {p q : Nat} {sw : Nat × Nat} (h : sd_wd B p = .inr (sw, q)) : sw.1 < 2 := by
  unfold sd_wd at h
  cases e1 : sd_roA B p [0, 1, 2, 2] 0 with
  | inl a => rw [e1] at h; cases h
  | inr a =>
    obtain ⟨s, q1⟩ := a
    rw [e1] at h
    dsimp only at h
    have z := sd_roA_j2 e1
    split at h
    · cases e2 : sd_roA B (q1 + 1) [3, 4, 5, 6] 0 with
      | inl a => rw [e2] at h; cases h
      | inr a =>
        obtain ⟨w, q2⟩ := a
        rw [e2] at h
        cases h
        exact z
    · cases h
theorem sd_cls_g {B : Nat → Int} {p q : Nat} {cl : sd_Cl_} (h : sd_cls B p = .inr (cl, q)) : sd_gC cl := by
  refine ⟨?_, sd_cls_len h, ?_⟩
  · unfold sd_cls at h
    cases e1 : sd_wd B p with
    | inl a => rw [e1] at h; cases h
    | inr a =>
      obtain ⟨sw, q1⟩ := a
      rw [e1] at h
      dsimp only at h
      have z := sd_wd_g e1
      split at h
      · split at h
        · cases e2 : sd_tt B 3 (sd_fe B (q1 + 1) 7) with
          | inl a => rw [e2] at h; cases h
          | inr a =>
            obtain ⟨ts, e⟩ := a
            rw [e2] at h
            cases h
            exact z
        · cases h
      · cases h
        exact z
  · unfold sd_cls at h
    cases e1 : sd_wd B p with
    | inl a => rw [e1] at h; cases h
    | inr a =>
      obtain ⟨sw, q1⟩ := a
      rw [e1] at h
      dsimp only at h
      split at h
      · split at h
        · cases e2 : sd_tt B 3 (sd_fe B (q1 + 1) 7) with
          | inl a => rw [e2] at h; cases h
          | inr a =>
            obtain ⟨ts, e⟩ := a
            rw [e2] at h
            cases h
            exact sd_tt_g _ _ _ _ e2
        · cases h
      · cases h
        intro t ht
        cases ht
theorem sd_txt_g {B : Nat → Int} {n : Nat} : ∀ (k p : Nat) (cs : List sd_Cl_), sd_txt B n k p = .inr cs → cs.length ≤ k ∧ ∀ c ∈ cs, sd_gC c := by
  intro k
  induction k with
  | zero => intro p cs h; simp only [sd_txt] at h; cases h
  | succ k ih =>
    intro p cs h
    simp only [sd_txt] at h
    cases e1 : sd_cls B p with
    | inl a => rw [e1] at h; cases h
    | inr a =>
      obtain ⟨c0, q1⟩ := a
      rw [e1] at h
      dsimp only at h
      have g := sd_cls_g e1
      split at h
      · cases h
        refine ⟨by simp only [List.length_cons, List.length_nil]; omega, fun c hc => ?_⟩
        rw [List.mem_singleton] at hc
        subst hc; exact g
      · split at h
        · cases h
        · split at h
          · cases e2 : sd_txt B n k (q1 + 1) with
            | inl a => rw [e2] at h; cases h
            | inr cs2 =>
              rw [e2] at h
              cases h
              have z := ih _ _ e2
              refine ⟨by simp only [List.length_cons]; omega, fun c hc => ?_⟩
              rcases List.mem_cons.mp hc with w | w
              · subst w; exact g
              · exact z.2 c w
          · cases h
def sd_IR1 (x : sd_M) (t : Nat) : Prop := (0 ≤ x (6010 + t) ∧ x (6010 + t) ≤ 5) ∧ ∀ c : Nat, (c : Int) < x (6010 + t) → (0 ≤ x (6100 + (5 * t + c)) ∧ x (6100 + (5 * t + c)) ≤ 3) ∧ (x (6020 + (5 * t + c)) = 0 ∨ x (6020 + (5 * t + c)) = 1) ∧ ∀ k : Nat, (k : Int) < x (6100 + (5 * t + c)) → (0 ≤ x (6140 + (3 * (5 * t + c) + k)) ∧ x (6140 + (3 * (5 * t + c) + k)) ≤ 3) ∧ (-1 ≤ x (6260 + (3 * (5 * t + c) + k)) ∧ x (6260 + (3 * (5 * t + c) + k)) ≤ 2) ∧ (0 ≤ x (6380 + (3 * (5 * t + c) + k)) ∧ x (6380 + (3 * (5 * t + c) + k)) ≤ 999)
def sd_IT1 (x : sd_M) (t : Nat) : Prop := ∃ cs, sd_txt (sd_stB x t) (x (460 + t)).toNat 5 0 = .inr cs ∧ (0 ≤ x (460 + t) ∧ x (460 + t) ≤ 100) ∧ x (6010 + t) = (cs.length : Int) ∧ ∀ (i : Nat) (cl : sd_Cl_), cs[i]? = some cl → sd_rC x (5 * t + i) cl
theorem sd_IR1.keep {x y : sd_M} {t T : Nat} (h : sd_IR1 x t) (ht : t < T) (hT : T < 8) (e : ∀ j, 6010 ≤ j → j < 6500 → ¬ sd_rg T 0 j → y j = x j) : sd_IR1 y t := by
  obtain ⟨a, b⟩ := h
  unfold sd_IR1
  rw [e (6010 + t) (by omega) (by omega) (by omega)]
  refine ⟨a, fun c hc => ?_⟩
  obtain ⟨d, f, g⟩ := b c hc
  rw [e (6100 + (5 * t + c)) (by omega) (by omega) (by omega), e (6020 + (5 * t + c)) (by omega) (by omega) (by omega)]
  refine ⟨d, f, fun k hk => ?_⟩
  rw [e (6140 + (3 * (5 * t + c) + k)) (by omega) (by omega) (by omega), e (6260 + (3 * (5 * t + c) + k)) (by omega) (by omega) (by omega), e (6380 + (3 * (5 * t + c) + k)) (by omega) (by omega) (by omega)]
  exact g k hk
theorem sd_IT1.keep {x y : sd_M} {t T : Nat} (h : sd_IT1 x t) (hR : sd_IR1 x t) (ht : t < T) (hT : T < 8) (e0 : y (460 + t) = x (460 + t)) (e1 : ∀ q, q < 100 → y (468 + 100 * t + q) = x (468 + 100 * t + q)) (e : ∀ j, 6010 ≤ j → j < 6500 → ¬ sd_rg T 0 j → y j = x j) : sd_IT1 y t := by
  obtain ⟨cs, a, b, c, d⟩ := h
  have r := hR.1
  have eB : sd_stB y t = sd_stB x t := by
    funext q
    unfold sd_stB
    rw [e0]
    by_cases z : q < (x (460 + t)).toNat
    · rw [if_pos z, if_pos z, e1 _ (by omega)]
    · rw [if_neg z, if_neg z]
  refine ⟨cs, ?_, ?_, ?_, fun i cl hi => ?_⟩
  · rw [eB, e0]; exact a
  · rw [e0]; exact b
  · rw [e _ (by omega) (by omega) (by omega)]; exact c
  · have hl := (List.getElem?_eq_some_iff.mp hi).1
    have rC := d i cl hi
    have hlen : cl.2.2.length ≤ 3 := by
      have z := (hR.2 i (by omega)).1
      rw [rC.2.2.1] at z
      omega
    exact sd_rC_keep rC hlen (fun j hj => e j (by omega) (by omega) (by omega))
theorem sd_IR1.new {y : sd_M} {t : Nat} {cs : List sd_Cl_} (hl : cs.length ≤ 5) (g : ∀ c ∈ cs, sd_gC c) (h0 : y (6010 + t) = (cs.length : Int)) (h : ∀ (i : Nat) (cl : sd_Cl_), cs[i]? = some cl → sd_rC y (5 * t + i) cl) : sd_IR1 y t := by
  unfold sd_IR1
  rw [h0]
  refine ⟨by omega, fun c hc => ?_⟩
  have hc2 : c < cs.length := by omega
  have e := List.getElem?_eq_getElem hc2
  have gc := g _ (List.getElem_mem hc2)
  obtain ⟨r1, r2, r3, r4⟩ := h c _ e
  rw [r3, r1]
  refine ⟨by have := gc.2.1; omega, by have := gc.1; omega, fun k hk => ?_⟩
  have hk2 : k < (cs[c]).2.2.length := by omega
  have e2 := List.getElem?_eq_getElem hk2
  have gt := gc.2.2 _ (List.getElem_mem hk2)
  obtain ⟨s1, s2, s3⟩ := r4 k _ e2
  rw [s1, s2, s3]
  obtain ⟨u1, u2, u3, u4⟩ := gt
  exact ⟨by omega, by omega, by omega, by omega⟩
