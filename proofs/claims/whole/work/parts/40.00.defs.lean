abbrev sd_rg (t c j : Nat) : Prop := (6020 + 5 * t + c ≤ j ∧ j < 6025 + 5 * t) ∨ (6060 + 5 * t + c ≤ j ∧ j < 6065 + 5 * t) ∨ (6100 + 5 * t + c ≤ j ∧ j < 6105 + 5 * t) ∨ (6140 + 15 * t + 3 * c ≤ j ∧ j < 6155 + 15 * t) ∨ (6260 + 15 * t + 3 * c ≤ j ∧ j < 6275 + 15 * t) ∨ (6380 + 15 * t + 3 * c ≤ j ∧ j < 6395 + 15 * t) ∨ j = 6010 + t
def sd_Qt (B : Nat → Int) (n t c k p : Nat) (x : sd_M) (r : Option sd_V) (m' : sd_M) : Prop := ∃ X, sd_ns X m' ∧ (∀ j, ¬ sd_rg t c j → X j = x j) ∧ ((∃ e, sd_txt B n k p = .inl e ∧ r = some (.inl 0) ∧ m' 5390 = (e : Int)) ∨ (∃ cs, sd_txt B n k p = .inr cs ∧ r = some (.inl 1) ∧ X (6010 + t) = ((c + cs.length : Nat) : Int) ∧ ∀ (i : Nat) (cl : sd_Cl_), cs[i]? = some cl → sd_rC X (5 * t + c + i) cl))
theorem sd_rC_keep {X X' : sd_M} {c : Nat} {cl : sd_Cl_} (h : sd_rC X c cl) (hl : cl.2.2.length ≤ 3) (hk : ∀ j, (j = 6020 + c ∨ j = 6060 + c ∨ j = 6100 + c ∨ (6140 + 3 * c ≤ j ∧ j < 6143 + 3 * c) ∨ (6260 + 3 * c ≤ j ∧ j < 6263 + 3 * c) ∨ (6380 + 3 * c ≤ j ∧ j < 6383 + 3 * c)) → X' j = X j) : sd_rC X' c cl := by
  obtain ⟨a, b, d, e⟩ := h
  refine ⟨by rw [hk _ (by omega)]; exact a, by rw [hk _ (by omega)]; exact b, by rw [hk _ (by omega)]; exact d, fun k t ht => ?_⟩
  have hk3 : k < 3 := by
    have := (List.getElem?_eq_some_iff.mp ht).1
    omega
  obtain ⟨p, q, r⟩ := e k t ht
  exact ⟨by rw [hk _ (by omega)]; exact p, by rw [hk _ (by omega)]; exact q, by rw [hk _ (by omega)]; exact r⟩
theorem sd_tt_len {B : Nat → Int} : ∀ (k p : Nat) (ts : List (Nat × Nat × Int)) (q : Nat), sd_tt B k p = .inr (ts, q) → ts.length ≤ k := by
  intro k
  induction k with
  | zero => intro p ts q h; simp [sd_tt] at h
  | succ k ih =>
    intro p ts q h
    simp only [sd_tt] at h
    cases h1 : sd_ts B p with
    | inl e => rw [h1] at h; cases h
    | inr z =>
      obtain ⟨t, e⟩ := z
      rw [h1] at h
      simp only at h
      split at h
      · cases h; simp
      · split at h
        · cases h2 : sd_tt B k (e + 1) with
          | inl e2 => rw [h2] at h; cases h
          | inr z2 =>
            obtain ⟨ts2, e2⟩ := z2
            have hl := ih (e + 1) ts2 e2 h2
            rw [h2] at h
            cases h
            simp; omega
        · cases h; simp
theorem sd_cls_len {B : Nat → Int} {p q : Nat} {cl : sd_Cl_} (h : sd_cls B p = .inr (cl, q)) : cl.2.2.length ≤ 3 := by
  unfold sd_cls at h
  cases h1 : sd_wd B p with
  | inl e => rw [h1] at h; cases h
  | inr z =>
    obtain ⟨sw, e⟩ := z
    rw [h1] at h
    simp only at h
    split at h
    · split at h
      · cases h2 : sd_tt B 3 (sd_fe B (e + 1) 7) with
        | inl e2 => rw [h2] at h; cases h
        | inr z2 =>
          obtain ⟨ts, e2⟩ := z2
          have hl := sd_tt_len 3 _ ts e2 h2
          rw [h2] at h
          cases h
          exact hl
      · cases h
    · cases h; simp
theorem sd_Qt_step {B : Nat → Int} {n t c k p q : Nat} {x X : sd_M} {cl : sd_Cl_} {r : Option sd_V} {m' : sd_M} (ht : t < 8) (hck : c + 1 + k = 5) (hcls : sd_cls B p = .inr (cl, q)) (hqn : ¬ q = n) (hk : ¬ k = 0) (hb : B q = 59) (hC : sd_rC X (5 * t + c) cl) (hfr : ∀ j, ¬ sd_rg t c j → X j = x j) (h : sd_Qt B n t (c + 1) k (q + 1) X r m') : sd_Qt B n t c (k + 1) p x r m' := by
  obtain ⟨X', a, b, d⟩ := h
  refine ⟨X', a, fun j hj => (b j (by omega)).trans (hfr j hj), ?_⟩
  rcases d with ⟨e, h1, h2, h3⟩ | ⟨cs, h1, h2, h3, h4⟩
  · exact Or.inl ⟨e, by simp only [sd_txt, hcls]; rw [if_neg hqn, if_neg hk, if_pos hb, h1], h2, h3⟩
  · refine Or.inr ⟨cl :: cs, by simp only [sd_txt, hcls]; rw [if_neg hqn, if_neg hk, if_pos hb, h1], h2, by rw [h3]; simp only [List.length_cons]; omega, fun i cl' hi => ?_⟩
    rcases i with _ | i
    · simp at hi
      subst hi
      exact sd_rC_keep hC (sd_cls_len hcls) (fun j hj => b j (by omega))
    · have := h4 i cl' (by simpa using hi)
      rw [show 5 * t + c + (i + 1) = 5 * t + (c + 1) + i from by omega]
      exact this
