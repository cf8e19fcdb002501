/-! The words that every frame of the class and of the reference bears, and a pure world over them: memory is one function of flat addresses. -/
def sd_tb : List Cond := lw_tbl.filter goodWord
theorem sd_in {w : Cond} {i : Nat} (h : tables_1[i]? = some w) (g : goodWord w = true) : w ∈ sd_tb := List.mem_filter.mpr ⟨List.mem_append_right _ (List.mem_of_getElem? h), g⟩
theorem sd_in2 {w : Cond} {i : Nat} (h : (k2_sels lw_privs)[i]? = some w) (g : goodWord w = true) : w ∈ sd_tb := List.mem_filter.mpr ⟨List.mem_append_left _ (List.mem_of_getElem? h), g⟩
theorem sd_good {w : Cond} (h : w ∈ sd_tb) : (w.onTables && w.keeps) = true ∨ ∃ ty, w = .arrayClass ty := good_of_word (List.mem_filter.mp h).2
abbrev sd_V : Type := Int ⊕ Nat
abbrev sd_M : Type := Nat → Int
abbrev sd_Y : Type := MethodName × ByteArray × Nat × Option FieldType
abbrev sd_G : Type := (Nat → Nat) × va_G × ClassId × ClassId
abbrev sd_C : Type := (Nat × Nat) ⊕ (Nat × List (Nat ⊕ Nat)) ⊕ List Nat
abbrev sd_R (x : Int) : Prop := -2147483648 ≤ x ∧ x ≤ 2147483647
def sd_ok (v : sd_V) : Prop := match v with
  | .inl x => sd_R x
  | .inr _ => True
def sd_cv (g : sd_G) (v : sd_V) : Value := match v with
  | .inl x => .int (Int32.ofInt x)
  | .inr k => .ref (g.1 k)
def sd_fld (m : sd_M) (f : Nat ⊕ Nat) : sd_V := match f with
  | .inl a => .inl (m a)
  | .inr k => .inr k
def sd_cell (g : sd_G) (m : sd_M) (c : sd_C) : va_E := match c with
  | .inl (b, n) => .inl (g.2.2.1, n, .inl (fun i => if i < n then Int32.ofInt (m (b + i)) else 0))
  | .inr (.inl (ci, fs)) => .inr (ci, fs.map (fun f => sd_cv g (sd_fld m f)))
  | .inr (.inr ks) => .inl (g.2.2.2, ks.length, .inr (.inr (.inr (.inr (fun i => (ks[i]?).map g.1)))))
def sd_ws (S : List sd_C) (g : sd_G) (m : sd_M) : va_W := S.mapIdx (fun k c => (g.1 k, sd_cell g m c))
def sd_A (S : List sd_C) (g : sd_G) : Nat → Prop := fun q => ∃ k, k < S.length ∧ q = g.1 k
def sd_up (m : sd_M) (a : Nat) (v : Int) : sd_M := fun j => if j = a then v else m j
theorem sd_wsget {S : List sd_C} {g : sd_G} {m : sd_M} {k : Nat} {c : sd_C} (h : S[k]? = some c) : (sd_ws S g m)[k]? = some (g.1 k, sd_cell g m c) := by
  simp [sd_ws, List.getElem?_mapIdx, h]
theorem sd_wsinv {S : List sd_C} {g : sd_G} {m : sd_M} {k : Nat} {q : Nat × va_E} (h : (sd_ws S g m)[k]? = some q) : ∃ c, S[k]? = some c ∧ q = (g.1 k, sd_cell g m c) := by
  simp only [sd_ws, List.getElem?_mapIdx] at h
  cases hc : S[k]? with
  | none => rw [hc] at h; cases h
  | some c => rw [hc] at h; exact ⟨c, rfl, (Option.some.inj h).symm⟩
def sd_inj (S : List sd_C) (g : sd_G) : Prop := ∀ i j : Nat, i < S.length → j < S.length → g.1 i = g.1 j → i = j
theorem sd_D {S : List sd_C} {g : sd_G} (h : sd_inj S g) (m : sd_M) : va_D (sd_A S g) (sd_ws S g m) := by
  refine ⟨fun i j p q hp hq e => ?_, fun k q hk => ?_⟩
  · obtain ⟨c1, h1, rfl⟩ := sd_wsinv hp
    obtain ⟨c2, h2, rfl⟩ := sd_wsinv hq
    exact h i j (List.getElem?_eq_some_iff.mp h1).1 (List.getElem?_eq_some_iff.mp h2).1 e
  · obtain ⟨c1, h1, rfl⟩ := sd_wsinv hk
    exact ⟨k, (List.getElem?_eq_some_iff.mp h1).1, rfl⟩
/-- the addresses of a cell -/
def sd_has (c : sd_C) (a : Nat) : Prop := match c with
  | .inl (b, n) => b ≤ a ∧ a < b + n
  | .inr (.inl (_, fs)) => Sum.inl a ∈ fs
  | .inr (.inr _) => False
/-- every address has one owner, and stands once in it -/
def sd_sok (S : List sd_C) : Prop := ∀ (i j : Nat) (c c' : sd_C) (a : Nat), S[i]? = some c → S[j]? = some c' → sd_has c a → sd_has c' a → i = j
def sd_one (S : List sd_C) : Prop := ∀ (i ci : Nat) (fs : List (Nat ⊕ Nat)) (j k a : Nat), S[i]? = some (.inr (.inl (ci, fs))) → fs[j]? = some (.inl a) → fs[k]? = some (.inl a) → j = k
theorem sd_cell_up {g : sd_G} {m : sd_M} {c : sd_C} {a : Nat} {v : Int} (h : ¬ sd_has c a) : sd_cell g (sd_up m a v) c = sd_cell g m c := by
  rcases c with ⟨b, n⟩ | ⟨ci, fs⟩ | ks
  · simp only [sd_cell]
    congr 4
    funext i
    by_cases hi : i < n
    · rw [if_pos hi, if_pos hi]
      simp only [sd_up]
      rw [if_neg]
      intro e
      exact h ⟨by omega, by omega⟩
    · rw [if_neg hi, if_neg hi]
  · simp only [sd_cell]
    congr 2
    apply List.map_congr_left
    intro f hf
    rcases f with b | k
    · simp only [sd_fld, sd_up]
      rw [if_neg]
      intro e
      subst e
      exact h hf
    · rfl
  · rfl
theorem sd_ws_arr {S : List sd_C} (hS : sd_sok S) {g : sd_G} {m : sd_M} {k b n i : Nat} (hk : S[k]? = some (.inl (b, n))) (hi : i < n) (v : Int) :
    (sd_ws S g m).set k (g.1 k, .inl (g.2.2.1, n, .inl (upd (fun i => if i < n then Int32.ofInt (m (b + i)) else 0) i (Int32.ofInt v)))) = sd_ws S g (sd_up m (b + i) v) := by
  apply List.ext_getElem?
  intro j
  rw [List.getElem?_set]
  by_cases hj : k = j
  · subst hj
    have hl : k < (sd_ws S g m).length := by simp only [sd_ws, List.length_mapIdx]; exact (List.getElem?_eq_some_iff.mp hk).1
    rw [if_pos rfl, if_pos hl, sd_wsget hk]
    simp only [sd_cell]
    congr 5
    congr 1
    funext q
    simp only [upd, sd_up]
    by_cases hq : q = i
    · subst hq
      rw [if_pos rfl, if_pos hi, if_pos rfl]
    · rw [if_neg hq]
      by_cases hn : q < n
      · rw [if_pos hn, if_pos hn, if_neg (by omega)]
      · rw [if_neg hn, if_neg hn]
  · rw [if_neg hj]
    cases hc : S[j]? with
    | none => simp [sd_ws, List.getElem?_mapIdx, hc]
    | some c =>
      rw [sd_wsget hc, sd_wsget hc, sd_cell_up]
      intro hh
      exact hj (hS k j _ c (b + i) hk hc ⟨by omega, by omega⟩ hh)
theorem sd_ws_fld {S : List sd_C} (hS : sd_sok S) (h1 : sd_one S) {g : sd_G} {m : sd_M} {k ci j a : Nat} {fs : List (Nat ⊕ Nat)} (hk : S[k]? = some (.inr (.inl (ci, fs)))) (hj : fs[j]? = some (.inl a)) (v : Int) :
    (sd_ws S g m).set k (g.1 k, .inr (ci, (fs.map (fun f => sd_cv g (sd_fld m f))).set j (.int (Int32.ofInt v)))) = sd_ws S g (sd_up m a v) := by
  apply List.ext_getElem?
  intro i
  rw [List.getElem?_set]
  by_cases hi : k = i
  · subst hi
    have hl : k < (sd_ws S g m).length := by simp only [sd_ws, List.length_mapIdx]; exact (List.getElem?_eq_some_iff.mp hk).1
    rw [if_pos rfl, if_pos hl, sd_wsget hk]
    simp only [sd_cell]
    congr 4
    apply List.ext_getElem?
    intro q
    rw [List.getElem?_set]
    by_cases hq : j = q
    · subst hq
      have hlt : j < fs.length := (List.getElem?_eq_some_iff.mp hj).1
      rw [if_pos rfl, if_pos (by simpa using hlt), List.getElem?_map, hj]
      simp [sd_fld, sd_up, sd_cv]
    · rw [if_neg hq, List.getElem?_map, List.getElem?_map]
      cases hf : fs[q]? with
      | none => rfl
      | some f =>
        rcases f with b | b
        · simp only [Option.map_some, sd_fld, sd_up]
          rw [if_neg]
          intro e
          subst e
          exact hq (h1 k ci fs j q b hk hj hf)
        · rfl
  · rw [if_neg hi]
    cases hc : S[i]? with
    | none => simp [sd_ws, List.getElem?_mapIdx, hc]
    | some c =>
      rw [sd_wsget hc, sd_wsget hc, sd_cell_up]
      intro hh
      exact hi (hS k i _ c a hk hc (List.mem_of_getElem? hj) hh)
