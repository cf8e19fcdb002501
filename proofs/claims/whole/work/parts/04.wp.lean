/-! What a frame bears that nobody writes: links of nest mates, two static rows, String constants. -/
def sd_isn (w : Cond) : Bool := match w with
  | .methodLinkNest _ _ _ _ => true
  | _ => false
def sd_nest : List Cond := tables_1.filter sd_isn
theorem sd_isn_of {w : Cond} (h : sd_isn w = true) : ∃ a i x h, w = .methodLinkNest a i x h := by
  cases w <;> first | exact ⟨_, _, _, _, rfl⟩ | cases h
def sd_kth : List Int := [0, 0, 0, 1, 1, 1, 1, 2, 3, 3, 4, 6, 6]
def sd_abv : List Int := [-1, 0, 1, 0, 0, 4, 0]
def sd_sx : List (Nat × String) := [(45, "may"), (47, "bar"), (49, ""), (55, "leave"), (57, "pass"), (59, "take"), (61, "make"), (33, "when "), (75, "day"), (77, "hour"), (79, "men"), (81, "warm"), (83, "<"), (85, "="), (87, ">")]
def sd_byt : List (List Int32) := [[109, 97, 121], [98, 97, 114], [], [108, 101, 97, 118, 101], [112, 97, 115, 115], [116, 97, 107, 101], [109, 97, 107, 101], [119, 104, 101, 110, 32], [100, 97, 121], [104, 111, 117, 114], [109, 101, 110], [119, 97, 114, 109], [60], [61], [62]]
def sd_len : List Nat := [3, 3, 0, 5, 4, 4, 4, 5, 3, 4, 3, 4, 1, 1, 1]
def sd_RO (g : sd_G) (A : Nat → Prop) (U : State) (H : Heap) : Prop :=
  (∀ w ∈ sd_nest, va_Nw w U) ∧
  (va_Z "SitDown" "KIND_THAT_HAS" "[I" (.ref (g.1 900)) A U H ∧ va_T .int (g.1 900) 13 (fun j => .int (Int32.ofInt (sd_kth.getD j 0))) A U H) ∧
  (va_Z "SitDown$Holds" "ABOVE" "[I" (.ref (g.1 901)) A U H ∧ va_T .int (g.1 901) 7 (fun j => .int (Int32.ofInt (sd_abv.getD j 0))) A U H) ∧
  va_Z "java/lang/String" "COMPACT_STRINGS" "Z" (.int 1) A U H ∧
  (∃ v : Value, v.isRef = true ∧ va_Z "jdk/internal/util/Preconditions" "SIOOBE_FORMATTER" "Ljava/util/function/BiFunction;" v A U H) ∧
  vk_S 15 sd_len sd_byt (fun i => g.1 (910 + i)) (fun i => g.1 (930 + i)) A U H ∧
  ∀ (i : Nat) (q : Nat × String), sd_sx[i]? = some q → vk_R "SitDown$Tape" q.1 q.2 (g.1 (910 + i)) U
theorem sd_RO.kept {g : sd_G} {A : Nat → Prop} {U : State} {H H1 : Heap} (h : sd_RO g A U H) (hq : ∀ a : Nat, a < H.size → ¬ A a → H1[a]? = H[a]?) : sd_RO g A U H1 := by
  obtain ⟨h1, ⟨h2, h3⟩, ⟨h4, h5⟩, h6, ⟨v, h70, h7⟩, h8, h9⟩ := h
  exact ⟨h1, ⟨h2.kept hq, h3.kept hq⟩, ⟨h4.kept hq, h5.kept hq⟩, h6.kept hq, ⟨v, h70, h7.kept hq⟩, h8.kept hq, h9⟩
theorem sd_RO.narrow {g : sd_G} {A B : Nat → Prop} {U : State} {H : Heap} (h : sd_RO g A U H) (hq : ∀ q, B q → A q) : sd_RO g B U H := by
  obtain ⟨h1, ⟨h2, h3⟩, ⟨h4, h5⟩, h6, ⟨v, h70, h7⟩, h8, h9⟩ := h
  exact ⟨h1, ⟨h2.narrow hq, h3.narrow hq⟩, ⟨h4.narrow hq, h5.narrow hq⟩, h6.narrow hq, ⟨v, h70, h7.narrow hq⟩, h8.narrow hq, h9⟩
theorem sd_RO.warm {g : sd_G} {A : Nat → Prop} {s U : State} {H : Heap} (hW : s.WarmedH U.vm) (h : sd_RO g A s H) : sd_RO g A U H := by
  obtain ⟨h1, ⟨h2, h3⟩, ⟨h4, h5⟩, h6, ⟨v, h70, h7⟩, h8, h9⟩ := h
  refine ⟨fun w hw => ?_, ⟨h2.moved hW.alike, h3.moved hW.alike⟩, ⟨h4.moved hW.alike, h5.moved hW.alike⟩, h6.moved hW.alike, ⟨v, h70, h7.moved hW.alike⟩, h8.moved hW.alike, fun i q hi => (h9 i q hi).warm hW⟩
  obtain ⟨a, i, x, hh, rfl⟩ := sd_isn_of (List.mem_filter.mp hw).2
  exact va_Nw.warmM hW (h1 _ hw)
theorem sd_RO.same {g : sd_G} {A : Nat → Prop} {s U : State} {H : Heap} (hv : s.vm = U.vm) (h : sd_RO g A s H) : sd_RO g A U H := by
  have ha : s.vm.Alike U.vm := by rw [hv]; exact Vm.Alike.refl _
  obtain ⟨h1, ⟨h2, h3⟩, ⟨h4, h5⟩, h6, ⟨v, h70, h7⟩, h8, h9⟩ := h
  refine ⟨fun w hw => ?_, ⟨h2.moved ha, h3.moved ha⟩, ⟨h4.moved ha, h5.moved ha⟩, h6.moved ha, ⟨v, h70, h7.moved ha⟩, h8.moved ha, fun i q hi => (h9 i q hi).same hv.symm⟩
  obtain ⟨a, i, x, hh, rfl⟩ := sd_isn_of (List.mem_filter.mp hw).2
  exact va_Nw.same rfl hv (h1 _ hw)
abbrev sd_tys (g : sd_G) : List (ClassId × FieldType) := [(g.2.2.1, .int), (g.2.2.2, .object "SitDown$Sheet")]
def sd_F (S : List sd_C) (g : sd_G) (Y : sd_Y) (p : Program) (s : State) (mi : MethodId) (args : Array Value) (meth : Method) (c : Code) : Prop :=
  p.tables.exec = Jvm.exec ∧ c.code = Y.2.1 ∧ c.maxLocals = Y.2.2.1 ∧ s.vm.findClass Y.1.cls = some mi.cls ∧ (∀ w ∈ sd_tb, w.before args s = true) ∧ meth.sig.returnType = Y.2.2.2 ∧ meth.locks = false ∧ sd_inj S g ∧ va_K g.2.1 sd_cl (sd_tys g) s ∧ sd_RO g (sd_A S g) s s.heap
/-- the locals: one value a place, or nothing known -/
def sd_lv (g : sd_G) (ls : List (Option sd_V)) : List (Nat × Value) := ls.zipIdx.filterMap (fun q => q.1.map (fun v => (q.2, sd_cv g v)))
theorem sd_lvmem {g : sd_G} {ls : List (Option sd_V)} {i : Nat} {w : Value} : (i, w) ∈ sd_lv g ls ↔ ∃ v, ls[i]? = some (some v) ∧ w = sd_cv g v := by
  simp only [sd_lv, List.mem_filterMap, Option.map_eq_some_iff, Prod.exists, Prod.mk.injEq]
  constructor
  · rintro ⟨o, j, hm, v, rfl, rfl, rfl⟩
    exact ⟨v, List.mem_zipIdx_iff_getElem?.mp hm, rfl⟩
  · rintro ⟨v, h, rfl⟩
    exact ⟨some v, i, List.mem_zipIdx_iff_getElem?.mpr h, v, rfl, rfl, rfl⟩
theorem sd_cat (g : sd_G) (v : sd_V) : (sd_cv g v).category = 1 := by rcases v with x | k <;> rfl
def sd_L (g : sd_G) (nL : Nat) (lc : Array Slot) (ls : List (Option sd_V)) : Prop := lv_has lc nL (sd_lv g ls) ∧ ls.length = nL ∧ ∀ v, some v ∈ ls → sd_ok v
theorem sd_rd {g : sd_G} {nL : Nat} {lc : Array Slot} {ls : List (Option sd_V)} (h : sd_L g nL lc ls) {i : Nat} {v : sd_V} (hi : ls[i]? = some (some v)) : lc[i]? = some (.val (sd_cv g v)) := h.1.2.2 (i, sd_cv g v) (sd_lvmem.mpr ⟨v, hi, rfl⟩)
theorem sd_rdok {g : sd_G} {nL : Nat} {lc : Array Slot} {ls : List (Option sd_V)} (h : sd_L g nL lc ls) {i : Nat} {v : sd_V} (hi : ls[i]? = some (some v)) : sd_ok v := h.2.2 v (List.mem_of_getElem? hi)
theorem sd_st {g : sd_G} {nL : Nat} {lc lc' : Array Slot} {ls : List (Option sd_V)} (h : sd_L g nL lc ls) {i : Nat} {v : sd_V} (hv : sd_ok v) (h' : lv_has lc' nL ((i, sd_cv g v) :: (sd_lv g ls).filter (fun q => !(q.1 == i) && !(q.1 + 1 == i && q.2.category == 2)))) : sd_L g nL lc' (ls.set i (some v)) := by
  refine ⟨⟨h'.1, h'.2.1, ?_⟩, by rw [List.length_set]; exact h.2.1, ?_⟩
  · rintro ⟨j, w⟩ hm
    obtain ⟨u, hu, rfl⟩ := sd_lvmem.mp hm
    apply h'.2.2
    rw [List.getElem?_set] at hu
    by_cases hj : i = j
    · subst hj
      rw [if_pos rfl] at hu
      split at hu
      · cases hu; exact List.mem_cons_self
      · cases hu
    · rw [if_neg hj] at hu
      refine List.mem_cons_of_mem _ (List.mem_filter.mpr ⟨sd_lvmem.mpr ⟨u, hu, rfl⟩, ?_⟩)
      have hne : ¬ j = i := fun e => hj e.symm
      simp [sd_cat, hne]
  · intro u hu
    rcases List.mem_or_eq_of_mem_set hu with h2 | h2
    · exact h.2.2 u h2
    · cases h2; exact hv
def sd_rm (d : Nat) : Room := { frames := d, cells := 0, slots := 0, locals := 64 * d }
def sd_Qc (S : List sd_C) (g : sd_G) (Q : Option sd_V → sd_M → Prop) : Array Value → State → Outcome → State → Prop := fun _ st o t =>
  (∃ (r : Option sd_V) (m' : sd_M), o = .returned (r.map (sd_cv g)) ∧ Q r m' ∧ (∀ v, r = some v → sd_ok v) ∧ (∀ j, sd_R (m' j)) ∧ va_P g.2.1 sd_cl (sd_ws S g m') t.heap) ∧ va_F (sd_A S g) st t
def sd_Pc (S : List sd_C) (g : sd_G) (as : List sd_V) (m : sd_M) : Array Value → State → Prop := fun v U =>
  v = (as.map (sd_cv g)).toArray ∧ (∀ a ∈ as, sd_ok a) ∧ (∀ j, sd_R (m j)) ∧ va_P g.2.1 sd_cl (sd_ws S g m) U.heap ∧ sd_inj S g ∧ va_K g.2.1 sd_cl (sd_tys g) U ∧ sd_RO g (sd_A S g) U U.heap
def sd_Wp (S : List sd_C) (n : Nat) (Y : sd_Y) (pc : Nat) (ls : List (Option sd_V)) (st : List sd_V) (m : sd_M) (Q : Option sd_V → sd_M → Prop) : Prop :=
  ∀ (d : Nat) (g : sd_G) (p : Program) (l : Launch) (e : Env) (s : State) (mi : MethodId) (args : Array Value) (below : List Frame) (meth : Method) (c : Code) (H : Heap) (locs : List Loc) (lc : Array Slot),
    n ≤ d → sd_F S g Y p s mi args meth c → va_P g.2.1 sd_cl (sd_ws S g m) H → (∀ j, sd_R (m j)) → va_S (sd_A S g) s.heap H locs → sd_L g Y.2.2.1 lc ls → (∀ v ∈ st, sd_ok v) →
    W p l e (sd_rm d) s mi args below meth c H locs 0 0 (MQ below (sd_Qc S g Q) args s 0 0 (sd_A S g)) (F0 mi pc lc (st.map (sd_cv g)))
def sd_wy (Y : sd_Y) : List Cond := Cond.code Y.1 Y.2.1 Y.2.2.1 Y.2.2.2 :: sd_tb
def sd_Ct (S : List sd_C) (n : Nat) (Y : sd_Y) (as : List sd_V) (m : sd_M) (Q : Option sd_V → sd_M → Prop) : Prop :=
  ∀ (d : Nat), n ≤ d → ∀ (l : Launch) (g : sd_G), Met l Y.1 (sd_wy Y) (sd_rm d) (sd_Pc S g as m) (sd_Qc S g Q) 0 0 (sd_A S g)
theorem sd_args (g : sd_G) (as : List sd_V) : ∀ (k i : Nat) (w : Value), (i, w) ∈ lv_args k (as.map (sd_cv g)) ↔ ∃ j v, as[j]? = some v ∧ i = k + j ∧ w = sd_cv g v := by
  induction as with
  | nil => intro k i w; simp [lv_args]
  | cons a as ih =>
    intro k i w
    simp only [List.map_cons, lv_args, sd_cat, List.mem_cons, Prod.mk.injEq]
    rw [if_neg (by decide), ih]
    constructor
    · rintro (⟨rfl, rfl⟩ | ⟨j, v, h1, h2, h3⟩)
      · exact ⟨0, a, rfl, rfl, rfl⟩
      · exact ⟨j + 1, v, by simpa using h1, by omega, h3⟩
    · rintro ⟨j, v, h1, h2, h3⟩
      rcases j with _ | j
      · left
        simp at h1
        subst h1
        exact ⟨h2, h3⟩
      · right
        exact ⟨j, v, by simpa using h1, by omega, h3⟩
theorem sd_sl (g : sd_G) (as : List sd_V) : (lg_sl (as.map (sd_cv g))).length = as.length := by
  induction as with
  | nil => rfl
  | cons a as ih =>
    have h2 : lg_sl ((a :: as).map (sd_cv g)) = Slot.val (sd_cv g a) :: lg_sl (as.map (sd_cv g)) := by
      simp [lg_sl, sd_cat]
    rw [h2, List.length_cons, ih, List.length_cons]
/-- a contract out of the walk of its body -/
theorem sd_ct {S : List sd_C} {n : Nat} {Y : sd_Y} {as : List sd_V} {m : sd_M} {Q : Option sd_V → sd_M → Prop} (hp : plainName Y.1.cls = true) (hl : as.length ≤ Y.2.2.1)
    (h : (∀ a ∈ as, sd_ok a) → (∀ j, sd_R (m j)) → sd_Wp S n Y 0 (as.map some ++ List.replicate (Y.2.2.1 - as.length) none) [] m Q) : sd_Ct S n Y as m Q := by
  intro d hd l g
  refine Met.ofW (cc := Y.2.1) (maxL := Y.2.2.1) (ret := Y.2.2.2) hp rfl ?_
  intro p e s mi args below meth c s₁ B hml hv
  obtain ⟨rfl, hok, hm, hP, hi, hK, hRO⟩ := hv
  have hts0 := atoms_spec (ws := sd_wy Y) B.pre
  have hown : s.vm.findClass Y.1.cls = some mi.cls := findClass_of_methodNamed B.named
  have hF : sd_F S g Y p s mi (as.map (sd_cv g)).toArray meth c := ⟨B.exec, B.bytes, hml, hown, fun w hw => hts0 w (List.mem_cons_of_mem _ hw), B.returns, B.notSynchronized, hi, hK, hRO⟩
  have hl0 := lv_entry (as.map (sd_cv g)) (n := Y.2.2.1) (by rw [sd_sl]; exact hl)
  rw [lg_entry_eq]
  refine h hok hm d g p l e s mi _ below meth c s.heap [] _ hd hF hP hm va_S.rf ⟨⟨hl0.1, hl0.2.1, ?_⟩, ?_, ?_⟩ (fun v hv => by cases hv)
  · rintro ⟨i, w⟩ hq
    obtain ⟨v, h1, rfl⟩ := sd_lvmem.mp hq
    apply hl0.2.2
    rw [sd_args]
    refine ⟨i, v, ?_, by omega, rfl⟩
    rw [List.getElem?_append] at h1
    split at h1
    · rw [List.getElem?_map] at h1
      cases ha : as[i]? with
      | none => rw [ha] at h1; cases h1
      | some a => rw [ha] at h1; cases h1; rfl
    · rw [List.getElem?_replicate] at h1
      split at h1 <;> cases h1
  · simp only [List.length_append, List.length_map, List.length_replicate]; omega
  · intro v hv
    rcases List.mem_append.mp hv with h1 | h1
    · obtain ⟨a, ha, e⟩ := List.mem_map.mp h1
      cases e
      exact hok _ ha
    · have := (List.mem_replicate.mp h1).2
      cases this
theorem sd_blind {S : List sd_C} {g : sd_G} {as : List sd_V} {m : sd_M} : FrameBlind (sd_Pc S g as m) := by
  intro a U gf mk h
  obtain ⟨h1, h2, h3, h4, h5, h6, h7⟩ := h
  exact ⟨h1, h2, h3, h4, h5, va_K.moved (u := U) (U := U.calling gf mk a) (Vm.Alike.refl U.vm) h6, sd_RO.same (s := U) (U := U.calling gf mk a) rfl h7⟩
theorem sd_pre {S : List sd_C} {g : sd_G} {as : List sd_V} {m : sd_M} {Y : sd_Y} {p : Program} {s : State} {mi : MethodId} {args : Array Value} {meth : Method} {c : Code} {H : Heap} {locs : List Loc} (F : sd_F S g Y p s mi args meth c) (hP : va_P g.2.1 sd_cl (sd_ws S g m) H) (hm : ∀ j, sd_R (m j)) (hS : va_S (sd_A S g) s.heap H locs) (hok : ∀ a ∈ as, sd_ok a) :
    ∀ U : State, U.heap = H → s.WarmedH U.vm → sd_Pc S g as m (as.map (sd_cv g)).toArray U := by
  intro U hU hW
  obtain ⟨-, -, -, -, -, -, -, hi, hK, hRO⟩ := F
  exact ⟨rfl, hok, hm, by rw [hU]; exact hP, hi, va_K.moved hW.alike hK, by rw [hU]; exact (hRO.kept hS.2.1).warm hW⟩
