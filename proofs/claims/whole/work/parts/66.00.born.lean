/-! The makers: what stands in the heap behind them. -/
def sd_let : List Int := [109, 97, 121, 0, 98, 97, 114, 0, 108, 101, 97, 118, 101, 0, 112, 97, 115, 115, 0, 116, 97, 107, 101, 0, 109, 97, 107, 101, 0, 119, 104, 101, 110, 0, 100, 97, 121, 0, 104, 111, 117, 114, 0, 109, 101, 110, 0, 119, 97, 114, 109, 0]
def sd_x0 (j : Nat) : Int := if (1268 ≤ j ∧ j < 1272) ∨ (7540 ≤ j ∧ j < 7544) then -1 else if 8000 ≤ j ∧ j < 8052 then sd_let.getD (j - 8000) 0 else 0
theorem sd_x0z {j : Nat} (h1 : j < 1268 ∨ 1272 ≤ j) (h2 : j < 7540 ∨ 7544 ≤ j) (h3 : j < 8000 ∨ 8052 ≤ j) : sd_x0 j = 0 := by
  unfold sd_x0
  rw [if_neg (by omega), if_neg (by omega)]
def sd_wsr (o : Nat) (S : List sd_C) (g : sd_G) (m : sd_M) : va_W := match S with
  | [] => []
  | c :: S => (g.1 o, sd_cell g m c) :: sd_wsr (o + 1) S g m
theorem sd_wsr_get (S : List sd_C) (g : sd_G) (m : sd_M) : ∀ (o k : Nat), (sd_wsr o S g m)[k]? = (S[k]?).map (fun c => (g.1 (o + k), sd_cell g m c)) := by
  induction S with
  | nil => intro o k; simp [sd_wsr]
  | cons c S ih =>
    intro o k
    rcases k with _ | k
    · simp [sd_wsr]
    · simp only [sd_wsr, List.getElem?_cons_succ]
      rw [ih, show o + 1 + k = o + (k + 1) by omega]
theorem sd_wsr_eq (S : List sd_C) (g : sd_G) (m : sd_M) : sd_ws S g m = sd_wsr 0 S g m := by
  apply List.ext_getElem?
  intro k
  rw [sd_wsr_get, Nat.zero_add]
  cases hc : S[k]? with
  | none => simp [sd_ws, List.getElem?_mapIdx, hc]
  | some c => rw [sd_wsget hc]; rfl
theorem sd_wsr_app (S T : List sd_C) (g : sd_G) (m : sd_M) : ∀ o : Nat, sd_wsr o (S ++ T) g m = sd_wsr o S g m ++ sd_wsr (o + S.length) T g m := by
  induction S with
  | nil => intro o; rfl
  | cons c S ih =>
    intro o
    show _ :: sd_wsr (o + 1) (S ++ T) g m = _
    rw [ih, List.length_cons, show o + (S.length + 1) = o + 1 + S.length by omega]
    rfl
/-! a block of a shape, at another place and at other addresses, whose ints begin alike -/
def sd_ylkA (b b' : Nat) : Nat → Bool
  | 0 => true
  | n + 1 => decide (sd_x0 (b + n) = sd_x0 (b' + n)) && sd_ylkA b b' n
def sd_lkF (o n : Nat) (fs fs' : List (Nat ⊕ Nat)) : Bool := match fs, fs' with
  | [], [] => true
  | .inl a :: fs, .inl a' :: fs' => decide (sd_x0 a = sd_x0 a') && sd_lkF o n fs fs'
  | .inr k :: fs, .inr k' :: fs' => k.beq (o + k') && k'.blt n && sd_lkF o n fs fs'
  | _, _ => false
def sd_lkR (o n : Nat) (ks ks' : List Nat) : Bool := match ks, ks' with
  | [], [] => true
  | k :: ks, k' :: ks' => k.beq (o + k') && k'.blt n && sd_lkR o n ks ks'
  | _, _ => false
def sd_lkC (o n : Nat) (c c' : sd_C) : Bool := match c, c' with
  | .inl (b, q), .inl (b', q') => q.beq q' && sd_ylkA b b' q
  | .inr (.inl (ci, fs)), .inr (.inl (ci', fs')) => ci.beq ci' && sd_lkF o n fs fs'
  | .inr (.inr ks), .inr (.inr ks') => sd_lkR o n ks ks'
  | _, _ => false
def sd_lkL (o n : Nat) (T T' : List sd_C) : Bool := match T, T' with
  | [], [] => true
  | c :: T, c' :: T' => sd_lkC o n c c' && sd_lkL o n T T'
  | _, _ => false
theorem sd_ylkA_of {b b' n : Nat} (h : sd_ylkA b b' n = true) : ∀ i : Nat, i < n → sd_x0 (b + i) = sd_x0 (b' + i) := by
  induction n with
  | zero => intro i hi; omega
  | succ n ih =>
    intro i hi
    simp only [sd_ylkA, Bool.and_eq_true, decide_eq_true_eq] at h
    by_cases he : i = n
    · rw [he]; exact h.1
    · exact ih h.2 i (by omega)
theorem sd_lkF_of {o n : Nat} {g : sd_G} {a : Nat → Nat} (ha : ∀ k : Nat, k < n → g.1 (o + k) = a k) : ∀ (fs fs' : List (Nat ⊕ Nat)), sd_lkF o n fs fs' = true → fs.map (fun f => sd_cv g (sd_fld sd_x0 f)) = fs'.map (fun f => sd_cv (a, g.2) (sd_fld sd_x0 f)) := by
  intro fs
  induction fs with
  | nil =>
    intro fs' h
    rcases fs' with _ | ⟨f', fs'⟩
    · rfl
    · cases h
  | cons f fs ih =>
    intro fs' h
    rcases fs' with _ | ⟨f', fs'⟩
    · rcases f with _ | _ <;> cases h
    · rcases f with x | k <;> rcases f' with x' | k'
      · simp only [sd_lkF, Bool.and_eq_true, decide_eq_true_eq] at h
        rw [List.map_cons, List.map_cons, ih fs' h.2]
        simp only [sd_fld, sd_cv, h.1]
      · cases h
      · cases h
      · simp only [sd_lkF, Bool.and_eq_true, Nat.beq_eq, Nat.blt_eq] at h
        rw [List.map_cons, List.map_cons, ih fs' h.2]
        simp only [sd_fld, sd_cv]
        rw [h.1.1, ha k' h.1.2]
theorem sd_lkR_of {o n : Nat} {g : sd_G} {a : Nat → Nat} (ha : ∀ k : Nat, k < n → g.1 (o + k) = a k) : ∀ (ks ks' : List Nat), sd_lkR o n ks ks' = true → ks.map g.1 = ks'.map a := by
  intro ks
  induction ks with
  | nil =>
    intro ks' h
    rcases ks' with _ | ⟨k', ks'⟩
    · rfl
    · cases h
  | cons k ks ih =>
    intro ks' h
    rcases ks' with _ | ⟨k', ks'⟩
    · cases h
    · simp only [sd_lkR, Bool.and_eq_true, Nat.beq_eq, Nat.blt_eq] at h
      rw [List.map_cons, List.map_cons, ih ks' h.2, h.1.1, ha k' h.1.2]
theorem sd_lkC_of {o n : Nat} {g : sd_G} {a : Nat → Nat} (ha : ∀ k : Nat, k < n → g.1 (o + k) = a k) (c c' : sd_C) (h : sd_lkC o n c c' = true) : sd_cell g sd_x0 c = sd_cell (a, g.2) sd_x0 c' := by
  rcases c with ⟨b, q⟩ | ⟨ci, fs⟩ | ks <;> rcases c' with ⟨b', q'⟩ | ⟨ci', fs'⟩ | ks'
  · simp only [sd_lkC, Bool.and_eq_true, Nat.beq_eq] at h
    have h2 := sd_ylkA_of h.2
    have h3 := h.1
    rw [h3] at h2
    simp only [sd_cell]
    rw [h3]
    congr 4
    funext i
    by_cases hi : i < q'
    · rw [if_pos hi, if_pos hi, h2 i hi]
    · rw [if_neg hi, if_neg hi]
  · cases h
  · cases h
  · cases h
  · simp only [sd_lkC, Bool.and_eq_true, Nat.beq_eq] at h
    have h3 := h.1
    simp only [sd_cell]
    rw [h3, sd_lkF_of ha fs fs' h.2]
  · cases h
  · cases h
  · cases h
  · have h2 := sd_lkR_of ha ks ks' h
    have h3 : ks.length = ks'.length := by have := congrArg List.length h2; rw [List.length_map, List.length_map] at this; exact this
    have h4 : (fun i : Nat => (ks[i]?).map g.1) = fun i : Nat => (ks'[i]?).map a := by
      funext i
      rw [← List.getElem?_map, ← List.getElem?_map, h2]
    show (Sum.inl (g.2.2.2, ks.length, .inr (.inr (.inr (.inr (fun i : Nat => (ks[i]?).map g.1))))) : va_E) = Sum.inl (g.2.2.2, ks'.length, .inr (.inr (.inr (.inr (fun i : Nat => (ks'[i]?).map a)))))
    rw [h3, h4]
theorem sd_blk0 {o n : Nat} {g : sd_G} {a : Nat → Nat} (ha : ∀ k : Nat, k < n → g.1 (o + k) = a k) : ∀ (T T' : List sd_C) (j : Nat), sd_lkL o n T T' = true → j + T'.length ≤ n → sd_wsr (o + j) T g sd_x0 = sd_wsr j T' (a, g.2) sd_x0 := by
  intro T
  induction T with
  | nil =>
    intro T' j h hj
    rcases T' with _ | ⟨c', T'⟩
    · rfl
    · cases h
  | cons c T ih =>
    intro T' j h hj
    rcases T' with _ | ⟨c', T'⟩
    · cases h
    · simp only [sd_lkL, Bool.and_eq_true] at h
      rw [List.length_cons] at hj
      simp only [sd_wsr]
      rw [ha j (by omega), sd_lkC_of ha c c' h.1]
      congr 1
      exact ih T' (j + 1) h.2 (by omega)
theorem sd_blk {o : Nat} {g : sd_G} {a : Nat → Nat} {T T' : List sd_C} (h : sd_lkL o T'.length T T' = true) (ha : ∀ k : Nat, k < T'.length → g.1 (o + k) = a k) : sd_wsr o T g sd_x0 = sd_wsr 0 T' (a, g.2) sd_x0 :=
  sd_blk0 ha T T' 0 h (by omega)
/-! addresses put together -/
def sd_as (L : List (Nat × (Nat → Nat))) (k : Nat) : Nat := match L with
  | [] => 0
  | q :: L => if k < q.1 then q.2 k else sd_as L (k - q.1)
def sd_sz (L : List (Nat × (Nat → Nat))) : Nat := match L with
  | [] => 0
  | q :: L => q.1 + sd_sz L
theorem sd_as_at (P : List (Nat × (Nat → Nat))) {n k : Nat} {a : Nat → Nat} {L : List (Nat × (Nat → Nat))} (hk : k < n) : sd_as (P ++ (n, a) :: L) (sd_sz P + k) = a k := by
  induction P with
  | nil =>
    show (if 0 + k < n then a (0 + k) else _) = a k
    rw [Nat.zero_add, if_pos hk]
  | cons q P ih =>
    show (if q.1 + sd_sz P + k < q.1 then _ else sd_as (P ++ (n, a) :: L) (q.1 + sd_sz P + k - q.1)) = a k
    rw [if_neg (by omega), show q.1 + sd_sz P + k - q.1 = sd_sz P + k by omega]
    exact ih
/-! worlds by what is in them -/
theorem sd_yPm {D : va_G} {cl : List vw_C} {ws : va_W} {H : Heap} : va_P D cl ws H ↔ ∀ q ∈ ws, va_at D cl q H := by
  constructor
  · intro h q hq
    obtain ⟨k, hk⟩ := List.getElem?_of_mem hq
    exact h k q hk
  · intro h k q hq
    exact h q (List.mem_of_getElem? hq)
theorem sd_yDm {A : Nat → Prop} {ws : va_W} : va_D A ws ↔ (ws.map Prod.fst).Nodup ∧ ∀ q ∈ ws, A q.1 := by
  constructor
  · rintro ⟨h1, h2⟩
    refine ⟨?_, fun q hq => ?_⟩
    · refine List.pairwise_iff_getElem.mpr ?_
      intro i j hi hj hij e
      rw [List.length_map] at hi hj
      rw [List.getElem_map, List.getElem_map] at e
      have := h1 i j _ _ (List.getElem?_eq_getElem hi) (List.getElem?_eq_getElem hj) e
      omega
    · obtain ⟨k, hk⟩ := List.getElem?_of_mem hq
      exact h2 k q hk
  · rintro ⟨h1, h2⟩
    refine ⟨fun i j p q hi hj e => ?_, fun k q hk => h2 q (List.mem_of_getElem? hk)⟩
    have h3 := List.pairwise_iff_getElem.mp h1
    obtain ⟨hil, hie⟩ := List.getElem?_eq_some_iff.mp hi
    obtain ⟨hjl, hje⟩ := List.getElem?_eq_some_iff.mp hj
    rcases Nat.lt_trichotomy i j with h | h | h
    · exact absurd (by rw [List.getElem_map, List.getElem_map, hie, hje]; exact e) (h3 i j (by rw [List.length_map]; exact hil) (by rw [List.length_map]; exact hjl) h)
    · exact h
    · exact absurd (by rw [List.getElem_map, List.getElem_map, hie, hje]; exact e.symm) (h3 j i (by rw [List.length_map]; exact hjl) (by rw [List.length_map]; exact hil) h)
theorem sd_yPp {D : va_G} {cl : List vw_C} {w w' : va_W} {H : Heap} (h : va_P D cl w H) (hp : w.Perm w') : va_P D cl w' H := sd_yPm.mpr (fun q hq => sd_yPm.mp h q (hp.mem_iff.mpr hq))
theorem sd_yDp {A : Nat → Prop} {w w' : va_W} (h : va_D A w) (hp : w.Perm w') : va_D A w' := by
  obtain ⟨h1, h2⟩ := sd_yDm.mp h
  exact sd_yDm.mpr ⟨(hp.map Prod.fst).nodup_iff.mp h1, fun q hq => h2 q (hp.mem_iff.mpr hq)⟩
/-! behind a maker's call -/
theorem sd_bornK {p : Program} {l : Launch} {e : Env} {R : Room} {s : State} {mi : MethodId} {args : Array Value} {below : List Frame} {meth : Method} {c : Code} {H H0 : Heap} {locs : List Loc} {cells slots mc ms pc : Nat} {ls : Array Slot} {st0 rest : List Value} {a : Array Value} {Post : va_W → Prop} {D : va_G} {cl : List vw_C} {ws : va_W} {A : Nat → Prop} {x : Nat × va_E} {Z : State → Prop}
    (hr : va_Run p l e R s mi args below meth c H locs cells slots mc ms (F0 mi pc ls st0) rest (va_Qv Post (fun w1 t => va_P D cl w1 t.heap ∧ va_D (va_A [x] H.size) w1) (va_A [x] H.size) a) (va_A [x] H.size))
    (hP : va_P D cl (ws ++ [x]) H) (hD : va_D A (ws ++ [x])) (hS : va_S A H0 H locs) (hA : ∀ q, H0.size ≤ q → A q)
    (kk : ∀ (w1 : va_W) (H1 : Heap) (locs1 : List Loc), Post w1 → va_P D cl (ws ++ w1) H1 → va_D A (ws ++ w1) → va_S A H0 H1 locs1 → W p l e R s mi args below meth c H1 locs1 (cells + mc) (slots + ms) Z (F0 mi (pc + 3) ls rest)) :
    W p l e R s mi args below meth c H locs cells slots Z (F0 mi pc ls st0) := by
  have hx := (sd_yDm.mp hD).2 x (List.mem_append_right _ List.mem_cons_self)
  have hF : ∀ q, va_A [x] H.size q → A q := by
    rintro q (⟨k, e, h⟩ | h)
    · have h2 := List.mem_of_getElem? h
      rw [List.mem_singleton] at h2
      rw [← h2] at hx
      exact hx
    · exact hA q (Nat.le_trans hS.1 h)
  have hne : ∀ q ∈ ws, ¬ q.1 = x.1 := by
    intro q hq e
    have h1 := (sd_yDm.mp hD).1
    rw [List.map_append, List.nodup_append] at h1
    exact h1.2.2 q.1 (List.mem_map.mpr ⟨q, hq, rfl⟩) x.1 (by simp) e
  have hout : ∀ q ∈ ws, q.1 < H.size ∧ ¬ va_A [x] H.size q.1 := by
    intro q hq
    have hl := (sd_yPm.mp hP q (List.mem_append_left _ hq)).lt
    refine ⟨hl, ?_⟩
    rintro (⟨k, e, h⟩ | h)
    · have h2 := List.mem_of_getElem? h
      rw [List.mem_singleton] at h2
      exact hne q hq (by rw [← h2])
    · omega
  refine va_callv hr hS (fun q _ h => hF q h) hF (fun w1 t H1 locs1 ht hvm hp hB hz hk hS1 => ?_)
  rw [ht] at hB
  refine kk w1 H1 locs1 hp (sd_yPm.mpr (fun q hq => ?_)) (sd_yDm.mpr ⟨?_, fun q hq => ?_⟩) hS1
  · rcases List.mem_append.mp hq with h | h
    · exact (sd_yPm.mp hP q (List.mem_append_left _ h)).kept (hk q.1 (hout q h).1 (hout q h).2)
    · exact sd_yPm.mp hB.1 q h
  · rw [List.map_append, List.nodup_append]
    have h1 := (sd_yDm.mp hD).1
    rw [List.map_append, List.nodup_append] at h1
    refine ⟨h1.1, (sd_yDm.mp hB.2).1, ?_⟩
    intro y hy z hz2 e
    obtain ⟨q, hq, rfl⟩ := List.mem_map.mp hy
    obtain ⟨q2, hq2, rfl⟩ := List.mem_map.mp hz2
    exact (hout q hq).2 (by rw [e]; exact (sd_yDm.mp hB.2).2 q2 hq2)
  · rcases List.mem_append.mp hq with h | h
    · exact (sd_yDm.mp hD).2 q (List.mem_append_left _ h)
    · exact hF q.1 ((sd_yDm.mp hB.2).2 q h)
