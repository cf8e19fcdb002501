/-! Memory but for the rows that are used again (addresses 5000 to 5999): x is what counts, m what the machine has. -/
def sd_ns (x m : sd_M) : Prop := ∀ j, (j < 5000 ∨ 6000 ≤ j) → m j = x j
theorem sd_ns.rf {m : sd_M} : sd_ns m m := fun _ _ => rfl
theorem sd_ns.up {x m : sd_M} (h : sd_ns x m) (a : Nat) (v : Int) : sd_ns (sd_up x a v) (sd_up m a v) := by
  intro j hj
  unfold sd_up
  split
  · rfl
  · exact h j hj
theorem sd_ns.sc {x m : sd_M} (h : sd_ns x m) {a : Nat} (ha : 5000 ≤ a ∧ a < 6000) (v : Int) : sd_ns x (sd_up m a v) := by
  intro j hj
  unfold sd_up
  rw [if_neg (by omega)]
  exact h j hj
theorem sd_ns.trans {x m m' : sd_M} (h : sd_ns x m) (h' : sd_ns m m') : sd_ns x m' := fun j hj => (h' j hj).trans (h j hj)
theorem sd_ns.R {x m : sd_M} (h : sd_ns x m) (hm : ∀ j, sd_R (m j)) {a : Nat} (ha : a < 5000 ∨ 6000 ≤ a) : sd_R (x a) := by rw [← h a ha]; exact hm a
section Canon
variable {S : List sd_C} {n : Nat} {Y : sd_Y} {pc pc' : Nat} {ls : List (Option sd_V)} {st : List sd_V} {m x : sd_M} {Q : Option sd_V → sd_M → Prop}
theorem sd_getfx (h9 : sd_ns x m) {idx ci j k a : Nat} {fin : Bool} {ty : FieldType} (hd : sd_dc Y pc (.getfield idx) 3 pc') (hf : sd_fl Y.1.cls idx ci j fin ty) (hg : sd_gf S k ci j (.inl a)) (hz : a < 5000 ∨ 6000 ≤ a) {v : Int} (hv : x a = v) (kk : sd_Wp S n Y pc' ls (.inl v :: st) m Q) : sd_Wp S n Y pc ls (.inr k :: st) m Q :=
  sd_getf hd hf hg (by rw [← hv, ← h9 a hz] at kk; exact kk)
theorem sd_ialdx (h9 : sd_ns x m) {k b nn a : Nat} {i : Int} (hd : sd_dc Y pc .iaload 1 pc') (hg : sd_ga S k b nn) (ha : ((a : Int) = b + i ∧ b ≤ a ∧ a < b + nn) ∧ (a < 5000 ∨ 6000 ≤ a)) {v : Int} (hv : x a = v) (kk : sd_Wp S n Y pc' ls (.inl v :: st) m Q) : sd_Wp S n Y pc ls (.inl i :: .inr k :: st) m Q :=
  sd_iald hd hg ha.1 (by rw [← hv, ← h9 a ha.2] at kk; exact kk)
theorem sd_iastx (hs : sd_sok S) (h9 : sd_ns x m) {k b nn a : Nat} {i v : Int} (hd : sd_dc Y pc .iastore 1 pc') (hg : sd_ga S k b nn) (ha : (a : Int) = b + i ∧ b ≤ a ∧ a < b + nn) (kk : ∀ m', sd_ns (sd_up x a v) m' → m' = sd_up m a v → sd_Wp S n Y pc' ls st m' Q) : sd_Wp S n Y pc ls (.inl v :: .inl i :: .inr k :: st) m Q :=
  sd_iast hs hd hg ha (kk _ (h9.up a v) rfl)
theorem sd_iastc (hs : sd_sok S) (h9 : sd_ns x m) {k b nn a : Nat} {i v : Int} (hd : sd_dc Y pc .iastore 1 pc') (hg : sd_ga S k b nn) (ha : ((a : Int) = b + i ∧ b ≤ a ∧ a < b + nn) ∧ 5000 ≤ a ∧ a < 6000) (kk : ∀ m', sd_ns x m' → m' = sd_up m a v → sd_Wp S n Y pc' ls st m' Q) : sd_Wp S n Y pc ls (.inl v :: .inl i :: .inr k :: st) m Q :=
  sd_iast hs hd hg ha.1 (kk _ (h9.sc ha.2 v) rfl)
theorem sd_putfx (hs : sd_sok S) (ho : sd_one S) (h9 : sd_ns x m) {idx ci j k a : Nat} {ty : FieldType} {v : Int} (hd : sd_dc Y pc (.putfield idx) 3 pc') (hf : sd_fl Y.1.cls idx ci j false ty) (hg : sd_gf S k ci j (.inl a)) (hv : ty = .int ∨ (ty = .boolean ∧ (v = 0 ∨ v = 1))) (kk : ∀ m', sd_ns (sd_up x a v) m' → m' = sd_up m a v → sd_Wp S n Y pc' ls st m' Q) : sd_Wp S n Y pc ls (.inl v :: .inr k :: st) m Q :=
  sd_putf hs ho hd hf hg hv (kk _ (h9.up a v) rfl)
theorem sd_putfc (hs : sd_sok S) (ho : sd_one S) (h9 : sd_ns x m) {idx ci j k a : Nat} {ty : FieldType} {v : Int} (hd : sd_dc Y pc (.putfield idx) 3 pc') (hf : sd_fl Y.1.cls idx ci j false ty) (hg : sd_gf S k ci j (.inl a)) (hz : 5000 ≤ a ∧ a < 6000) (hv : ty = .int ∨ (ty = .boolean ∧ (v = 0 ∨ v = 1))) (kk : ∀ m', sd_ns x m' → m' = sd_up m a v → sd_Wp S n Y pc' ls st m' Q) : sd_Wp S n Y pc ls (.inl v :: .inr k :: st) m Q :=
  sd_putf hs ho hd hf hg hv (kk _ (h9.sc hz v) rfl)
theorem sd_iretp {i v : Int} (hd : sd_dc Y pc .ireturn 1 pc') (hR : Y.2.2.2 = some .int) (hv : i = v) : sd_Wp S n Y pc ls [.inl i] m (fun r m' => r = some (.inl v) ∧ m' = m) :=
  sd_ireturn hd hR (fun _ _ => ⟨by rw [hv], rfl⟩)
theorem sd_zretp {i v : Int} (hd : sd_dc Y pc .ireturn 1 pc') (hR : Y.2.2.2 = some .boolean) (h01 : i = 0 ∨ i = 1) (hv : i = v) : sd_Wp S n Y pc ls [.inl i] m (fun r m' => r = some (.inl v) ∧ m' = m) :=
  sd_zreturn hd hR h01 (fun _ => ⟨by rw [hv], rfl⟩)
theorem sd_eqw {ls' : List (Option sd_V)} {m' : sd_M} (h : sd_Wp S n Y pc ls' st m' Q) (e1 : ls = ls') (e2 : m = m') : sd_Wp S n Y pc ls st m Q := by subst e1; subst e2; exact h
theorem sd_forE (N : Nat) (L : Nat → List (Option sd_V)) (e1 : ls = L 0) (step : ∀ i, i < N → sd_Wp S n Y pc (L (i + 1)) st m Q → sd_Wp S n Y pc (L i) st m Q) (last : sd_Wp S n Y pc (L N) st m Q) : sd_Wp S n Y pc ls st m Q := by
  subst e1
  exact sd_for N L (fun _ => m) step last
theorem sd_cut {ls0 : List (Option sd_V)} {st0 : List sd_V} {J : Nat} (P : Int → Prop) (K : ∀ v, P v → sd_Wp S n Y J ls (.inl v :: st) m Q) (h : (∀ v, P v → sd_Wp S n Y J ls (.inl v :: st) m Q) → sd_Wp S n Y pc ls0 st0 m Q) : sd_Wp S n Y pc ls0 st0 m Q := h K
theorem sd_forX (N : Nat) (L : Nat → List (Option sd_V)) (X : Nat → sd_M) (P : Nat → sd_M → Prop) (e1 : ls = L 0) (step : ∀ i, i < N → ∀ m, sd_ns (X i) m → P i m → (∀ m', sd_ns (X (i + 1)) m' → P (i + 1) m' → sd_Wp S n Y pc (L (i + 1)) st m' Q) → sd_Wp S n Y pc (L i) st m Q) (last : ∀ m, sd_ns (X N) m → P N m → sd_Wp S n Y pc (L N) st m Q) (h0 : sd_ns (X 0) m) (h1 : P 0 m) : sd_Wp S n Y pc ls st m Q := by
  subst e1
  refine sd_forI N (fun i ls m => ls = L i ∧ sd_ns (X i) m ∧ P i m) (fun i hi ls m h k => ?_) (fun ls m h => ?_) ⟨rfl, h0, h1⟩
  · obtain ⟨rfl, h2, h3⟩ := h
    exact step i hi m h2 h3 (fun m' a b => k _ m' ⟨rfl, a, b⟩)
  · obtain ⟨rfl, h2, h3⟩ := h
    exact last m h2 h3
theorem sd_acopyx (hs : sd_sok S) (h9 : sd_ns x m) {idx k k0 b nn b0 n0 sa da cnt : Nat} {sp dp c0 : Int} (hd : sd_dc Y pc (.invokestatic idx) 3 pc') (hw : Cond.methodLink Y.1.cls idx arraycopyName ∈ sd_tb) (hg0 : sd_ga S k0 b0 n0) (hg : sd_ga S k b nn) (hn : 1 ≤ n) (hst : st.length ≤ 8)
    (ha : ((sa : Int) = b0 + sp ∧ (da : Int) = b + dp ∧ (cnt : Int) = c0 ∧ b0 ≤ sa ∧ b ≤ da ∧ sa + cnt ≤ b0 + n0 ∧ da + cnt ≤ b + nn) ∧ (sa + cnt ≤ 5000 ∨ 6000 ≤ sa)) (kk : ∀ m', sd_ns (sd_cpm x sa da cnt) m' → sd_Wp S n Y pc' ls st m' Q) : sd_Wp S n Y pc ls (.inl c0 :: .inl dp :: .inr k :: .inl sp :: .inr k0 :: st) m Q := by
  refine sd_acopy hs hd hw hg0 hg hn hst ha.1 (kk _ ?_)
  intro j hj
  unfold sd_cpm
  split
  · exact h9 _ (by omega)
  · exact h9 j hj
theorem sd_b01 (P : Prop) [Decidable P] : sd_b P = 0 ∨ sd_b P = 1 := by unfold sd_b; split <;> simp
end Canon
theorem sd_bc {P P' : Prop} [Decidable P] [Decidable P'] (h : P ↔ P') : sd_b P = sd_b P' := by
  unfold sd_b
  by_cases hp : P
  · rw [if_pos hp, if_pos (h.mp hp)]
  · rw [if_neg hp, if_neg (fun q => hp (h.mpr q))]
theorem sd_eqs {S : List sd_C} {n : Nat} {Y : sd_Y} {pc : Nat} {ls ls' : List (Option sd_V)} {st st' : List sd_V} {m : sd_M} {Q : Option sd_V → sd_M → Prop} (h : sd_Wp S n Y pc ls' st' m Q) (e1 : ls = ls') (e2 : st = st') : sd_Wp S n Y pc ls st m Q := by subst e1; subst e2; exact h
/-- what a public method says: its answer and the canonical memory behind it -/
def sd_Qp (p : Int × sd_M) : Option sd_V → sd_M → Prop := fun r m' => r = some (.inl p.1) ∧ sd_ns p.2 m'
theorem sd_done {p : Int × sd_M} {v : Int} {X m : sd_M} (e : p = (v, X)) (hx : sd_ns X m) : sd_Qp p (some (.inl v)) m := by subst e; exact ⟨rfl, hx⟩
/-- fewer locals known -/
theorem sd_less {S : List sd_C} {n : Nat} {Y : sd_Y} {pc : Nat} {ls ls' : List (Option sd_V)} {st : List sd_V} {m : sd_M} {Q : Option sd_V → sd_M → Prop} (k : sd_Wp S n Y pc ls' st m Q) (h1 : ls.length = ls'.length) (h : ∀ (i : Nat) (v : sd_V), ls'[i]? = some (some v) → ls[i]? = some (some v)) : sd_Wp S n Y pc ls st m Q := by
  intro d g p l e s mi args below meth c H locs lc a1 F a2 a3 a4 a5 a6
  refine k d g p l e s mi args below meth c H locs lc a1 F a2 a3 a4 ⟨⟨a5.1.1, a5.1.2.1, ?_⟩, h1 ▸ a5.2.1, ?_⟩ a6
  · rintro ⟨i, w⟩ hq
    obtain ⟨v, hv, rfl⟩ := sd_lvmem.mp hq
    exact a5.1.2.2 (i, sd_cv g v) (sd_lvmem.mpr ⟨v, h i v hv, rfl⟩)
  · intro v hv
    obtain ⟨i, hi⟩ := List.getElem?_of_mem hv
    exact a5.2.2 v (List.mem_of_getElem? (h i v hi))
/-- a finding is told -/
def sd_fnd (x : sd_M) (k : Nat) : sd_M := sd_up x (4101 + k) (x (4101 + k) + 1)
