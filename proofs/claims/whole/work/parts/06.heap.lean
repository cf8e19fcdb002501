/-! Fields, arrays, calls and returns, over the pure world. -/
def sd_cf (ci : Nat) (C : String) (T : u_T) (N : Nat) : Prop := sd_cl[ci]? = some (C, T, N) ∧ (∀ w ∈ u_ws C T N, w ∈ sd_tb) ∧ (∀ a, a < N → ∀ b, b < N → a ≠ b → (T a).2.1 ≠ (T b).2.1) ∧ ∃ ty0 : Nat → FieldType, ∀ k, k < N → parseFieldDescriptor (T k).2.2.1 = some (ty0 k)
def sd_fl (own : String) (idx ci j : Nat) (fin : Bool) (ty : FieldType) : Prop := ∃ (C : String) (T : u_T) (N : Nat), sd_cf ci C T N ∧ j < N ∧ Cond.fieldLink own idx (T j).1 (T j).2.1 (T j).2.2.1 ∈ sd_tb ∧ (T j).2.2.2 = fin ∧ parseFieldDescriptor (T j).2.2.1 = some ty
def sd_gf (S : List sd_C) (k ci j : Nat) (f : Nat ⊕ Nat) : Prop := ∃ fs, S[k]? = some (.inr (.inl (ci, fs))) ∧ fs[j]? = some f
def sd_ga (S : List sd_C) (k b nn : Nat) : Prop := S[k]? = some (.inl (b, nn))
def sd_gr (S : List sd_C) (k : Nat) (ks : List Nat) : Prop := S[k]? = some (.inr (.inr ks))
def sd_mv (own : String) (idx : Nat) (Yc : sd_Y) (na : Nat) : Prop :=
  Cond.methodLink own idx Yc.1 ∈ sd_tb ∧ Cond.instanceMethod Yc.1 ∈ sd_tb ∧ Cond.selects Yc.1.cls Yc.1 Yc.1 ∈ sd_tb ∧ Cond.initialized Yc.1.cls ∈ sd_tb ∧ Cond.code Yc.1 Yc.2.1 Yc.2.2.1 Yc.2.2.2 ∈ sd_tb ∧
  (Yc.1.cls ≠ "java/lang/invoke/MethodHandle" ∧ Yc.1.cls ≠ "java/lang/invoke/VarHandle" ∧ (parseMethodDescriptor Yc.1.desc).map (fun d => d.parameters.length) = some na) ∧ Yc.2.2.1 ≤ 40
def sd_ms (own : String) (idx : Nat) (Yc : sd_Y) (na : Nat) : Prop :=
  Cond.methodLink own idx Yc.1 ∈ sd_tb ∧ Cond.static Yc.1 ∈ sd_tb ∧ Cond.initialized Yc.1.cls ∈ sd_tb ∧ Cond.code Yc.1 Yc.2.1 Yc.2.2.1 Yc.2.2.2 ∈ sd_tb ∧
  (Yc.1.cls ≠ "java/lang/invoke/MethodHandle" ∧ Yc.1.cls ≠ "java/lang/invoke/VarHandle" ∧ (parseMethodDescriptor Yc.1.desc).map (fun d => d.parameters.length) = some na) ∧ Yc.2.2.1 ≤ 40
def sd_mn (own : String) (idx : Nat) (host : String) (Yc : sd_Y) (na : Nat) : Prop :=
  Cond.methodLinkNest own idx Yc.1 host ∈ sd_nest ∧ Cond.static Yc.1 ∈ sd_tb ∧ Cond.initialized Yc.1.cls ∈ sd_tb ∧ Cond.code Yc.1 Yc.2.1 Yc.2.2.1 Yc.2.2.2 ∈ sd_tb ∧
  (Yc.1.cls ≠ "java/lang/invoke/MethodHandle" ∧ Yc.1.cls ≠ "java/lang/invoke/VarHandle" ∧ (parseMethodDescriptor Yc.1.desc).map (fun d => d.parameters.length) = some na) ∧ Yc.2.2.1 ≤ 40
theorem sd_goodIn {Yc : sd_Y} (h : Cond.code Yc.1 Yc.2.1 Yc.2.2.1 Yc.2.2.2 ∈ sd_tb) : GoodIn sd_tb (sd_wy Yc) := by
  intro w hw
  rcases List.mem_cons.mp hw with rfl | hw
  · exact ⟨h, sd_good h⟩
  · exact ⟨hw, sd_good hw⟩
section Heaps
variable {S : List sd_C} {n : Nat} {Y : sd_Y} {pc pc' : Nat} {ls : List (Option sd_V)} {st : List sd_V} {m : sd_M} {Q : Option sd_V → sd_M → Prop}
theorem sd_getf {idx ci j k : Nat} {fin : Bool} {ty : FieldType} {f : Nat ⊕ Nat} (hd : sd_dc Y pc (.getfield idx) 3 pc') (hf : sd_fl Y.1.cls idx ci j fin ty) (hg : sd_gf S k ci j f) (kk : sd_Wp S n Y pc' ls (sd_fld m f :: st) m Q) : sd_Wp S n Y pc ls (.inr k :: st) m Q := by
  intro d g p l e s mi args below meth c H locs lc h1 F h2 h3 h4 h5 h6
  obtain ⟨hx, hb, hml, hown, hts, hr, hlk, hi, hK, hRO⟩ := id F
  obtain ⟨hdg, rfl⟩ := hd
  obtain ⟨C, T, N, ⟨c1, c2, c3, ty0, c4⟩, f1, f2, f3, f4⟩ := hf
  obtain ⟨fs, g1, g2⟩ := hg
  refine va_get (v := sd_cv g (sd_fld m f)) hx hb hts c2 hown hK h2 k (sd_wsget g1) c1 j f1 (hts _ f2) (fun _ h9 => h9) (by rw [List.getElem?_map, g2]; rfl) hdg ?_
  refine kk d g p l e s mi args below meth c H locs lc h1 F h2 h3 h4 h5 (sd_cons ?_ (sd_tl h6))
  rcases f with a | q
  · exact h3 a
  · trivial
theorem sd_getfi {idx ci j k a : Nat} {fin : Bool} {ty : FieldType} (hd : sd_dc Y pc (.getfield idx) 3 pc') (hf : sd_fl Y.1.cls idx ci j fin ty) (hg : sd_gf S k ci j (.inl a)) (kk : sd_Wp S n Y pc' ls (.inl (m a) :: st) m Q) : sd_Wp S n Y pc ls (.inr k :: st) m Q := sd_getf hd hf hg kk
theorem sd_getfr {idx ci j k q : Nat} {fin : Bool} {ty : FieldType} (hd : sd_dc Y pc (.getfield idx) 3 pc') (hf : sd_fl Y.1.cls idx ci j fin ty) (hg : sd_gf S k ci j (.inr q)) (kk : sd_Wp S n Y pc' ls (.inr q :: st) m Q) : sd_Wp S n Y pc ls (.inr k :: st) m Q := sd_getf hd hf hg kk
theorem sd_upR {m : sd_M} {a : Nat} {v : Int} (h : ∀ j, sd_R (m j)) (hv : sd_R v) : ∀ j, sd_R (sd_up m a v j) := by
  intro j
  unfold sd_up
  split
  · exact hv
  · exact h j
theorem sd_putf (hs : sd_sok S) (ho : sd_one S) {idx ci j k a : Nat} {ty : FieldType} {v : Int} (hd : sd_dc Y pc (.putfield idx) 3 pc') (hf : sd_fl Y.1.cls idx ci j false ty) (hg : sd_gf S k ci j (.inl a)) (hv : ty = .int ∨ (ty = .boolean ∧ (v = 0 ∨ v = 1))) (kk : sd_Wp S n Y pc' ls st (sd_up m a v) Q) : sd_Wp S n Y pc ls (.inl v :: .inr k :: st) m Q := by
  intro d g p l e s mi args below meth c H locs lc h1 F h2 h3 h4 h5 h6
  obtain ⟨hx, hb, hml, hown, hts, hr, hlk, hi, hK, hRO⟩ := id F
  obtain ⟨hdg, rfl⟩ := hd
  obtain ⟨C, T, N, ⟨c1, c2, c3, ty0, c4⟩, f1, f2, f3, f4⟩ := hf
  obtain ⟨fs, g1, g2⟩ := hg
  have hn : narrow ty (.int (Int32.ofInt v)) = .int (Int32.ofInt v) ∧ fits ty (.int (Int32.ofInt v)) = true := by
    rcases hv with rfl | ⟨rfl, rfl | rfl⟩
    · exact ⟨rfl, rfl⟩
    · exact ⟨by decide, by decide⟩
    · exact ⟨by decide, by decide⟩
  refine va_put (v := .int (Int32.ofInt v)) (ty := ty) hx hb hts c2 ty0 c4 c3 hown hK h2 (sd_D hi m) h4 k (sd_wsget g1) c1 j f1 (hts _ f2) (fun _ h9 => h9) f3 f4 hn.1 hn.2 (by rw [List.length_map]; exact (List.getElem?_eq_some_iff.mp g2).1) hdg (fun H1 locs1 q1 q2 q3 => ?_)
  rw [sd_ws_fld hs ho g1 g2 v] at q1
  exact kk d g p l e s mi args below meth c H1 locs1 lc h1 F q1 (sd_upR h3 (sd_hd h6)) q3 h5 (sd_tl (sd_tl h6))
theorem sd_iald {k b nn a : Nat} {x : Int} (hd : sd_dc Y pc .iaload 1 pc') (hg : sd_ga S k b nn) (ha : (a : Int) = b + x ∧ b ≤ a ∧ a < b + nn) (kk : sd_Wp S n Y pc' ls (.inl (m a) :: st) m Q) : sd_Wp S n Y pc ls (.inl x :: .inr k :: st) m Q := by
  intro d g p l e s mi args below meth c H locs lc h1 F h2 h3 h4 h5 h6
  obtain ⟨hx, hb, hml, hown, hts, hr, hlk, hi, hK, hRO⟩ := id F
  obtain ⟨hdg, rfl⟩ := hd
  have hxr : sd_R x := sd_hd h6
  refine va_iald hx hb hK h2 k 0 (sd_wsget hg) rfl (sd_vpin hxr (by omega) (by omega)) hdg ?_
  have ee : (if (Int32.ofInt x).toNatClampNeg < nn then Int32.ofInt (m (b + (Int32.ofInt x).toNatClampNeg)) else 0) = Int32.ofInt (m a) := by
    rw [sd_clamp hxr, if_pos (by omega), show b + x.toNat = a by omega]
  rw [ee]
  exact kk d g p l e s mi args below meth c H locs lc h1 F h2 h3 h4 h5 (sd_cons (v := .inl (m a)) (h3 a) (sd_tl (sd_tl h6)))
theorem sd_iast (hs : sd_sok S) {k b nn a : Nat} {x v : Int} (hd : sd_dc Y pc .iastore 1 pc') (hg : sd_ga S k b nn) (ha : (a : Int) = b + x ∧ b ≤ a ∧ a < b + nn) (kk : sd_Wp S n Y pc' ls st (sd_up m a v) Q) : sd_Wp S n Y pc ls (.inl v :: .inl x :: .inr k :: st) m Q := by
  intro d g p l e s mi args below meth c H locs lc h1 F h2 h3 h4 h5 h6
  obtain ⟨hx, hb, hml, hown, hts, hr, hlk, hi, hK, hRO⟩ := id F
  obtain ⟨hdg, rfl⟩ := hd
  have hxr : sd_R x := sd_hd (sd_tl h6)
  refine va_iast hx hb hK h2 (sd_D hi m) h4 k 0 (sd_wsget hg) rfl (x := Int32.ofInt v) (sd_vpin hxr (by omega) (by omega)) hdg (fun H1 locs1 q1 q2 q3 => ?_)
  rw [sd_clamp hxr, sd_ws_arr hs hg (show x.toNat < nn by omega) v, show b + x.toNat = a by omega] at q1
  exact kk d g p l e s mi args below meth c H1 locs1 lc h1 F q1 (sd_upR h3 (sd_hd h6)) q3 h5 (sd_tl (sd_tl (sd_tl h6)))
theorem sd_alen {k b nn : Nat} (hd : sd_dc Y pc .arraylength 1 pc') (hg : sd_ga S k b nn) (hn : sd_R nn) (kk : sd_Wp S n Y pc' ls (.inl nn :: st) m Q) : sd_Wp S n Y pc ls (.inr k :: st) m Q := by
  intro d g p l e s mi args below meth c H locs lc h1 F h2 h3 h4 h5 h6
  obtain ⟨hx, hb, hml, hown, hts, hr, hlk, hi, hK, hRO⟩ := id F
  obtain ⟨hdg, rfl⟩ := hd
  exact va_alen hx hb hK h2 k 0 (sd_wsget hg) (ty := .int) rfl (v := Int32.ofInt nn) (by rw [Int32.ofInt_eq_ofNat]) hdg (kk d g p l e s mi args below meth c H locs lc h1 F h2 h3 h4 h5 (sd_cons (v := .inl (nn : Int)) hn (sd_tl h6)))
theorem sd_aald {k q : Nat} {x : Int} {ks : List Nat} (hd : sd_dc Y pc .aaload 1 pc') (hg : sd_gr S k ks) (h0 : 0 ≤ x) (ha : ks[x.toNat]? = some q) (kk : sd_Wp S n Y pc' ls (.inr q :: st) m Q) : sd_Wp S n Y pc ls (.inl x :: .inr k :: st) m Q := by
  intro d g p l e s mi args below meth c H locs lc h1 F h2 h3 h4 h5 h6
  obtain ⟨hx, hb, hml, hown, hts, hr, hlk, hi, hK, hRO⟩ := id F
  obtain ⟨hdg, rfl⟩ := hd
  have hxr : sd_R x := sd_hd h6
  have hlt := (List.getElem?_eq_some_iff.mp ha).1
  refine va_aldq (C := "SitDown$Sheet") hx hb hK h2 k 1 (sd_wsget hg) rfl (sd_vpin hxr (by omega) (by omega)) hdg ?_
  rw [sd_clamp hxr, ha]
  exact kk d g p l e s mi args below meth c H locs lc h1 F h2 h3 h4 h5 (sd_cons (v := .inr q) trivial (sd_tl (sd_tl h6)))
theorem sd_gets900 {idx : Nat} (hd : sd_dc Y pc (.getstatic idx) 3 pc') (hw : Cond.fieldLink Y.1.cls idx "SitDown" "KIND_THAT_HAS" "[I" ∈ sd_tb) (kk : sd_Wp S n Y pc' ls (.inr 900 :: st) m Q) : sd_Wp S n Y pc ls st m Q := by
  intro d g p l e s mi args below meth c H locs lc h1 F h2 h3 h4 h5 h6
  obtain ⟨hx, hb, hml, hown, hts, hr, hlk, hi, hK, hRO⟩ := id F
  obtain ⟨hdg, rfl⟩ := hd
  exact va_gets hx hb hRO.2.1.1 h4 hown (hts _ hw) (fun _ h => h) hdg (kk d g p l e s mi args below meth c H locs lc h1 F h2 h3 h4 h5 (sd_cons (v := .inr 900) trivial h6))
theorem sd_gets901 {idx : Nat} (hd : sd_dc Y pc (.getstatic idx) 3 pc') (hw : Cond.fieldLink Y.1.cls idx "SitDown$Holds" "ABOVE" "[I" ∈ sd_tb) (kk : sd_Wp S n Y pc' ls (.inr 901 :: st) m Q) : sd_Wp S n Y pc ls st m Q := by
  intro d g p l e s mi args below meth c H locs lc h1 F h2 h3 h4 h5 h6
  obtain ⟨hx, hb, hml, hown, hts, hr, hlk, hi, hK, hRO⟩ := id F
  obtain ⟨hdg, rfl⟩ := hd
  exact va_gets hx hb hRO.2.2.1.1 h4 hown (hts _ hw) (fun _ h => h) hdg (kk d g p l e s mi args below meth c H locs lc h1 F h2 h3 h4 h5 (sd_cons (v := .inr 901) trivial h6))
theorem sd_kthR (j : Nat) : sd_R (sd_kth.getD j 0) := by
  by_cases h : j < 13
  · revert j; unfold sd_R; decide
  · have e1 : sd_kth[j]? = none := List.getElem?_eq_none (by simp only [sd_kth, List.length_cons, List.length_nil]; omega)
    rw [List.getD_eq_getElem?_getD, e1]; exact sd_r0
theorem sd_abvR (j : Nat) : sd_R (sd_abv.getD j 0) := by
  by_cases h : j < 7
  · revert j; unfold sd_R; decide
  · have e1 : sd_abv[j]? = none := List.getElem?_eq_none (by simp only [sd_abv, List.length_cons, List.length_nil]; omega)
    rw [List.getD_eq_getElem?_getD, e1]; exact sd_r0
theorem sd_ro900 {x : Int} {v : Int} (hd : sd_dc Y pc .iaload 1 pc') (ha : 0 ≤ x ∧ x < 13) (hv : sd_kth.getD x.toNat 0 = v) (kk : sd_Wp S n Y pc' ls (.inl v :: st) m Q) : sd_Wp S n Y pc ls (.inl x :: .inr 900 :: st) m Q := by
  intro d g p l e s mi args below meth c H locs lc h1 F h2 h3 h4 h5 h6
  obtain ⟨hx, hb, hml, hown, hts, hr, hlk, hi, hK, hRO⟩ := id F
  obtain ⟨hdg, rfl⟩ := hd
  have hxr : sd_R x := sd_hd h6
  subst hv
  exact va_ti hx hb hRO.2.1.2 h4 (sd_vpin hxr ha.1 (by omega)) (by rw [sd_clamp hxr]; rfl) hdg (kk d g p l e s mi args below meth c H locs lc h1 F h2 h3 h4 h5 (sd_cons (v := .inl _) (sd_kthR _) (sd_tl (sd_tl h6))))
theorem sd_ro901 {x : Int} {v : Int} (hd : sd_dc Y pc .iaload 1 pc') (ha : 0 ≤ x ∧ x < 7) (hv : sd_abv.getD x.toNat 0 = v) (kk : sd_Wp S n Y pc' ls (.inl v :: st) m Q) : sd_Wp S n Y pc ls (.inl x :: .inr 901 :: st) m Q := by
  intro d g p l e s mi args below meth c H locs lc h1 F h2 h3 h4 h5 h6
  obtain ⟨hx, hb, hml, hown, hts, hr, hlk, hi, hK, hRO⟩ := id F
  obtain ⟨hdg, rfl⟩ := hd
  have hxr : sd_R x := sd_hd h6
  subst hv
  exact va_ti hx hb hRO.2.2.1.2 h4 (sd_vpin hxr ha.1 (by omega)) (by rw [sd_clamp hxr]; rfl) hdg (kk d g p l e s mi args below meth c H locs lc h1 F h2 h3 h4 h5 (sd_cons (v := .inl _) (sd_abvR _) (sd_tl (sd_tl h6))))
theorem sd_len900 (hd : sd_dc Y pc .arraylength 1 pc') (kk : sd_Wp S n Y pc' ls (.inl 13 :: st) m Q) : sd_Wp S n Y pc ls (.inr 900 :: st) m Q := by
  intro d g p l e s mi args below meth c H locs lc h1 F h2 h3 h4 h5 h6
  obtain ⟨hx, hb, hml, hown, hts, hr, hlk, hi, hK, hRO⟩ := id F
  obtain ⟨hdg, rfl⟩ := hd
  exact va_tlen hx hb hRO.2.1.2 h4 rfl hdg (kk d g p l e s mi args below meth c H locs lc h1 F h2 h3 h4 h5 (sd_cons (v := .inl 13) ⟨by omega, by omega⟩ (sd_tl h6)))
-- returns
theorem sd_ireturn {x : Int} (hd : sd_dc Y pc .ireturn 1 pc') (hR : Y.2.2.2 = some .int) (hQ : sd_R x → (∀ j, sd_R (m j)) → Q (some (.inl x)) m) : sd_Wp S n Y pc ls [.inl x] m Q := by
  intro d g p l e s mi args below meth c H locs lc h1 F h2 h3 h4 h5 h6
  obtain ⟨hx, hb, hml, hown, hts, hr, hlk, hi, hK, hRO⟩ := id F
  obtain ⟨hdg, rfl⟩ := hd
  exact W.iret hx hb (hr.trans hR) (fun t ht _ => ⟨⟨some (.inl x), m, rfl, hQ (sd_hd h6) h3, fun v e => by cases e; exact sd_hd h6, h3, by rw [ht]; exact h2⟩, h4.F ht⟩) h4.2.2 hdg hlk
theorem sd_zreturn {x : Int} (hd : sd_dc Y pc .ireturn 1 pc') (hR : Y.2.2.2 = some .boolean) (h01 : x = 0 ∨ x = 1) (hQ : (∀ j, sd_R (m j)) → Q (some (.inl x)) m) : sd_Wp S n Y pc ls [.inl x] m Q := by
  intro d g p l e s mi args below meth c H locs lc h1 F h2 h3 h4 h5 h6
  obtain ⟨hx, hb, hml, hown, hts, hr, hlk, hi, hK, hRO⟩ := id F
  obtain ⟨hdg, rfl⟩ := hd
  exact W.zret hx hb (hr.trans hR) (by rcases h01 with rfl | rfl <;> decide) (fun t ht _ => ⟨⟨some (.inl x), m, rfl, hQ h3, fun v e => by cases e; exact sd_hd h6, h3, by rw [ht]; exact h2⟩, h4.F ht⟩) h4.2.2 hdg hlk
theorem sd_vreturn (hd : sd_dc Y pc .return_ 1 pc') (hR : Y.2.2.2 = none) (hQ : (∀ j, sd_R (m j)) → Q none m) : sd_Wp S n Y pc ls [] m Q := by
  intro d g p l e s mi args below meth c H locs lc h1 F h2 h3 h4 h5 h6
  obtain ⟨hx, hb, hml, hown, hts, hr, hlk, hi, hK, hRO⟩ := id F
  obtain ⟨hdg, rfl⟩ := hd
  exact W.vret hx hb (hr.trans hR) (fun t ht _ => ⟨⟨none, m, rfl, hQ h3, fun v e => (by cases e), h3, by rw [ht]; exact h2⟩, h4.F ht⟩) h4.2.2 hdg hlk
theorem sd_areturn {k : Nat} {t : FieldType} (hd : sd_dc Y pc .areturn 1 pc') (hR : Y.2.2.2 = some (.array t)) (hQ : (∀ j, sd_R (m j)) → Q (some (.inr k)) m) : sd_Wp S n Y pc ls [.inr k] m Q := by
  intro d g p l e s mi args below meth c H locs lc h1 F h2 h3 h4 h5 h6
  obtain ⟨hx, hb, hml, hown, hts, hr, hlk, hi, hK, hRO⟩ := id F
  obtain ⟨hdg, rfl⟩ := hd
  exact W.aret hx hb (hr.trans hR) (Or.inr ⟨t, rfl⟩) (Or.inr ⟨_, rfl⟩) (fun t ht _ => ⟨⟨some (.inr k), m, rfl, hQ h3, fun v e => by cases e; trivial, h3, by rw [ht]; exact h2⟩, h4.F ht⟩) h4.2.2 hdg hlk
-- calls
theorem sd_cont {g : sd_G} {p : Program} {l : Launch} {e : Env} {R : Room} {s : State} {mi : MethodId} {args a : Array Value} {below : List Frame} {meth : Method} {c : Code} {H : Heap} {locs : List Loc} {lc : Array Slot} {st0 rest : List Value} {Q' : Option sd_V → sd_M → Prop} {Z : State → Prop}
    (hr : va_Run p l e R s mi args below meth c H locs 0 0 0 0 (F0 mi pc lc st0) rest (sd_Qc S g Q' a) (sd_A S g)) (hS : va_S (sd_A S g) s.heap H locs)
    (kk : ∀ (r : Option sd_V) (m' : sd_M) (H1 : Heap) (locs1 : List Loc), Q' r m' → (∀ v, r = some v → sd_ok v) → (∀ j, sd_R (m' j)) → va_P g.2.1 sd_cl (sd_ws S g m') H1 → va_S (sd_A S g) s.heap H1 locs1 → W p l e R s mi args below meth c H1 locs1 0 0 Z (F0 mi (pc + 3) lc ((r.map (sd_cv g)).toList ++ rest))) :
    W p l e R s mi args below meth c H locs 0 0 Z (F0 mi pc lc st0) := by
  intro T hT X
  obtain ⟨v, st₀, t, T', L, h0, X', hL, e1, e2, ⟨⟨r, m', hv, hp, hok, hm, hb⟩, hz, hk⟩, stp⟩ := hr T hT X
  cases hv
  rw [h0] at hz hk
  obtain ⟨t2, a1, b1⟩ := kk r m' T'.heap (locs ++ L) hp hok hm (by rw [e1]; exact hb)
    ⟨Nat.le_trans hS.1 (by rw [e1]; exact hz), fun q h1 h2 => by rw [e1, hk q (Nat.lt_of_lt_of_le h1 hS.1) h2]; exact hS.2.1 q h1 h2, fun q hq => by
      rcases List.mem_append.mp hq with h | h
      · exact hS.2.2 q h
      · exact hL q h⟩ T' rfl X'
  exact ⟨t2, stp t2 a1, b1⟩
theorem sd_catsum (g : sd_G) (st : List sd_V) : ((st.map (sd_cv g)).map fun v => v.category).sum = st.length := by
  induction st with
  | nil => rfl
  | cons v st ih => simp only [List.map_cons, List.sum_cons, sd_cat, ih, List.length_cons]; omega
theorem sd_resok {r : Option sd_V} {st : List sd_V} (h : ∀ v, r = some v → sd_ok v) (h6 : ∀ v ∈ st, sd_ok v) : ∀ v ∈ r.toList ++ st, sd_ok v := by
  intro v hv
  rcases List.mem_append.mp hv with h1 | h1
  · exact h v (by cases r with
      | none => cases h1
      | some x => simp at h1; rw [h1])
  · exact h6 v h1
theorem sd_callV {idx na k ci nc : Nat} {Yc : sd_Y} {as stk : List sd_V} {fs : List (Nat ⊕ Nat)} {Q' : Option sd_V → sd_M → Prop} (hd : sd_dc Y pc (.invokevirtual idx) 3 pc') (hm : sd_mv Y.1.cls idx Yc na) (hstk : stk = as.reverse ++ .inr k :: st) (hn : as.length = na) (hg : S[k]? = some (.inr (.inl (ci, fs)))) (hc : (sd_cl[ci]?).map (fun q => q.1) = some Yc.1.cls) (hdep : nc + 1 ≤ n) (hst : st.length ≤ 8)
    (hC : sd_Ct S nc Yc (.inr k :: as) m Q') (kk : ∀ (r : Option sd_V) (m' : sd_M), Q' r m' → (∀ v, r = some v → sd_ok v) → (∀ j, sd_R (m' j)) → sd_Wp S n Y pc' ls (r.toList ++ st) m' Q) : sd_Wp S n Y pc ls stk m Q := by
  intro d g p l e s mi args below meth c H locs lc h1 F h2 h3 h4 h5 h6
  obtain ⟨hx, hb, hml, hown, hts, hr, hlk, hi, hK, hRO⟩ := id F
  obtain ⟨hdg, rfl⟩ := hd
  obtain ⟨m1, m2, m3, m4, m5, ⟨m6, m7, m8⟩, m9⟩ := hm
  subst hstk
  have hok1 : ∀ a ∈ Sum.inr k :: as, sd_ok a := by
    intro a ha
    rcases List.mem_cons.mp ha with rfl | ha
    · trivial
    · exact h6 a (List.mem_append_left _ (List.mem_reverse.mpr ha))
  have hok2 : ∀ a ∈ st, sd_ok a := fun a ha => h6 a (List.mem_append_right _ (List.mem_cons_of_mem _ ha))
  obtain ⟨d, rfl⟩ : ∃ d', d = d' + 1 := ⟨d - 1, by omega⟩
  have cw : CallW (sd_rm (d + 1)) s args Y.1.cls Yc.1.cls idx Yc.1 Yc.2.1 Yc.2.2.1 Yc.2.2.2 (sd_wy Yc) (sd_rm d) 0 0 na := by
    refine ⟨callB_of na hts (sd_goodIn m5) rfl rfl rfl (hts _ m4) (hts _ m1) ⟨m6, m7, m8⟩ ⟨Nat.le_refl _, ?_⟩, hts _ m2, hts _ m3⟩
    show 8 + (Yc.2.2.1 + 11) + 64 * d ≤ 64 * (d + 1)
    omega
  have hrecv : ∃ cell : Cell, H[g.1 k]? = some cell ∧ cell.vm.isStatics = false ∧ s.vm.findClass Yc.1.cls = some cell.cls := by
    cases hq : sd_cl[ci]? with
    | none => rw [hq] at hc; cases hc
    | some q =>
      rw [hq] at hc
      have hc' : q.1 = Yc.1.cls := Option.some.inj hc
      rw [← hc']
      exact va_recv hK h2 hq (sd_wsget hg)
  refine sd_cont (va_runV (As := as.map (sd_cv g)) (rest := st.map (sd_cv g)) ⟨hx, hb, hml, hown, hts⟩ (hC d (by omega) l g) cw ⟨sd_blind, hrecv, ?_⟩ rfl (by rw [List.length_map]; exact hn) h5.1.1 (by simp [List.map_append, List.map_reverse, sd_cv]) (lv_room (by rw [sd_catsum]; exact hst)) hdg ⟨Nat.zero_le _, Nat.zero_le _⟩) h4 (fun r m' H1 locs1 q1 q2 q3 q4 q5 => ?_)
  · exact sd_pre F h2 h3 h4 hok1
  · have k2 := kk r m' q1 q2 q3 (d + 1) g p l e s mi args below meth c H1 locs1 lc h1 F q4 q3 q5 h5 (sd_resok q2 hok2)
    have e2 : (r.toList ++ st).map (sd_cv g) = (r.map (sd_cv g)).toList ++ st.map (sd_cv g) := by cases r <;> rfl
    rw [e2] at k2
    exact k2
theorem sd_callS {idx na nc : Nat} {Yc : sd_Y} {as stk : List sd_V} {Q' : Option sd_V → sd_M → Prop} (hd : sd_dc Y pc (.invokestatic idx) 3 pc') (hm : sd_ms Y.1.cls idx Yc na) (hstk : stk = as.reverse ++ st) (hn : as.length = na) (hdep : nc + 1 ≤ n) (hst : st.length ≤ 8)
    (hC : sd_Ct S nc Yc as m Q') (kk : ∀ (r : Option sd_V) (m' : sd_M), Q' r m' → (∀ v, r = some v → sd_ok v) → (∀ j, sd_R (m' j)) → sd_Wp S n Y pc' ls (r.toList ++ st) m' Q) : sd_Wp S n Y pc ls stk m Q := by
  intro d g p l e s mi args below meth c H locs lc h1 F h2 h3 h4 h5 h6
  obtain ⟨hx, hb, hml, hown, hts, hr, hlk, hi, hK, hRO⟩ := id F
  obtain ⟨hdg, rfl⟩ := hd
  obtain ⟨m1, m2, m4, m5, ⟨m6, m7, m8⟩, m9⟩ := hm
  subst hstk
  have hok1 : ∀ a ∈ as, sd_ok a := fun a ha => h6 a (List.mem_append_left _ (List.mem_reverse.mpr ha))
  have hok2 : ∀ a ∈ st, sd_ok a := fun a ha => h6 a (List.mem_append_right _ ha)
  obtain ⟨d, rfl⟩ : ∃ d', d = d' + 1 := ⟨d - 1, by omega⟩
  have cb : CallB (sd_rm (d + 1)) s args Y.1.cls idx Yc.1 Yc.2.1 Yc.2.2.1 Yc.2.2.2 (sd_wy Yc) (sd_rm d) 0 0 na := by
    refine callB_of na hts (sd_goodIn m5) rfl rfl rfl (hts _ m4) (hts _ m1) ⟨m6, m7, m8⟩ ⟨Nat.le_refl _, ?_⟩
    show 8 + (Yc.2.2.1 + 11) + 64 * d ≤ 64 * (d + 1)
    omega
  refine sd_cont (va_runS (As := as.map (sd_cv g)) (rest := st.map (sd_cv g)) ⟨hx, hb, hml, hown, hts⟩ (hC d (by omega) l g) ⟨cb, hts _ m2⟩ ⟨sd_blind, ?_⟩ rfl (by rw [List.length_map]; exact hn) h5.1.1 (by simp [List.map_append, List.map_reverse]) (lv_room (by rw [sd_catsum]; exact hst)) hdg ⟨Nat.zero_le _, Nat.zero_le _⟩) h4 (fun r m' H1 locs1 q1 q2 q3 q4 q5 => ?_)
  · exact sd_pre F h2 h3 h4 hok1
  · have k2 := kk r m' q1 q2 q3 (d + 1) g p l e s mi args below meth c H1 locs1 lc h1 F q4 q3 q5 h5 (sd_resok q2 hok2)
    have e2 : (r.toList ++ st).map (sd_cv g) = (r.map (sd_cv g)).toList ++ st.map (sd_cv g) := by cases r <;> rfl
    rw [e2] at k2
    exact k2
theorem sd_callN {idx na nc : Nat} {host : String} {Yc : sd_Y} {as stk : List sd_V} {Q' : Option sd_V → sd_M → Prop} (hd : sd_dc Y pc (.invokestatic idx) 3 pc') (hm : sd_mn Y.1.cls idx host Yc na) (hstk : stk = as.reverse ++ st) (hn : as.length = na) (hdep : nc + 1 ≤ n) (hst : st.length ≤ 8)
    (hC : sd_Ct S nc Yc as m Q') (kk : ∀ (r : Option sd_V) (m' : sd_M), Q' r m' → (∀ v, r = some v → sd_ok v) → (∀ j, sd_R (m' j)) → sd_Wp S n Y pc' ls (r.toList ++ st) m' Q) : sd_Wp S n Y pc ls stk m Q := by
  intro d g p l e s mi args below meth c H locs lc h1 F h2 h3 h4 h5 h6
  obtain ⟨hx, hb, hml, hown, hts, hr, hlk, hi, hK, hRO⟩ := id F
  obtain ⟨hdg, rfl⟩ := hd
  obtain ⟨m1, m2, m4, m5, ⟨m6, m7, m8⟩, m9⟩ := hm
  subst hstk
  have hok1 : ∀ a ∈ as, sd_ok a := fun a ha => h6 a (List.mem_append_left _ (List.mem_reverse.mpr ha))
  have hok2 : ∀ a ∈ st, sd_ok a := fun a ha => h6 a (List.mem_append_right _ ha)
  obtain ⟨d, rfl⟩ : ∃ d', d = d' + 1 := ⟨d - 1, by omega⟩
  have cb : va_CN (sd_rm (d + 1)) s args Y.1.cls idx Yc.1 host Yc.2.1 Yc.2.2.1 Yc.2.2.2 (sd_wy Yc) (sd_rm d) 0 0 na := by
    refine va_cnB na hts (sd_goodIn m5) rfl rfl rfl (hRO.1 _ m1) (hts _ m4) ⟨m6, m7, m8⟩ ⟨Nat.le_refl _, ?_⟩
    show 8 + (Yc.2.2.1 + 11) + 64 * d ≤ 64 * (d + 1)
    omega
  refine sd_cont (va_runSN (As := as.map (sd_cv g)) (rest := st.map (sd_cv g)) ⟨hx, hb, hml, hown, hts⟩ (hC d (by omega) l g) ⟨cb, hts _ m2, trivial⟩ ⟨sd_blind, ?_⟩ rfl (by rw [List.length_map]; exact hn) h5.1.1 (by simp [List.map_append, List.map_reverse]) (lv_room (by rw [sd_catsum]; exact hst)) hdg ⟨Nat.zero_le _, Nat.zero_le _⟩) h4 (fun r m' H1 locs1 q1 q2 q3 q4 q5 => ?_)
  · exact sd_pre F h2 h3 h4 hok1
  · have k2 := kk r m' q1 q2 q3 (d + 1) g p l e s mi args below meth c H1 locs1 lc h1 F q4 q3 q5 h5 (sd_resok q2 hok2)
    have e2 : (r.toList ++ st).map (sd_cv g) = (r.map (sd_cv g)).toList ++ st.map (sd_cv g) := by cases r <;> rfl
    rw [e2] at k2
    exact k2
end Heaps
