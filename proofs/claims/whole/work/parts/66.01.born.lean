/-! The frame of a maker. -/
def sd_BF (g : sd_G) (Y : sd_Y) (p : Program) (s : State) (mi : MethodId) (args : Array Value) (c : Code) : Prop :=
  p.tables.exec = Jvm.exec ∧ c.code = Y.2.1 ∧ c.maxLocals = Y.2.2.1 ∧ s.vm.findClass Y.1.cls = some mi.cls ∧ (∀ w ∈ sd_tb, w.before args s = true) ∧ va_K g.2.1 sd_cl (sd_tys g) s ∧ (∀ w ∈ sd_nest, va_Nw w s) ∧ va_AO "SitDown$Sheet" s
def sd_bm (d mc ms : Nat) : Room := { frames := d, cells := mc, slots := ms, locals := 64 * d }
def sd_Bp (g : sd_G) (x : Nat × va_E) (sz : Nat) : Array Value → State → Prop := va_Pc [.ref x.1] (fun U => U.heap.size = sz ∧ va_P g.2.1 sd_cl [x] U.heap ∧ va_K g.2.1 sd_cl (sd_tys g) U ∧ (∀ w ∈ sd_nest, va_Nw w U) ∧ va_AO "SitDown$Sheet" U)
def sd_Bq (g : sd_G) (x : Nat × va_E) (sz : Nat) (Post : va_W → Prop) : Array Value → State → Outcome → State → Prop := va_Qv Post (fun w1 t => va_P g.2.1 sd_cl w1 t.heap ∧ va_D (va_A [x] sz) w1) (va_A [x] sz)
def sd_Bc (Y : sd_Y) (d mc ms ci : Nat) (fs0 : List Value) (Post : sd_G → Nat → va_W → Prop) : Prop :=
  ∀ (l : Launch) (g : sd_G) (h0 sz : Nat), Met l Y.1 (sd_wy Y) (sd_bm d mc ms) (sd_Bp g (h0, .inr (ci, fs0)) sz) (sd_Bq g (h0, .inr (ci, fs0)) sz (Post g h0)) mc ms (va_A [(h0, .inr (ci, fs0))] sz)
theorem sd_Bblind {g : sd_G} {x : Nat × va_E} {sz : Nat} : FrameBlind (sd_Bp g x sz) := by
  intro a U gf mk h
  obtain ⟨h1, h2, h3, h4, h5, h6⟩ := h
  exact ⟨h1, h2, h3, va_K.moved (u := U) (U := U.calling gf mk a) (Vm.Alike.refl U.vm) h4, fun w hw => by
    obtain ⟨b, i, y, hh, rfl⟩ := sd_isn_of (List.mem_filter.mp hw).2
    exact va_Nw.same rfl rfl (h5 _ hw), va_AO.moved (u := U) (U := U.calling gf mk a) (Vm.Alike.refl U.vm) h6⟩
theorem sd_Bpre {g : sd_G} {Y : sd_Y} {p : Program} {s : State} {mi : MethodId} {args : Array Value} {c : Code} {H : Heap} {x : Nat × va_E} (F : sd_BF g Y p s mi args c) (hP : va_P g.2.1 sd_cl [x] H) : ∀ U : State, U.heap = H → s.WarmedH U.vm → sd_Bp g x H.size [Value.ref x.1].toArray U := by
  intro U hU hW
  obtain ⟨-, -, -, -, -, hK, hN, hO⟩ := F
  refine ⟨rfl, by rw [hU], by rw [hU]; exact hP, va_K.moved hW.alike hK, fun w hw => ?_, va_AO.moved hW.alike hO⟩
  obtain ⟨a, i, y, hh, rfl⟩ := sd_isn_of (List.mem_filter.mp hw).2
  exact va_Nw.warmM hW (hN _ hw)
/-- what a call of a maker needs of the tables -/
def sd_mi (own : String) (idx : Nat) (host : String) (Yc : sd_Y) : Prop :=
  (Cond.methodLinkNest own idx Yc.1 host ∈ sd_nest ∨ Cond.methodLink own idx Yc.1 ∈ sd_tb) ∧ Cond.instanceMethod Yc.1 ∈ sd_tb ∧ Cond.initialized Yc.1.cls ∈ sd_tb ∧ Cond.code Yc.1 Yc.2.1 Yc.2.2.1 Yc.2.2.2 ∈ sd_tb ∧
  (Yc.1.cls ≠ "java/lang/invoke/MethodHandle" ∧ Yc.1.cls ≠ "java/lang/invoke/VarHandle" ∧ (parseMethodDescriptor Yc.1.desc).map (fun d => d.parameters.length) = some 0) ∧ Yc.2.2.1 ≤ 40 ∧ Yc.1.name = "<init>" ∧ Yc.2.2.2 = none
theorem sd_born {p : Program} {l : Launch} {e : Env} {R : Room} {s : State} {mi : MethodId} {args : Array Value} {below : List Frame} {meth : Method} {c : Code} {H : Heap} {locs : List Loc} {cells slots mc ms d pc p1 p2 p3 i1 i2 ci N nL : Nat} {ls : Array Slot} {lv : List (Nat × Value)} {rest fs0 : List Value} {Post : sd_G → Nat → va_W → Prop} {g : sd_G} {Y Yc : sd_Y} {ws : va_W} {A : Nat → Prop} {Z : State → Prop} {C host : String} {T : u_T} (F : sd_BF g Y p s mi args c)
    (d1 : sd_dc Y pc (.new i1) 3 p1) (d2 : sd_dc Y p1 .dup 1 p2) (d3 : sd_dc Y p2 (.invokespecial i2) 3 p3) (hcf : sd_cf ci C T N) (ty : Nat → FieldType) (hty : ∀ k, k < N → parseFieldDescriptor (T k).2.2.1 = some (ty k)) (hfs : ∀ j, j < N → defaultValue (ty j) = vp_V fs0 j)
    (w1 : Cond.classLink Y.1.cls i1 C ∈ sd_tb) (w2 : Cond.instantiable C N ∈ sd_tb) (w3 : Cond.initialized C ∈ sd_tb) (hm : sd_mi Y.1.cls i2 host Yc) (hB : sd_Bc Yc d mc ms ci fs0 Post) (hR : d + 1 ≤ R.frames ∧ 59 + 64 * d ≤ R.locals) (hc : cells + 1 + mc ≤ R.cells) (hs : slots + N + ms ≤ R.slots) (hst : (rest.map fun v => v.category).sum ≤ 7)
    (hP : va_P g.2.1 sd_cl ws H) (hD : va_D A ws) (hS : va_S A s.heap H locs) (hA : ∀ q, s.heap.size ≤ q → A q) (hl : lv_has ls nL lv) (hnL : nL = Y.2.2.1)
    (kk : ∀ (q : Nat) (w1 : va_W) (H1 : Heap) (locs1 : List Loc), Post g q w1 → va_P g.2.1 sd_cl (ws ++ w1) H1 → va_D A (ws ++ w1) → va_S A s.heap H1 locs1 → W p l e R s mi args below meth c H1 locs1 (cells + 1 + mc) (slots + N + ms) Z (F0 mi p3 ls (.ref q :: rest))) :
    W p l e R s mi args below meth c H locs cells slots Z (F0 mi pc ls rest) := by
  obtain ⟨hx, hb, hml, hown, hts, hK, hN, hO⟩ := id F
  obtain ⟨e1, rfl⟩ := d1
  obtain ⟨e2, rfl⟩ := d2
  obtain ⟨e3, rfl⟩ := d3
  obtain ⟨c1, c2, -, -⟩ := hcf
  obtain ⟨m1, m2, m3, m4, m5, m6, m7, m8⟩ := hm
  refine va_new hx hb hts c2 ty hty hown (hts _ w1) (hts _ w2) (hts _ w3) hK hP hD hS hA c1 hfs (by omega) (by omega) e1 (fun q H1 hP1 hD1 hS1 => ?_)
  refine lv_dup hx hb e2 rfl ?_
  have hPx : va_P g.2.1 sd_cl [(q, .inr (ci, fs0))] H1 := sd_yPm.mpr (fun y hy => sd_yPm.mp hP1 y (List.mem_append_right _ hy))
  have hpre := sd_Bpre F hPx
  have hfit : cells + 1 + mc ≤ R.cells ∧ slots + N + ms ≤ R.slots := ⟨hc, hs⟩
  have hroom : 2 * (F0 mi (pc + 3 + 1) ls (Value.ref q :: Value.ref q :: rest)).monitorRoom + ((Value.ref q :: rest).map fun v => v.category).sum ≤ 8 := by
    refine lv_room ?_
    rw [List.map_cons, List.sum_cons]
    have : (Value.ref q).category = 1 := rfl
    omega
  have hfr : (sd_bm d mc ms).frames + 1 ≤ R.frames ∧ 8 + (Yc.2.2.1 + 11) + (sd_bm d mc ms).locals ≤ R.locals := by
    refine ⟨hR.1, ?_⟩
    show 8 + (Yc.2.2.1 + 11) + 64 * d ≤ R.locals
    omega
  have hret : sd_wy Yc = Cond.code Yc.1 Yc.2.1 Yc.2.2.1 none :: sd_tb := by unfold sd_wy; rw [m8]
  have hrun : va_Run p l e R s mi args below meth c H1 locs (cells + 1) (slots + N) mc ms (F0 mi (pc + 3 + 1) ls (.ref q :: .ref q :: rest)) (.ref q :: rest) (sd_Bq g (q, .inr (ci, fs0)) H1.size (Post g q) (Value.ref q :: ([] : List Value)).toArray) (va_A [(q, .inr (ci, fs0))] H1.size) := by
    rcases m1 with m1 | m1
    · exact va_runIN (As := []) (bytes := Yc.2.1) (maxL := Yc.2.2.1) (n := 0) ⟨hx, hb, hml, hown, hts⟩ (hB l g q H1.size) ⟨va_cnB 0 hts (sd_goodIn m4) hret rfl rfl (hN _ m1) (hts _ m3) m5 hfr, m7, hts _ m2⟩ ⟨sd_Bblind, hpre⟩ rfl rfl (hl.1.trans hnL) rfl hroom e3 hfit
    · exact va_runI (As := []) (bytes := Yc.2.1) (maxL := Yc.2.2.1) (n := 0) ⟨hx, hb, hml, hown, hts⟩ (hB l g q H1.size) (cwI 0 hts (sd_goodIn m4) hret rfl rfl (hts _ m3) (hts _ m1) (hts _ m2) m7 m5 hfr) ⟨sd_Bblind, hpre⟩ rfl rfl (hl.1.trans hnL) rfl hroom e3 hfit
  exact sd_bornK hrun hP1 hD1 hS1 hA (fun w1 H2 locs2 hp q1 q2 q3 => kk q w1 H2 locs2 hp q1 q2 q3)
