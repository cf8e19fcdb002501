theorem sd_oi : Cond.instanceMethod objectInit ∈ sd_tb ∧ Cond.code objectInit ⟨#[0xb1]⟩ 1 none ∈ sd_tb := ⟨sd_in1_ (i := 26) rfl rfl, sd_in1_ (i := 27) rfl rfl⟩
theorem sd_arI : Cond.arrayClass (newarray.typeOf .int) ∈ sd_tb := sd_in1_ (i := 103) rfl rfl
abbrev sd_ia (g : sd_G) (n : Nat) (v : Nat → Int) : va_E := .inl (g.2.2.1, n, .inl (fun i => if i < n then Int32.ofInt (v i) else 0))
abbrev sd_rq (g : sd_G) (f : Nat → Option Nat) : va_E := .inl (g.2.2.2, 4, .inr (.inr (.inr (.inr f))))
def sd_psh (Y : sd_Y) (pc : Nat) (z : Int) (pc' : Nat) : Prop := sd_dc Y pc (.iconst z) 1 pc' ∨ (sd_dc Y pc (.bipush z) 2 pc' ∧ (Int8.ofInt z).toInt32 = Int32.ofInt z) ∨ (sd_dc Y pc (.sipush z) 3 pc' ∧ (Int16.ofInt z).toInt32 = Int32.ofInt z)
def sd_BW (Y : sd_Y) (d mc ms : Nat) (g : sd_G) (h0 ci sz : Nat) (fs0 : List Value) (Post : va_W → Prop) (pc : Nat) (lv : List (Nat × Value)) (st fs : List Value) (w : va_W) (cells slots : Nat) : Prop :=
  ∀ (p : Program) (l : Launch) (e : Env) (s : State) (mi : MethodId) (args : Array Value) (below : List Frame) (meth : Method) (c : Code) (H : Heap) (locs : List Loc) (lc : Array Slot), s.heap.size = sz → sd_BF g Y p s mi args c → meth.sig.returnType = none → meth.locks = false → meth.name = "<init>" →
    va_P g.2.1 sd_cl ((h0, .inr (ci, fs)) :: w) H → va_D (va_A [(h0, .inr (ci, fs0))] sz) ((h0, .inr (ci, fs)) :: w) → va_S (va_A [(h0, .inr (ci, fs0))] sz) s.heap H locs → lv_has lc Y.2.2.1 lv →
    W p l e (sd_bm d mc ms) s mi args below meth c H locs cells slots (MQ below (sd_Bq g (h0, .inr (ci, fs0)) sz Post) args s mc ms (va_A [(h0, .inr (ci, fs0))] sz)) (F0 mi pc lc st)
section Makers
variable {Y : sd_Y} {d mc ms : Nat} {g : sd_G} {h0 ci sz : Nat} {fs0 : List Value} {Post : va_W → Prop} {pc pc' : Nat} {lv : List (Nat × Value)} {st fs : List Value} {w : va_W} {cells slots : Nat}
theorem bw_al {x j : Nat} (hd : sd_dc Y pc (.aload_n 0) 1 pc') (hv : lv[j]? = some (0, .ref x)) (kk : sd_BW Y d mc ms g h0 ci sz fs0 Post pc' lv (.ref x :: st) fs w cells slots) : sd_BW Y d mc ms g h0 ci sz fs0 Post pc lv st fs w cells slots := by
  intro p l e s mi args below meth c H locs lc hz F hr hlk hnm hP hD hS hl
  obtain ⟨hx, hb, hml, hown, hts, hK, hN, hO⟩ := id F
  obtain ⟨hdg, rfl⟩ := hd
  exact lv_aload_n hx hb hdg rfl (lv_at hl j hv) (kk p l e s mi args below meth c H locs lc hz F hr hlk hnm hP hD hS hl)
theorem bw_il {x : Int32} {j : Nat} (hd : sd_dc Y pc (.iload_n 1) 1 pc') (hv : lv[j]? = some (1, .int x)) (kk : sd_BW Y d mc ms g h0 ci sz fs0 Post pc' lv (.int x :: st) fs w cells slots) : sd_BW Y d mc ms g h0 ci sz fs0 Post pc lv st fs w cells slots := by
  intro p l e s mi args below meth c H locs lc hz F hr hlk hnm hP hD hS hl
  obtain ⟨hx, hb, hml, hown, hts, hK, hN, hO⟩ := id F
  obtain ⟨hdg, rfl⟩ := hd
  exact lv_iload_n hx hb hdg rfl (lv_at hl j hv) (kk p l e s mi args below meth c H locs lc hz F hr hlk hnm hP hD hS hl)
theorem bw_obj {idx x : Nat} (hd : sd_dc Y pc (.invokespecial idx) 3 pc') (hw : Cond.methodLink Y.1.cls idx objectInit ∈ sd_tb) (hd1 : 1 ≤ d) (kk : sd_BW Y d mc ms g h0 ci sz fs0 Post pc' lv [] fs w cells slots) : sd_BW Y d mc ms g h0 ci sz fs0 Post pc lv [.ref x] fs w cells slots := by
  intro p l e s mi args below meth c H locs lc hz F hr hlk hnm hP hD hS hl
  obtain ⟨hx, hb, hml, hown, hts, hK, hN, hO⟩ := id F
  obtain ⟨hdg, rfl⟩ := hd
  refine W.objInit hx hb hown (hts _ hw) (hts _ sd_oi.1) (hts _ sd_oi.2) rfl (hl.1.trans hml.symm) rfl hdg hd1 ?_ (W.eq rfl (kk p l e s mi args below meth c H locs lc hz F hr hlk hnm hP hD hS hl))
  show 2 * 0 + 0 + 12 ≤ 64 * d
  omega
theorem bw_push {z : Int} (hd : sd_psh Y pc z pc') (kk : sd_BW Y d mc ms g h0 ci sz fs0 Post pc' lv (.int (Int32.ofInt z) :: st) fs w cells slots) : sd_BW Y d mc ms g h0 ci sz fs0 Post pc lv st fs w cells slots := by
  intro p l e s mi args below meth c H locs lc hz F hr hlk hnm hP hD hS hl
  obtain ⟨hx, hb, hml, hown, hts, hK, hN, hO⟩ := id F
  rcases hd with ⟨hdg, rfl⟩ | ⟨⟨hdg, rfl⟩, hv⟩ | ⟨⟨hdg, rfl⟩, hv⟩
  · exact lv_iconst hx hb hdg rfl (kk p l e s mi args below meth c H locs lc hz F hr hlk hnm hP hD hS hl)
  · exact lv_bipush hx hb hdg hv (kk p l e s mi args below meth c H locs lc hz F hr hlk hnm hP hD hS hl)
  · exact lv_sipush hx hb hdg hv (kk p l e s mi args below meth c H locs lc hz F hr hlk hnm hP hD hS hl)
theorem bw_dup {v : Value} (hd : sd_dc Y pc .dup 1 pc') (hc : v.category = 1) (kk : sd_BW Y d mc ms g h0 ci sz fs0 Post pc' lv (v :: v :: st) fs w cells slots) : sd_BW Y d mc ms g h0 ci sz fs0 Post pc lv (v :: st) fs w cells slots := by
  intro p l e s mi args below meth c H locs lc hz F hr hlk hnm hP hD hS hl
  obtain ⟨hx, hb, hml, hown, hts, hK, hN, hO⟩ := id F
  obtain ⟨hdg, rfl⟩ := hd
  exact lv_dup hx hb hdg hc (kk p l e s mi args below meth c H locs lc hz F hr hlk hnm hP hD hS hl)
theorem bw_na {n cells' slots' : Nat} {z : Int} {v : Nat → Int} (hd : sd_dc Y pc (.newarray .int) 2 pc') (hzn : z = (n : Int)) (hn : n ≤ 2000) (hv : ∀ i, i < n → v i = 0) (hc : cells + 1 = cells') (hs : slots + n = slots') (h1 : cells' ≤ mc) (h2 : slots' ≤ ms) (kk : ∀ q : Nat, sd_BW Y d mc ms g h0 ci sz fs0 Post pc' lv (.ref q :: st) fs (w ++ [(q, sd_ia g n v)]) cells' slots') : sd_BW Y d mc ms g h0 ci sz fs0 Post pc lv (.int (Int32.ofInt z) :: st) fs w cells slots := by
  intro p l e s mi args below meth c H locs lc hz F hr hlk hnm hP hD hS hl
  obtain ⟨hx, hb, hml, hown, hts, hK, hN, hO⟩ := id F
  obtain ⟨hdg, rfl⟩ := hd
  subst hzn
  have hR : sd_R (n : Int) := ⟨by omega, by omega⟩
  have hvi : vp_in (Int32.ofInt (n : Int)) (n + 1) := sd_vpin hR (by omega) (by omega)
  refine va_newa (atype := .int) (ty := .int) hx hb (hts _ sd_arI) rfl hK hP hD hS (fun q h => Or.inr (by rw [← hz]; exact h)) (N' := n) (a0 := (n, .inl (fun i => if i < n then Int32.ofInt (v i) else 0))) (fun cA => ?_) (fun q => hvi (Or.inl q)) (by rw [sd_clamp hR, Int.toNat_natCast]) ?_ (by rw [hc]; exact h1) (by rw [hs]; exact h2) hdg (fun q cA H1 hK1 hP1 hD1 hS1 => ?_)
  · rw [vp_cell_i]
    congr 1
    funext j
    by_cases hj : j < n
    · rw [if_pos hj, hv j hj]; rfl
    · rw [if_neg hj]; rfl
  · show n * 4 ≤ 536870912
    omega
  · have q1 : s.vm.findClass ("[" ++ (FieldType.int).toString) = some cA := (hK1.2 2 (cA, .int) rfl).2
    have q2 : s.vm.findClass ("[" ++ (FieldType.int).toString) = some g.2.2.1 := (hK.2 0 (g.2.2.1, .int) rfl).2
    have q3 : cA = g.2.2.1 := Option.some.inj (q1.symm.trans q2)
    subst q3
    subst hc
    subst hs
    exact kk q p l e s mi args below meth c H1 locs lc hz F hr hlk hnm hP1 hD1 hS1 hl
theorem bw_pf {idx j : Nat} {v : Value} {ty : FieldType} {fs' : List Value} (hd : sd_dc Y pc (.putfield idx) 3 pc') (hf : sd_fl Y.1.cls idx ci j true ty) (hdc : (sd_cl[ci]?).map (fun q => (q.2.1 j).1) = some Y.1.cls) (hn : narrow ty v = v) (hfit : fits ty v = true) (hj : j < fs.length) (hfs : fs.set j v = fs') (kk : sd_BW Y d mc ms g h0 ci sz fs0 Post pc' lv st fs' w cells slots) : sd_BW Y d mc ms g h0 ci sz fs0 Post pc lv (v :: .ref h0 :: st) fs w cells slots := by
  intro p l e s mi args below meth c H locs lc hz F hr hlk hnm hP hD hS hl
  obtain ⟨hx, hb, hml, hown, hts, hK, hN, hO⟩ := id F
  obtain ⟨hdg, rfl⟩ := hd
  obtain ⟨C, T, N, ⟨c1, c2, c3, ty0, c4⟩, f1, f2, f3, f4⟩ := hf
  subst hfs
  have hdc2 : (T j).1 = Y.1.cls := by rw [c1] at hdc; exact Option.some.inj hdc
  exact va_putF (v := v) (ty := ty) hx hb hts c2 ty0 c4 c3 hown hK hP hD hS 0 rfl c1 j f1 (hts _ f2) (fun _ h9 => h9) f3 hnm hdc2 f4 hn hfit hj hdg (fun H1 locs1 q1 q2 q3 => kk p l e s mi args below meth c H1 locs1 lc hz F hr hlk hnm q1 q2 q3 hl)
theorem bw_pi {idx j : Nat} {v : Value} {ty : FieldType} {fs' : List Value} (hd : sd_dc Y pc (.putfield idx) 3 pc') (hf : sd_fl Y.1.cls idx ci j false ty) (hn : narrow ty v = v) (hfit : fits ty v = true) (hj : j < fs.length) (hfs : fs.set j v = fs') (kk : sd_BW Y d mc ms g h0 ci sz fs0 Post pc' lv st fs' w cells slots) : sd_BW Y d mc ms g h0 ci sz fs0 Post pc lv (v :: .ref h0 :: st) fs w cells slots := by
  intro p l e s mi args below meth c H locs lc hz F hr hlk hnm hP hD hS hl
  obtain ⟨hx, hb, hml, hown, hts, hK, hN, hO⟩ := id F
  obtain ⟨hdg, rfl⟩ := hd
  obtain ⟨C, T, N, ⟨c1, c2, c3, ty0, c4⟩, f1, f2, f3, f4⟩ := hf
  subst hfs
  exact va_put (v := v) (ty := ty) hx hb hts c2 ty0 c4 c3 hown hK hP hD hS 0 rfl c1 j f1 (hts _ f2) (fun _ h9 => h9) f3 f4 hn hfit hj hdg (fun H1 locs1 q1 q2 q3 => kk p l e s mi args below meth c H1 locs1 lc hz F hr hlk hnm q1 q2 q3 hl)
theorem bw_gf {idx j : Nat} {v : Value} {fin : Bool} {ty : FieldType} (hd : sd_dc Y pc (.getfield idx) 3 pc') (hf : sd_fl Y.1.cls idx ci j fin ty) (hv : fs[j]? = some v) (kk : sd_BW Y d mc ms g h0 ci sz fs0 Post pc' lv (v :: st) fs w cells slots) : sd_BW Y d mc ms g h0 ci sz fs0 Post pc lv (.ref h0 :: st) fs w cells slots := by
  intro p l e s mi args below meth c H locs lc hz F hr hlk hnm hP hD hS hl
  obtain ⟨hx, hb, hml, hown, hts, hK, hN, hO⟩ := id F
  obtain ⟨hdg, rfl⟩ := hd
  obtain ⟨C, T, N, ⟨c1, c2, c3, ty0, c4⟩, f1, f2, f3, f4⟩ := hf
  exact va_get hx hb hts c2 hown hK hP 0 rfl c1 j f1 (hts _ f2) (fun _ h9 => h9) hv hdg (kk p l e s mi args below meth c H locs lc hz F hr hlk hnm hP hD hS hl)
theorem bw_is {x : Int32} {lv' : List (Nat × Value)} (hd : sd_dc Y pc (.istore_n 1) 1 pc') (hn : 1 < Y.2.2.1) (hlv : (1, Value.int x) :: lv.filter (fun q => !(q.1 == 1) && !(q.1 + 1 == 1 && q.2.category == 2)) = lv') (kk : sd_BW Y d mc ms g h0 ci sz fs0 Post pc' lv' st fs w cells slots) : sd_BW Y d mc ms g h0 ci sz fs0 Post pc lv (.int x :: st) fs w cells slots := by
  intro p l e s mi args below meth c H locs lc hz F hr hlk hnm hP hD hS hl
  obtain ⟨hx, hb, hml, hown, hts, hK, hN, hO⟩ := id F
  obtain ⟨hdg, rfl⟩ := hd
  exact lv_istore_n hx hb hdg rfl hl hn hlv (fun lc' hl' => kk p l e s mi args below meth c H locs lc' hz F hr hlk hnm hP hD hS hl')
theorem bw_ii {x y : Int32} {j : Nat} {lv' : List (Nat × Value)} (hd : sd_dc Y pc (.iinc 1 1) 3 pc') (hn : 1 < Y.2.2.1) (hk : lv[j]? = some (1, .int x)) (hy : x + Int32.ofInt 1 = y) (hlv : (1, Value.int y) :: lv.filter (fun q => !(q.1 == 1) && !(q.1 + 1 == 1 && q.2.category == 2)) = lv') (kk : sd_BW Y d mc ms g h0 ci sz fs0 Post pc' lv' st fs w cells slots) : sd_BW Y d mc ms g h0 ci sz fs0 Post pc lv st fs w cells slots := by
  intro p l e s mi args below meth c H locs lc hz F hr hlk hnm hP hD hS hl
  obtain ⟨hx, hb, hml, hown, hts, hK, hN, hO⟩ := id F
  obtain ⟨hdg, rfl⟩ := hd
  exact lv_iinc hx hb hdg hl hk hy hn hlv (fun lc' hl' => kk p l e s mi args below meth c H locs lc' hz F hr hlk hnm hP hD hS hl')
theorem bw_go {off : Int} {tgt : Nat} (hd : sd_dc Y pc (.goto off) 3 pc') (ht : (pc : Int) + off = (tgt : Int)) (kk : sd_BW Y d mc ms g h0 ci sz fs0 Post tgt lv st fs w cells slots) : sd_BW Y d mc ms g h0 ci sz fs0 Post pc lv st fs w cells slots := by
  intro p l e s mi args below meth c H locs lc hz F hr hlk hnm hP hD hS hl
  obtain ⟨hx, hb, hml, hown, hts, hK, hN, hO⟩ := id F
  obtain ⟨hdg, rfl⟩ := hd
  exact lv_goto hx hb hdg ht (kk p l e s mi args below meth c H locs lc hz F hr hlk hnm hP hD hS hl)
theorem bw_ad {x y z : Int32} (hd : sd_dc Y pc .iadd 1 pc') (hxy : x + y = z) (kk : sd_BW Y d mc ms g h0 ci sz fs0 Post pc' lv (.int z :: st) fs w cells slots) : sd_BW Y d mc ms g h0 ci sz fs0 Post pc lv (.int y :: .int x :: st) fs w cells slots := by
  intro p l e s mi args below meth c H locs lc hz F hr hlk hnm hP hD hS hl
  obtain ⟨hx, hb, hml, hown, hts, hK, hN, hO⟩ := id F
  obtain ⟨hdg, rfl⟩ := hd
  subst hxy
  exact lv_iadd hx hb hdg (kk p l e s mi args below meth c H locs lc hz F hr hlk hnm hP hD hS hl)
theorem bw_geT {x y : Int32} {off : Int} {tgt : Nat} (hd : sd_dc Y pc (.if_icmp .ge off) 3 pc') (ht : (pc : Int) + off = (tgt : Int)) (hc : y ≤ x) (kk : sd_BW Y d mc ms g h0 ci sz fs0 Post tgt lv st fs w cells slots) : sd_BW Y d mc ms g h0 ci sz fs0 Post pc lv (.int y :: .int x :: st) fs w cells slots := by
  intro p l e s mi args below meth c H locs lc hz F hr hlk hnm hP hD hS hl
  obtain ⟨hx, hb, hml, hown, hts, hK, hN, hO⟩ := id F
  obtain ⟨hdg, rfl⟩ := hd
  exact lv_icmp_ge hx hb hdg ht (fun _ => kk p l e s mi args below meth c H locs lc hz F hr hlk hnm hP hD hS hl) (fun q => absurd hc q)
theorem bw_geF {x y : Int32} {off : Int} {tgt : Nat} (hd : sd_dc Y pc (.if_icmp .ge off) 3 pc') (ht : (pc : Int) + off = (tgt : Int)) (hc : ¬ y ≤ x) (kk : sd_BW Y d mc ms g h0 ci sz fs0 Post pc' lv st fs w cells slots) : sd_BW Y d mc ms g h0 ci sz fs0 Post pc lv (.int y :: .int x :: st) fs w cells slots := by
  intro p l e s mi args below meth c H locs lc hz F hr hlk hnm hP hD hS hl
  obtain ⟨hx, hb, hml, hown, hts, hK, hN, hO⟩ := id F
  obtain ⟨hdg, rfl⟩ := hd
  exact lv_icmp_ge hx hb hdg ht (fun q => absurd q hc) (fun _ => kk p l e s mi args below meth c H locs lc hz F hr hlk hnm hP hD hS hl)
theorem bw_ia {a n k : Nat} {z zk : Int} {v v' : Nat → Int} (hd : sd_dc Y pc .iastore 1 pc') (hzk : zk = (k : Int)) (hn : n ≤ 2000) (hk : k < n) (h1 : v' k = z) (h2 : ∀ j, j ≠ k → v' j = v j) (kk : sd_BW Y d mc ms g h0 ci sz fs0 Post pc' lv st fs ((a, sd_ia g n v') :: w) cells slots) : sd_BW Y d mc ms g h0 ci sz fs0 Post pc lv (.int (Int32.ofInt z) :: .int (Int32.ofInt zk) :: .ref a :: st) fs ((a, sd_ia g n v) :: w) cells slots := by
  intro p l e s mi args below meth c H locs lc hz F hr hlk hnm hP hD hS hl
  obtain ⟨hx, hb, hml, hown, hts, hK, hN, hO⟩ := id F
  obtain ⟨hdg, rfl⟩ := hd
  subst hzk
  have hR : sd_R (k : Int) := ⟨by omega, by omega⟩
  refine va_iast hx hb hK hP hD hS 1 0 rfl rfl (x := Int32.ofInt z) (sd_vpin hR (by omega) (by omega)) hdg (fun H1 locs1 q1 q2 q3 => ?_)
  have e1 : upd (fun i => if i < n then Int32.ofInt (v i) else 0) (Int32.ofInt (k : Int)).toNatClampNeg (Int32.ofInt z) = fun i => if i < n then Int32.ofInt (v' i) else 0 := by
    rw [sd_clamp hR, Int.toNat_natCast]
    funext j
    simp only [upd]
    by_cases hj : j = k
    · subst hj
      rw [if_pos rfl, if_pos hk, h1]
    · rw [if_neg hj, h2 j hj]
  rw [e1] at q1 q2
  exact kk p l e s mi args below meth c H1 locs1 lc hz F hr hlk hnm q1 q2 q3 hl
theorem bw_aq {idx cells' slots' : Nat} {z : Int} (hd : sd_dc Y pc (.anewarray idx) 3 pc') (hz4 : z = 4) (hw : Cond.classLink Y.1.cls idx "SitDown$Sheet" ∈ sd_tb) (hc : cells + 1 = cells') (hs : slots + 4 = slots') (h1 : cells' ≤ mc) (h2 : slots' ≤ ms) (kk : ∀ q : Nat, sd_BW Y d mc ms g h0 ci sz fs0 Post pc' lv (.ref q :: st) fs (w ++ [(q, sd_rq g (fun _ => none))]) cells' slots') : sd_BW Y d mc ms g h0 ci sz fs0 Post pc lv (.int (Int32.ofInt z) :: st) fs w cells slots := by
  intro p l e s mi args below meth c H locs lc hz F hr hlk hnm hP hD hS hl
  obtain ⟨hx, hb, hml, hown, hts, hK, hN, hO⟩ := id F
  obtain ⟨hdg, rfl⟩ := hd
  subst hz4
  have hR : sd_R (4 : Int) := ⟨by omega, by omega⟩
  refine va_newq (C := "SitDown$Sheet") hx hb hown (hts _ hw) hO hK hP hD hS (fun q h => Or.inr (by rw [← hz]; exact h)) (N' := 4) (by decide) (by rw [sd_clamp hR]; rfl) (by decide) (by rw [hc]; exact h1) (by rw [hs]; exact h2) hdg (fun q cA H1 hK1 hP1 hD1 hS1 => ?_)
  obtain ⟨k1, p1, -, -, -, q1⟩ := (hK1.2 2 (cA, .object "SitDown$Sheet") rfl).2
  obtain ⟨k2, p2, -, -, -, q2⟩ := (hK.2 1 (g.2.2.2, .object "SitDown$Sheet") rfl).2
  have q3 : cA = g.2.2.2 := Option.some.inj (q1.symm.trans q2)
  subst q3
  subst hc
  subst hs
  exact kk q p l e s mi args below meth c H1 locs lc hz F hr hlk hnm hP1 hD1 hS1 hl
theorem bw_aa {sa v k : Nat} {zk : Int} {vs : List Value} {f : Nat → Option Nat} (hd : sd_dc Y pc .aastore 1 pc') (hzk : zk = (k : Int)) (hk : k < 4) (kk : sd_BW Y d mc ms g h0 ci sz fs0 Post pc' lv st fs ((sa, sd_rq g (va_up f k (some v))) :: (v, .inr (5, vs)) :: w) cells slots) : sd_BW Y d mc ms g h0 ci sz fs0 Post pc lv (.ref v :: .int (Int32.ofInt zk) :: .ref sa :: st) fs ((sa, sd_rq g f) :: (v, .inr (5, vs)) :: w) cells slots := by
  intro p l e s mi args below meth c H locs lc hz F hr hlk hnm hP hD hS hl
  obtain ⟨hx, hb, hml, hown, hts, hK, hN, hO⟩ := id F
  obtain ⟨hdg, rfl⟩ := hd
  subst hzk
  have hR : sd_R (k : Int) := ⟨by omega, by omega⟩
  refine va_astq (r := (RX5, TX5, 3)) hx hb hK hP hD hS 1 1 2 5 rfl rfl rfl rfl (sd_vpin hR (by omega) (by omega)) hdg (fun H1 locs1 q1 q2 q3 => ?_)
  rw [sd_clamp hR, Int.toNat_natCast] at q1 q2
  exact kk p l e s mi args below meth c H1 locs1 lc hz F hr hlk hnm q1 q2 q3 hl
theorem bw_pm {w' : va_W} (hp : w.Perm w') (kk : sd_BW Y d mc ms g h0 ci sz fs0 Post pc lv st fs w' cells slots) : sd_BW Y d mc ms g h0 ci sz fs0 Post pc lv st fs w cells slots := by
  intro p l e s mi args below meth c H locs lc hz F hr hlk hnm hP hD hS hl
  obtain ⟨hx, hb, hml, hown, hts, hK, hN, hO⟩ := id F
  exact kk p l e s mi args below meth c H locs lc hz F hr hlk hnm (sd_yPp hP (hp.cons _)) (sd_yDp hD (hp.cons _)) hS hl
theorem bw_new {p1 p2 p3 i1 i2 cx N mx sx dx cells' slots' : Nat} {fx : List Value} {Px : sd_G → Nat → va_W → Prop} {Yc : sd_Y} {C host : String} {T : u_T} (d1 : sd_dc Y pc (.new i1) 3 p1) (d2 : sd_dc Y p1 .dup 1 p2) (d3 : sd_dc Y p2 (.invokespecial i2) 3 p3) (hcf : sd_cf cx C T N) (ty : Nat → FieldType) (hty : ∀ k, k < N → parseFieldDescriptor (T k).2.2.1 = some (ty k)) (hfs : ∀ j, j < N → defaultValue (ty j) = vp_V fx j)
    (w1 : Cond.classLink Y.1.cls i1 C ∈ sd_tb) (w2 : Cond.instantiable C N ∈ sd_tb) (w3 : Cond.initialized C ∈ sd_tb) (hm : sd_mi Y.1.cls i2 host Yc) (hB : sd_Bc Yc dx mx sx cx fx Px) (hdx : dx + 1 ≤ d) (hc : cells + 1 + mx = cells') (hs : slots + N + sx = slots') (h1 : cells' ≤ mc) (h2 : slots' ≤ ms) (hst : (st.map fun v => v.category).sum ≤ 7) (kk : ∀ (q : Nat) (w1 : va_W), Px g q w1 → sd_BW Y d mc ms g h0 ci sz fs0 Post p3 lv (.ref q :: st) fs (w ++ w1) cells' slots') : sd_BW Y d mc ms g h0 ci sz fs0 Post pc lv st fs w cells slots := by
  intro p l e s mi args below meth c H locs lc hz F hr hlk hnm hP hD hS hl
  obtain ⟨hx, hb, hml, hown, hts, hK, hN, hO⟩ := id F
  subst hc
  subst hs
  refine sd_born F d1 d2 d3 hcf ty hty hfs w1 w2 w3 hm hB ⟨hdx, ?_⟩ h1 h2 hst hP hD hS (fun q h => Or.inr (by rw [← hz]; exact h)) hl rfl (fun q w1 H1 locs1 hp q1 q2 q3 => kk q w1 hp p l e s mi args below meth c H1 locs1 lc hz F hr hlk hnm q1 q2 q3 hl)
  show 59 + 64 * dx ≤ 64 * d
  omega
theorem bw_ret (hd : sd_dc Y pc .return_ 1 pc') (hc : cells ≤ mc) (hs : slots ≤ ms) (hp : Post ((h0, .inr (ci, fs)) :: w)) : sd_BW Y d mc ms g h0 ci sz fs0 Post pc lv [] fs w cells slots := by
  intro p l e s mi args below meth c H locs lc hz F hr hlk hnm hP hD hS hl
  obtain ⟨hx, hb, hml, hown, hts, hK, hN, hO⟩ := id F
  obtain ⟨hdg, rfl⟩ := hd
  refine W.widen hc hs ?_
  exact W.vret hx hb hr (fun t ht hW => ⟨⟨_, rfl, hp, by rw [ht]; exact hP, hD⟩, hS.F ht⟩) hS.2.2 hdg
end Makers
theorem sd_ybc {Y : sd_Y} {d mc ms ci : Nat} {fs0 : List Value} {Post : sd_G → Nat → va_W → Prop} (hp : plainName Y.1.cls = true) (hr : Y.2.2.2 = none) (hL : 1 ≤ Y.2.2.1) (hin : Y.1.name = "<init>") (h : ∀ (g : sd_G) (h0 sz : Nat), sd_BW Y d mc ms g h0 ci sz fs0 (Post g h0) 0 [(0, .ref h0)] [] fs0 [] 0 0) : sd_Bc Y d mc ms ci fs0 Post := by
  intro l g h0 sz
  refine Met.ofW (cc := Y.2.1) (maxL := Y.2.2.1) (ret := Y.2.2.2) hp rfl ?_
  intro p e s mi args below meth c s₁ B hml hv
  obtain ⟨rfl, hsz, hP, hK, hN, hO⟩ := hv
  have hts0 := atoms_spec (ws := sd_wy Y) B.pre
  have hown : s.vm.findClass Y.1.cls = some mi.cls := findClass_of_methodNamed B.named
  have hnm : meth.name = "<init>" := ((name_of_methodNamed B.named B.method).1).trans hin
  have hl0 := lv_entry [.ref h0] (n := Y.2.2.1) hL
  rw [lg_entry_eq]
  refine h g h0 sz p l e s mi _ below meth c s.heap [] _ hsz ⟨B.exec, B.bytes, hml, hown, fun w hw => hts0 w (List.mem_cons_of_mem _ hw), hK, hN, hO⟩ (B.returns.trans hr) B.notSynchronized hnm hP ?_ va_S.rf hl0
  refine ⟨fun i j x y hi hj _ => ?_, fun k q hk => va_A.in hk⟩
  have h1 := (List.getElem?_eq_some_iff.mp hi).1
  have h2 := (List.getElem?_eq_some_iff.mp hj).1
  simp only [List.length_cons, List.length_nil] at h1 h2
  omega
