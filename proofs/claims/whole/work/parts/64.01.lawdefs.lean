/-! The law's own walk: two worlds, the class's and the reference's. -/
def sd_gL (b : Nat) (gC gM : sd_G) : sd_G := (fun k => if k = 0 then b else if k = 1 then gC.1 120 else gM.1 15, gC.2)
def sd_sY : sd_Y := (⟨"SitDownLaw", "law", "([I)Z"⟩, code, 4, ret)
def sd_LF (p : Program) (s : State) (m : MethodId) (meth : Method) (c : Code) (b L : Nat) (xs : Nat → Int32) (gC gM : sd_G) (cells slots : Nat) : Prop :=
  p.tables.exec = Jvm.exec ∧ c.code = code ∧ meth.sig.returnType = ret ∧ c.maxLocals = 4 ∧ s.vm.findClass R_law = some m.cls ∧ (∀ w ∈ sd_tb, w.before #[Value.ref b] s = true) ∧ va_X b L xs s s.heap ∧ b < s.heap.size ∧ meth.locks = false ∧ L ≤ 384 ∧ (cells ≤ 600000 ∧ slots ≤ 7302250) ∧ (sd_inj sd_SC gC ∧ sd_inj sd_SM gM) ∧ (∀ i j : Nat, i < sd_SC.length → j < sd_SM.length → ¬ gC.1 i = gM.1 j) ∧ ((∀ i : Nat, i < sd_SC.length → s.heap.size ≤ gC.1 i) ∧ ∀ i : Nat, i < sd_SM.length → s.heap.size ≤ gM.1 i) ∧ (va_K gC.2.1 sd_cl (sd_tys gC) s ∧ va_K gM.2.1 sd_cl (sd_tys gM) s) ∧ (sd_RO gC (fun q => s.heap.size ≤ q) s s.heap ∧ sd_RO gM (fun q => s.heap.size ≤ q) s s.heap)
def sd_Lw (p : Program) (l : Launch) (e : Env) (s : State) (m : MethodId) (below : List Frame) (meth : Method) (c : Code) (b : Nat) (gC gM : sd_G) (cells slots : Nat) (pc : Nat) (ls : List (Option sd_V)) (st : List sd_V) (mC mM : sd_M) : Prop :=
  ∀ (H : Heap) (locs : List Loc) (lc : Array Slot), va_P gC.2.1 sd_cl (sd_ws sd_SC gC mC) H → va_P gM.2.1 sd_cl (sd_ws sd_SM gM mM) H → (∀ j, sd_R (mC j)) → (∀ j, sd_R (mM j)) → va_S (fun q => s.heap.size ≤ q) s.heap H locs → sd_L (sd_gL b gC gM) 4 lc ls → (∀ v ∈ st, sd_ok v) →
    W p l e room_1 s m #[Value.ref b] below meth c H locs cells slots (lw_Z below #[Value.ref b] s) (F0 m pc lc (st.map (sd_cv (sd_gL b gC gM))))
theorem sd_and63 (z : Int) : 0 ≤ sd_and z 63 ∧ sd_and z 63 ≤ 63 := by
  have h : (sd_bv z &&& 63#32).toNat ≤ 63 := by rw [BitVec.toNat_and]; exact Nat.and_le_right
  have e : sd_and z 63 = (sd_bv z &&& 63#32).toInt := rfl
  rw [e, BitVec.toInt_eq_toNat_cond, if_pos (by omega)]
  omega
theorem sd_ws_congr {S : List sd_C} {g : sd_G} {m m' : sd_M} (h : ∀ (k : Nat) (c : sd_C), S[k]? = some c → ∀ a, sd_has c a → m a = m' a) : sd_ws S g m = sd_ws S g m' := by
  apply List.ext_getElem?
  intro k
  cases hc : S[k]? with
  | none => simp [sd_ws, List.getElem?_mapIdx, hc]
  | some c =>
    rw [sd_wsget hc, sd_wsget hc]
    congr 2
    have hh := h k c hc
    rcases c with ⟨b, n⟩ | ⟨ci, fs⟩ | ks
    · simp only [sd_cell]
      congr 4
      funext i
      by_cases hi : i < n
      · rw [if_pos hi, if_pos hi, hh (b + i) ⟨by omega, by omega⟩]
      · rw [if_neg hi, if_neg hi]
    · simp only [sd_cell]
      congr 2
      apply List.map_congr_left
      intro f hf
      rcases f with a | k
      · simp only [sd_fld]
        rw [hh a hf]
      · rfl
    · rfl
def sd_okO (L : List (Nat × Nat)) (c : sd_C) : Bool := match c with
  | .inl (b, n) => L.any (fun q => q.1.ble b && (b + n).ble q.2) || ((5000).ble b && (b + n).ble 6000)
  | .inr (.inl (_, fs)) => fs.all (fun f => match f with
    | .inl a => sd_inL L a || ((5000).ble a && a.blt 6000)
    | .inr _ => true)
  | .inr (.inr _) => true
theorem sd_okO_of {L : List (Nat × Nat)} {S : List sd_C} (h : S.all (sd_okO L) = true) : ∀ (k : Nat) (c : sd_C), S[k]? = some c → ∀ a, sd_has c a → sd_inL L a = true ∨ (5000 ≤ a ∧ a < 6000) := by
  intro k c hc a ha
  have h1 := List.all_eq_true.mp h c (List.mem_of_getElem? hc)
  rcases c with ⟨b, n⟩ | ⟨ci, fs⟩ | ks
  · simp only [sd_okO, Bool.or_eq_true, Bool.and_eq_true, Nat.ble_eq] at h1
    obtain ⟨a1, a2⟩ := ha
    rcases h1 with h1 | h1
    · obtain ⟨q, hq, h2⟩ := List.any_eq_true.mp h1
      simp only [Bool.and_eq_true, Nat.ble_eq] at h2
      left
      unfold sd_inL
      refine List.any_eq_true.mpr ⟨q, hq, ?_⟩
      simp only [Bool.and_eq_true, Nat.ble_eq, Nat.blt_eq]
      omega
    · right; omega
  · have h2 := List.all_eq_true.mp h1 (.inl a) ha
    simp only [Bool.or_eq_true, Bool.and_eq_true, Nat.ble_eq, Nat.blt_eq] at h2
    exact h2
  · exact absurd ha (fun q => q)
theorem sd_okC : sd_SC.all (sd_okO sd_LC) = true := by decide +kernel
theorem sd_okM : sd_SM.all (sd_okO sd_LM) = true := by decide +kernel
def sd_At (N : Nat) (x mC mM : sd_M) : Prop := sd_Inv N x ∧ sd_ns x mC ∧ sd_ns x mM
def sd_xm (x m : sd_M) : sd_M := fun j => if 5000 ≤ j ∧ j < 6000 then m j else x j
theorem sd_xm_ns (x m : sd_M) : sd_ns x (sd_xm x m) := fun j hj => by unfold sd_xm; rw [if_neg (by omega)]
theorem sd_xmR {x m : sd_M} (hx : ∀ j, (j < 5000 ∨ 6000 ≤ j) → sd_R (x j)) (hm : ∀ j, sd_R (m j)) : ∀ j, sd_R (sd_xm x m j) := by
  intro j
  unfold sd_xm
  split
  · exact hm j
  · exact hx j (by omega)
theorem sd_wsC {g : sd_G} {x m : sd_M} (h : ∀ j, sd_oC j → m j = x j) : sd_ws sd_SC g m = sd_ws sd_SC g (sd_xm x m) := by
  refine sd_ws_congr (fun k c hc a ha => ?_)
  unfold sd_xm
  rcases sd_okO_of sd_okC k c hc a ha with q | q
  · split
    · rfl
    · exact h a q
  · rw [if_pos q]
theorem sd_wsM {g : sd_G} {x m : sd_M} (h : ∀ j, sd_oM j → m j = x j) : sd_ws sd_SM g m = sd_ws sd_SM g (sd_xm x m) := by
  refine sd_ws_congr (fun k c hc a ha => ?_)
  unfold sd_xm
  rcases sd_okO_of sd_okM k c hc a ha with q | q
  · split
    · rfl
    · exact h a q
  · rw [if_pos q]
theorem sd_keptP {D : va_G} {cl : List vw_C} {S : List sd_C} {g : sd_G} {m : sd_M} {H H1 : Heap} (h : va_P D cl (sd_ws S g m) H) (hk : ∀ k, k < S.length → H1[g.1 k]? = H[g.1 k]?) : va_P D cl (sd_ws S g m) H1 := by
  refine h.kept (fun k q hq => ?_)
  obtain ⟨c, hc, rfl⟩ := sd_wsinv hq
  exact hk k (List.getElem?_eq_some_iff.mp hc).1
theorem sd_ltP {D : va_G} {cl : List vw_C} {S : List sd_C} {g : sd_G} {m : sd_M} {H : Heap} (h : va_P D cl (sd_ws S g m) H) {k : Nat} (hk : k < S.length) : g.1 k < H.size := by
  have hc : S[k]? = some S[k] := List.getElem?_eq_getElem hk
  exact (h k _ (sd_wsget hc)).lt
