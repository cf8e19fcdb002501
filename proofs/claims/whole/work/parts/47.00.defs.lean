def sd_stB (x : sd_M) (t q : Nat) : Int := if q < (x (460 + t)).toNat then x (468 + 100 * t + q) else -1
def sd_IT (x : sd_M) : Prop := ∀ t : Nat, (t : Int) < x 5 → ∃ cs, sd_txt (sd_stB x t) (x (460 + t)).toNat 5 0 = .inr cs ∧ (0 ≤ x (460 + t) ∧ x (460 + t) ≤ 100) ∧ x (6010 + t) = (cs.length : Int) ∧ ∀ (i : Nat) (cl : sd_Cl_), cs[i]? = some cl → sd_rC x (5 * t + i) cl
theorem sd_fcl_spec (f : Nat → Int) (w : Int) (cs : List sd_Cl_) : (sd_fcl f w cs = -1 ∧ ∀ (i : Nat) (cl : sd_Cl_), cs[i]? = some cl → ¬ sd_mt f w cl) ∨ (∃ (k : Nat) (cl : sd_Cl_), sd_fcl f w cs = (k : Int) ∧ cs[k]? = some cl ∧ sd_mt f w cl ∧ sd_fbr f w cs = (cl.1 : Int) ∧ ∀ (j : Nat) (cl' : sd_Cl_), j < k → cs[j]? = some cl' → ¬ sd_mt f w cl') := by
  induction cs with
  | nil => left; exact ⟨rfl, fun i cl h => by simp at h⟩
  | cons c cs ih =>
    simp only [sd_fcl, sd_fbr]
    by_cases hm : sd_mt f w c
    · right
      rw [if_pos hm, if_pos hm]
      exact ⟨0, c, rfl, rfl, hm, rfl, fun j cl' hj => absurd hj (by omega)⟩
    · rw [if_neg hm, if_neg hm]
      rcases ih with ⟨h1, h2⟩ | ⟨k, cl, h1, h2, h3, h4, h5⟩
      · left
        rw [if_pos h1]
        refine ⟨rfl, fun i cl h => ?_⟩
        rcases i with _ | i
        · simp at h; subst h; exact hm
        · exact h2 i cl (by simpa using h)
      · right
        rw [if_neg (by omega)]
        refine ⟨k + 1, cl, by omega, by simpa using h2, h3, h4, fun j cl' hj h => ?_⟩
        rcases j with _ | j
        · simp at h; subst h; exact hm
        · exact h5 j cl' (by omega) (by simpa using h)
theorem sd_row_mt {x : sd_M} {f : Nat → Int} {w : Int} {t i : Nat} {cl : sd_Cl_} (h : sd_rC x (5 * t + i) cl) : sd_Pcl x f w t i ↔ sd_mt f w cl := by
  obtain ⟨a, b, c, d⟩ := h
  have hk : ∀ (k : Nat) (q : Nat × Nat × Int), cl.2.2[k]? = some q → (sd_Pso x f (5 * t + i) k ↔ sd_hl f q) := by
    intro k q hq
    obtain ⟨d1, d2, d3⟩ := d k q hq
    show sd_sg (f (x (6140 + (3 * (5 * t + i) + k))).toNat - x (6380 + (3 * (5 * t + i) + k))) = x (6260 + (3 * (5 * t + i) + k)) ↔ _
    rw [d1, d2, d3, Int.toNat_natCast]
  constructor
  · intro h
    refine ⟨by rw [← b]; exact h.1, fun q hq => ?_⟩
    obtain ⟨k, hk1⟩ := List.getElem?_of_mem hq
    have hl := (List.getElem?_eq_some_iff.mp hk1).1
    exact (hk k q hk1).mp (h.2 k (by rw [c]; omega))
  · intro h
    refine ⟨by rw [b]; exact h.1, fun k hkk => ?_⟩
    have hl : k < cl.2.2.length := by rw [c] at hkk; omega
    have e : cl.2.2[k]? = some cl.2.2[k] := List.getElem?_eq_some_iff.mpr ⟨hl, rfl⟩
    exact (hk k _ e).mpr (h.2 _ (List.mem_of_getElem? e))
/-- the rows tell what the bytes tell -/
theorem sd_fcx_fcl {x : sd_M} (f : Nat → Int) (w : Int) {t : Nat} {cs : List sd_Cl_} (hl : x (6010 + t) = (cs.length : Int)) (hr : ∀ (i : Nat) (cl : sd_Cl_), cs[i]? = some cl → sd_rC x (5 * t + i) cl) : sd_fcx x f w t = sd_fcl f w cs ∧ (¬ sd_fcl f w cs = -1 → x (6020 + (5 * t + (sd_fcl f w cs).toNat)) = sd_fbr f w cs) := by
  have hn : (x (6010 + t)).toNat = cs.length := by omega
  have hat : ∀ i, i < cs.length → ∃ cl, cs[i]? = some cl := fun i hi => ⟨cs[i], List.getElem?_eq_some_iff.mpr ⟨hi, rfl⟩⟩
  unfold sd_fcx
  rw [hn]
  rcases sd_fcl_spec f w cs with ⟨h1, h2⟩ | ⟨k, cl, h1, h2, h3, h4, h5⟩
  · refine ⟨?_, fun q => absurd h1 q⟩
    rw [h1]
    refine sd_fst_none (P := sd_Pcl x f w t) (fun i hi hp => ?_)
    obtain ⟨cl, hcl⟩ := hat i hi
    exact h2 i cl hcl ((sd_row_mt (hr i cl hcl)).mp hp)
  · have hk := (List.getElem?_eq_some_iff.mp h2).1
    refine ⟨?_, fun _ => ?_⟩
    · rw [h1]
      refine sd_fst_at (P := sd_Pcl x f w t) (fun j hj hp => ?_) ((sd_row_mt (hr k cl h2)).mpr h3) hk
      obtain ⟨cl', hcl⟩ := hat j (by omega)
      exact h5 j cl' hj hcl ((sd_row_mt (hr j cl' hcl)).mp hp)
    · rw [h1, Int.toNat_natCast, h4]
      exact (hr k cl h2).1
theorem sd_inS_mIn {x : sd_M} (h1 : sd_I1 x) (h4 : sd_I4 x) {h : Int} (hh : 0 ≤ h ∧ h < 24) : sd_inS x (sd_shl 1 h) = sd_mIn x h := by
  have i3 := h1.2.2.2.1
  unfold sd_inS sd_mIn
  apply sd_cnt_congr
  intro i hi
  have e := (h4 i (by omega)).1
  show ((¬ x (322 + i) = -1) ∧ sd_bit (sd_shl 1 h) (x (322 + i))) ↔ x (322 + i) = h
  constructor
  · rintro ⟨a, b⟩
    rw [sd_bit_int _ (by omega) (by omega), sd_tb_shl1i hh.1 (by omega) (by omega)] at b
    simp at b
    omega
  · intro a
    refine ⟨by omega, ?_⟩
    rw [sd_bit_int _ (by omega) (by omega), sd_tb_shl1i hh.1 (by omega) (by omega)]
    simp
    omega
theorem sd_stB_RB {x : sd_M} {t : Nat} (ht : t < 8) (h : 0 ≤ x (460 + t) ∧ x (460 + t) ≤ 100) : sd_RB x ((468 + 100 * t : Nat) : Int) (sd_stB x t) (x (460 + t)).toNat := by
  refine ⟨by omega, fun q hq => ?_, Or.inr ⟨468 + 100 * t, rfl, by omega, fun q hq => ?_⟩⟩
  · unfold sd_stB; rw [if_neg (by omega)]
  · unfold sd_stB; rw [if_pos hq]
theorem sd_tpB_RB {x : sd_M} (h : 0 ≤ x 4100 ∧ x 4100 ≤ 100) : sd_RB x (-1) (sd_tpB x) (x 4100).toNat := by
  refine ⟨by omega, fun q hq => ?_, Or.inl ⟨rfl, fun q hq => ?_⟩⟩
  · unfold sd_tpB; rw [if_neg (by omega)]
  · unfold sd_tpB; rw [if_pos hq]
