/-! A text gone through, by the reference. -/
abbrev sd_k6a (j : Nat) : Prop := 5490 ≤ j ∧ j ≤ 5493 ∨ j = 5510 ∨ j = 5511
def sd_k6 (m m' : sd_M) : Prop := ∀ j, ¬ sd_k6a j → m' j = m j
theorem sd_k6.k2 {m m1 m2 : sd_M} (h : sd_k6 m m1) (h' : sd_k2 m1 m2) : sd_k6 m m2 := fun j a => (h' j (by omega) (by omega)).trans (h j a)
theorem sd_k6.up {m m1 m2 : sd_M} {a : Nat} {v : Int} (h : sd_k6 m m1) (e : m2 = sd_up m1 a v) (ha : sd_k6a a) : sd_k6 m m2 := fun j hj => by rw [e, sd_up_ne (fun q => hj (by rw [q]; exact ha))]; exact h j hj
theorem sd_k6.ns {x m m' : sd_M} (h : sd_k6 m m') (hx : sd_ns x m) : sd_ns x m' := fun j hj => (h j (by omega)).trans (hx j hj)
abbrev sd_mt (f : Nat → Int) (w : Int) (cl : sd_Cl_) : Prop := (cl.2.1 : Int) = w ∧ ∀ t ∈ cl.2.2, sd_hl f t
def sd_fcl (f : Nat → Int) (w : Int) : List sd_Cl_ → Int
  | [] => -1
  | cl :: cs => if sd_mt f w cl then 0 else if sd_fcl f w cs = -1 then -1 else sd_fcl f w cs + 1
def sd_fbr (f : Nat → Int) (w : Int) : List sd_Cl_ → Int
  | [] => 0
  | cl :: cs => if sd_mt f w cl then (cl.1 : Int) else sd_fbr f w cs
theorem sd_fcl_n {f : Nat → Int} {w : Int} {cl : sd_Cl_} (h : ¬ sd_mt f w cl) : sd_fcl f w [cl] = -1 := by
  simp only [sd_fcl]
  rw [if_neg h]
  rfl
theorem sd_fcl_y {f : Nat → Int} {w : Int} {cl : sd_Cl_} (h : sd_mt f w cl) : sd_fcl f w [cl] = 0 ∧ sd_fbr f w [cl] = (cl.1 : Int) := by
  simp only [sd_fcl, sd_fbr]
  rw [if_pos h, if_pos h]
  exact ⟨rfl, rfl⟩
theorem sd_fcl_rng (f : Nat → Int) (w : Int) (cs : List sd_Cl_) : -1 ≤ sd_fcl f w cs ∧ sd_fcl f w cs < cs.length := by
  induction cs with
  | nil => simp only [sd_fcl, List.length_nil]; omega
  | cons cl cs ih =>
    simp only [sd_fcl, List.length_cons]
    split
    · omega
    · split <;> omega
/-- g: what was found before, b: whether that bars -/
def sd_rdP (f : Nat → Int) (w : Int) (B : Nat → Int) (n k c p : Nat) (g b : Int) (m0 : sd_M) (r : Option sd_V) (m' : sd_M) : Prop := r = none ∧ sd_k6 m0 m' ∧ ((∃ e : Nat, sd_txt B n k p = .inl e ∧ m' 5493 = (e : Int)) ∨ (∃ cs, sd_txt B n k p = .inr cs ∧ m' 5493 = -1 ∧ ((¬ g = -1 ∧ m' 5510 = g ∧ m' 5511 = b) ∨ (g = -1 ∧ sd_fcl f w cs = -1 ∧ m' 5510 = -1) ∨ (g = -1 ∧ ¬ sd_fcl f w cs = -1 ∧ m' 5510 = (c : Int) + sd_fcl f w cs ∧ m' 5511 = sd_fbr f w cs))))
section RdStep
variable {f : Nat → Int} {w : Int} {B : Nat → Int} {n k c p q : Nat} {g b : Int} {m0 : sd_M} {cl : sd_Cl_} {r : Option sd_V} {m' : sd_M}
theorem sd_rd_txt (hcls : sd_cls B p = .inr (cl, q)) (hqn : ¬ q = n) (hk : ¬ k = 0) (hb : B q = 59) : sd_txt B n (k + 1) p = (match sd_txt B n k (q + 1) with | .inl e => .inl e | .inr cs => .inr (cl :: cs)) := by
  simp only [sd_txt, hcls]
  rw [if_neg hqn, if_neg hk, if_pos hb]
  cases sd_txt B n k (q + 1) <;> rfl
theorem sd_rd_A (hcls : sd_cls B p = .inr (cl, q)) (hqn : ¬ q = n) (hk : ¬ k = 0) (hb : B q = 59) (hg : ¬ g = -1) (h : sd_rdP f w B n k (c + 1) (q + 1) g b m0 r m') : sd_rdP f w B n (k + 1) c p g b m0 r m' := by
  obtain ⟨a, d, e⟩ := h
  refine ⟨a, d, ?_⟩
  rw [sd_rd_txt hcls hqn hk hb]
  rcases e with ⟨e, h1, h2⟩ | ⟨cs, h1, h2, h3⟩
  · exact Or.inl ⟨e, by rw [h1], h2⟩
  · refine Or.inr ⟨cl :: cs, by rw [h1], h2, Or.inl ⟨hg, ?_⟩⟩
    rcases h3 with h3 | h3 | h3
    · exact h3.2
    · exact absurd h3.1 hg
    · exact absurd h3.1 hg
theorem sd_rd_B (hcls : sd_cls B p = .inr (cl, q)) (hqn : ¬ q = n) (hk : ¬ k = 0) (hb : B q = 59) (hg : g = -1) (hm : sd_mt f w cl) (h : sd_rdP f w B n k (c + 1) (q + 1) (c : Int) (cl.1 : Int) m0 r m') : sd_rdP f w B n (k + 1) c p g b m0 r m' := by
  obtain ⟨a, d, e⟩ := h
  refine ⟨a, d, ?_⟩
  rw [sd_rd_txt hcls hqn hk hb]
  rcases e with ⟨e, h1, h2⟩ | ⟨cs, h1, h2, h3⟩
  · exact Or.inl ⟨e, by rw [h1], h2⟩
  · refine Or.inr ⟨cl :: cs, by rw [h1], h2, Or.inr (Or.inr ⟨hg, ?_⟩)⟩
    simp only [sd_fcl, sd_fbr]
    rw [if_pos hm, if_pos hm]
    rcases h3 with h3 | h3 | h3
    · exact ⟨by omega, by rw [h3.2.1]; omega, h3.2.2⟩
    · omega
    · omega
theorem sd_rd_C (hcls : sd_cls B p = .inr (cl, q)) (hqn : ¬ q = n) (hk : ¬ k = 0) (hb : B q = 59) (hg : g = -1) (hm : ¬ sd_mt f w cl) (h : sd_rdP f w B n k (c + 1) (q + 1) g b m0 r m') : sd_rdP f w B n (k + 1) c p g b m0 r m' := by
  obtain ⟨a, d, e⟩ := h
  refine ⟨a, d, ?_⟩
  rw [sd_rd_txt hcls hqn hk hb]
  rcases e with ⟨e, h1, h2⟩ | ⟨cs, h1, h2, h3⟩
  · exact Or.inl ⟨e, by rw [h1], h2⟩
  · refine Or.inr ⟨cl :: cs, by rw [h1], h2, ?_⟩
    have hr := sd_fcl_rng f w cs
    simp only [sd_fcl, sd_fbr]
    rw [if_neg hm, if_neg hm]
    rcases h3 with h3 | h3 | h3
    · exact absurd hg h3.1
    · exact Or.inr (Or.inl ⟨hg, by rw [if_pos h3.2.1], h3.2.2⟩)
    · refine Or.inr (Or.inr ⟨hg, ?_⟩)
      rw [if_neg h3.2.1]
      exact ⟨by omega, by rw [h3.2.2.1]; omega, h3.2.2.2⟩
end RdStep
theorem sd_b1j {j : Nat} (h : j < 2) : sd_b ((0 : Int) + (j : Int) = 1) = (j : Int) := by
  unfold sd_b
  split <;> omega
theorem sd_roA_j2 {B : Nat → Int} {p j q : Nat} (h : sd_roA B p [0, 1, 2, 2] 0 = .inr (j, q)) : j < 2 := by
  simp only [sd_roA] at h
  split at h
  · split at h
    · cases h; omega
    · cases h
  · split at h
    · split at h
      · cases h; omega
      · cases h
    · split at h
      · rename_i z; exact absurd rfl z.1
      · cases h
theorem sd_zW_q {B : Nat → Int} {p j q : Nat} (h : sd_zW B p = .inr (j, q)) : q = p + 4 := by
  unfold sd_zW at h
  split at h
  · cases h; rfl
  · cases h
theorem sd_w5y {B : Nat → Int} {p j q : Nat} (h : sd_zW B p = .inr (j, q)) (hb : B q = 32) : sd_ff B p 7 = -1 ∧ sd_fe B p 7 = p + 5 := by
  have hq := sd_zW_q h
  unfold sd_zW at h
  split at h
  · rename_i h4
    have ha := sd_fst_all h4
    have := sd_ff_no (B := B) (p := p) (i := 7) (fun j hj => by
      have hj5 : j < 5 := hj
      by_cases e : j = 4
      · rw [e, ← hq, hb]; decide
      · exact Classical.not_not.mp (ha j (by omega)))
    exact this
  · cases h
theorem sd_w5n1 {B : Nat → Int} {p j q : Nat} (h : sd_zW B p = .inr (j, q)) (hb : ¬ B q = 32) : (¬ sd_ff B p 7 = -1) ∧ sd_fe B p 7 = q := by
  have hq := sd_zW_q h
  unfold sd_zW at h
  split at h
  · rename_i h4
    have ha := sd_fst_all h4
    have := sd_ff_at (B := B) (p := p) (i := 7) (k := 4) (fun j hj => Classical.not_not.mp (ha j (by omega))) (by rw [← hq]; intro z; exact hb (z.trans (by decide))) (by decide)
    exact ⟨by rw [this.1]; decide, by rw [this.2, hq]⟩
  · cases h
theorem sd_w5n0 {B : Nat → Int} {p q : Nat} (h : sd_zW B p = .inl q) : (¬ sd_ff B p 7 = -1) ∧ sd_fe B p 7 = q := by
  unfold sd_zW at h
  split at h
  · cases h
  · rename_i h4
    rcases sd_fst_rng (sd_Pmm B p 7) 4 with z | z
    · exact absurd z h4
    · obtain ⟨k, hk⟩ := Int.eq_ofNat_of_zero_le z.1
      have hk' : sd_w4 B p = (k : Int) := hk
      have hb := sd_fst_bef hk
      have hp := z.2.2
      rw [hk, Int.toNat_natCast] at hp
      have hk4 : k < 4 := by omega
      have := sd_ff_at (B := B) (p := p) (i := 7) (k := k) (fun j hj => Classical.not_not.mp (hb j hj)) hp (by show k < 5; omega)
      rw [hk', Int.toNat_natCast] at h
      cases h
      exact ⟨by rw [this.1]; omega, this.2⟩
