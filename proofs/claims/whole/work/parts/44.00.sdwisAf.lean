theorem sd_wisA_f : ∀ k : Fin 52, sd_bgn k.val → (0 ≤ sd_lw k.val ∧ sd_lw k.val ≤ 1) → sd_lts.getD k.val 0 = sd_wch 0 0 ∨ sd_lts.getD k.val 0 = sd_wch 1 0 := by decide +kernel
theorem sd_wisA (b : Int) : (b = sd_wch 0 0 ∧ sd_wis b 0 1 52 = (0, 0)) ∨ (b = sd_wch 1 0 ∧ sd_wis b 0 1 52 = (1, 4)) ∨ ((¬ b = sd_wch 0 0 ∧ ¬ b = sd_wch 1 0) ∧ sd_wis b 0 1 52 = (-1, -1)) := by
  by_cases h0 : b = sd_wch 0 0
  · subst h0; exact (Or.inl ⟨rfl, by decide +kernel⟩)
  by_cases h1 : b = sd_wch 1 0
  · subst h1; exact (Or.inr (Or.inl ⟨rfl, by decide +kernel⟩))
  exact (Or.inr (Or.inr ⟨⟨h0, h1⟩, sd_wis_none (fun k hk a c e => by rcases sd_wisA_f ⟨k, hk⟩ a c with z | z <;> simp_all) 52 (Nat.le_refl _)⟩))
theorem sd_roA0 {B : Nat → Int} {p : Nat} (h : B p = sd_wch 0 0) : sd_roA B p [0, 1, 2, 2] 0 = if sd_ff B p 0 = -1 then .inr (0, sd_fe B p 0) else .inl (sd_fe B p 0) := by
  simp only [sd_roA]
  rw [if_pos ⟨by decide, h⟩]
theorem sd_roA1 {B : Nat → Int} {p : Nat} (h : B p = sd_wch 1 0) : sd_roA B p [0, 1, 2, 2] 0 = if sd_ff B p 1 = -1 then .inr (1, sd_fe B p 1) else .inl (sd_fe B p 1) := by
  simp only [sd_roA]
  rw [if_neg (fun q => absurd (h.symm.trans q.2) (by decide)), if_pos ⟨by decide, h⟩]
theorem sd_roAN {B : Nat → Int} {p : Nat} (h : ¬ B p = sd_wch 0 0 ∧ ¬ B p = sd_wch 1 0) : sd_roA B p [0, 1, 2, 2] 0 = .inl p := by
  simp only [sd_roA]
  rw [if_neg (fun q => h.1 q.2), if_neg (fun q => h.2 q.2), if_neg (fun q => q.1 rfl), if_neg (fun q => q.1 rfl)]
theorem sd_wisB_f : ∀ k : Fin 52, sd_bgn k.val → (2 ≤ sd_lw k.val ∧ sd_lw k.val ≤ 5) → sd_lts.getD k.val 0 = sd_wch 3 0 ∨ sd_lts.getD k.val 0 = sd_wch 4 0 ∨ sd_lts.getD k.val 0 = sd_wch 5 0 ∨ sd_lts.getD k.val 0 = sd_wch 6 0 := by decide +kernel
theorem sd_wisB (b : Int) : (b = sd_wch 3 0 ∧ sd_wis b 2 5 52 = (2, 8)) ∨ (b = sd_wch 4 0 ∧ sd_wis b 2 5 52 = (3, 14)) ∨ (b = sd_wch 5 0 ∧ sd_wis b 2 5 52 = (4, 19)) ∨ (b = sd_wch 6 0 ∧ sd_wis b 2 5 52 = (5, 24)) ∨ ((¬ b = sd_wch 3 0 ∧ ¬ b = sd_wch 4 0 ∧ ¬ b = sd_wch 5 0 ∧ ¬ b = sd_wch 6 0) ∧ sd_wis b 2 5 52 = (-1, -1)) := by
  by_cases h0 : b = sd_wch 3 0
  · subst h0; exact (Or.inl ⟨rfl, by decide +kernel⟩)
  by_cases h1 : b = sd_wch 4 0
  · subst h1; exact (Or.inr (Or.inl ⟨rfl, by decide +kernel⟩))
  by_cases h2 : b = sd_wch 5 0
  · subst h2; exact (Or.inr (Or.inr (Or.inl ⟨rfl, by decide +kernel⟩)))
  by_cases h3 : b = sd_wch 6 0
  · subst h3; exact (Or.inr (Or.inr (Or.inr (Or.inl ⟨rfl, by decide +kernel⟩))))
  exact (Or.inr (Or.inr (Or.inr (Or.inr ⟨⟨h0, h1, h2, h3⟩, sd_wis_none (fun k hk a c e => by rcases sd_wisB_f ⟨k, hk⟩ a c with z | z | z | z <;> simp_all) 52 (Nat.le_refl _)⟩))))
theorem sd_roB0 {B : Nat → Int} {p : Nat} (h : B p = sd_wch 3 0) : sd_roA B p [3, 4, 5, 6] 0 = if sd_ff B p 3 = -1 then .inr (0, sd_fe B p 3) else .inl (sd_fe B p 3) := by
  simp only [sd_roA]
  rw [if_pos ⟨by decide, h⟩]
theorem sd_roB1 {B : Nat → Int} {p : Nat} (h : B p = sd_wch 4 0) : sd_roA B p [3, 4, 5, 6] 0 = if sd_ff B p 4 = -1 then .inr (1, sd_fe B p 4) else .inl (sd_fe B p 4) := by
  simp only [sd_roA]
  rw [if_neg (fun q => absurd (h.symm.trans q.2) (by decide)), if_pos ⟨by decide, h⟩]
theorem sd_roB2 {B : Nat → Int} {p : Nat} (h : B p = sd_wch 5 0) : sd_roA B p [3, 4, 5, 6] 0 = if sd_ff B p 5 = -1 then .inr (2, sd_fe B p 5) else .inl (sd_fe B p 5) := by
  simp only [sd_roA]
  rw [if_neg (fun q => absurd (h.symm.trans q.2) (by decide)), if_neg (fun q => absurd (h.symm.trans q.2) (by decide)), if_pos ⟨by decide, h⟩]
theorem sd_roB3 {B : Nat → Int} {p : Nat} (h : B p = sd_wch 6 0) : sd_roA B p [3, 4, 5, 6] 0 = if sd_ff B p 6 = -1 then .inr (3, sd_fe B p 6) else .inl (sd_fe B p 6) := by
  simp only [sd_roA]
  rw [if_neg (fun q => absurd (h.symm.trans q.2) (by decide)), if_neg (fun q => absurd (h.symm.trans q.2) (by decide)), if_neg (fun q => absurd (h.symm.trans q.2) (by decide)), if_pos ⟨by decide, h⟩]
theorem sd_roBN {B : Nat → Int} {p : Nat} (h : ¬ B p = sd_wch 3 0 ∧ ¬ B p = sd_wch 4 0 ∧ ¬ B p = sd_wch 5 0 ∧ ¬ B p = sd_wch 6 0) : sd_roA B p [3, 4, 5, 6] 0 = .inl p := by
  simp only [sd_roA]
  rw [if_neg (fun q => h.1 q.2), if_neg (fun q => h.2.1 q.2), if_neg (fun q => h.2.2.1 q.2), if_neg (fun q => h.2.2.2 q.2)]
theorem sd_wisW_f : ∀ k : Fin 52, sd_bgn k.val → (6 ≤ sd_lw k.val ∧ sd_lw k.val ≤ 6) → sd_lts.getD k.val 0 = sd_wch 7 0 := by decide +kernel
theorem sd_wisW (b : Int) : (b = sd_wch 7 0 ∧ sd_wis b 6 6 52 = (6, 29)) ∨ ((¬ b = sd_wch 7 0) ∧ sd_wis b 6 6 52 = (-1, -1)) := by
  by_cases h0 : b = sd_wch 7 0
  · subst h0; exact (Or.inl ⟨rfl, by decide +kernel⟩)
  exact (Or.inr ⟨h0, sd_wis_none (fun k hk a c e => by have z := sd_wisW_f ⟨k, hk⟩ a c; simp_all) 52 (Nat.le_refl _)⟩)
theorem sd_wisD_f : ∀ k : Fin 52, sd_bgn k.val → (7 ≤ sd_lw k.val ∧ sd_lw k.val ≤ 10) → sd_lts.getD k.val 0 = sd_wch 8 0 ∨ sd_lts.getD k.val 0 = sd_wch 9 0 ∨ sd_lts.getD k.val 0 = sd_wch 10 0 ∨ sd_lts.getD k.val 0 = sd_wch 11 0 := by decide +kernel
theorem sd_wisD (b : Int) : (b = sd_wch 8 0 ∧ sd_wis b 7 10 52 = (7, 34)) ∨ (b = sd_wch 9 0 ∧ sd_wis b 7 10 52 = (8, 38)) ∨ (b = sd_wch 10 0 ∧ sd_wis b 7 10 52 = (9, 43)) ∨ (b = sd_wch 11 0 ∧ sd_wis b 7 10 52 = (10, 47)) ∨ ((¬ b = sd_wch 8 0 ∧ ¬ b = sd_wch 9 0 ∧ ¬ b = sd_wch 10 0 ∧ ¬ b = sd_wch 11 0) ∧ sd_wis b 7 10 52 = (-1, -1)) := by
  by_cases h0 : b = sd_wch 8 0
  · subst h0; exact (Or.inl ⟨rfl, by decide +kernel⟩)
  by_cases h1 : b = sd_wch 9 0
  · subst h1; exact (Or.inr (Or.inl ⟨rfl, by decide +kernel⟩))
  by_cases h2 : b = sd_wch 10 0
  · subst h2; exact (Or.inr (Or.inr (Or.inl ⟨rfl, by decide +kernel⟩)))
  by_cases h3 : b = sd_wch 11 0
  · subst h3; exact (Or.inr (Or.inr (Or.inr (Or.inl ⟨rfl, by decide +kernel⟩))))
  exact (Or.inr (Or.inr (Or.inr (Or.inr ⟨⟨h0, h1, h2, h3⟩, sd_wis_none (fun k hk a c e => by rcases sd_wisD_f ⟨k, hk⟩ a c with z | z | z | z <;> simp_all) 52 (Nat.le_refl _)⟩))))
theorem sd_roD0 {B : Nat → Int} {p : Nat} (h : B p = sd_wch 8 0) : sd_roA B p [8, 9, 10, 11] 0 = if sd_ff B p 8 = -1 then .inr (0, sd_fe B p 8) else .inl (sd_fe B p 8) := by
  simp only [sd_roA]
  rw [if_pos ⟨by decide, h⟩]
theorem sd_roD1 {B : Nat → Int} {p : Nat} (h : B p = sd_wch 9 0) : sd_roA B p [8, 9, 10, 11] 0 = if sd_ff B p 9 = -1 then .inr (1, sd_fe B p 9) else .inl (sd_fe B p 9) := by
  simp only [sd_roA]
  rw [if_neg (fun q => absurd (h.symm.trans q.2) (by decide)), if_pos ⟨by decide, h⟩]
theorem sd_roD2 {B : Nat → Int} {p : Nat} (h : B p = sd_wch 10 0) : sd_roA B p [8, 9, 10, 11] 0 = if sd_ff B p 10 = -1 then .inr (2, sd_fe B p 10) else .inl (sd_fe B p 10) := by
  simp only [sd_roA]
  rw [if_neg (fun q => absurd (h.symm.trans q.2) (by decide)), if_neg (fun q => absurd (h.symm.trans q.2) (by decide)), if_pos ⟨by decide, h⟩]
theorem sd_roD3 {B : Nat → Int} {p : Nat} (h : B p = sd_wch 11 0) : sd_roA B p [8, 9, 10, 11] 0 = if sd_ff B p 11 = -1 then .inr (3, sd_fe B p 11) else .inl (sd_fe B p 11) := by
  simp only [sd_roA]
  rw [if_neg (fun q => absurd (h.symm.trans q.2) (by decide)), if_neg (fun q => absurd (h.symm.trans q.2) (by decide)), if_neg (fun q => absurd (h.symm.trans q.2) (by decide)), if_pos ⟨by decide, h⟩]
theorem sd_roDN {B : Nat → Int} {p : Nat} (h : ¬ B p = sd_wch 8 0 ∧ ¬ B p = sd_wch 9 0 ∧ ¬ B p = sd_wch 10 0 ∧ ¬ B p = sd_wch 11 0) : sd_roA B p [8, 9, 10, 11] 0 = .inl p := by
  simp only [sd_roA]
  rw [if_neg (fun q => h.1 q.2), if_neg (fun q => h.2.1 q.2), if_neg (fun q => h.2.2.1 q.2), if_neg (fun q => h.2.2.2 q.2)]
def sd_w4 (B : Nat → Int) (p : Nat) : Int := sd_fst (sd_Pmm B p 7) 4
/-- what a word's reading comes to: z tells the class's reading, lo the number of the set's first word -/
def sd_wP (lo fr : Int) (n : Nat) (z : Nat ⊕ (Nat × Nat)) (m : sd_M) (r : Option sd_V) (m' : sd_M) : Prop := sd_k2 m m' ∧ ((∃ q, z = .inl q ∧ r = some (.inl (-1)) ∧ sd_RS m' fr n q (q : Nat) ∧ q ≤ n) ∨ (∃ j q, z = .inr (j, q) ∧ r = some (.inl (lo + (j : Int))) ∧ sd_RS m' fr n q (-1) ∧ q ≤ n ∧ j < 4))
def sd_zW (B : Nat → Int) (p : Nat) : Nat ⊕ (Nat × Nat) := if sd_w4 B p = -1 then .inr (0, p + 4) else .inl (p + (sd_w4 B p).toNat)
theorem sd_ff_at {B : Nat → Int} {p i k : Nat} (h : ∀ j, j < k → B (p + j) = sd_wch i j) (hm : ¬ B (p + k) = sd_wch i k) (hk : k < sd_len.getD i 0) : sd_ff B p i = (k : Int) ∧ sd_fe B p i = p + k := by
  have e : sd_ff B p i = (k : Int) := sd_fst_at (P := sd_Pmm B p i) (fun j hj q => q (h j hj)) hm hk
  refine ⟨e, ?_⟩
  unfold sd_fe
  rw [e, if_neg (by omega), Int.toNat_natCast]
theorem sd_ff_no {B : Nat → Int} {p i : Nat} (h : ∀ j, j < sd_len.getD i 0 → B (p + j) = sd_wch i j) : sd_ff B p i = -1 ∧ sd_fe B p i = p + sd_len.getD i 0 := by
  have e : sd_ff B p i = -1 := sd_fst_none (P := sd_Pmm B p i) (fun j hj q => q (h j hj))
  refine ⟨e, ?_⟩
  unfold sd_fe
  rw [e, if_pos rfl]
