/-! Hours of the works. r: a stock by parts, k: what is made in an hour. -/
abbrev sd_Plk (x : sd_M) (w : Nat) (r : Nat → Int) (p : Nat) : Prop := r p < x (392 + (6 * w + p))
def sd_lk (x : sd_M) (w : Nat) (r : Nat → Int) : Int := sd_fst (sd_Plk x w r) 6
def sd_ad (k r : Nat → Int) : Nat → Int := fun p => min 9999 (r p + k p)
def sd_tk (x : sd_M) (w : Nat) (r : Nat → Int) : Nat → Int := fun p => r p - x (392 + (6 * w + p))
def sd_wr (x : sd_M) (r : Nat → Int) : Nat → Nat → Int
  | 0 => r
  | w + 1 => if sd_lk x w (sd_wr x r w) = -1 then sd_tk x w (sd_wr x r w) else sd_wr x r w
abbrev sd_stW (x : sd_M) (k r : Nat → Int) (w : Nat) : Prop := ¬ sd_lk x w (sd_wr x (sd_ad k r) w) = -1
def sd_hr (x : sd_M) (k r : Nat → Int) : Nat → Int := sd_wr x (sd_ad k r) (x 4).toNat
def sd_hrk (x : sd_M) (k : Nat → Int) : Nat → Nat → Int
  | 0 => fun p => x (386 + p)
  | i + 1 => sd_hr x k (sd_hrk x k i)
abbrev sd_stA (x : sd_M) (k : Nat → Int) (w i : Nat) : Prop := sd_stW x k (sd_hrk x k i) w
def sd_fh (x : sd_M) (k : Nat → Int) (w : Nat) : Int := sd_fst (sd_stA x k w) 48
def sd_lkA (x : sd_M) (k : Nat → Int) (w i : Nat) : Int := sd_lk x w (sd_wr x (sd_ad k (sd_hrk x k i)) w)
def sd_fmk (x : sd_M) (M : Int) (p h : Nat) : Int := if sd_bit M h ∧ x (34 + h) = (p : Int) then x (58 + h) else 0
def sd_md (x : sd_M) (M : Int) (n p : Nat) : Int := sd_sum (sd_fmk x M p) n
def sd_mka (x : sd_M) (M : Int) (p : Nat) : Int := sd_md x M (x 2).toNat p
def sd_rr (r : Nat → Int) : Prop := ∀ p, p < 6 → 0 ≤ r p ∧ r p ≤ 9999
def sd_kr (k : Nat → Int) : Prop := ∀ p, 0 ≤ k p ∧ k p ≤ 2376
def sd_pt (g g' : Nat → Int) (i : Nat) : Nat → Int := fun p => if p < i then g' p else g p
theorem sd_lk_rng (x : sd_M) (w : Nat) (r : Nat → Int) : sd_lk x w r = -1 ∨ (0 ≤ sd_lk x w r ∧ sd_lk x w r < 6) := by
  rcases sd_fst_rng (sd_Plk x w r) 6 with h | h
  · exact Or.inl h
  · exact Or.inr ⟨h.1, h.2.1⟩
theorem sd_ad_rr {k r : Nat → Int} (hk : sd_kr k) (hr : sd_rr r) : sd_rr (sd_ad k r) := by
  intro p hp
  have a := hk p
  have b := hr p hp
  unfold sd_ad
  omega
theorem sd_wr_rr {x : sd_M} (h5 : sd_I5 x) {r : Nat → Int} (hr : sd_rr r) (w : Nat) (hw : w ≤ 6) : sd_rr (sd_wr x r w) := by
  induction w with
  | zero => exact hr
  | succ w ih =>
    have ih := ih (by omega)
    simp only [sd_wr]
    split
    · rename_i h
      intro p hp
      have a := ih p hp
      have b := sd_fst_all h p hp
      have c := h5.2 (6 * w + p) (by omega)
      unfold sd_tk
      have d : ¬ sd_wr x r w p < x (392 + (6 * w + p)) := b
      omega
    · exact ih
theorem sd_hrk_rr {x : sd_M} (h1 : sd_I1 x) (h5 : sd_I5 x) {k : Nat → Int} (hk : sd_kr k) (i : Nat) : sd_rr (sd_hrk x k i) := by
  induction i with
  | zero => exact fun p hp => h5.1 p hp
  | succ i ih =>
    have := h1.2.2.2.2.1
    exact sd_wr_rr h5 (sd_ad_rr hk ih) _ (by omega)
theorem sd_md_rng {x : sd_M} (h2 : sd_I2 x) (M : Int) (n p : Nat) (hn : n ≤ 24) : 0 ≤ sd_md x M n p ∧ sd_md x M n p ≤ 99 * n := by
  have h : ∀ i, i < n → 0 ≤ sd_fmk x M p i ∧ sd_fmk x M p i ≤ 99 := by
    intro i hi
    have := h2 i (by omega)
    unfold sd_fmk
    split <;> omega
  have := sd_sum_le h
  unfold sd_md
  omega
theorem sd_mka_kr {x : sd_M} (h1 : sd_I1 x) (h2 : sd_I2 x) (M : Int) : sd_kr (sd_mka x M) := by
  intro p
  have i2 := h1.2.2.1
  have := sd_md_rng h2 M (x 2).toNat p (by omega)
  unfold sd_mka
  omega
theorem sd_lk_cong {x : sd_M} {w : Nat} {r r' : Nat → Int} (h : ∀ p, p < 6 → r p = r' p) : sd_lk x w r = sd_lk x w r' := by
  unfold sd_lk
  have key : ∀ n, n ≤ 6 → sd_fst (sd_Plk x w r) n = sd_fst (sd_Plk x w r') n := by
    intro n
    induction n with
    | zero => intro _; rfl
    | succ n ih =>
      intro hn
      simp only [sd_fst]
      rw [ih (by omega), sd_itec (show sd_Plk x w r n ↔ sd_Plk x w r' n by show r n < _ ↔ r' n < _; rw [h n (by omega)])]
  exact key 6 (Nat.le_refl 6)
def sd_kF (a b : Nat) (m m' : sd_M) : Prop := ∀ j, ¬ (a ≤ j ∧ j < b) → m' j = m j
theorem sd_kF.rf {a b : Nat} {m : sd_M} : sd_kF a b m m := fun _ _ => rfl
theorem sd_kF.tr {a b : Nat} {m m1 m2 : sd_M} (h : sd_kF a b m m1) (h' : sd_kF a b m1 m2) : sd_kF a b m m2 := fun j hj => (h' j hj).trans (h j hj)
theorem sd_kF.up {a b c : Nat} {v : Int} {m m' : sd_M} (e : m' = sd_up m c v) (h : a ≤ c ∧ c < b) : sd_kF a b m m' := fun j hj => by rw [e, sd_up_ne (by omega)]
theorem sd_kF.wd {a b a' b' : Nat} {m m' : sd_M} (h : sd_kF a b m m') (hw : a' ≤ a ∧ b ≤ b') : sd_kF a' b' m m' := fun j hj => h j (by omega)
theorem sd_kF.ns {a b : Nat} {x m m' : sd_M} (h : sd_kF a b m m') (ha : 5000 ≤ a ∧ b ≤ 6000) (hx : sd_ns x m) : sd_ns x m' := fun j hj => (h j (by omega)).trans (hx j hj)
theorem sd_row_F {m m' : sd_M} {b n k : Nat} {v : Int} {f f' : Nat → Int} (h : ∀ g, g < n → m (b + g) = f g) (e : m' = sd_up m (b + k) v) (hv : v = f' k) (hf : ∀ g, g < n → ¬ g = k → f' g = f g) : ∀ g, g < n → m' (b + g) = f' g := by
  intro g hg
  rw [e]
  unfold sd_up
  by_cases q : g = k
  · subst q; rw [if_pos rfl]; exact hv
  · rw [if_neg (by omega), hf g hg q]; exact h g hg
