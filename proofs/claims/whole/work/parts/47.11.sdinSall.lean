theorem sd_inS_all {x : sd_M} (h1 : sd_I1 x) (h4 : sd_I4 x) (n : Nat) (hn : n ≤ 16) : sd_cnt (sd_Pin x (-1)) n = sd_cnt (fun i => 0 ≤ x (322 + i)) n := by
  apply sd_cnt_congr
  intro i hi
  have e := (h4 i (by omega)).1
  show ((¬ x (322 + i) = -1) ∧ sd_bit (-1) (x (322 + i))) ↔ 0 ≤ x (322 + i)
  constructor
  · rintro ⟨a, _⟩; omega
  · intro a
    refine ⟨by omega, ?_⟩
    rw [sd_bit_int _ a (by omega)]
    exact sd_tb_neg1 (by omega)
def sd_addM (x : sd_M) (t : Nat) (j f to : Int) : sd_M := sd_up (sd_up (sd_cpm (sd_up (sd_up (sd_up (sd_up (sd_up x (428 + t) j) (436 + t) f) (444 + t) to) (452 + t) (x 0)) (460 + t) (x 4100)) 4000 (468 + 100 * t) (x 4100).toNat) 4100 0) 5 ((t : Int) + 1)
def sd_textM (x : sd_M) (j f to : Int) (r : Option sd_V) (m' : sd_M) : Prop :=
  (sd_tbad j f to ∧ sd_Qp (sd_Fd x 0) r m') ∨ (¬ sd_tbad j f to ∧ 8 ≤ x 5 ∧ sd_Qp (sd_Fd x 1) r m') ∨
  (¬ sd_tbad j f to ∧ x 5 < 8 ∧ ((∃ e : Nat, sd_txt (sd_tpB x) (x 4100).toNat 5 0 = .inl e ∧ r = some (.inl (-1 - (e : Int))) ∧ sd_ns x m') ∨ (∃ cs, sd_txt (sd_tpB x) (x 4100).toNat 5 0 = .inr cs ∧ r = some (.inl (x 5)) ∧ sd_ns (sd_addM x (x 5).toNat j f to) m')))
