theorem cC_gFree (x m : sd_M) (hx : sd_ns x m) (h9 : sd_L9 x) (n : Nat) (hn5 : n ≤ 5) (hst : m 5110 = (n : Int)) (hpl : ∀ q, q < 5 → m (5100 + q) = -1) (w o : Int) (hw : 1 ≤ w ∧ w ≤ 99) (ho : 1 ≤ o ∧ o ≤ 99) : sd_Cp sd_SC 15 sY0_behindSteps [.inr 49, .inl 0, .inl w, .inl o, .inl (-1), .inl 1] m (.inl (sd_gv x (2 * n) false w o)) := by
  rw [← sd_pv_free x n n]
  exact cC_gTop x m hx h9 n hn5 (fun _ => -1) hst (fun q hq => ⟨hpl q (by omega), Or.inl rfl⟩) w o hw ho
