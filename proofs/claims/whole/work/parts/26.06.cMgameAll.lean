theorem cM_gameAll (x m : sd_M) (hx : sd_ns x m) (h9 : sd_L9 x) : ∀ l : Nat, l ≤ 10 → ∀ w o : Int, (-1000 + 9 * ((l + 1 : Nat) : Int) ≤ w ∧ w ≤ 1000 - 9 * ((l + 1 : Nat) : Int)) → (-1000 + 9 * ((l + 1 : Nat) : Int) ≤ o ∧ o ≤ 1000 - 9 * ((l + 1 : Nat) : Int)) →
    sd_Cp sd_SM (2 * l + 2) sY11_game [.inr 15, .inl 0, .inl w, .inl o, .inl ((l + 1 : Nat) : Int)] m (.inl (sd_gv x (l + 1) false w o)) ∧ sd_Cp sd_SM (2 * l + 2) sY11_game [.inr 15, .inl 1, .inl w, .inl o, .inl ((l + 1 : Nat) : Int)] m (.inl (sd_gv x (l + 1) true w o)) := by
  intro l
  induction l with
  | zero =>
    intro hl w o hw ho
    exact ⟨cM_game0 0 w o x m (by omega) (fun k hk => cM_behind0 k hk 0 w o x m hx h9 (by omega) (by omega) (by omega) (fun h => absurd rfl h)), cM_game1 0 w o x m (by omega) (fun k hk => cM_behind1 k hk 0 w o x m hx h9 (by omega) (by omega) (by omega) (fun h => absurd rfl h))⟩
  | succ l ih =>
    intro hl w o hw ho
    exact ⟨cM_game0 (l + 1) w o x m (by omega) (fun k hk => cM_behind0 k hk (l + 1) w o x m hx h9 (by omega) (by omega) (by omega) (fun _ w' o' hw' ho' => (ih (by omega) w' o' hw' ho').2)), cM_game1 (l + 1) w o x m (by omega) (fun k hk => cM_behind1 k hk (l + 1) w o x m hx h9 (by omega) (by omega) (by omega) (fun _ w' o' hw' ho' => (ih (by omega) w' o' hw' ho').1))⟩
