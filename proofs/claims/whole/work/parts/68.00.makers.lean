theorem sd_pj {X Y : va_W} {x a b c : Nat × va_E} (h : X.Perm Y) : (x :: (X ++ [a] ++ [b] ++ [c])).Perm (Y ++ [a, b, c, x]) := by
  have h1 : (X ++ [a] ++ [b] ++ [c]).Perm (Y ++ [a, b, c]) := by
    simp only [List.append_assoc]
    exact h.append_right _
  have h2 : Y ++ [a, b, c, x] = Y ++ [a, b, c] ++ [x] := by simp only [List.append_assoc]; rfl
  rw [h2]
  exact (h1.cons x).trans (List.perm_append_singleton _ _).symm
theorem sd_pm5 {X Y : va_W} {x z : Nat × va_E} : (((X ++ [x]) ++ Y) ++ [z]).Perm (x :: (X ++ Y ++ [z])) := by
  have h : ((X ++ [x]) ++ Y) ++ [z] = X ++ x :: (Y ++ [z]) := by simp only [List.append_assoc]; rfl
  have h2 : x :: (X ++ Y ++ [z]) = x :: (X ++ (Y ++ [z])) := by simp only [List.append_assoc]
  rw [h, h2]
  exact List.perm_middle
theorem sd_ps {rest w : va_W} {x y r : Nat × va_E} (h : w.Perm [x, y]) : (r :: (rest ++ w)).Perm (r :: y :: (rest ++ [x])) := by
  refine List.Perm.cons r ?_
  refine (h.append_left rest).trans ?_
  have h2 : rest ++ [x, y] = (rest ++ [x]) ++ [y] := by simp only [List.append_assoc]; rfl
  rw [h2]
  exact List.perm_append_singleton _ _
theorem sd_p9 (x0 y0 x1 y1 x2 y2 x3 y3 r : Nat × va_E) : [r, y3, y2, y1, y0, x0, x1, x2, x3].Perm [x0, y0, x1, y1, x2, y2, x3, y3, r] :=
  List.Perm.map (fun i => [x0, y0, x1, y1, x2, y2, x3, y3, r].getD i r) (show [8, 7, 5, 3, 1, 0, 2, 4, 6].Perm [0, 1, 2, 3, 4, 5, 6, 7, 8] by decide)
theorem sd_yp4 {R : va_W} {x0 y0 x1 y1 x2 y2 x3 y3 r : Nat × va_E} : (r :: y3 :: ((y2 :: ((y1 :: ((y0 :: (R ++ [x0])) ++ [x1])) ++ [x2])) ++ [x3])).Perm ([x0, y0, x1, y1, x2, y2, x3, y3] ++ [r] ++ R) := by
  have h1 : r :: y3 :: ((y2 :: ((y1 :: ((y0 :: (R ++ [x0])) ++ [x1])) ++ [x2])) ++ [x3]) = [r, y3, y2, y1, y0] ++ (R ++ [x0, x1, x2, x3]) := by simp only [List.append_assoc, List.cons_append, List.nil_append]
  have h2 : [x0, y0, x1, y1, x2, y2, x3, y3] ++ [r] ++ R = [x0, y0, x1, y1, x2, y2, x3, y3, r] ++ R := by simp only [List.cons_append, List.nil_append]
  rw [h1, h2]
  refine (List.Perm.append_left _ List.perm_append_comm).trans ?_
  have h3 : [r, y3, y2, y1, y0] ++ ([x0, x1, x2, x3] ++ R) = [r, y3, y2, y1, y0, x0, x1, x2, x3] ++ R := by simp only [List.cons_append, List.nil_append]
  rw [h3]
  exact (sd_p9 x0 y0 x1 y1 x2 y2 x3 y3 r).append_right R
theorem sd_pz {A B M C A' B' C' : va_W} {f t : Nat × va_E} (hA : A.Perm A') (hB : B.Perm B') (hC : C.Perm C') : (t :: (M ++ (A ++ B ++ C ++ [f]))).Perm (A' ++ B' ++ M ++ C' ++ [f] ++ [t]) := by
  refine (List.Perm.trans ?_ (List.perm_append_singleton t (A' ++ B' ++ M ++ C' ++ [f])).symm)
  refine List.Perm.cons t ?_
  have h1 : M ++ (A ++ B ++ C ++ [f]) = M ++ ((A ++ B) ++ (C ++ [f])) := by simp only [List.append_assoc]
  have h2 : A' ++ B' ++ M ++ C' ++ [f] = (A' ++ B') ++ (M ++ (C' ++ [f])) := by simp only [List.append_assoc]
  rw [h1, h2]
  refine (List.perm_append_comm_assoc M (A ++ B) (C ++ [f])).trans ?_
  exact (hA.append hB).append ((List.Perm.refl M).append (hC.append_right _))
theorem sd_rqe {a : Nat → Nat} : (va_up (va_up (va_up (va_up (fun _ => none) 0 (some (a 109))) 1 (some (a 111))) 2 (some (a 113))) 3 (some (a 115)) : Nat → Option Nat) = fun i => (([109, 111, 113, 115] : List Nat)[i]?).map a := by
  funext i
  match i with
  | 0 => rfl
  | 1 => rfl
  | 2 => rfl
  | 3 => rfl
  | i + 4 => simp [va_up]
theorem sd_iad (g : sd_G) : sd_ia g 1554 (sd_fk 1272 (fun i => sd_x0 (0 + i))) = sd_ia g 1554 (fun i => sd_x0 (0 + i)) := by
  unfold sd_ia sd_fk
  congr 4
  funext i
  by_cases hi : i < 1554
  · rw [if_pos hi, if_pos hi]
    by_cases h2 : i < 1272
    · rw [if_pos h2]
    · rw [if_neg h2]
      show Int32.ofInt 0 = Int32.ofInt (sd_x0 (0 + i))
      rw [sd_x0z (j := 0 + i) (by omega) (by omega) (by omega)]
  · rw [if_neg hi, if_neg hi]
theorem sd_fkd (i : Nat) : sd_fk 1268 (fun i => sd_x0 (0 + i)) i = 0 := by
  unfold sd_fk
  by_cases h : i < 1268
  · rw [if_pos h]
    exact sd_x0z (by omega) (by omega) (by omega)
  · rw [if_neg h]
