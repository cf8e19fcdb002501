def sd_SC : List sd_C := [
  .inl (10, 24),
  .inl (34, 24),
  .inl (58, 24),
  .inl (82, 24),
  .inl (106, 24),
  .inl (130, 24),
  .inl (154, 24),
  .inl (178, 24),
  .inl (202, 24),
  .inl (226, 24),
  .inl (250, 24),
  .inl (274, 24),
  .inl (298, 24),
  .inr (.inl (1, [.inl 2, .inl 6004, .inr 0, .inr 1, .inr 2, .inr 3, .inr 4, .inr 5, .inr 6, .inr 7, .inr 8, .inr 9, .inr 10, .inr 11, .inr 12])),
  .inl (322, 16),
  .inl (338, 16),
  .inl (354, 16),
  .inl (370, 16),
  .inr (.inl (3, [.inl 3, .inr 14, .inr 15, .inr 16, .inr 17])),
  .inl (386, 6),
  .inl (392, 36),
  .inl (5020, 6),
  .inl (5030, 6),
  .inr (.inl (9, [.inl 4, .inl 8, .inr 19, .inr 20, .inr 21, .inr 22])),
  .inl (428, 8),
  .inl (436, 8),
  .inl (444, 8),
  .inl (452, 8),
  .inl (6010, 8),
  .inl (6020, 40),
  .inl (6060, 40),
  .inl (6100, 40),
  .inl (6140, 120),
  .inl (6260, 120),
  .inl (6380, 120),
  .inl (1268, 4),
  .inr (.inl (8, [.inl 5, .inr 24, .inr 25, .inr 26, .inr 27, .inr 28, .inr 29, .inr 30, .inr 31, .inr 32, .inr 33, .inr 34, .inr 35])),
  .inl (1272, 6),
  .inl (1278, 6),
  .inl (1284, 6),
  .inl (5040, 24),
  .inl (5070, 24),
  .inr (.inl (4, [.inl 6, .inl 7, .inr 37, .inr 38, .inr 39, .inr 40, .inr 41])),
  .inl (6500, 6),
  .inl (6506, 6),
  .inr (.inl (2, [.inr 43, .inr 44])),
  .inl (6520, 6),
  .inl (6526, 6),
  .inl (5100, 5),
  .inr (.inl (0, [.inr 46, .inr 47, .inr 48, .inl 5110])),
  .inl (1314, 240),
  .inl (5000, 4),
  .inl (5010, 6),
  .inr (.inl (6, [.inl 0, .inl 1, .inr 13, .inr 18, .inr 23, .inr 36, .inr 42, .inr 45, .inr 49, .inr 50, .inr 51, .inr 52])),
  .inl (2010, 24),
  .inl (2034, 24),
  .inl (2058, 24),
  .inl (2082, 24),
  .inl (2106, 24),
  .inl (2130, 24),
  .inl (2154, 24),
  .inl (2178, 24),
  .inl (2202, 24),
  .inl (2226, 24),
  .inl (2250, 24),
  .inl (2274, 24),
  .inl (2298, 24),
  .inr (.inl (1, [.inl 2002, .inl 7004, .inr 54, .inr 55, .inr 56, .inr 57, .inr 58, .inr 59, .inr 60, .inr 61, .inr 62, .inr 63, .inr 64, .inr 65, .inr 66])),
  .inl (2322, 16),
  .inl (2338, 16),
  .inl (2354, 16),
  .inl (2370, 16),
  .inr (.inl (3, [.inl 2003, .inr 68, .inr 69, .inr 70, .inr 71])),
  .inl (2386, 6),
  .inl (2392, 36),
  .inl (5220, 6),
  .inl (5230, 6),
  .inr (.inl (9, [.inl 2004, .inl 2008, .inr 73, .inr 74, .inr 75, .inr 76])),
  .inl (2428, 8),
  .inl (2436, 8),
  .inl (2444, 8),
  .inl (2452, 8),
  .inl (7010, 8),
  .inl (7020, 40),
  .inl (7060, 40),
  .inl (7100, 40),
  .inl (7140, 120),
  .inl (7260, 120),
  .inl (7380, 120),
  .inl (7540, 4),
  .inr (.inl (8, [.inl 2005, .inr 78, .inr 79, .inr 80, .inr 81, .inr 82, .inr 83, .inr 84, .inr 85, .inr 86, .inr 87, .inr 88, .inr 89])),
  .inl (3272, 6),
  .inl (3278, 6),
  .inl (3284, 6),
  .inl (5240, 24),
  .inl (5270, 24),
  .inr (.inl (4, [.inl 2006, .inl 2007, .inr 91, .inr 92, .inr 93, .inr 94, .inr 95])),
  .inl (7500, 6),
  .inl (7506, 6),
  .inr (.inl (2, [.inr 97, .inr 98])),
  .inl (7520, 6),
  .inl (7526, 6),
  .inl (5300, 5),
  .inr (.inl (0, [.inr 100, .inr 101, .inr 102, .inl 5310])),
  .inl (3314, 240),
  .inl (5200, 4),
  .inl (5210, 6),
  .inr (.inl (6, [.inl 2000, .inl 2001, .inr 67, .inr 72, .inr 77, .inr 90, .inr 96, .inr 99, .inr 103, .inr 104, .inr 105, .inr 106])),
  .inl (8200, 12),
  .inr (.inl (5, [.inl 4250, .inl 8100, .inr 108])),
  .inl (8212, 12),
  .inr (.inl (5, [.inl 4251, .inl 8101, .inr 110])),
  .inl (8224, 12),
  .inr (.inl (5, [.inl 4252, .inl 8102, .inr 112])),
  .inl (8236, 12),
  .inr (.inl (5, [.inl 4253, .inl 8103, .inr 114])),
  .inr (.inr [109, 111, 113, 115]),
  .inl (4000, 100),
  .inr (.inl (7, [.inl 4100, .inl 5390, .inr 117])),
  .inl (4101, 7),
  .inr (.inl (10, [.inr 53, .inr 107, .inr 116, .inr 118, .inr 119, .inl 4260]))]
def sd_ivC : List (Nat × Nat × Nat) := [(0, 1, 53), (1, 2, 53), (2, 3, 13), (3, 4, 18), (4, 5, 23), (5, 6, 36), (6, 7, 42), (7, 8, 42), (8, 9, 23), (10, 34, 0), (34, 58, 1), (58, 82, 2), (82, 106, 3), (106, 130, 4), (130, 154, 5), (154, 178, 6), (178, 202, 7), (202, 226, 8), (226, 250, 9), (250, 274, 10), (274, 298, 11), (298, 322, 12), (322, 338, 14), (338, 354, 15), (354, 370, 16), (370, 386, 17), (386, 392, 19), (392, 428, 20), (428, 436, 24), (436, 444, 25), (444, 452, 26), (452, 460, 27), (1268, 1272, 35), (1272, 1278, 37), (1278, 1284, 38), (1284, 1290, 39), (1314, 1554, 50), (2000, 2001, 107), (2001, 2002, 107), (2002, 2003, 67), (2003, 2004, 72), (2004, 2005, 77), (2005, 2006, 90), (2006, 2007, 96), (2007, 2008, 96), (2008, 2009, 77), (2010, 2034, 54), (2034, 2058, 55), (2058, 2082, 56), (2082, 2106, 57), (2106, 2130, 58), (2130, 2154, 59), (2154, 2178, 60), (2178, 2202, 61), (2202, 2226, 62), (2226, 2250, 63), (2250, 2274, 64), (2274, 2298, 65), (2298, 2322, 66), (2322, 2338, 68), (2338, 2354, 69), (2354, 2370, 70), (2370, 2386, 71), (2386, 2392, 73), (2392, 2428, 74), (2428, 2436, 78), (2436, 2444, 79), (2444, 2452, 80), (2452, 2460, 81), (3272, 3278, 91), (3278, 3284, 92), (3284, 3290, 93), (3314, 3554, 104), (4000, 4100, 117), (4100, 4101, 118), (4101, 4108, 119), (4250, 4251, 109), (4251, 4252, 111), (4252, 4253, 113), (4253, 4254, 115), (4260, 4261, 120), (5000, 5004, 51), (5010, 5016, 52), (5020, 5026, 21), (5030, 5036, 22), (5040, 5064, 40), (5070, 5094, 41), (5100, 5105, 48), (5110, 5111, 49), (5200, 5204, 105), (5210, 5216, 106), (5220, 5226, 75), (5230, 5236, 76), (5240, 5264, 94), (5270, 5294, 95), (5300, 5305, 102), (5310, 5311, 103), (5390, 5391, 118), (6004, 6005, 13), (6010, 6018, 28), (6020, 6060, 29), (6060, 6100, 30), (6100, 6140, 31), (6140, 6260, 32), (6260, 6380, 33), (6380, 6500, 34), (6500, 6506, 43), (6506, 6512, 44), (6520, 6526, 46), (6526, 6532, 47), (7004, 7005, 67), (7010, 7018, 82), (7020, 7060, 83), (7060, 7100, 84), (7100, 7140, 85), (7140, 7260, 86), (7260, 7380, 87), (7380, 7500, 88), (7500, 7506, 97), (7506, 7512, 98), (7520, 7526, 100), (7526, 7532, 101), (7540, 7544, 89), (8100, 8101, 109), (8101, 8102, 111), (8102, 8103, 113), (8103, 8104, 115), (8200, 8212, 108), (8212, 8224, 110), (8224, 8236, 112), (8236, 8248, 114)]
def sd_SM : List sd_C := [
  .inl (0, 1554),
  .inl (2000, 1554),
  .inl (4000, 100),
  .inl (4101, 7),
  .inl (5400, 6),
  .inl (5410, 6),
  .inl (5420, 6),
  .inl (8000, 52),
  .inl (5504, 4),
  .inl (5520, 24),
  .inl (5550, 24),
  .inl (4250, 4),
  .inl (4254, 4),
  .inl (4200, 48),
  .inl (5580, 12),
  .inr (.inl (11, [.inr 0, .inr 1, .inl 4260, .inr 2, .inl 4100, .inr 3, .inr 4, .inr 5, .inr 6, .inr 7, .inl 5490, .inl 5491, .inl 5492, .inl 5493, .inr 8, .inl 5510, .inl 5511, .inl 5512, .inr 9, .inr 10, .inr 11, .inr 12, .inr 13, .inr 14]))]
def sd_ivM : List (Nat × Nat × Nat) := [(0, 1554, 0), (2000, 3554, 1), (4000, 4100, 2), (4100, 4101, 15), (4101, 4108, 3), (4200, 4248, 13), (4250, 4254, 11), (4254, 4258, 12), (4260, 4261, 15), (5400, 5406, 4), (5410, 5416, 5), (5420, 5426, 6), (5490, 5491, 15), (5491, 5492, 15), (5492, 5493, 15), (5493, 5494, 15), (5504, 5508, 8), (5510, 5511, 15), (5511, 5512, 15), (5512, 5513, 15), (5520, 5544, 9), (5550, 5574, 10), (5580, 5592, 14), (8000, 8052, 7)]
def sd_own (iv : List (Nat × Nat × Nat)) (a : Nat) : Nat := match iv with
  | [] => 999
  | q :: iv => if q.1.ble a && a.blt q.2.1 then q.2.2 else sd_own iv a
def sd_chkF (iv : List (Nat × Nat × Nat)) (k : Nat) (fs : List (Nat ⊕ Nat)) : Bool := match fs with
  | [] => true
  | .inl a :: fs => (sd_own iv a).beq k && !(fs.any (fun f => match f with
    | .inl b => b.beq a
    | .inr _ => false)) && sd_chkF iv k fs
  | .inr _ :: fs => sd_chkF iv k fs
def sd_chkA (iv : List (Nat × Nat × Nat)) (k b : Nat) : Nat → Bool
  | 0 => true
  | n + 1 => (sd_own iv (b + n)).beq k && sd_chkA iv k b n
def sd_chk (iv : List (Nat × Nat × Nat)) : Nat → List sd_C → Bool
  | _, [] => true
  | k, .inl (b, n) :: S => sd_chkA iv k b n && sd_chk iv (k + 1) S
  | k, .inr (.inl (_, fs)) :: S => sd_chkF iv k fs && sd_chk iv (k + 1) S
  | k, .inr (.inr _) :: S => sd_chk iv (k + 1) S
theorem sd_chkA_of {iv : List (Nat × Nat × Nat)} {k b n : Nat} (h : sd_chkA iv k b n = true) : ∀ a, b ≤ a → a < b + n → sd_own iv a = k := by
  induction n with
  | zero => intro a h1 h2; omega
  | succ n ih =>
    intro a h1 h2
    simp only [sd_chkA, Bool.and_eq_true] at h
    by_cases he : a = b + n
    · rw [he]; exact Nat.eq_of_beq_eq_true h.1
    · exact ih h.2 a h1 (by omega)
theorem sd_chkF_of {iv : List (Nat × Nat × Nat)} {k : Nat} {fs : List (Nat ⊕ Nat)} (h : sd_chkF iv k fs = true) : ∀ a, Sum.inl a ∈ fs → sd_own iv a = k := by
  induction fs with
  | nil => intro a h1; cases h1
  | cons f fs ih =>
    intro a h1
    rcases f with b | b
    · simp only [sd_chkF, Bool.and_eq_true] at h
      rcases List.mem_cons.mp h1 with h2 | h2
      · cases h2; exact Nat.eq_of_beq_eq_true h.1.1
      · exact ih h.2 a h2
    · simp only [sd_chkF] at h
      rcases List.mem_cons.mp h1 with h2 | h2
      · cases h2
      · exact ih h a h2
theorem sd_chkF_one {iv : List (Nat × Nat × Nat)} {k : Nat} {fs : List (Nat ⊕ Nat)} (h : sd_chkF iv k fs = true) : ∀ (i j a : Nat), fs[i]? = some (.inl a) → fs[j]? = some (.inl a) → i = j := by
  induction fs with
  | nil => intro i j a h1; simp at h1
  | cons f fs ih =>
    intro i j a h1 h2
    have ht : sd_chkF iv k fs = true := by
      rcases f with b | b
      · simp only [sd_chkF, Bool.and_eq_true] at h; exact h.2
      · exact h
    have hno : ∀ q : Nat, f = .inl a → fs[q]? = some (.inl a) → False := by
      intro q hf hq
      subst hf
      simp only [sd_chkF, Bool.and_eq_true, Bool.not_eq_true', List.any_eq_false] at h
      have := h.1.2 _ (List.mem_of_getElem? hq)
      simp at this
    rcases i with _ | i <;> rcases j with _ | j
    · rfl
    · simp at h1 h2; exact (hno j h1 h2).elim
    · simp at h1 h2; exact (hno i h2 h1).elim
    · simp at h1 h2; rw [ih ht i j a h1 h2]
theorem sd_chk_of {iv : List (Nat × Nat × Nat)} : ∀ (S : List sd_C) (k0 : Nat), sd_chk iv k0 S = true → (∀ (i : Nat) (c : sd_C) (a : Nat), S[i]? = some c → sd_has c a → sd_own iv a = k0 + i) ∧ ∀ (i ci : Nat) (fs : List (Nat ⊕ Nat)) (j k a : Nat), S[i]? = some (.inr (.inl (ci, fs))) → fs[j]? = some (.inl a) → fs[k]? = some (.inl a) → j = k := by
  intro S
  induction S with
  | nil => intro k0 _; exact ⟨fun i c a h => by simp at h, fun i ci fs j k a h => by simp at h⟩
  | cons c0 S ih =>
    intro k0 h
    have hs : sd_chk iv (k0 + 1) S = true ∧ (∀ a, sd_has c0 a → sd_own iv a = k0) ∧ ∀ (ci : Nat) (fs : List (Nat ⊕ Nat)) (j k a : Nat), c0 = .inr (.inl (ci, fs)) → fs[j]? = some (.inl a) → fs[k]? = some (.inl a) → j = k := by
      rcases c0 with ⟨b, n⟩ | ⟨ci, fs⟩ | ks
      · simp only [sd_chk, Bool.and_eq_true] at h
        exact ⟨h.2, fun a ha => sd_chkA_of h.1 a ha.1 ha.2, fun _ _ _ _ _ e => by cases e⟩
      · simp only [sd_chk, Bool.and_eq_true] at h
        exact ⟨h.2, fun a ha => sd_chkF_of h.1 a ha, fun _ _ j k a e => by cases e; exact sd_chkF_one h.1 j k a⟩
      · simp only [sd_chk] at h
        exact ⟨h, fun a ha => (by cases ha), fun _ _ _ _ _ e => (by cases e)⟩
    obtain ⟨h1, h2⟩ := ih (k0 + 1) hs.1
    constructor
    · intro i c a hi ha
      rcases i with _ | i
      · simp at hi; subst hi; exact hs.2.1 a ha
      · simp at hi; rw [h1 i c a hi ha]; omega
    · intro i ci fs j k a hi
      rcases i with _ | i
      · simp at hi; exact hs.2.2 ci fs j k a hi
      · simp at hi; exact h2 i ci fs j k a hi
theorem sd_chkC : sd_chk sd_ivC 0 sd_SC = true := by decide +kernel
theorem sd_sokC : sd_sok sd_SC := fun i j c c' a hi hj h1 h2 => by
  have e1 := (sd_chk_of _ _ sd_chkC).1 i c a hi h1
  have e2 := (sd_chk_of _ _ sd_chkC).1 j c' a hj h2
  omega
theorem sd_oneC : sd_one sd_SC := (sd_chk_of _ _ sd_chkC).2
theorem sd_chkM : sd_chk sd_ivM 0 sd_SM = true := by decide +kernel
theorem sd_sokM : sd_sok sd_SM := fun i j c c' a hi hj h1 h2 => by
  have e1 := (sd_chk_of _ _ sd_chkM).1 i c a hi h1
  have e2 := (sd_chk_of _ _ sd_chkM).1 j c' a hj h2
  omega
theorem sd_oneM : sd_one sd_SM := (sd_chk_of _ _ sd_chkM).2
theorem sAC0 : sd_ga sd_SC 0 10 24 := rfl
theorem sAC1 : sd_ga sd_SC 1 34 24 := rfl
theorem sAC2 : sd_ga sd_SC 2 58 24 := rfl
theorem sAC3 : sd_ga sd_SC 3 82 24 := rfl
theorem sAC4 : sd_ga sd_SC 4 106 24 := rfl
theorem sAC5 : sd_ga sd_SC 5 130 24 := rfl
theorem sAC6 : sd_ga sd_SC 6 154 24 := rfl
theorem sAC7 : sd_ga sd_SC 7 178 24 := rfl
theorem sAC8 : sd_ga sd_SC 8 202 24 := rfl
theorem sAC9 : sd_ga sd_SC 9 226 24 := rfl
theorem sAC10 : sd_ga sd_SC 10 250 24 := rfl
theorem sAC11 : sd_ga sd_SC 11 274 24 := rfl
theorem sAC12 : sd_ga sd_SC 12 298 24 := rfl
theorem sOC13 : sd_SC[13]? = some (.inr (.inl (1, [.inl 2, .inl 6004, .inr 0, .inr 1, .inr 2, .inr 3, .inr 4, .inr 5, .inr 6, .inr 7, .inr 8, .inr 9, .inr 10, .inr 11, .inr 12]))) := rfl
theorem sGC13_0 : sd_gf sd_SC 13 1 0 (.inl 2) := ⟨_, rfl, rfl⟩
theorem sGC13_1 : sd_gf sd_SC 13 1 1 (.inl 6004) := ⟨_, rfl, rfl⟩
theorem sGC13_2 : sd_gf sd_SC 13 1 2 (.inr 0) := ⟨_, rfl, rfl⟩
theorem sGC13_3 : sd_gf sd_SC 13 1 3 (.inr 1) := ⟨_, rfl, rfl⟩
theorem sGC13_4 : sd_gf sd_SC 13 1 4 (.inr 2) := ⟨_, rfl, rfl⟩
theorem sGC13_5 : sd_gf sd_SC 13 1 5 (.inr 3) := ⟨_, rfl, rfl⟩
theorem sGC13_6 : sd_gf sd_SC 13 1 6 (.inr 4) := ⟨_, rfl, rfl⟩
theorem sGC13_7 : sd_gf sd_SC 13 1 7 (.inr 5) := ⟨_, rfl, rfl⟩
theorem sGC13_8 : sd_gf sd_SC 13 1 8 (.inr 6) := ⟨_, rfl, rfl⟩
theorem sGC13_9 : sd_gf sd_SC 13 1 9 (.inr 7) := ⟨_, rfl, rfl⟩
theorem sGC13_10 : sd_gf sd_SC 13 1 10 (.inr 8) := ⟨_, rfl, rfl⟩
theorem sGC13_11 : sd_gf sd_SC 13 1 11 (.inr 9) := ⟨_, rfl, rfl⟩
theorem sGC13_12 : sd_gf sd_SC 13 1 12 (.inr 10) := ⟨_, rfl, rfl⟩
theorem sGC13_13 : sd_gf sd_SC 13 1 13 (.inr 11) := ⟨_, rfl, rfl⟩
theorem sGC13_14 : sd_gf sd_SC 13 1 14 (.inr 12) := ⟨_, rfl, rfl⟩
theorem sAC14 : sd_ga sd_SC 14 322 16 := rfl
theorem sAC15 : sd_ga sd_SC 15 338 16 := rfl
theorem sAC16 : sd_ga sd_SC 16 354 16 := rfl
theorem sAC17 : sd_ga sd_SC 17 370 16 := rfl
theorem sOC18 : sd_SC[18]? = some (.inr (.inl (3, [.inl 3, .inr 14, .inr 15, .inr 16, .inr 17]))) := rfl
theorem sGC18_0 : sd_gf sd_SC 18 3 0 (.inl 3) := ⟨_, rfl, rfl⟩
theorem sGC18_1 : sd_gf sd_SC 18 3 1 (.inr 14) := ⟨_, rfl, rfl⟩
theorem sGC18_2 : sd_gf sd_SC 18 3 2 (.inr 15) := ⟨_, rfl, rfl⟩
theorem sGC18_3 : sd_gf sd_SC 18 3 3 (.inr 16) := ⟨_, rfl, rfl⟩
theorem sGC18_4 : sd_gf sd_SC 18 3 4 (.inr 17) := ⟨_, rfl, rfl⟩
theorem sAC19 : sd_ga sd_SC 19 386 6 := rfl
theorem sAC20 : sd_ga sd_SC 20 392 36 := rfl
theorem sAC21 : sd_ga sd_SC 21 5020 6 := rfl
theorem sAC22 : sd_ga sd_SC 22 5030 6 := rfl
theorem sOC23 : sd_SC[23]? = some (.inr (.inl (9, [.inl 4, .inl 8, .inr 19, .inr 20, .inr 21, .inr 22]))) := rfl
theorem sGC23_0 : sd_gf sd_SC 23 9 0 (.inl 4) := ⟨_, rfl, rfl⟩
theorem sGC23_1 : sd_gf sd_SC 23 9 1 (.inl 8) := ⟨_, rfl, rfl⟩
theorem sGC23_2 : sd_gf sd_SC 23 9 2 (.inr 19) := ⟨_, rfl, rfl⟩
theorem sGC23_3 : sd_gf sd_SC 23 9 3 (.inr 20) := ⟨_, rfl, rfl⟩
theorem sGC23_4 : sd_gf sd_SC 23 9 4 (.inr 21) := ⟨_, rfl, rfl⟩
theorem sGC23_5 : sd_gf sd_SC 23 9 5 (.inr 22) := ⟨_, rfl, rfl⟩
theorem sAC24 : sd_ga sd_SC 24 428 8 := rfl
theorem sAC25 : sd_ga sd_SC 25 436 8 := rfl
theorem sAC26 : sd_ga sd_SC 26 444 8 := rfl
theorem sAC27 : sd_ga sd_SC 27 452 8 := rfl
theorem sAC28 : sd_ga sd_SC 28 6010 8 := rfl
theorem sAC29 : sd_ga sd_SC 29 6020 40 := rfl
theorem sAC30 : sd_ga sd_SC 30 6060 40 := rfl
theorem sAC31 : sd_ga sd_SC 31 6100 40 := rfl
theorem sAC32 : sd_ga sd_SC 32 6140 120 := rfl
theorem sAC33 : sd_ga sd_SC 33 6260 120 := rfl
theorem sAC34 : sd_ga sd_SC 34 6380 120 := rfl
theorem sAC35 : sd_ga sd_SC 35 1268 4 := rfl
theorem sOC36 : sd_SC[36]? = some (.inr (.inl (8, [.inl 5, .inr 24, .inr 25, .inr 26, .inr 27, .inr 28, .inr 29, .inr 30, .inr 31, .inr 32, .inr 33, .inr 34, .inr 35]))) := rfl
theorem sGC36_0 : sd_gf sd_SC 36 8 0 (.inl 5) := ⟨_, rfl, rfl⟩
theorem sGC36_1 : sd_gf sd_SC 36 8 1 (.inr 24) := ⟨_, rfl, rfl⟩
theorem sGC36_2 : sd_gf sd_SC 36 8 2 (.inr 25) := ⟨_, rfl, rfl⟩
theorem sGC36_3 : sd_gf sd_SC 36 8 3 (.inr 26) := ⟨_, rfl, rfl⟩
theorem sGC36_4 : sd_gf sd_SC 36 8 4 (.inr 27) := ⟨_, rfl, rfl⟩
theorem sGC36_5 : sd_gf sd_SC 36 8 5 (.inr 28) := ⟨_, rfl, rfl⟩
theorem sGC36_6 : sd_gf sd_SC 36 8 6 (.inr 29) := ⟨_, rfl, rfl⟩
theorem sGC36_7 : sd_gf sd_SC 36 8 7 (.inr 30) := ⟨_, rfl, rfl⟩
theorem sGC36_8 : sd_gf sd_SC 36 8 8 (.inr 31) := ⟨_, rfl, rfl⟩
theorem sGC36_9 : sd_gf sd_SC 36 8 9 (.inr 32) := ⟨_, rfl, rfl⟩
theorem sGC36_10 : sd_gf sd_SC 36 8 10 (.inr 33) := ⟨_, rfl, rfl⟩
theorem sGC36_11 : sd_gf sd_SC 36 8 11 (.inr 34) := ⟨_, rfl, rfl⟩
theorem sGC36_12 : sd_gf sd_SC 36 8 12 (.inr 35) := ⟨_, rfl, rfl⟩
theorem sAC37 : sd_ga sd_SC 37 1272 6 := rfl
theorem sAC38 : sd_ga sd_SC 38 1278 6 := rfl
theorem sAC39 : sd_ga sd_SC 39 1284 6 := rfl
theorem sAC40 : sd_ga sd_SC 40 5040 24 := rfl
theorem sAC41 : sd_ga sd_SC 41 5070 24 := rfl
theorem sOC42 : sd_SC[42]? = some (.inr (.inl (4, [.inl 6, .inl 7, .inr 37, .inr 38, .inr 39, .inr 40, .inr 41]))) := rfl
theorem sGC42_0 : sd_gf sd_SC 42 4 0 (.inl 6) := ⟨_, rfl, rfl⟩
theorem sGC42_1 : sd_gf sd_SC 42 4 1 (.inl 7) := ⟨_, rfl, rfl⟩
theorem sGC42_2 : sd_gf sd_SC 42 4 2 (.inr 37) := ⟨_, rfl, rfl⟩
theorem sGC42_3 : sd_gf sd_SC 42 4 3 (.inr 38) := ⟨_, rfl, rfl⟩
theorem sGC42_4 : sd_gf sd_SC 42 4 4 (.inr 39) := ⟨_, rfl, rfl⟩
theorem sGC42_5 : sd_gf sd_SC 42 4 5 (.inr 40) := ⟨_, rfl, rfl⟩
theorem sGC42_6 : sd_gf sd_SC 42 4 6 (.inr 41) := ⟨_, rfl, rfl⟩
theorem sAC43 : sd_ga sd_SC 43 6500 6 := rfl
theorem sAC44 : sd_ga sd_SC 44 6506 6 := rfl
theorem sOC45 : sd_SC[45]? = some (.inr (.inl (2, [.inr 43, .inr 44]))) := rfl
theorem sGC45_0 : sd_gf sd_SC 45 2 0 (.inr 43) := ⟨_, rfl, rfl⟩
theorem sGC45_1 : sd_gf sd_SC 45 2 1 (.inr 44) := ⟨_, rfl, rfl⟩
theorem sAC46 : sd_ga sd_SC 46 6520 6 := rfl
theorem sAC47 : sd_ga sd_SC 47 6526 6 := rfl
theorem sAC48 : sd_ga sd_SC 48 5100 5 := rfl
theorem sOC49 : sd_SC[49]? = some (.inr (.inl (0, [.inr 46, .inr 47, .inr 48, .inl 5110]))) := rfl
theorem sGC49_0 : sd_gf sd_SC 49 0 0 (.inr 46) := ⟨_, rfl, rfl⟩
theorem sGC49_1 : sd_gf sd_SC 49 0 1 (.inr 47) := ⟨_, rfl, rfl⟩
theorem sGC49_2 : sd_gf sd_SC 49 0 2 (.inr 48) := ⟨_, rfl, rfl⟩
theorem sGC49_3 : sd_gf sd_SC 49 0 3 (.inl 5110) := ⟨_, rfl, rfl⟩
theorem sAC50 : sd_ga sd_SC 50 1314 240 := rfl
theorem sAC51 : sd_ga sd_SC 51 5000 4 := rfl
theorem sAC52 : sd_ga sd_SC 52 5010 6 := rfl
theorem sOC53 : sd_SC[53]? = some (.inr (.inl (6, [.inl 0, .inl 1, .inr 13, .inr 18, .inr 23, .inr 36, .inr 42, .inr 45, .inr 49, .inr 50, .inr 51, .inr 52]))) := rfl
theorem sGC53_0 : sd_gf sd_SC 53 6 0 (.inl 0) := ⟨_, rfl, rfl⟩
theorem sGC53_1 : sd_gf sd_SC 53 6 1 (.inl 1) := ⟨_, rfl, rfl⟩
theorem sGC53_2 : sd_gf sd_SC 53 6 2 (.inr 13) := ⟨_, rfl, rfl⟩
theorem sGC53_3 : sd_gf sd_SC 53 6 3 (.inr 18) := ⟨_, rfl, rfl⟩
theorem sGC53_4 : sd_gf sd_SC 53 6 4 (.inr 23) := ⟨_, rfl, rfl⟩
theorem sGC53_5 : sd_gf sd_SC 53 6 5 (.inr 36) := ⟨_, rfl, rfl⟩
theorem sGC53_6 : sd_gf sd_SC 53 6 6 (.inr 42) := ⟨_, rfl, rfl⟩
theorem sGC53_7 : sd_gf sd_SC 53 6 7 (.inr 45) := ⟨_, rfl, rfl⟩
theorem sGC53_8 : sd_gf sd_SC 53 6 8 (.inr 49) := ⟨_, rfl, rfl⟩
theorem sGC53_9 : sd_gf sd_SC 53 6 9 (.inr 50) := ⟨_, rfl, rfl⟩
theorem sGC53_10 : sd_gf sd_SC 53 6 10 (.inr 51) := ⟨_, rfl, rfl⟩
theorem sGC53_11 : sd_gf sd_SC 53 6 11 (.inr 52) := ⟨_, rfl, rfl⟩
theorem sAC54 : sd_ga sd_SC 54 2010 24 := rfl
theorem sAC55 : sd_ga sd_SC 55 2034 24 := rfl
theorem sAC56 : sd_ga sd_SC 56 2058 24 := rfl
theorem sAC57 : sd_ga sd_SC 57 2082 24 := rfl
theorem sAC58 : sd_ga sd_SC 58 2106 24 := rfl
theorem sAC59 : sd_ga sd_SC 59 2130 24 := rfl
theorem sAC60 : sd_ga sd_SC 60 2154 24 := rfl
theorem sAC61 : sd_ga sd_SC 61 2178 24 := rfl
theorem sAC62 : sd_ga sd_SC 62 2202 24 := rfl
theorem sAC63 : sd_ga sd_SC 63 2226 24 := rfl
theorem sAC64 : sd_ga sd_SC 64 2250 24 := rfl
theorem sAC65 : sd_ga sd_SC 65 2274 24 := rfl
theorem sAC66 : sd_ga sd_SC 66 2298 24 := rfl
theorem sOC67 : sd_SC[67]? = some (.inr (.inl (1, [.inl 2002, .inl 7004, .inr 54, .inr 55, .inr 56, .inr 57, .inr 58, .inr 59, .inr 60, .inr 61, .inr 62, .inr 63, .inr 64, .inr 65, .inr 66]))) := rfl
theorem sGC67_0 : sd_gf sd_SC 67 1 0 (.inl 2002) := ⟨_, rfl, rfl⟩
theorem sGC67_1 : sd_gf sd_SC 67 1 1 (.inl 7004) := ⟨_, rfl, rfl⟩
theorem sGC67_2 : sd_gf sd_SC 67 1 2 (.inr 54) := ⟨_, rfl, rfl⟩
theorem sGC67_3 : sd_gf sd_SC 67 1 3 (.inr 55) := ⟨_, rfl, rfl⟩
theorem sGC67_4 : sd_gf sd_SC 67 1 4 (.inr 56) := ⟨_, rfl, rfl⟩
theorem sGC67_5 : sd_gf sd_SC 67 1 5 (.inr 57) := ⟨_, rfl, rfl⟩
theorem sGC67_6 : sd_gf sd_SC 67 1 6 (.inr 58) := ⟨_, rfl, rfl⟩
theorem sGC67_7 : sd_gf sd_SC 67 1 7 (.inr 59) := ⟨_, rfl, rfl⟩
theorem sGC67_8 : sd_gf sd_SC 67 1 8 (.inr 60) := ⟨_, rfl, rfl⟩
theorem sGC67_9 : sd_gf sd_SC 67 1 9 (.inr 61) := ⟨_, rfl, rfl⟩
theorem sGC67_10 : sd_gf sd_SC 67 1 10 (.inr 62) := ⟨_, rfl, rfl⟩
theorem sGC67_11 : sd_gf sd_SC 67 1 11 (.inr 63) := ⟨_, rfl, rfl⟩
theorem sGC67_12 : sd_gf sd_SC 67 1 12 (.inr 64) := ⟨_, rfl, rfl⟩
theorem sGC67_13 : sd_gf sd_SC 67 1 13 (.inr 65) := ⟨_, rfl, rfl⟩
theorem sGC67_14 : sd_gf sd_SC 67 1 14 (.inr 66) := ⟨_, rfl, rfl⟩
theorem sAC68 : sd_ga sd_SC 68 2322 16 := rfl
theorem sAC69 : sd_ga sd_SC 69 2338 16 := rfl
theorem sAC70 : sd_ga sd_SC 70 2354 16 := rfl
theorem sAC71 : sd_ga sd_SC 71 2370 16 := rfl
theorem sOC72 : sd_SC[72]? = some (.inr (.inl (3, [.inl 2003, .inr 68, .inr 69, .inr 70, .inr 71]))) := rfl
theorem sGC72_0 : sd_gf sd_SC 72 3 0 (.inl 2003) := ⟨_, rfl, rfl⟩
theorem sGC72_1 : sd_gf sd_SC 72 3 1 (.inr 68) := ⟨_, rfl, rfl⟩
theorem sGC72_2 : sd_gf sd_SC 72 3 2 (.inr 69) := ⟨_, rfl, rfl⟩
theorem sGC72_3 : sd_gf sd_SC 72 3 3 (.inr 70) := ⟨_, rfl, rfl⟩
theorem sGC72_4 : sd_gf sd_SC 72 3 4 (.inr 71) := ⟨_, rfl, rfl⟩
theorem sAC73 : sd_ga sd_SC 73 2386 6 := rfl
theorem sAC74 : sd_ga sd_SC 74 2392 36 := rfl
theorem sAC75 : sd_ga sd_SC 75 5220 6 := rfl
theorem sAC76 : sd_ga sd_SC 76 5230 6 := rfl
theorem sOC77 : sd_SC[77]? = some (.inr (.inl (9, [.inl 2004, .inl 2008, .inr 73, .inr 74, .inr 75, .inr 76]))) := rfl
theorem sGC77_0 : sd_gf sd_SC 77 9 0 (.inl 2004) := ⟨_, rfl, rfl⟩
theorem sGC77_1 : sd_gf sd_SC 77 9 1 (.inl 2008) := ⟨_, rfl, rfl⟩
theorem sGC77_2 : sd_gf sd_SC 77 9 2 (.inr 73) := ⟨_, rfl, rfl⟩
theorem sGC77_3 : sd_gf sd_SC 77 9 3 (.inr 74) := ⟨_, rfl, rfl⟩
theorem sGC77_4 : sd_gf sd_SC 77 9 4 (.inr 75) := ⟨_, rfl, rfl⟩
theorem sGC77_5 : sd_gf sd_SC 77 9 5 (.inr 76) := ⟨_, rfl, rfl⟩
theorem sAC78 : sd_ga sd_SC 78 2428 8 := rfl
theorem sAC79 : sd_ga sd_SC 79 2436 8 := rfl
theorem sAC80 : sd_ga sd_SC 80 2444 8 := rfl
theorem sAC81 : sd_ga sd_SC 81 2452 8 := rfl
theorem sAC82 : sd_ga sd_SC 82 7010 8 := rfl
theorem sAC83 : sd_ga sd_SC 83 7020 40 := rfl
theorem sAC84 : sd_ga sd_SC 84 7060 40 := rfl
theorem sAC85 : sd_ga sd_SC 85 7100 40 := rfl
theorem sAC86 : sd_ga sd_SC 86 7140 120 := rfl
theorem sAC87 : sd_ga sd_SC 87 7260 120 := rfl
theorem sAC88 : sd_ga sd_SC 88 7380 120 := rfl
theorem sAC89 : sd_ga sd_SC 89 7540 4 := rfl
theorem sOC90 : sd_SC[90]? = some (.inr (.inl (8, [.inl 2005, .inr 78, .inr 79, .inr 80, .inr 81, .inr 82, .inr 83, .inr 84, .inr 85, .inr 86, .inr 87, .inr 88, .inr 89]))) := rfl
theorem sGC90_0 : sd_gf sd_SC 90 8 0 (.inl 2005) := ⟨_, rfl, rfl⟩
theorem sGC90_1 : sd_gf sd_SC 90 8 1 (.inr 78) := ⟨_, rfl, rfl⟩
theorem sGC90_2 : sd_gf sd_SC 90 8 2 (.inr 79) := ⟨_, rfl, rfl⟩
theorem sGC90_3 : sd_gf sd_SC 90 8 3 (.inr 80) := ⟨_, rfl, rfl⟩
theorem sGC90_4 : sd_gf sd_SC 90 8 4 (.inr 81) := ⟨_, rfl, rfl⟩
theorem sGC90_5 : sd_gf sd_SC 90 8 5 (.inr 82) := ⟨_, rfl, rfl⟩
theorem sGC90_6 : sd_gf sd_SC 90 8 6 (.inr 83) := ⟨_, rfl, rfl⟩
theorem sGC90_7 : sd_gf sd_SC 90 8 7 (.inr 84) := ⟨_, rfl, rfl⟩
theorem sGC90_8 : sd_gf sd_SC 90 8 8 (.inr 85) := ⟨_, rfl, rfl⟩
theorem sGC90_9 : sd_gf sd_SC 90 8 9 (.inr 86) := ⟨_, rfl, rfl⟩
theorem sGC90_10 : sd_gf sd_SC 90 8 10 (.inr 87) := ⟨_, rfl, rfl⟩
theorem sGC90_11 : sd_gf sd_SC 90 8 11 (.inr 88) := ⟨_, rfl, rfl⟩
theorem sGC90_12 : sd_gf sd_SC 90 8 12 (.inr 89) := ⟨_, rfl, rfl⟩
theorem sAC91 : sd_ga sd_SC 91 3272 6 := rfl
theorem sAC92 : sd_ga sd_SC 92 3278 6 := rfl
theorem sAC93 : sd_ga sd_SC 93 3284 6 := rfl
theorem sAC94 : sd_ga sd_SC 94 5240 24 := rfl
theorem sAC95 : sd_ga sd_SC 95 5270 24 := rfl
theorem sOC96 : sd_SC[96]? = some (.inr (.inl (4, [.inl 2006, .inl 2007, .inr 91, .inr 92, .inr 93, .inr 94, .inr 95]))) := rfl
theorem sGC96_0 : sd_gf sd_SC 96 4 0 (.inl 2006) := ⟨_, rfl, rfl⟩
theorem sGC96_1 : sd_gf sd_SC 96 4 1 (.inl 2007) := ⟨_, rfl, rfl⟩
theorem sGC96_2 : sd_gf sd_SC 96 4 2 (.inr 91) := ⟨_, rfl, rfl⟩
theorem sGC96_3 : sd_gf sd_SC 96 4 3 (.inr 92) := ⟨_, rfl, rfl⟩
theorem sGC96_4 : sd_gf sd_SC 96 4 4 (.inr 93) := ⟨_, rfl, rfl⟩
theorem sGC96_5 : sd_gf sd_SC 96 4 5 (.inr 94) := ⟨_, rfl, rfl⟩
theorem sGC96_6 : sd_gf sd_SC 96 4 6 (.inr 95) := ⟨_, rfl, rfl⟩
theorem sAC97 : sd_ga sd_SC 97 7500 6 := rfl
theorem sAC98 : sd_ga sd_SC 98 7506 6 := rfl
theorem sOC99 : sd_SC[99]? = some (.inr (.inl (2, [.inr 97, .inr 98]))) := rfl
theorem sGC99_0 : sd_gf sd_SC 99 2 0 (.inr 97) := ⟨_, rfl, rfl⟩
theorem sGC99_1 : sd_gf sd_SC 99 2 1 (.inr 98) := ⟨_, rfl, rfl⟩
theorem sAC100 : sd_ga sd_SC 100 7520 6 := rfl
theorem sAC101 : sd_ga sd_SC 101 7526 6 := rfl
theorem sAC102 : sd_ga sd_SC 102 5300 5 := rfl
theorem sOC103 : sd_SC[103]? = some (.inr (.inl (0, [.inr 100, .inr 101, .inr 102, .inl 5310]))) := rfl
theorem sGC103_0 : sd_gf sd_SC 103 0 0 (.inr 100) := ⟨_, rfl, rfl⟩
theorem sGC103_1 : sd_gf sd_SC 103 0 1 (.inr 101) := ⟨_, rfl, rfl⟩
theorem sGC103_2 : sd_gf sd_SC 103 0 2 (.inr 102) := ⟨_, rfl, rfl⟩
theorem sGC103_3 : sd_gf sd_SC 103 0 3 (.inl 5310) := ⟨_, rfl, rfl⟩
theorem sAC104 : sd_ga sd_SC 104 3314 240 := rfl
theorem sAC105 : sd_ga sd_SC 105 5200 4 := rfl
theorem sAC106 : sd_ga sd_SC 106 5210 6 := rfl
theorem sOC107 : sd_SC[107]? = some (.inr (.inl (6, [.inl 2000, .inl 2001, .inr 67, .inr 72, .inr 77, .inr 90, .inr 96, .inr 99, .inr 103, .inr 104, .inr 105, .inr 106]))) := rfl
theorem sGC107_0 : sd_gf sd_SC 107 6 0 (.inl 2000) := ⟨_, rfl, rfl⟩
theorem sGC107_1 : sd_gf sd_SC 107 6 1 (.inl 2001) := ⟨_, rfl, rfl⟩
theorem sGC107_2 : sd_gf sd_SC 107 6 2 (.inr 67) := ⟨_, rfl, rfl⟩
theorem sGC107_3 : sd_gf sd_SC 107 6 3 (.inr 72) := ⟨_, rfl, rfl⟩
theorem sGC107_4 : sd_gf sd_SC 107 6 4 (.inr 77) := ⟨_, rfl, rfl⟩
theorem sGC107_5 : sd_gf sd_SC 107 6 5 (.inr 90) := ⟨_, rfl, rfl⟩
theorem sGC107_6 : sd_gf sd_SC 107 6 6 (.inr 96) := ⟨_, rfl, rfl⟩
theorem sGC107_7 : sd_gf sd_SC 107 6 7 (.inr 99) := ⟨_, rfl, rfl⟩
theorem sGC107_8 : sd_gf sd_SC 107 6 8 (.inr 103) := ⟨_, rfl, rfl⟩
theorem sGC107_9 : sd_gf sd_SC 107 6 9 (.inr 104) := ⟨_, rfl, rfl⟩
theorem sGC107_10 : sd_gf sd_SC 107 6 10 (.inr 105) := ⟨_, rfl, rfl⟩
theorem sGC107_11 : sd_gf sd_SC 107 6 11 (.inr 106) := ⟨_, rfl, rfl⟩
theorem sAC108 : sd_ga sd_SC 108 8200 12 := rfl
theorem sOC109 : sd_SC[109]? = some (.inr (.inl (5, [.inl 4250, .inl 8100, .inr 108]))) := rfl
theorem sGC109_0 : sd_gf sd_SC 109 5 0 (.inl 4250) := ⟨_, rfl, rfl⟩
theorem sGC109_1 : sd_gf sd_SC 109 5 1 (.inl 8100) := ⟨_, rfl, rfl⟩
theorem sGC109_2 : sd_gf sd_SC 109 5 2 (.inr 108) := ⟨_, rfl, rfl⟩
theorem sAC110 : sd_ga sd_SC 110 8212 12 := rfl
theorem sOC111 : sd_SC[111]? = some (.inr (.inl (5, [.inl 4251, .inl 8101, .inr 110]))) := rfl
theorem sGC111_0 : sd_gf sd_SC 111 5 0 (.inl 4251) := ⟨_, rfl, rfl⟩
theorem sGC111_1 : sd_gf sd_SC 111 5 1 (.inl 8101) := ⟨_, rfl, rfl⟩
theorem sGC111_2 : sd_gf sd_SC 111 5 2 (.inr 110) := ⟨_, rfl, rfl⟩
theorem sAC112 : sd_ga sd_SC 112 8224 12 := rfl
theorem sOC113 : sd_SC[113]? = some (.inr (.inl (5, [.inl 4252, .inl 8102, .inr 112]))) := rfl
theorem sGC113_0 : sd_gf sd_SC 113 5 0 (.inl 4252) := ⟨_, rfl, rfl⟩
theorem sGC113_1 : sd_gf sd_SC 113 5 1 (.inl 8102) := ⟨_, rfl, rfl⟩
theorem sGC113_2 : sd_gf sd_SC 113 5 2 (.inr 112) := ⟨_, rfl, rfl⟩
theorem sAC114 : sd_ga sd_SC 114 8236 12 := rfl
theorem sOC115 : sd_SC[115]? = some (.inr (.inl (5, [.inl 4253, .inl 8103, .inr 114]))) := rfl
theorem sGC115_0 : sd_gf sd_SC 115 5 0 (.inl 4253) := ⟨_, rfl, rfl⟩
theorem sGC115_1 : sd_gf sd_SC 115 5 1 (.inl 8103) := ⟨_, rfl, rfl⟩
theorem sGC115_2 : sd_gf sd_SC 115 5 2 (.inr 114) := ⟨_, rfl, rfl⟩
theorem sBC116 : sd_gr sd_SC 116 [109, 111, 113, 115] := rfl
theorem sAC117 : sd_ga sd_SC 117 4000 100 := rfl
theorem sOC118 : sd_SC[118]? = some (.inr (.inl (7, [.inl 4100, .inl 5390, .inr 117]))) := rfl
theorem sGC118_0 : sd_gf sd_SC 118 7 0 (.inl 4100) := ⟨_, rfl, rfl⟩
theorem sGC118_1 : sd_gf sd_SC 118 7 1 (.inl 5390) := ⟨_, rfl, rfl⟩
theorem sGC118_2 : sd_gf sd_SC 118 7 2 (.inr 117) := ⟨_, rfl, rfl⟩
theorem sAC119 : sd_ga sd_SC 119 4101 7 := rfl
theorem sOC120 : sd_SC[120]? = some (.inr (.inl (10, [.inr 53, .inr 107, .inr 116, .inr 118, .inr 119, .inl 4260]))) := rfl
theorem sGC120_0 : sd_gf sd_SC 120 10 0 (.inr 53) := ⟨_, rfl, rfl⟩
theorem sGC120_1 : sd_gf sd_SC 120 10 1 (.inr 107) := ⟨_, rfl, rfl⟩
theorem sGC120_2 : sd_gf sd_SC 120 10 2 (.inr 116) := ⟨_, rfl, rfl⟩
theorem sGC120_3 : sd_gf sd_SC 120 10 3 (.inr 118) := ⟨_, rfl, rfl⟩
theorem sGC120_4 : sd_gf sd_SC 120 10 4 (.inr 119) := ⟨_, rfl, rfl⟩
theorem sGC120_5 : sd_gf sd_SC 120 10 5 (.inl 4260) := ⟨_, rfl, rfl⟩
theorem sAM0 : sd_ga sd_SM 0 0 1554 := rfl
theorem sAM1 : sd_ga sd_SM 1 2000 1554 := rfl
theorem sAM2 : sd_ga sd_SM 2 4000 100 := rfl
theorem sAM3 : sd_ga sd_SM 3 4101 7 := rfl
theorem sAM4 : sd_ga sd_SM 4 5400 6 := rfl
theorem sAM5 : sd_ga sd_SM 5 5410 6 := rfl
theorem sAM6 : sd_ga sd_SM 6 5420 6 := rfl
theorem sAM7 : sd_ga sd_SM 7 8000 52 := rfl
theorem sAM8 : sd_ga sd_SM 8 5504 4 := rfl
theorem sAM9 : sd_ga sd_SM 9 5520 24 := rfl
theorem sAM10 : sd_ga sd_SM 10 5550 24 := rfl
theorem sAM11 : sd_ga sd_SM 11 4250 4 := rfl
theorem sAM12 : sd_ga sd_SM 12 4254 4 := rfl
theorem sAM13 : sd_ga sd_SM 13 4200 48 := rfl
theorem sAM14 : sd_ga sd_SM 14 5580 12 := rfl
theorem sOM15 : sd_SM[15]? = some (.inr (.inl (11, [.inr 0, .inr 1, .inl 4260, .inr 2, .inl 4100, .inr 3, .inr 4, .inr 5, .inr 6, .inr 7, .inl 5490, .inl 5491, .inl 5492, .inl 5493, .inr 8, .inl 5510, .inl 5511, .inl 5512, .inr 9, .inr 10, .inr 11, .inr 12, .inr 13, .inr 14]))) := rfl
theorem sGM15_0 : sd_gf sd_SM 15 11 0 (.inr 0) := ⟨_, rfl, rfl⟩
theorem sGM15_1 : sd_gf sd_SM 15 11 1 (.inr 1) := ⟨_, rfl, rfl⟩
theorem sGM15_2 : sd_gf sd_SM 15 11 2 (.inl 4260) := ⟨_, rfl, rfl⟩
theorem sGM15_3 : sd_gf sd_SM 15 11 3 (.inr 2) := ⟨_, rfl, rfl⟩
theorem sGM15_4 : sd_gf sd_SM 15 11 4 (.inl 4100) := ⟨_, rfl, rfl⟩
theorem sGM15_5 : sd_gf sd_SM 15 11 5 (.inr 3) := ⟨_, rfl, rfl⟩
theorem sGM15_6 : sd_gf sd_SM 15 11 6 (.inr 4) := ⟨_, rfl, rfl⟩
theorem sGM15_7 : sd_gf sd_SM 15 11 7 (.inr 5) := ⟨_, rfl, rfl⟩
theorem sGM15_8 : sd_gf sd_SM 15 11 8 (.inr 6) := ⟨_, rfl, rfl⟩
theorem sGM15_9 : sd_gf sd_SM 15 11 9 (.inr 7) := ⟨_, rfl, rfl⟩
theorem sGM15_10 : sd_gf sd_SM 15 11 10 (.inl 5490) := ⟨_, rfl, rfl⟩
theorem sGM15_11 : sd_gf sd_SM 15 11 11 (.inl 5491) := ⟨_, rfl, rfl⟩
theorem sGM15_12 : sd_gf sd_SM 15 11 12 (.inl 5492) := ⟨_, rfl, rfl⟩
theorem sGM15_13 : sd_gf sd_SM 15 11 13 (.inl 5493) := ⟨_, rfl, rfl⟩
theorem sGM15_14 : sd_gf sd_SM 15 11 14 (.inr 8) := ⟨_, rfl, rfl⟩
theorem sGM15_15 : sd_gf sd_SM 15 11 15 (.inl 5510) := ⟨_, rfl, rfl⟩
theorem sGM15_16 : sd_gf sd_SM 15 11 16 (.inl 5511) := ⟨_, rfl, rfl⟩
theorem sGM15_17 : sd_gf sd_SM 15 11 17 (.inl 5512) := ⟨_, rfl, rfl⟩
theorem sGM15_18 : sd_gf sd_SM 15 11 18 (.inr 9) := ⟨_, rfl, rfl⟩
theorem sGM15_19 : sd_gf sd_SM 15 11 19 (.inr 10) := ⟨_, rfl, rfl⟩
theorem sGM15_20 : sd_gf sd_SM 15 11 20 (.inr 11) := ⟨_, rfl, rfl⟩
theorem sGM15_21 : sd_gf sd_SM 15 11 21 (.inr 12) := ⟨_, rfl, rfl⟩
theorem sGM15_22 : sd_gf sd_SM 15 11 22 (.inr 13) := ⟨_, rfl, rfl⟩
theorem sGM15_23 : sd_gf sd_SM 15 11 23 (.inr 14) := ⟨_, rfl, rfl⟩
